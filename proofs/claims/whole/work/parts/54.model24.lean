/-- what count tells -/
def cnN (D S T R : Nat) (bg it tt : Bool) (s sm h k : Nat) : Nat → Nat
  | 0 => D
  | 1 => S
  | 2 => T
  | 3 => R
  | 4 => R - opn s R
  | 5 => sm
  | 6 => if bg && it then td S h else 0
  | 7 => if bg && !decide (opn s R = 0) then (if it then k else T) else 0
  | 8 => if bg && !decide (opn s R = 0) then (if it then (if tt then D - sz S h else 0) else D) else 0
  | _ => bI bg
theorem c_count {hp : AH} {n D S T R s sm h k : Nat} {kd nn pp fl : Nat → Nat} {bg it tt : Bool} {lu sl : Int64} {x : Int32} {Q : Option Value → AH → Nat → Prop} (hn : 64 ≤ n) (M : MS hp D S T R kd nn pp bg it tt s sm h k fl lu sl) (hs : s < 256) (G0 : bg = true → WG D S T R it tt s h k)
    (hq0 : inB 0 9 x = false → Q (some (.int (-3))) hp n)
    (hq1 : ∀ v, v ≤ 9 → x = nI v → Q (some (.int (nI (cnN D S T R bg it tt s sm h k v)))) hp n) : CT yX8_count cX8_count 3 (some .int) (rmD 2) [.ref 47, .int x] hp n Q := by
  obtain ⟨⟨h2, h6, hD1, hD, hT1, hT3, hR, hRV⟩, ⟨x8, x23, x31, c47, hb⟩, -⟩ := id M
  obtain ⟨hN, hN1⟩ := nh_le h2 h6 hD
  have b1 := bI_le bg
  have b2 := bI_le it
  have b3 := bI_le tt
  have b4 := bI_le (decide (opn s R = 0))
  have ho := opn_le s R
  have main : G yX8_count cX8_count 3 (some .int) (rmD 2) none Q 0 0 19 [.ref 47, .int x, uu] [.int (nI (bI (bg && !decide (opn s R = 0))))] hp n := by
    have b5 := bI_le (bg && !decide (opn s R = 0))
    refine g_istore_n (pc' := 20) dX8_count_19 rfl (by decide) ?_
    refine g_iload_n (pc' := 21) dX8_count_20 rfl rfl ?_
    cases hx : inB 0 9 x with
    | false =>
      refine g_tabOut (tgt := 231) dX8_count_21 ?_ (by decide) ?_
      · apply Classical.byContradiction
        intro q
        have e : inB 0 9 x = true := by
          unfold inB
          rw [Bool.and_eq_true, decide_eq_true_eq, decide_eq_true_eq]
          refine ⟨Int32.le_iff_toInt_le.mpr ?_, Int32.le_iff_toInt_le.mpr ?_⟩
          · rw [nI_toInt (by decide)]; omega
          · rw [nI_toInt (by decide)]; omega
        rw [e] at hx
        cases hx
      · refine g_bipush (pc' := 233) (v := -3) dX8_count_231 (by decide) ?_
        exact g_iret dX8_count_233 rfl (Nat.le_refl _) (Nat.le_refl _) (hq0 hx)
    | true =>
      obtain ⟨v, -, hv, rfl⟩ := inB_t (by decide) (by decide) hx
      have hq1' := hq1 v hv rfl
      have hvc : v = 0 ∨ v = 1 ∨ v = 2 ∨ v = 3 ∨ v = 4 ∨ v = 5 ∨ v = 6 ∨ v = 7 ∨ v = 8 ∨ v = 9 := by omega
      rcases hvc with rfl | rfl | rfl | rfl | rfl | rfl | rfl | rfl | rfl | rfl
      · refine g_tabIn (tgt := 76) dX8_count_21 (by decide) (by decide) (show _ = some 55 from by decide) (by decide) ?_
        refine g_aload_n (pc' := 77) dX8_count_76 rfl rfl ?_
        refine g_get (pc' := 80) fl_X8_7 dX8_count_77 (by omega) (by first | assumption | exact va_up_self _ _ _ | exact (va_up_ne _ _ (by decide)).trans (by assumption) | exact (va_up_ne _ _ (by decide)).trans (va_up_self _ _ _) | exact (va_up_ne _ _ (by decide)).trans ((va_up_ne _ _ (by decide)).trans (by assumption)) | exact (va_up_ne _ _ (by decide)).trans ((va_up_ne _ _ (by decide)).trans (va_up_self _ _ _)) | exact (va_up_ne _ _ (by decide)).trans ((va_up_ne _ _ (by decide)).trans ((va_up_ne _ _ (by decide)).trans (by assumption))) | exact (va_up_ne _ _ (by decide)).trans ((va_up_ne _ _ (by decide)).trans ((va_up_ne _ _ (by decide)).trans ((va_up_ne _ _ (by decide)).trans (by assumption)))) | exact rfl) (by first | assumption | rfl | exact (List.getElem?_set_ne (by decide)).trans (by assumption) | exact List.getElem?_set_self (by omega)) ?_
        exact g_iret dX8_count_80 rfl (Nat.le_refl _) (Nat.le_refl _) hq1'
      · refine g_tabIn (tgt := 81) dX8_count_21 (by decide) (by decide) (show _ = some 60 from by decide) (by decide) ?_
        refine g_aload_n (pc' := 82) dX8_count_81 rfl rfl ?_
        refine g_get (pc' := 85) fl_X8_13 dX8_count_82 (by omega) (by first | assumption | exact va_up_self _ _ _ | exact (va_up_ne _ _ (by decide)).trans (by assumption) | exact (va_up_ne _ _ (by decide)).trans (va_up_self _ _ _) | exact (va_up_ne _ _ (by decide)).trans ((va_up_ne _ _ (by decide)).trans (by assumption)) | exact (va_up_ne _ _ (by decide)).trans ((va_up_ne _ _ (by decide)).trans (va_up_self _ _ _)) | exact (va_up_ne _ _ (by decide)).trans ((va_up_ne _ _ (by decide)).trans ((va_up_ne _ _ (by decide)).trans (by assumption))) | exact (va_up_ne _ _ (by decide)).trans ((va_up_ne _ _ (by decide)).trans ((va_up_ne _ _ (by decide)).trans ((va_up_ne _ _ (by decide)).trans (by assumption)))) | exact rfl) (by first | assumption | rfl | exact (List.getElem?_set_ne (by decide)).trans (by assumption) | exact List.getElem?_set_self (by omega)) ?_
        exact g_iret dX8_count_85 rfl (Nat.le_refl _) (Nat.le_refl _) hq1'
      · refine g_tabIn (tgt := 86) dX8_count_21 (by decide) (by decide) (show _ = some 65 from by decide) (by decide) ?_
        refine g_aload_n (pc' := 87) dX8_count_86 rfl rfl ?_
        refine g_get (pc' := 90) fl_X8_16 dX8_count_87 (by omega) (by first | assumption | exact va_up_self _ _ _ | exact (va_up_ne _ _ (by decide)).trans (by assumption) | exact (va_up_ne _ _ (by decide)).trans (va_up_self _ _ _) | exact (va_up_ne _ _ (by decide)).trans ((va_up_ne _ _ (by decide)).trans (by assumption)) | exact (va_up_ne _ _ (by decide)).trans ((va_up_ne _ _ (by decide)).trans (va_up_self _ _ _)) | exact (va_up_ne _ _ (by decide)).trans ((va_up_ne _ _ (by decide)).trans ((va_up_ne _ _ (by decide)).trans (by assumption))) | exact (va_up_ne _ _ (by decide)).trans ((va_up_ne _ _ (by decide)).trans ((va_up_ne _ _ (by decide)).trans ((va_up_ne _ _ (by decide)).trans (by assumption)))) | exact rfl) (by first | assumption | rfl | exact (List.getElem?_set_ne (by decide)).trans (by assumption) | exact List.getElem?_set_self (by omega)) ?_
        exact g_iret dX8_count_90 rfl (Nat.le_refl _) (Nat.le_refl _) hq1'
      · refine g_tabIn (tgt := 91) dX8_count_21 (by decide) (by decide) (show _ = some 70 from by decide) (by decide) ?_
        refine g_aload_n (pc' := 92) dX8_count_91 rfl rfl ?_
        refine g_get (pc' := 95) fl_X8_86 dX8_count_92 (by omega) (by first | assumption | exact va_up_self _ _ _ | exact (va_up_ne _ _ (by decide)).trans (by assumption) | exact (va_up_ne _ _ (by decide)).trans (va_up_self _ _ _) | exact (va_up_ne _ _ (by decide)).trans ((va_up_ne _ _ (by decide)).trans (by assumption)) | exact (va_up_ne _ _ (by decide)).trans ((va_up_ne _ _ (by decide)).trans (va_up_self _ _ _)) | exact (va_up_ne _ _ (by decide)).trans ((va_up_ne _ _ (by decide)).trans ((va_up_ne _ _ (by decide)).trans (by assumption))) | exact (va_up_ne _ _ (by decide)).trans ((va_up_ne _ _ (by decide)).trans ((va_up_ne _ _ (by decide)).trans ((va_up_ne _ _ (by decide)).trans (by assumption)))) | exact rfl) (by first | assumption | rfl | exact (List.getElem?_set_ne (by decide)).trans (by assumption) | exact List.getElem?_set_self (by omega)) ?_
        exact g_iret dX8_count_95 rfl (Nat.le_refl _) (Nat.le_refl _) hq1'
      · refine g_tabIn (tgt := 96) dX8_count_21 (by decide) (by decide) (show _ = some 75 from by decide) (by decide) ?_
        refine g_aload_n (pc' := 97) dX8_count_96 rfl rfl ?_
        refine g_get (pc' := 100) fl_X8_86 dX8_count_97 (by omega) (by first | assumption | exact va_up_self _ _ _ | exact (va_up_ne _ _ (by decide)).trans (by assumption) | exact (va_up_ne _ _ (by decide)).trans (va_up_self _ _ _) | exact (va_up_ne _ _ (by decide)).trans ((va_up_ne _ _ (by decide)).trans (by assumption)) | exact (va_up_ne _ _ (by decide)).trans ((va_up_ne _ _ (by decide)).trans (va_up_self _ _ _)) | exact (va_up_ne _ _ (by decide)).trans ((va_up_ne _ _ (by decide)).trans ((va_up_ne _ _ (by decide)).trans (by assumption))) | exact (va_up_ne _ _ (by decide)).trans ((va_up_ne _ _ (by decide)).trans ((va_up_ne _ _ (by decide)).trans ((va_up_ne _ _ (by decide)).trans (by assumption)))) | exact rfl) (by first | assumption | rfl | exact (List.getElem?_set_ne (by decide)).trans (by assumption) | exact List.getElem?_set_self (by omega)) ?_
        refine g_aload_n (pc' := 101) dX8_count_100 rfl rfl ?_
        refine g_aload_n (pc' := 102) dX8_count_101 rfl rfl ?_
        refine g_get (pc' := 105) fl_X8_141 dX8_count_102 (by omega) (by first | assumption | exact va_up_self _ _ _ | exact (va_up_ne _ _ (by decide)).trans (by assumption) | exact (va_up_ne _ _ (by decide)).trans (va_up_self _ _ _) | exact (va_up_ne _ _ (by decide)).trans ((va_up_ne _ _ (by decide)).trans (by assumption)) | exact (va_up_ne _ _ (by decide)).trans ((va_up_ne _ _ (by decide)).trans (va_up_self _ _ _)) | exact (va_up_ne _ _ (by decide)).trans ((va_up_ne _ _ (by decide)).trans ((va_up_ne _ _ (by decide)).trans (by assumption))) | exact (va_up_ne _ _ (by decide)).trans ((va_up_ne _ _ (by decide)).trans ((va_up_ne _ _ (by decide)).trans ((va_up_ne _ _ (by decide)).trans (by assumption)))) | exact rfl) (by first | assumption | rfl | exact (List.getElem?_set_ne (by decide)).trans (by assumption) | exact List.getElem?_set_self (by omega)) ?_
        refine gc_V 108 47 [.int (nI s)] [.int (nI R)] cw_X8_107 im_X8_open se_X8_open dX8_count_105 (by decide) (by decide) (Nat.le_refl _) (Nat.le_refl _) (Nat.le_of_ble_eq_true rfl) rfl (Nat.le_of_ble_eq_true rfl) (by omega) (by first | assumption | exact va_up_self _ _ _ | exact (va_up_ne _ _ (by decide)).trans (by assumption) | exact (va_up_ne _ _ (by decide)).trans (va_up_self _ _ _) | exact (va_up_ne _ _ (by decide)).trans ((va_up_ne _ _ (by decide)).trans (by assumption)) | exact (va_up_ne _ _ (by decide)).trans ((va_up_ne _ _ (by decide)).trans (va_up_self _ _ _)) | exact (va_up_ne _ _ (by decide)).trans ((va_up_ne _ _ (by decide)).trans ((va_up_ne _ _ (by decide)).trans (by assumption))) | exact (va_up_ne _ _ (by decide)).trans ((va_up_ne _ _ (by decide)).trans ((va_up_ne _ _ (by decide)).trans ((va_up_ne _ _ (by decide)).trans (by assumption)))) | exact rfl) rfl rfl (c_open hn c47 rfl hR hs ⟨rfl, ?_⟩)
        first | refine g_isubN (pc' := 109) dX8_count_108 (by omega) ?_ | refine g_isub (pc' := 109) dX8_count_108 ?_
        exact g_iret dX8_count_109 rfl (Nat.le_refl _) (Nat.le_refl _) hq1'
      · refine g_tabIn (tgt := 110) dX8_count_21 (by decide) (by decide) (show _ = some 89 from by decide) (by decide) ?_
        refine g_aload_n (pc' := 111) dX8_count_110 rfl rfl ?_
        refine g_get (pc' := 114) fl_X8_144 dX8_count_111 (by omega) (by first | assumption | exact va_up_self _ _ _ | exact (va_up_ne _ _ (by decide)).trans (by assumption) | exact (va_up_ne _ _ (by decide)).trans (va_up_self _ _ _) | exact (va_up_ne _ _ (by decide)).trans ((va_up_ne _ _ (by decide)).trans (by assumption)) | exact (va_up_ne _ _ (by decide)).trans ((va_up_ne _ _ (by decide)).trans (va_up_self _ _ _)) | exact (va_up_ne _ _ (by decide)).trans ((va_up_ne _ _ (by decide)).trans ((va_up_ne _ _ (by decide)).trans (by assumption))) | exact (va_up_ne _ _ (by decide)).trans ((va_up_ne _ _ (by decide)).trans ((va_up_ne _ _ (by decide)).trans ((va_up_ne _ _ (by decide)).trans (by assumption)))) | exact rfl) (by first | assumption | rfl | exact (List.getElem?_set_ne (by decide)).trans (by assumption) | exact List.getElem?_set_self (by omega)) ?_
        exact g_iret dX8_count_114 rfl (Nat.le_refl _) (Nat.le_refl _) hq1'
      · refine g_tabIn (tgt := 115) dX8_count_21 (by decide) (by decide) (show _ = some 94 from by decide) (by decide) ?_
        refine g_aload_n (pc' := 116) dX8_count_115 rfl rfl ?_
        refine g_get (pc' := 119) fl_X8_82 dX8_count_116 (by omega) (by first | assumption | exact va_up_self _ _ _ | exact (va_up_ne _ _ (by decide)).trans (by assumption) | exact (va_up_ne _ _ (by decide)).trans (va_up_self _ _ _) | exact (va_up_ne _ _ (by decide)).trans ((va_up_ne _ _ (by decide)).trans (by assumption)) | exact (va_up_ne _ _ (by decide)).trans ((va_up_ne _ _ (by decide)).trans (va_up_self _ _ _)) | exact (va_up_ne _ _ (by decide)).trans ((va_up_ne _ _ (by decide)).trans ((va_up_ne _ _ (by decide)).trans (by assumption))) | exact (va_up_ne _ _ (by decide)).trans ((va_up_ne _ _ (by decide)).trans ((va_up_ne _ _ (by decide)).trans ((va_up_ne _ _ (by decide)).trans (by assumption)))) | exact rfl) (by first | assumption | rfl | exact (List.getElem?_set_ne (by decide)).trans (by assumption) | exact List.getElem?_set_self (by omega)) ?_
        cases bg with
        | false =>
          refine g_if_eqN (tgt := 141) (pc' := 122) dX8_count_119 (by decide) (by first | omega | decide) (fun z1 => ?_) (fun z1 => ?_)
          · refine g_iconst (pc' := 142) (v := nI 0) dX8_count_141 (by decide) ?_
            exact g_iret dX8_count_142 rfl (Nat.le_refl _) (Nat.le_refl _) hq1'
          · exact absurd rfl z1
        | true =>
          refine g_if_eqN (tgt := 141) (pc' := 122) dX8_count_119 (by decide) (by first | omega | decide) (fun z1 => ?_) (fun z1 => ?_)
          · exact absurd z1 (by decide)
          · refine g_aload_n (pc' := 123) dX8_count_122 rfl rfl ?_
            refine g_get (pc' := 126) fl_X8_147 dX8_count_123 (by omega) (by first | assumption | exact va_up_self _ _ _ | exact (va_up_ne _ _ (by decide)).trans (by assumption) | exact (va_up_ne _ _ (by decide)).trans (va_up_self _ _ _) | exact (va_up_ne _ _ (by decide)).trans ((va_up_ne _ _ (by decide)).trans (by assumption)) | exact (va_up_ne _ _ (by decide)).trans ((va_up_ne _ _ (by decide)).trans (va_up_self _ _ _)) | exact (va_up_ne _ _ (by decide)).trans ((va_up_ne _ _ (by decide)).trans ((va_up_ne _ _ (by decide)).trans (by assumption))) | exact (va_up_ne _ _ (by decide)).trans ((va_up_ne _ _ (by decide)).trans ((va_up_ne _ _ (by decide)).trans ((va_up_ne _ _ (by decide)).trans (by assumption)))) | exact rfl) (by first | assumption | rfl | exact (List.getElem?_set_ne (by decide)).trans (by assumption) | exact List.getElem?_set_self (by omega)) ?_
            cases it with
            | false =>
              refine g_if_eqN (tgt := 141) (pc' := 129) dX8_count_126 (by decide) (by first | omega | decide) (fun z2 => ?_) (fun z2 => ?_)
              · refine g_iconst (pc' := 142) (v := nI 0) dX8_count_141 (by decide) ?_
                exact g_iret dX8_count_142 rfl (Nat.le_refl _) (Nat.le_refl _) hq1'
              · exact absurd rfl z2
            | true =>
              obtain ⟨i1, i2, -⟩ := (G0 rfl).2.1 rfl
              obtain ⟨x0, B⟩ := MS_B M
              obtain ⟨c47', F, -, -, -, -, -, -, ⟨fsh, fz, ftd, fm, fpt, fsp, fw, c51, c52, c53, c54, c55, c57, c58, hTB, hTM, hpt, hpw, hw⟩, -, -⟩ := id B
              refine g_if_eqN (tgt := 141) (pc' := 129) dX8_count_126 (by decide) (by first | omega | decide) (fun z2 => ?_) (fun z2 => ?_)
              · exact absurd z2 (by decide)
              · refine g_aload_n (pc' := 130) dX8_count_129 rfl rfl ?_
                refine g_get (pc' := 133) fl_X8_35 dX8_count_130 (by omega) (by first | assumption | exact va_up_self _ _ _ | exact (va_up_ne _ _ (by decide)).trans (by assumption) | exact (va_up_ne _ _ (by decide)).trans (va_up_self _ _ _) | exact (va_up_ne _ _ (by decide)).trans ((va_up_ne _ _ (by decide)).trans (by assumption)) | exact (va_up_ne _ _ (by decide)).trans ((va_up_ne _ _ (by decide)).trans (va_up_self _ _ _)) | exact (va_up_ne _ _ (by decide)).trans ((va_up_ne _ _ (by decide)).trans ((va_up_ne _ _ (by decide)).trans (by assumption))) | exact (va_up_ne _ _ (by decide)).trans ((va_up_ne _ _ (by decide)).trans ((va_up_ne _ _ (by decide)).trans ((va_up_ne _ _ (by decide)).trans (by assumption)))) | exact rfl) (by first | assumption | rfl | exact (List.getElem?_set_ne (by decide)).trans (by assumption) | exact List.getElem?_set_self (by omega)) ?_
                refine g_aload_n (pc' := 134) dX8_count_133 rfl rfl ?_
                refine g_get (pc' := 137) fl_X8_153 dX8_count_134 (by omega) (by first | assumption | exact va_up_self _ _ _ | exact (va_up_ne _ _ (by decide)).trans (by assumption) | exact (va_up_ne _ _ (by decide)).trans (va_up_self _ _ _) | exact (va_up_ne _ _ (by decide)).trans ((va_up_ne _ _ (by decide)).trans (by assumption)) | exact (va_up_ne _ _ (by decide)).trans ((va_up_ne _ _ (by decide)).trans (va_up_self _ _ _)) | exact (va_up_ne _ _ (by decide)).trans ((va_up_ne _ _ (by decide)).trans ((va_up_ne _ _ (by decide)).trans (by assumption))) | exact (va_up_ne _ _ (by decide)).trans ((va_up_ne _ _ (by decide)).trans ((va_up_ne _ _ (by decide)).trans ((va_up_ne _ _ (by decide)).trans (by assumption)))) | exact rfl) (by first | assumption | rfl | exact (List.getElem?_set_ne (by decide)).trans (by assumption) | exact List.getElem?_set_self (by omega)) ?_
                refine g_ialdV (pc' := 138) dX8_count_137 (by omega) (by first | assumption | exact va_up_self _ _ _ | exact (va_up_ne _ _ (by decide)).trans (by assumption) | exact (va_up_ne _ _ (by decide)).trans (va_up_self _ _ _) | exact (va_up_ne _ _ (by decide)).trans ((va_up_ne _ _ (by decide)).trans (by assumption)) | exact (va_up_ne _ _ (by decide)).trans ((va_up_ne _ _ (by decide)).trans (va_up_self _ _ _)) | exact (va_up_ne _ _ (by decide)).trans ((va_up_ne _ _ (by decide)).trans ((va_up_ne _ _ (by decide)).trans (by assumption))) | exact (va_up_ne _ _ (by decide)).trans ((va_up_ne _ _ (by decide)).trans ((va_up_ne _ _ (by decide)).trans ((va_up_ne _ _ (by decide)).trans (by assumption)))) | exact rfl) ((IX_nI (by omega) (by omega))) (hTB.2.2 _ i2) ?_
                refine g_goto (tgt := 142) dX8_count_138 (by decide) ?_
                exact g_iret dX8_count_142 rfl (Nat.le_refl _) (Nat.le_refl _) hq1'
      · refine g_tabIn (tgt := 143) dX8_count_21 (by decide) (by decide) (show _ = some 122 from by decide) (by decide) ?_
        refine g_iload_n (pc' := 144) dX8_count_143 rfl rfl ?_
        cases hwt : (bg && !decide (opn s R = 0)) with
        | false =>
          simp only [cnN, hwt, Bool.false_eq_true, if_false] at hq1'
          refine g_if_neN (tgt := 151) (pc' := 147) dX8_count_144 (by decide) (by first | omega | decide) (fun z1 => ?_) (fun z1 => ?_)
          · exact absurd rfl z1
          · refine g_iconst (pc' := 148) (v := nI 0) dX8_count_147 (by decide) ?_
            refine g_goto (tgt := 169) dX8_count_148 (by decide) ?_
            exact g_iret dX8_count_169 rfl (Nat.le_refl _) (Nat.le_refl _) hq1'
        | true =>
          simp only [cnN, hwt, if_true] at hq1'
          refine g_if_neN (tgt := 151) (pc' := 147) dX8_count_144 (by decide) (by first | omega | decide) (fun z1 => ?_) (fun z1 => ?_)
          · refine g_aload_n (pc' := 152) dX8_count_151 rfl rfl ?_
            refine g_get (pc' := 155) fl_X8_147 dX8_count_152 (by omega) (by first | assumption | exact va_up_self _ _ _ | exact (va_up_ne _ _ (by decide)).trans (by assumption) | exact (va_up_ne _ _ (by decide)).trans (va_up_self _ _ _) | exact (va_up_ne _ _ (by decide)).trans ((va_up_ne _ _ (by decide)).trans (by assumption)) | exact (va_up_ne _ _ (by decide)).trans ((va_up_ne _ _ (by decide)).trans (va_up_self _ _ _)) | exact (va_up_ne _ _ (by decide)).trans ((va_up_ne _ _ (by decide)).trans ((va_up_ne _ _ (by decide)).trans (by assumption))) | exact (va_up_ne _ _ (by decide)).trans ((va_up_ne _ _ (by decide)).trans ((va_up_ne _ _ (by decide)).trans ((va_up_ne _ _ (by decide)).trans (by assumption)))) | exact rfl) (by first | assumption | rfl | exact (List.getElem?_set_ne (by decide)).trans (by assumption) | exact List.getElem?_set_self (by omega)) ?_
            cases it with
            | false =>
              refine g_if_eqN (tgt := 165) (pc' := 158) dX8_count_155 (by decide) (by first | omega | decide) (fun z2 => ?_) (fun z2 => ?_)
              · refine g_aload_n (pc' := 166) dX8_count_165 rfl rfl ?_
                refine g_get (pc' := 169) fl_X8_16 dX8_count_166 (by omega) (by first | assumption | exact va_up_self _ _ _ | exact (va_up_ne _ _ (by decide)).trans (by assumption) | exact (va_up_ne _ _ (by decide)).trans (va_up_self _ _ _) | exact (va_up_ne _ _ (by decide)).trans ((va_up_ne _ _ (by decide)).trans (by assumption)) | exact (va_up_ne _ _ (by decide)).trans ((va_up_ne _ _ (by decide)).trans (va_up_self _ _ _)) | exact (va_up_ne _ _ (by decide)).trans ((va_up_ne _ _ (by decide)).trans ((va_up_ne _ _ (by decide)).trans (by assumption))) | exact (va_up_ne _ _ (by decide)).trans ((va_up_ne _ _ (by decide)).trans ((va_up_ne _ _ (by decide)).trans ((va_up_ne _ _ (by decide)).trans (by assumption)))) | exact rfl) (by first | assumption | rfl | exact (List.getElem?_set_ne (by decide)).trans (by assumption) | exact List.getElem?_set_self (by omega)) ?_
                exact g_iret dX8_count_169 rfl (Nat.le_refl _) (Nat.le_refl _) hq1'
              · exact absurd rfl z2
            | true =>
              refine g_if_eqN (tgt := 165) (pc' := 158) dX8_count_155 (by decide) (by first | omega | decide) (fun z2 => ?_) (fun z2 => ?_)
              · exact absurd z2 (by decide)
              · refine g_aload_n (pc' := 159) dX8_count_158 rfl rfl ?_
                refine g_get (pc' := 162) fl_X8_156 dX8_count_159 (by omega) (by first | assumption | exact va_up_self _ _ _ | exact (va_up_ne _ _ (by decide)).trans (by assumption) | exact (va_up_ne _ _ (by decide)).trans (va_up_self _ _ _) | exact (va_up_ne _ _ (by decide)).trans ((va_up_ne _ _ (by decide)).trans (by assumption)) | exact (va_up_ne _ _ (by decide)).trans ((va_up_ne _ _ (by decide)).trans (va_up_self _ _ _)) | exact (va_up_ne _ _ (by decide)).trans ((va_up_ne _ _ (by decide)).trans ((va_up_ne _ _ (by decide)).trans (by assumption))) | exact (va_up_ne _ _ (by decide)).trans ((va_up_ne _ _ (by decide)).trans ((va_up_ne _ _ (by decide)).trans ((va_up_ne _ _ (by decide)).trans (by assumption)))) | exact rfl) (by first | assumption | rfl | exact (List.getElem?_set_ne (by decide)).trans (by assumption) | exact List.getElem?_set_self (by omega)) ?_
                refine g_goto (tgt := 169) dX8_count_162 (by decide) ?_
                exact g_iret dX8_count_169 rfl (Nat.le_refl _) (Nat.le_refl _) hq1'
          · exact absurd z1 (by decide)
      · refine g_tabIn (tgt := 170) dX8_count_21 (by decide) (by decide) (show _ = some 149 from by decide) (by decide) ?_
        refine g_iload_n (pc' := 171) dX8_count_170 rfl rfl ?_
        cases hwt : (bg && !decide (opn s R = 0)) with
        | false =>
          simp only [cnN, hwt, Bool.false_eq_true, if_false] at hq1'
          refine g_if_neN (tgt := 178) (pc' := 174) dX8_count_171 (by decide) (by first | omega | decide) (fun z1 => ?_) (fun z1 => ?_)
          · exact absurd rfl z1
          · refine g_iconst (pc' := 175) (v := nI 0) dX8_count_174 (by decide) ?_
            refine g_goto (tgt := 217) dX8_count_175 (by decide) ?_
            exact g_iret dX8_count_217 rfl (Nat.le_refl _) (Nat.le_refl _) hq1'
        | true =>
          simp only [cnN, hwt, if_true] at hq1'
          have ebg : bg = true := by
            cases bg with
            | true => rfl
            | false => cases hwt
          subst ebg
          refine g_if_neN (tgt := 178) (pc' := 174) dX8_count_171 (by decide) (by first | omega | decide) (fun z1 => ?_) (fun z1 => ?_)
          · refine g_aload_n (pc' := 179) dX8_count_178 rfl rfl ?_
            refine g_get (pc' := 182) fl_X8_147 dX8_count_179 (by omega) (by first | assumption | exact va_up_self _ _ _ | exact (va_up_ne _ _ (by decide)).trans (by assumption) | exact (va_up_ne _ _ (by decide)).trans (va_up_self _ _ _) | exact (va_up_ne _ _ (by decide)).trans ((va_up_ne _ _ (by decide)).trans (by assumption)) | exact (va_up_ne _ _ (by decide)).trans ((va_up_ne _ _ (by decide)).trans (va_up_self _ _ _)) | exact (va_up_ne _ _ (by decide)).trans ((va_up_ne _ _ (by decide)).trans ((va_up_ne _ _ (by decide)).trans (by assumption))) | exact (va_up_ne _ _ (by decide)).trans ((va_up_ne _ _ (by decide)).trans ((va_up_ne _ _ (by decide)).trans ((va_up_ne _ _ (by decide)).trans (by assumption)))) | exact rfl) (by first | assumption | rfl | exact (List.getElem?_set_ne (by decide)).trans (by assumption) | exact List.getElem?_set_self (by omega)) ?_
            cases it with
            | false =>
              refine g_if_neN (tgt := 192) (pc' := 185) dX8_count_182 (by decide) (by first | omega | decide) (fun z2 => ?_) (fun z2 => ?_)
              · exact absurd rfl z2
              · refine g_aload_n (pc' := 186) dX8_count_185 rfl rfl ?_
                refine g_get (pc' := 189) fl_X8_7 dX8_count_186 (by omega) (by first | assumption | exact va_up_self _ _ _ | exact (va_up_ne _ _ (by decide)).trans (by assumption) | exact (va_up_ne _ _ (by decide)).trans (va_up_self _ _ _) | exact (va_up_ne _ _ (by decide)).trans ((va_up_ne _ _ (by decide)).trans (by assumption)) | exact (va_up_ne _ _ (by decide)).trans ((va_up_ne _ _ (by decide)).trans (va_up_self _ _ _)) | exact (va_up_ne _ _ (by decide)).trans ((va_up_ne _ _ (by decide)).trans ((va_up_ne _ _ (by decide)).trans (by assumption))) | exact (va_up_ne _ _ (by decide)).trans ((va_up_ne _ _ (by decide)).trans ((va_up_ne _ _ (by decide)).trans ((va_up_ne _ _ (by decide)).trans (by assumption)))) | exact rfl) (by first | assumption | rfl | exact (List.getElem?_set_ne (by decide)).trans (by assumption) | exact List.getElem?_set_self (by omega)) ?_
                refine g_goto (tgt := 217) dX8_count_189 (by decide) ?_
                exact g_iret dX8_count_217 rfl (Nat.le_refl _) (Nat.le_refl _) hq1'
            | true =>
              obtain ⟨i1, i2, -⟩ := (G0 rfl).2.1 rfl
              obtain ⟨x0, B⟩ := MS_B M
              obtain ⟨c47', F, -, -, -, -, -, -, ⟨fsh, fz, ftd, fm, fpt, fsp, fw, c51, c52, c53, c54, c55, c57, c58, hTB, hTM, hpt, hpw, hw⟩, -, -⟩ := id B
              have zl := sz_of h2 h6 hD i2
              refine g_if_neN (tgt := 192) (pc' := 185) dX8_count_182 (by decide) (by first | omega | decide) (fun z2 => ?_) (fun z2 => ?_)
              · refine g_aload_n (pc' := 193) dX8_count_192 rfl rfl ?_
                refine g_get (pc' := 196) fl_X8_150 dX8_count_193 (by omega) (by first | assumption | exact va_up_self _ _ _ | exact (va_up_ne _ _ (by decide)).trans (by assumption) | exact (va_up_ne _ _ (by decide)).trans (va_up_self _ _ _) | exact (va_up_ne _ _ (by decide)).trans ((va_up_ne _ _ (by decide)).trans (by assumption)) | exact (va_up_ne _ _ (by decide)).trans ((va_up_ne _ _ (by decide)).trans (va_up_self _ _ _)) | exact (va_up_ne _ _ (by decide)).trans ((va_up_ne _ _ (by decide)).trans ((va_up_ne _ _ (by decide)).trans (by assumption))) | exact (va_up_ne _ _ (by decide)).trans ((va_up_ne _ _ (by decide)).trans ((va_up_ne _ _ (by decide)).trans ((va_up_ne _ _ (by decide)).trans (by assumption)))) | exact rfl) (by first | assumption | rfl | exact (List.getElem?_set_ne (by decide)).trans (by assumption) | exact List.getElem?_set_self (by omega)) ?_
                cases tt with
                | false =>
                  refine g_if_eqN (tgt := 216) (pc' := 199) dX8_count_196 (by decide) (by first | omega | decide) (fun z3 => ?_) (fun z3 => ?_)
                  · refine g_iconst (pc' := 217) (v := nI 0) dX8_count_216 (by decide) ?_
                    exact g_iret dX8_count_217 rfl (Nat.le_refl _) (Nat.le_refl _) hq1'
                  · exact absurd rfl z3
                | true =>
                  refine g_if_eqN (tgt := 216) (pc' := 199) dX8_count_196 (by decide) (by first | omega | decide) (fun z3 => ?_) (fun z3 => ?_)
                  · exact absurd z3 (by decide)
                  · refine g_aload_n (pc' := 200) dX8_count_199 rfl rfl ?_
                    refine g_get (pc' := 203) fl_X8_7 dX8_count_200 (by omega) (by first | assumption | exact va_up_self _ _ _ | exact (va_up_ne _ _ (by decide)).trans (by assumption) | exact (va_up_ne _ _ (by decide)).trans (va_up_self _ _ _) | exact (va_up_ne _ _ (by decide)).trans ((va_up_ne _ _ (by decide)).trans (by assumption)) | exact (va_up_ne _ _ (by decide)).trans ((va_up_ne _ _ (by decide)).trans (va_up_self _ _ _)) | exact (va_up_ne _ _ (by decide)).trans ((va_up_ne _ _ (by decide)).trans ((va_up_ne _ _ (by decide)).trans (by assumption))) | exact (va_up_ne _ _ (by decide)).trans ((va_up_ne _ _ (by decide)).trans ((va_up_ne _ _ (by decide)).trans ((va_up_ne _ _ (by decide)).trans (by assumption)))) | exact rfl) (by first | assumption | rfl | exact (List.getElem?_set_ne (by decide)).trans (by assumption) | exact List.getElem?_set_self (by omega)) ?_
                    refine g_aload_n (pc' := 204) dX8_count_203 rfl rfl ?_
                    refine g_get (pc' := 207) fl_X8_32 dX8_count_204 (by omega) (by first | assumption | exact va_up_self _ _ _ | exact (va_up_ne _ _ (by decide)).trans (by assumption) | exact (va_up_ne _ _ (by decide)).trans (va_up_self _ _ _) | exact (va_up_ne _ _ (by decide)).trans ((va_up_ne _ _ (by decide)).trans (by assumption)) | exact (va_up_ne _ _ (by decide)).trans ((va_up_ne _ _ (by decide)).trans (va_up_self _ _ _)) | exact (va_up_ne _ _ (by decide)).trans ((va_up_ne _ _ (by decide)).trans ((va_up_ne _ _ (by decide)).trans (by assumption))) | exact (va_up_ne _ _ (by decide)).trans ((va_up_ne _ _ (by decide)).trans ((va_up_ne _ _ (by decide)).trans ((va_up_ne _ _ (by decide)).trans (by assumption)))) | exact rfl) (by first | assumption | rfl | exact (List.getElem?_set_ne (by decide)).trans (by assumption) | exact List.getElem?_set_self (by omega)) ?_
                    refine g_aload_n (pc' := 208) dX8_count_207 rfl rfl ?_
                    refine g_get (pc' := 211) fl_X8_153 dX8_count_208 (by omega) (by first | assumption | exact va_up_self _ _ _ | exact (va_up_ne _ _ (by decide)).trans (by assumption) | exact (va_up_ne _ _ (by decide)).trans (va_up_self _ _ _) | exact (va_up_ne _ _ (by decide)).trans ((va_up_ne _ _ (by decide)).trans (by assumption)) | exact (va_up_ne _ _ (by decide)).trans ((va_up_ne _ _ (by decide)).trans (va_up_self _ _ _)) | exact (va_up_ne _ _ (by decide)).trans ((va_up_ne _ _ (by decide)).trans ((va_up_ne _ _ (by decide)).trans (by assumption))) | exact (va_up_ne _ _ (by decide)).trans ((va_up_ne _ _ (by decide)).trans ((va_up_ne _ _ (by decide)).trans ((va_up_ne _ _ (by decide)).trans (by assumption)))) | exact rfl) (by first | assumption | rfl | exact (List.getElem?_set_ne (by decide)).trans (by assumption) | exact List.getElem?_set_self (by omega)) ?_
                    refine g_ialdV (pc' := 212) dX8_count_211 (by omega) (by first | assumption | exact va_up_self _ _ _ | exact (va_up_ne _ _ (by decide)).trans (by assumption) | exact (va_up_ne _ _ (by decide)).trans (va_up_self _ _ _) | exact (va_up_ne _ _ (by decide)).trans ((va_up_ne _ _ (by decide)).trans (by assumption)) | exact (va_up_ne _ _ (by decide)).trans ((va_up_ne _ _ (by decide)).trans (va_up_self _ _ _)) | exact (va_up_ne _ _ (by decide)).trans ((va_up_ne _ _ (by decide)).trans ((va_up_ne _ _ (by decide)).trans (by assumption))) | exact (va_up_ne _ _ (by decide)).trans ((va_up_ne _ _ (by decide)).trans ((va_up_ne _ _ (by decide)).trans ((va_up_ne _ _ (by decide)).trans (by assumption)))) | exact rfl) ((IX_nI (by omega) (by omega))) (hTB.2.1 _ i2) ?_
                    first | refine g_isubN (pc' := 213) dX8_count_212 (by omega) ?_ | refine g_isub (pc' := 213) dX8_count_212 ?_
                    refine g_goto (tgt := 217) dX8_count_213 (by decide) ?_
                    exact g_iret dX8_count_217 rfl (Nat.le_refl _) (Nat.le_refl _) hq1'
              · exact absurd z2 (by decide)
          · exact absurd z1 (by decide)
      · refine g_tabIn (tgt := 218) dX8_count_21 (by decide) (by decide) (show _ = some 197 from by decide) (by decide) ?_
        refine g_aload_n (pc' := 219) dX8_count_218 rfl rfl ?_
        refine g_get (pc' := 222) fl_X8_82 dX8_count_219 (by omega) (by first | assumption | exact va_up_self _ _ _ | exact (va_up_ne _ _ (by decide)).trans (by assumption) | exact (va_up_ne _ _ (by decide)).trans (va_up_self _ _ _) | exact (va_up_ne _ _ (by decide)).trans ((va_up_ne _ _ (by decide)).trans (by assumption)) | exact (va_up_ne _ _ (by decide)).trans ((va_up_ne _ _ (by decide)).trans (va_up_self _ _ _)) | exact (va_up_ne _ _ (by decide)).trans ((va_up_ne _ _ (by decide)).trans ((va_up_ne _ _ (by decide)).trans (by assumption))) | exact (va_up_ne _ _ (by decide)).trans ((va_up_ne _ _ (by decide)).trans ((va_up_ne _ _ (by decide)).trans ((va_up_ne _ _ (by decide)).trans (by assumption)))) | exact rfl) (by first | assumption | rfl | exact (List.getElem?_set_ne (by decide)).trans (by assumption) | exact List.getElem?_set_self (by omega)) ?_
        cases bg with
        | false =>
          refine g_if_eqN (tgt := 229) (pc' := 225) dX8_count_222 (by decide) (by first | omega | decide) (fun z1 => ?_) (fun z1 => ?_)
          · refine g_iconst (pc' := 230) (v := nI 0) dX8_count_229 (by decide) ?_
            exact g_iret dX8_count_230 rfl (Nat.le_refl _) (Nat.le_refl _) hq1'
          · exact absurd rfl z1
        | true =>
          refine g_if_eqN (tgt := 229) (pc' := 225) dX8_count_222 (by decide) (by first | omega | decide) (fun z1 => ?_) (fun z1 => ?_)
          · exact absurd z1 (by decide)
          · refine g_iconst (pc' := 226) (v := nI 1) dX8_count_225 (by decide) ?_
            refine g_goto (tgt := 230) dX8_count_226 (by decide) ?_
            exact g_iret dX8_count_230 rfl (Nat.le_refl _) (Nat.le_refl _) hq1'
  show G yX8_count cX8_count 3 (some .int) (rmD 2) none Q 0 0 0 [.ref 47, .int x, uu] [] hp n
  refine g_aload_n (pc' := 1) dX8_count_0 rfl rfl ?_
  refine g_get (pc' := 4) fl_X8_82 dX8_count_1 (by omega) (by first | assumption | exact va_up_self _ _ _ | exact (va_up_ne _ _ (by decide)).trans (by assumption) | exact (va_up_ne _ _ (by decide)).trans (va_up_self _ _ _) | exact (va_up_ne _ _ (by decide)).trans ((va_up_ne _ _ (by decide)).trans (by assumption)) | exact (va_up_ne _ _ (by decide)).trans ((va_up_ne _ _ (by decide)).trans (va_up_self _ _ _)) | exact (va_up_ne _ _ (by decide)).trans ((va_up_ne _ _ (by decide)).trans ((va_up_ne _ _ (by decide)).trans (by assumption))) | exact (va_up_ne _ _ (by decide)).trans ((va_up_ne _ _ (by decide)).trans ((va_up_ne _ _ (by decide)).trans ((va_up_ne _ _ (by decide)).trans (by assumption)))) | exact rfl) (by first | assumption | rfl | exact (List.getElem?_set_ne (by decide)).trans (by assumption) | exact List.getElem?_set_self (by omega)) ?_
  cases bg with
  | false =>
    refine g_if_eqN (tgt := 18) (pc' := 7) dX8_count_4 (by decide) (by first | omega | decide) (fun z1 => ?_) (fun z1 => ?_)
    · refine g_iconst (pc' := 19) (v := nI 0) dX8_count_18 (by decide) ?_
      exact main
    · exact absurd rfl z1
  | true =>
    refine g_if_eqN (tgt := 18) (pc' := 7) dX8_count_4 (by decide) (by first | omega | decide) (fun z1 => ?_) (fun z1 => ?_)
    · exact absurd z1 (by decide)
    · refine g_aload_n (pc' := 8) dX8_count_7 rfl rfl ?_
      refine gc_V 11 47 [] [] cw_X8_175 im_X8_isOver se_X8_isOver dX8_count_8 (by decide) (by decide) (Nat.le_refl _) (Nat.le_refl _) (Nat.le_of_ble_eq_true rfl) rfl (Nat.le_of_ble_eq_true rfl) (by omega) (by first | assumption | exact va_up_self _ _ _ | exact (va_up_ne _ _ (by decide)).trans (by assumption) | exact (va_up_ne _ _ (by decide)).trans (va_up_self _ _ _) | exact (va_up_ne _ _ (by decide)).trans ((va_up_ne _ _ (by decide)).trans (by assumption)) | exact (va_up_ne _ _ (by decide)).trans ((va_up_ne _ _ (by decide)).trans (va_up_self _ _ _)) | exact (va_up_ne _ _ (by decide)).trans ((va_up_ne _ _ (by decide)).trans ((va_up_ne _ _ (by decide)).trans (by assumption))) | exact (va_up_ne _ _ (by decide)).trans ((va_up_ne _ _ (by decide)).trans ((va_up_ne _ _ (by decide)).trans ((va_up_ne _ _ (by decide)).trans (by assumption)))) | exact rfl) rfl rfl (c_isOver (D := D) (S := S) (T := T) (R := R) (s := s) hn c47 mo_MF hR rfl hs ⟨rfl, ?_⟩)
      cases ho0 : decide (opn s R = 0) with
      | true =>
        rw [ho0] at main
        refine g_if_neN (tgt := 18) (pc' := 14) dX8_count_11 (by decide) (by first | omega | decide) (fun z2 => ?_) (fun z2 => ?_)
        · refine g_iconst (pc' := 19) (v := nI 0) dX8_count_18 (by decide) ?_
          exact main
        · exact absurd z2 (by decide)
      | false =>
        rw [ho0] at main
        refine g_if_neN (tgt := 18) (pc' := 14) dX8_count_11 (by decide) (by first | omega | decide) (fun z2 => ?_) (fun z2 => ?_)
        · exact absurd rfl z2
        · refine g_iconst (pc' := 15) (v := nI 1) dX8_count_14 (by decide) ?_
          refine g_goto (tgt := 19) dX8_count_15 (by decide) ?_
          exact main
