/-! THE LAW: its calls -/
theorem wfxS {n : Nat} : wfv n (.ref xS) := Or.inr (by decide)
abbrev Gl (L : Nat) (xs : Nat → Int32) (Q : Option Value → AH → Nat → Prop) (cu su pc i : Nat) (st : List Value) (hp : AH) (n : Nat) : Prop := G yL_law cL_law 4 (some .boolean) room_1 (some (L, xs)) Q cu su pc [.ref xS, .ref 0, .ref 47, .int (nI i)] st hp n
/-- class and reference stand alike -/
def LI (i : Nat) (hp : AH) (n K : Nat) : Prop := ∃ (D S T R : Nat) (kd nn pp : Nat → Nat) (bg it tt : Bool) (s sm h k : Nat) (fl : Nat → Nat) (lu sl : Int64) (kid : Nat) (rd : Bool), MS hp D S T R kd nn pp bg it tt s sm h k fl lu sl ∧ CS hp n D S T R kd nn pp bg it tt s sm h k fl lu sl kid K rd ∧ WS D S T R bg it tt s sm h k lu sl ∧ 4 * sm ≤ 210 * i ∧ 64 ≤ n ∧ n ≤ 64 + i ∧ K ≤ 860160
theorem LI_mk {i n K D S T R s sm h k kid : Nat} {hp : AH} {kd nn pp fl : Nat → Nat} {bg it tt : Bool} {lu sl : Int64} {rd : Bool} (M : MS hp D S T R kd nn pp bg it tt s sm h k fl lu sl) (X : CS hp n D S T R kd nn pp bg it tt s sm h k fl lu sl kid K rd) (W : WS D S T R bg it tt s sm h k lu sl) (h1 : 4 * sm ≤ 210 * i) (h2 : 64 ≤ n) (h3 : n ≤ 64 + i) (h4 : K ≤ 860160) : LI i hp n K := ⟨D, S, T, R, kd, nn, pp, bg, it, tt, s, sm, h, k, fl, lu, sl, kid, rd, M, X, W, h1, h2, h3, h4⟩
theorem inB_v {lo hi v : Nat} (h1 : lo ≤ v) (h2 : v ≤ hi) (hh : hi < 2 ^ 31) : inB lo hi (nI v) = true := by
  unfold inB
  rw [decide_eq_true ((nI_leI (by omega) (by omega)).mpr h1), decide_eq_true ((nI_leI (by omega) hh).mpr h2)]
  rfl
theorem jfI_ok {S D f h to : Nat} {x : Int32} (h2 : 2 ≤ S) (h6 : S ≤ 6) (hD : D ≤ 5) (hh : h < nh S D) (hz : sz S h + f = D) (e : jfI S f h x = some to) : to < nh S D ∧ sz S to = D := by
  unfold jfI at e
  split at e
  · cases e
  · exact jf_ok h2 h6 hD hh hz e
theorem bft {b : Bool} (h : b = false) : ¬ b = true := fun q => by rw [h] at q; cases q
theorem WS_s {D S T R s sm h k : Nat} {bg it tt : Bool} {lu sl : Int64} (hR : R ≤ 8) (W : WS D S T R bg it tt s sm h k lu sl) : s < 256 := by
  cases bg with
  | true => exact p256 hR (W.1 rfl).1.1
  | false => rw [(W.2 rfl).2.2.1]; decide
theorem WS_k {D S T R s sm h k : Nat} {bg it tt : Bool} {lu sl : Int64} (hT : T ≤ 3) (W : WS D S T R bg it tt s sm h k lu sl) : k < 2 ^ 31 := by
  cases bg with
  | true =>
    have G0 := (W.1 rfl).1
    cases it with
    | true => have := (G0.2.1 rfl).2.2.1; omega
    | false => rw [(G0.2.2 rfl).2.1]; decide
  | false => rw [(W.2 rfl).2.2.2.2.2.1]; decide
section LW
variable {L i n K : Nat} {xs : Nat → Int32} {Q : Option Value → AH → Nat → Prop} {hp : AH}
theorem op_dice (hi : i + 4 ≤ L) (hL : L ≤ 2048) (I : LI i hp n K) (nx : ∀ (hp' : AH) (n' K' : Nat), LI (i + 4) hp' n' K' → Gl L xs Q (64 + (i + 4)) (300000 + 2 * K') 564 i [] hp' n') : Gl L xs Q (64 + i) (300000 + 2 * K) 128 i [] hp n := by
  obtain ⟨D, S, T, R, kd, nn, pp, bg, it, tt, s, sm, h, k, fl, lu, sl, kid, rd, M, X, W, hsm, hn, hn2, hK⟩ := I
  have nx' : ∀ (hp' : AH) (n' : Nat), LI (i + 4) hp' n' K → Gl L xs Q (64 + i) (300000 + 2 * K) 564 i [] hp' n' := fun hp' n' q => g_widen (by omega) (by omega) (nx hp' n' K q)
  have Mr := M.1
  have c0 := X.1
  obtain ⟨x8, x23, x31, c47, -⟩ := M.2.1
  have hs8 := WS_s Mr.2.2.2.2.2.2.1 W
  have hk31 := WS_k Mr.2.2.2.2.2.1 W
  have G0 : bg = true → WG D S T R it tt s h k := fun q => (W.1 q).1
  refine g_aload_n (pc' := 129) dL_law_128 rfl rfl ?_
  refine g_aload_n (pc' := 130) dL_law_129 rfl rfl ?_
  refine g_iload_n (pc' := 131) dL_law_130 rfl rfl ?_
  refine g_iconst (pc' := 132) (v := nI 1) dL_law_131 (by decide) ?_
  first | refine g_iaddN (pc' := 133) dL_law_132 ?_ | refine g_iadd (pc' := 133) dL_law_132 ?_
  refine g_sld (pc' := 134) rfl dL_law_133 (IX_nI (by omega) (by omega)) ?_
  refine g_aload_n (pc' := 135) dL_law_134 rfl rfl ?_
  refine g_iload_n (pc' := 136) dL_law_135 rfl rfl ?_
  refine g_iconst (pc' := 137) (v := nI 2) dL_law_136 (by decide) ?_
  first | refine g_iaddN (pc' := 138) dL_law_137 ?_ | refine g_iadd (pc' := 138) dL_law_137 ?_
  refine g_sld (pc' := 139) rfl dL_law_138 (IX_nI (by omega) (by omega)) ?_
  refine g_aload_n (pc' := 140) dL_law_139 rfl rfl ?_
  refine g_iload_n (pc' := 141) dL_law_140 rfl rfl ?_
  refine g_iconst (pc' := 142) (v := nI 3) dL_law_141 (by decide) ?_
  first | refine g_iaddN (pc' := 143) dL_law_142 ?_ | refine g_iadd (pc' := 143) dL_law_142 ?_
  refine g_sld (pc' := 144) rfl dL_law_143 (IX_nI (by omega) (by omega)) ?_
  refine gc_V 147 0 [.int (xs (i + 1)), .int (xs (i + 2)), .int (xs (i + 3))] [] cw_L_13 im_X7_dice se_X7_dice dL_law_144 (by decide) (by decide) (by show _ ≤ 600000; omega) (by show _ ≤ 7302249; omega) (Nat.le_of_ble_eq_true rfl) rfl (Nat.le_of_ble_eq_true rfl) (by omega) (by first | assumption | exact va_up_self _ _ _ | exact (va_up_ne _ _ (by first | decide | omega)).trans (by assumption) | exact (va_up_ne _ _ (by first | decide | omega)).trans (va_up_self _ _ _) | exact (va_up_ne _ _ (by first | decide | omega)).trans ((va_up_ne _ _ (by first | decide | omega)).trans (by assumption)) | exact (va_up_ne _ _ (by first | decide | omega)).trans ((va_up_ne _ _ (by first | decide | omega)).trans (va_up_self _ _ _)) | exact (va_up_ne _ _ (by first | decide | omega)).trans ((va_up_ne _ _ (by first | decide | omega)).trans ((va_up_ne _ _ (by first | decide | omega)).trans (by assumption))) | exact (va_up_ne _ _ (by first | decide | omega)).trans ((va_up_ne _ _ (by first | decide | omega)).trans ((va_up_ne _ _ (by first | decide | omega)).trans ((va_up_ne _ _ (by first | decide | omega)).trans (by assumption)))) | exact rfl) rfl rfl (c_diceC hn X (fun e => ⟨rfl, ?_⟩) (fun e1 e2 => ⟨rfl, ?_⟩) (fun eb D' S' T' ex ey ez hd hs ht hp1 X1 F1 => ⟨rfl, ?_⟩))
  · show Gl L xs Q (64 + i) (300000 + 2 * K) 147 i [.int (-3)] hp n
    refine g_aload_n (pc' := 148) dL_law_147 rfl rfl ?_
    refine g_aload_n (pc' := 149) dL_law_148 rfl rfl ?_
    refine g_iload_n (pc' := 150) dL_law_149 rfl rfl ?_
    refine g_iconst (pc' := 151) (v := nI 1) dL_law_150 (by decide) ?_
    first | refine g_iaddN (pc' := 152) dL_law_151 ?_ | refine g_iadd (pc' := 152) dL_law_151 ?_
    refine g_sld (pc' := 153) rfl dL_law_152 (IX_nI (by omega) (by omega)) ?_
    refine g_aload_n (pc' := 154) dL_law_153 rfl rfl ?_
    refine g_iload_n (pc' := 155) dL_law_154 rfl rfl ?_
    refine g_iconst (pc' := 156) (v := nI 2) dL_law_155 (by decide) ?_
    first | refine g_iaddN (pc' := 157) dL_law_156 ?_ | refine g_iadd (pc' := 157) dL_law_156 ?_
    refine g_sld (pc' := 158) rfl dL_law_157 (IX_nI (by omega) (by omega)) ?_
    refine g_aload_n (pc' := 159) dL_law_158 rfl rfl ?_
    refine g_iload_n (pc' := 160) dL_law_159 rfl rfl ?_
    refine g_iconst (pc' := 161) (v := nI 3) dL_law_160 (by decide) ?_
    first | refine g_iaddN (pc' := 162) dL_law_161 ?_ | refine g_iadd (pc' := 162) dL_law_161 ?_
    refine g_sld (pc' := 163) rfl dL_law_162 (IX_nI (by omega) (by omega)) ?_
    refine gc_V 166 47 [.int (xs (i + 1)), .int (xs (i + 2)), .int (xs (i + 3))] [.int (-3)] cw_L_17 im_X8_dice se_X8_dice dL_law_163 (by decide) (by decide) (by show _ ≤ 600000; omega) (by show _ ≤ 7302249; omega) (Nat.le_of_ble_eq_true rfl) rfl (Nat.le_of_ble_eq_true rfl) (by omega) (by first | assumption | exact va_up_self _ _ _ | exact (va_up_ne _ _ (by first | decide | omega)).trans (by assumption) | exact (va_up_ne _ _ (by first | decide | omega)).trans (va_up_self _ _ _) | exact (va_up_ne _ _ (by first | decide | omega)).trans ((va_up_ne _ _ (by first | decide | omega)).trans (by assumption)) | exact (va_up_ne _ _ (by first | decide | omega)).trans ((va_up_ne _ _ (by first | decide | omega)).trans (va_up_self _ _ _)) | exact (va_up_ne _ _ (by first | decide | omega)).trans ((va_up_ne _ _ (by first | decide | omega)).trans ((va_up_ne _ _ (by first | decide | omega)).trans (by assumption))) | exact (va_up_ne _ _ (by first | decide | omega)).trans ((va_up_ne _ _ (by first | decide | omega)).trans ((va_up_ne _ _ (by first | decide | omega)).trans ((va_up_ne _ _ (by first | decide | omega)).trans (by assumption)))) | exact rfl) rfl rfl (c_dice hn M (fun _ => ⟨rfl, ?_⟩) (fun e1 _ => absurd e1 (bft e)) (fun _ D' S' T' ex ey ez hd hs ht _ _ _ => absurd (show (inB 1 5 (xs (i + 1)) && inB 2 6 (xs (i + 2)) && inB 1 3 (xs (i + 3))) = true by rw [ex, ey, ez, inB_v hd.1 hd.2 (by decide), inB_v hs.1 hs.2 (by decide), inB_v ht.1 ht.2 (by decide)]; rfl) (bft e)))
    refine g_icmp_eq (tgt := 564) (pc' := 169) dL_law_166 (by decide) (fun _ => ?_) (fun hne => absurd rfl hne)
    exact nx' hp n (LI_mk M X W (by omega) hn (by omega) hK)
  · show Gl L xs Q (64 + i) (300000 + 2 * K) 147 i [.int (-4)] hp n
    refine g_aload_n (pc' := 148) dL_law_147 rfl rfl ?_
    refine g_aload_n (pc' := 149) dL_law_148 rfl rfl ?_
    refine g_iload_n (pc' := 150) dL_law_149 rfl rfl ?_
    refine g_iconst (pc' := 151) (v := nI 1) dL_law_150 (by decide) ?_
    first | refine g_iaddN (pc' := 152) dL_law_151 ?_ | refine g_iadd (pc' := 152) dL_law_151 ?_
    refine g_sld (pc' := 153) rfl dL_law_152 (IX_nI (by omega) (by omega)) ?_
    refine g_aload_n (pc' := 154) dL_law_153 rfl rfl ?_
    refine g_iload_n (pc' := 155) dL_law_154 rfl rfl ?_
    refine g_iconst (pc' := 156) (v := nI 2) dL_law_155 (by decide) ?_
    first | refine g_iaddN (pc' := 157) dL_law_156 ?_ | refine g_iadd (pc' := 157) dL_law_156 ?_
    refine g_sld (pc' := 158) rfl dL_law_157 (IX_nI (by omega) (by omega)) ?_
    refine g_aload_n (pc' := 159) dL_law_158 rfl rfl ?_
    refine g_iload_n (pc' := 160) dL_law_159 rfl rfl ?_
    refine g_iconst (pc' := 161) (v := nI 3) dL_law_160 (by decide) ?_
    first | refine g_iaddN (pc' := 162) dL_law_161 ?_ | refine g_iadd (pc' := 162) dL_law_161 ?_
    refine g_sld (pc' := 163) rfl dL_law_162 (IX_nI (by omega) (by omega)) ?_
    refine gc_V 166 47 [.int (xs (i + 1)), .int (xs (i + 2)), .int (xs (i + 3))] [.int (-4)] cw_L_17 im_X8_dice se_X8_dice dL_law_163 (by decide) (by decide) (by show _ ≤ 600000; omega) (by show _ ≤ 7302249; omega) (Nat.le_of_ble_eq_true rfl) rfl (Nat.le_of_ble_eq_true rfl) (by omega) (by first | assumption | exact va_up_self _ _ _ | exact (va_up_ne _ _ (by first | decide | omega)).trans (by assumption) | exact (va_up_ne _ _ (by first | decide | omega)).trans (va_up_self _ _ _) | exact (va_up_ne _ _ (by first | decide | omega)).trans ((va_up_ne _ _ (by first | decide | omega)).trans (by assumption)) | exact (va_up_ne _ _ (by first | decide | omega)).trans ((va_up_ne _ _ (by first | decide | omega)).trans (va_up_self _ _ _)) | exact (va_up_ne _ _ (by first | decide | omega)).trans ((va_up_ne _ _ (by first | decide | omega)).trans ((va_up_ne _ _ (by first | decide | omega)).trans (by assumption))) | exact (va_up_ne _ _ (by first | decide | omega)).trans ((va_up_ne _ _ (by first | decide | omega)).trans ((va_up_ne _ _ (by first | decide | omega)).trans ((va_up_ne _ _ (by first | decide | omega)).trans (by assumption)))) | exact rfl) rfl rfl (c_dice hn M (fun e => absurd e1 (bft e)) (fun _ _ => ⟨rfl, ?_⟩) (fun eb => absurd e2 (bft eb)))
    refine g_icmp_eq (tgt := 564) (pc' := 169) dL_law_166 (by decide) (fun _ => ?_) (fun hne => absurd rfl hne)
    exact nx' hp n (LI_mk M X W (by omega) hn (by omega) hK)
  · have M1 := MS_F F1 M
    obtain ⟨y8, y23, y31, d47, -⟩ := M1.2.1
    show Gl L xs Q (64 + i) (300000 + 2 * K) 147 i [.int (nI 1)] hp1 n
    refine g_aload_n (pc' := 148) dL_law_147 rfl rfl ?_
    refine g_aload_n (pc' := 149) dL_law_148 rfl rfl ?_
    refine g_iload_n (pc' := 150) dL_law_149 rfl rfl ?_
    refine g_iconst (pc' := 151) (v := nI 1) dL_law_150 (by decide) ?_
    first | refine g_iaddN (pc' := 152) dL_law_151 ?_ | refine g_iadd (pc' := 152) dL_law_151 ?_
    refine g_sld (pc' := 153) rfl dL_law_152 (IX_nI (by omega) (by omega)) ?_
    refine g_aload_n (pc' := 154) dL_law_153 rfl rfl ?_
    refine g_iload_n (pc' := 155) dL_law_154 rfl rfl ?_
    refine g_iconst (pc' := 156) (v := nI 2) dL_law_155 (by decide) ?_
    first | refine g_iaddN (pc' := 157) dL_law_156 ?_ | refine g_iadd (pc' := 157) dL_law_156 ?_
    refine g_sld (pc' := 158) rfl dL_law_157 (IX_nI (by omega) (by omega)) ?_
    refine g_aload_n (pc' := 159) dL_law_158 rfl rfl ?_
    refine g_iload_n (pc' := 160) dL_law_159 rfl rfl ?_
    refine g_iconst (pc' := 161) (v := nI 3) dL_law_160 (by decide) ?_
    first | refine g_iaddN (pc' := 162) dL_law_161 ?_ | refine g_iadd (pc' := 162) dL_law_161 ?_
    refine g_sld (pc' := 163) rfl dL_law_162 (IX_nI (by omega) (by omega)) ?_
    refine gc_V 166 47 [.int (xs (i + 1)), .int (xs (i + 2)), .int (xs (i + 3))] [.int (nI 1)] cw_L_17 im_X8_dice se_X8_dice dL_law_163 (by decide) (by decide) (by show _ ≤ 600000; omega) (by show _ ≤ 7302249; omega) (Nat.le_of_ble_eq_true rfl) rfl (Nat.le_of_ble_eq_true rfl) (by omega) (by first | assumption | exact va_up_self _ _ _ | exact (va_up_ne _ _ (by first | decide | omega)).trans (by assumption) | exact (va_up_ne _ _ (by first | decide | omega)).trans (va_up_self _ _ _) | exact (va_up_ne _ _ (by first | decide | omega)).trans ((va_up_ne _ _ (by first | decide | omega)).trans (by assumption)) | exact (va_up_ne _ _ (by first | decide | omega)).trans ((va_up_ne _ _ (by first | decide | omega)).trans (va_up_self _ _ _)) | exact (va_up_ne _ _ (by first | decide | omega)).trans ((va_up_ne _ _ (by first | decide | omega)).trans ((va_up_ne _ _ (by first | decide | omega)).trans (by assumption))) | exact (va_up_ne _ _ (by first | decide | omega)).trans ((va_up_ne _ _ (by first | decide | omega)).trans ((va_up_ne _ _ (by first | decide | omega)).trans ((va_up_ne _ _ (by first | decide | omega)).trans (by assumption)))) | exact rfl) rfl rfl (c_dice hn M1 (fun e => absurd (show (inB 1 5 (xs (i + 1)) && inB 2 6 (xs (i + 2)) && inB 1 3 (xs (i + 3))) = true by rw [ex, ey, ez, inB_v hd.1 hd.2 (by decide), inB_v hs.1 hs.2 (by decide), inB_v ht.1 ht.2 (by decide)]; rfl) (bft e)) (fun _ e2 => absurd e2 (bft eb)) (fun _ D2 S2 T2 ex2 ey2 ez2 hd2 hs2 ht2 hp2 M2 F2 => ⟨rfl, ?_⟩))
    have q1 : D2 = D' := (nI_eq (by omega) (by omega)).mp (ex2.symm.trans ex)
    have q2 : S2 = S' := (nI_eq (by omega) (by omega)).mp (ey2.symm.trans ey)
    have q3 : T2 = T' := (nI_eq (by omega) (by omega)).mp (ez2.symm.trans ez)
    subst q1 q2 q3
    refine g_icmp_eq (tgt := 564) (pc' := 169) dL_law_166 (by decide) (fun _ => ?_) (fun hne => absurd rfl hne)
    exact nx' hp2 n (LI_mk M2 (CS_F F2 X1) ⟨fun q => absurd q (bft eb), W.2⟩ (by omega) hn (by omega) hK)
theorem op_row (hi : i + 4 ≤ L) (hL : L ≤ 2048) (I : LI i hp n K) (nx : ∀ (hp' : AH) (n' K' : Nat), LI (i + 4) hp' n' K' → Gl L xs Q (64 + (i + 4)) (300000 + 2 * K') 564 i [] hp' n') : Gl L xs Q (64 + i) (300000 + 2 * K) 171 i [] hp n := by
  obtain ⟨D, S, T, R, kd, nn, pp, bg, it, tt, s, sm, h, k, fl, lu, sl, kid, rd, M, X, W, hsm, hn, hn2, hK⟩ := I
  have nx' : ∀ (hp' : AH) (n' : Nat), LI (i + 4) hp' n' K → Gl L xs Q (64 + i) (300000 + 2 * K) 564 i [] hp' n' := fun hp' n' q => g_widen (by omega) (by omega) (nx hp' n' K q)
  have Mr := M.1
  have c0 := X.1
  obtain ⟨x8, x23, x31, c47, -⟩ := M.2.1
  have hs8 := WS_s Mr.2.2.2.2.2.2.1 W
  have hk31 := WS_k Mr.2.2.2.2.2.1 W
  have G0 : bg = true → WG D S T R it tt s h k := fun q => (W.1 q).1
  refine g_aload_n (pc' := 172) dL_law_171 rfl rfl ?_
  refine g_aload_n (pc' := 173) dL_law_172 rfl rfl ?_
  refine g_iload_n (pc' := 174) dL_law_173 rfl rfl ?_
  refine g_iconst (pc' := 175) (v := nI 1) dL_law_174 (by decide) ?_
  first | refine g_iaddN (pc' := 176) dL_law_175 ?_ | refine g_iadd (pc' := 176) dL_law_175 ?_
  refine g_sld (pc' := 177) rfl dL_law_176 (IX_nI (by omega) (by omega)) ?_
  refine g_aload_n (pc' := 178) dL_law_177 rfl rfl ?_
  refine g_iload_n (pc' := 179) dL_law_178 rfl rfl ?_
  refine g_iconst (pc' := 180) (v := nI 2) dL_law_179 (by decide) ?_
  first | refine g_iaddN (pc' := 181) dL_law_180 ?_ | refine g_iadd (pc' := 181) dL_law_180 ?_
  refine g_sld (pc' := 182) rfl dL_law_181 (IX_nI (by omega) (by omega)) ?_
  refine g_aload_n (pc' := 183) dL_law_182 rfl rfl ?_
  refine g_iload_n (pc' := 184) dL_law_183 rfl rfl ?_
  refine g_iconst (pc' := 185) (v := nI 3) dL_law_184 (by decide) ?_
  first | refine g_iaddN (pc' := 186) dL_law_185 ?_ | refine g_iadd (pc' := 186) dL_law_185 ?_
  refine g_sld (pc' := 187) rfl dL_law_186 (IX_nI (by omega) (by omega)) ?_
  have hR8 := Mr.2.2.2.2.2.2.1
  refine gc_V 190 0 [.int (xs (i + 1)), .int (xs (i + 2)), .int (xs (i + 3))] [] cw_L_18 im_X7_row se_X7_row dL_law_187 (by decide) (by decide) (by show _ ≤ 600000; omega) (by show _ ≤ 7302249; omega) (Nat.le_of_ble_eq_true rfl) rfl (Nat.le_of_ble_eq_true rfl) (by omega) (by first | assumption | exact va_up_self _ _ _ | exact (va_up_ne _ _ (by first | decide | omega)).trans (by assumption) | exact (va_up_ne _ _ (by first | decide | omega)).trans (va_up_self _ _ _) | exact (va_up_ne _ _ (by first | decide | omega)).trans ((va_up_ne _ _ (by first | decide | omega)).trans (by assumption)) | exact (va_up_ne _ _ (by first | decide | omega)).trans ((va_up_ne _ _ (by first | decide | omega)).trans (va_up_self _ _ _)) | exact (va_up_ne _ _ (by first | decide | omega)).trans ((va_up_ne _ _ (by first | decide | omega)).trans ((va_up_ne _ _ (by first | decide | omega)).trans (by assumption))) | exact (va_up_ne _ _ (by first | decide | omega)).trans ((va_up_ne _ _ (by first | decide | omega)).trans ((va_up_ne _ _ (by first | decide | omega)).trans ((va_up_ne _ _ (by first | decide | omega)).trans (by assumption)))) | exact rfl) rfl rfl (c_rowC hn hR8 X (fun q => (W.2 q).2.2.1) (fun e => ⟨rfl, ?_⟩) (fun e1 e2 => ⟨rfl, ?_⟩) (fun e1 e2 e3 => ⟨rfl, ?_⟩) (fun eb hR a b c ex ey ez hd hs ht hp1 X1 F1 => ⟨rfl, ?_⟩))
  · show Gl L xs Q (64 + i) (300000 + 2 * K) 190 i [.int (-3)] hp n
    refine g_aload_n (pc' := 191) dL_law_190 rfl rfl ?_
    refine g_aload_n (pc' := 192) dL_law_191 rfl rfl ?_
    refine g_iload_n (pc' := 193) dL_law_192 rfl rfl ?_
    refine g_iconst (pc' := 194) (v := nI 1) dL_law_193 (by decide) ?_
    first | refine g_iaddN (pc' := 195) dL_law_194 ?_ | refine g_iadd (pc' := 195) dL_law_194 ?_
    refine g_sld (pc' := 196) rfl dL_law_195 (IX_nI (by omega) (by omega)) ?_
    refine g_aload_n (pc' := 197) dL_law_196 rfl rfl ?_
    refine g_iload_n (pc' := 198) dL_law_197 rfl rfl ?_
    refine g_iconst (pc' := 199) (v := nI 2) dL_law_198 (by decide) ?_
    first | refine g_iaddN (pc' := 200) dL_law_199 ?_ | refine g_iadd (pc' := 200) dL_law_199 ?_
    refine g_sld (pc' := 201) rfl dL_law_200 (IX_nI (by omega) (by omega)) ?_
    refine g_aload_n (pc' := 202) dL_law_201 rfl rfl ?_
    refine g_iload_n (pc' := 203) dL_law_202 rfl rfl ?_
    refine g_iconst (pc' := 204) (v := nI 3) dL_law_203 (by decide) ?_
    first | refine g_iaddN (pc' := 205) dL_law_204 ?_ | refine g_iadd (pc' := 205) dL_law_204 ?_
    refine g_sld (pc' := 206) rfl dL_law_205 (IX_nI (by omega) (by omega)) ?_
    refine gc_V 209 47 [.int (xs (i + 1)), .int (xs (i + 2)), .int (xs (i + 3))] [.int (-3)] cw_L_21 im_X8_row se_X8_row dL_law_206 (by decide) (by decide) (by show _ ≤ 600000; omega) (by show _ ≤ 7302249; omega) (Nat.le_of_ble_eq_true rfl) rfl (Nat.le_of_ble_eq_true rfl) (by omega) (by first | assumption | exact va_up_self _ _ _ | exact (va_up_ne _ _ (by first | decide | omega)).trans (by assumption) | exact (va_up_ne _ _ (by first | decide | omega)).trans (va_up_self _ _ _) | exact (va_up_ne _ _ (by first | decide | omega)).trans ((va_up_ne _ _ (by first | decide | omega)).trans (by assumption)) | exact (va_up_ne _ _ (by first | decide | omega)).trans ((va_up_ne _ _ (by first | decide | omega)).trans (va_up_self _ _ _)) | exact (va_up_ne _ _ (by first | decide | omega)).trans ((va_up_ne _ _ (by first | decide | omega)).trans ((va_up_ne _ _ (by first | decide | omega)).trans (by assumption))) | exact (va_up_ne _ _ (by first | decide | omega)).trans ((va_up_ne _ _ (by first | decide | omega)).trans ((va_up_ne _ _ (by first | decide | omega)).trans ((va_up_ne _ _ (by first | decide | omega)).trans (by assumption)))) | exact rfl) rfl rfl (c_row hn M (fun _ => ⟨rfl, ?_⟩) (fun e1 _ => absurd e1 (bft e)) (fun e1 _ _ => absurd e1 (bft e)) (fun _ _ a b c ex ey ez hd hs ht _ _ _ => absurd (show (inB 0 5 (xs (i + 1)) && inB 1 6 (xs (i + 2)) && inB 0 30 (xs (i + 3))) = true by rw [ex, ey, ez, inB_v (Nat.zero_le _) hd (by decide), inB_v hs.1 hs.2 (by decide), inB_v (Nat.zero_le _) ht (by decide)]; rfl) (bft e)))
    refine g_icmp_eq (tgt := 564) (pc' := 212) dL_law_209 (by decide) (fun _ => ?_) (fun hne => absurd rfl hne)
    exact nx' hp n (LI_mk M X W (by omega) hn (by omega) hK)
  · show Gl L xs Q (64 + i) (300000 + 2 * K) 190 i [.int (-4)] hp n
    refine g_aload_n (pc' := 191) dL_law_190 rfl rfl ?_
    refine g_aload_n (pc' := 192) dL_law_191 rfl rfl ?_
    refine g_iload_n (pc' := 193) dL_law_192 rfl rfl ?_
    refine g_iconst (pc' := 194) (v := nI 1) dL_law_193 (by decide) ?_
    first | refine g_iaddN (pc' := 195) dL_law_194 ?_ | refine g_iadd (pc' := 195) dL_law_194 ?_
    refine g_sld (pc' := 196) rfl dL_law_195 (IX_nI (by omega) (by omega)) ?_
    refine g_aload_n (pc' := 197) dL_law_196 rfl rfl ?_
    refine g_iload_n (pc' := 198) dL_law_197 rfl rfl ?_
    refine g_iconst (pc' := 199) (v := nI 2) dL_law_198 (by decide) ?_
    first | refine g_iaddN (pc' := 200) dL_law_199 ?_ | refine g_iadd (pc' := 200) dL_law_199 ?_
    refine g_sld (pc' := 201) rfl dL_law_200 (IX_nI (by omega) (by omega)) ?_
    refine g_aload_n (pc' := 202) dL_law_201 rfl rfl ?_
    refine g_iload_n (pc' := 203) dL_law_202 rfl rfl ?_
    refine g_iconst (pc' := 204) (v := nI 3) dL_law_203 (by decide) ?_
    first | refine g_iaddN (pc' := 205) dL_law_204 ?_ | refine g_iadd (pc' := 205) dL_law_204 ?_
    refine g_sld (pc' := 206) rfl dL_law_205 (IX_nI (by omega) (by omega)) ?_
    refine gc_V 209 47 [.int (xs (i + 1)), .int (xs (i + 2)), .int (xs (i + 3))] [.int (-4)] cw_L_21 im_X8_row se_X8_row dL_law_206 (by decide) (by decide) (by show _ ≤ 600000; omega) (by show _ ≤ 7302249; omega) (Nat.le_of_ble_eq_true rfl) rfl (Nat.le_of_ble_eq_true rfl) (by omega) (by first | assumption | exact va_up_self _ _ _ | exact (va_up_ne _ _ (by first | decide | omega)).trans (by assumption) | exact (va_up_ne _ _ (by first | decide | omega)).trans (va_up_self _ _ _) | exact (va_up_ne _ _ (by first | decide | omega)).trans ((va_up_ne _ _ (by first | decide | omega)).trans (by assumption)) | exact (va_up_ne _ _ (by first | decide | omega)).trans ((va_up_ne _ _ (by first | decide | omega)).trans (va_up_self _ _ _)) | exact (va_up_ne _ _ (by first | decide | omega)).trans ((va_up_ne _ _ (by first | decide | omega)).trans ((va_up_ne _ _ (by first | decide | omega)).trans (by assumption))) | exact (va_up_ne _ _ (by first | decide | omega)).trans ((va_up_ne _ _ (by first | decide | omega)).trans ((va_up_ne _ _ (by first | decide | omega)).trans ((va_up_ne _ _ (by first | decide | omega)).trans (by assumption)))) | exact rfl) rfl rfl (c_row hn M (fun e => absurd e1 (bft e)) (fun _ _ => ⟨rfl, ?_⟩) (fun _ eb => absurd e2 (bft eb)) (fun eb => absurd e2 (bft eb)))
    refine g_icmp_eq (tgt := 564) (pc' := 212) dL_law_209 (by decide) (fun _ => ?_) (fun hne => absurd rfl hne)
    exact nx' hp n (LI_mk M X W (by omega) hn (by omega) hK)
  · show Gl L xs Q (64 + i) (300000 + 2 * K) 190 i [.int (-6)] hp n
    refine g_aload_n (pc' := 191) dL_law_190 rfl rfl ?_
    refine g_aload_n (pc' := 192) dL_law_191 rfl rfl ?_
    refine g_iload_n (pc' := 193) dL_law_192 rfl rfl ?_
    refine g_iconst (pc' := 194) (v := nI 1) dL_law_193 (by decide) ?_
    first | refine g_iaddN (pc' := 195) dL_law_194 ?_ | refine g_iadd (pc' := 195) dL_law_194 ?_
    refine g_sld (pc' := 196) rfl dL_law_195 (IX_nI (by omega) (by omega)) ?_
    refine g_aload_n (pc' := 197) dL_law_196 rfl rfl ?_
    refine g_iload_n (pc' := 198) dL_law_197 rfl rfl ?_
    refine g_iconst (pc' := 199) (v := nI 2) dL_law_198 (by decide) ?_
    first | refine g_iaddN (pc' := 200) dL_law_199 ?_ | refine g_iadd (pc' := 200) dL_law_199 ?_
    refine g_sld (pc' := 201) rfl dL_law_200 (IX_nI (by omega) (by omega)) ?_
    refine g_aload_n (pc' := 202) dL_law_201 rfl rfl ?_
    refine g_iload_n (pc' := 203) dL_law_202 rfl rfl ?_
    refine g_iconst (pc' := 204) (v := nI 3) dL_law_203 (by decide) ?_
    first | refine g_iaddN (pc' := 205) dL_law_204 ?_ | refine g_iadd (pc' := 205) dL_law_204 ?_
    refine g_sld (pc' := 206) rfl dL_law_205 (IX_nI (by omega) (by omega)) ?_
    refine gc_V 209 47 [.int (xs (i + 1)), .int (xs (i + 2)), .int (xs (i + 3))] [.int (-6)] cw_L_21 im_X8_row se_X8_row dL_law_206 (by decide) (by decide) (by show _ ≤ 600000; omega) (by show _ ≤ 7302249; omega) (Nat.le_of_ble_eq_true rfl) rfl (Nat.le_of_ble_eq_true rfl) (by omega) (by first | assumption | exact va_up_self _ _ _ | exact (va_up_ne _ _ (by first | decide | omega)).trans (by assumption) | exact (va_up_ne _ _ (by first | decide | omega)).trans (va_up_self _ _ _) | exact (va_up_ne _ _ (by first | decide | omega)).trans ((va_up_ne _ _ (by first | decide | omega)).trans (by assumption)) | exact (va_up_ne _ _ (by first | decide | omega)).trans ((va_up_ne _ _ (by first | decide | omega)).trans (va_up_self _ _ _)) | exact (va_up_ne _ _ (by first | decide | omega)).trans ((va_up_ne _ _ (by first | decide | omega)).trans ((va_up_ne _ _ (by first | decide | omega)).trans (by assumption))) | exact (va_up_ne _ _ (by first | decide | omega)).trans ((va_up_ne _ _ (by first | decide | omega)).trans ((va_up_ne _ _ (by first | decide | omega)).trans ((va_up_ne _ _ (by first | decide | omega)).trans (by assumption)))) | exact rfl) rfl rfl (c_row hn M (fun e => absurd e1 (bft e)) (fun _ eb => absurd eb (bft e2)) (fun _ _ _ => ⟨rfl, ?_⟩) (fun _ hR => absurd hR (by omega)))
    refine g_icmp_eq (tgt := 564) (pc' := 212) dL_law_209 (by decide) (fun _ => ?_) (fun hne => absurd rfl hne)
    exact nx' hp n (LI_mk M X W (by omega) hn (by omega) hK)
  · have M1 := MS_F F1 M
    obtain ⟨y8, y23, y31, d47, -⟩ := M1.2.1
    show Gl L xs Q (64 + i) (300000 + 2 * K) 190 i [.int (nI R)] hp1 n
    refine g_aload_n (pc' := 191) dL_law_190 rfl rfl ?_
    refine g_aload_n (pc' := 192) dL_law_191 rfl rfl ?_
    refine g_iload_n (pc' := 193) dL_law_192 rfl rfl ?_
    refine g_iconst (pc' := 194) (v := nI 1) dL_law_193 (by decide) ?_
    first | refine g_iaddN (pc' := 195) dL_law_194 ?_ | refine g_iadd (pc' := 195) dL_law_194 ?_
    refine g_sld (pc' := 196) rfl dL_law_195 (IX_nI (by omega) (by omega)) ?_
    refine g_aload_n (pc' := 197) dL_law_196 rfl rfl ?_
    refine g_iload_n (pc' := 198) dL_law_197 rfl rfl ?_
    refine g_iconst (pc' := 199) (v := nI 2) dL_law_198 (by decide) ?_
    first | refine g_iaddN (pc' := 200) dL_law_199 ?_ | refine g_iadd (pc' := 200) dL_law_199 ?_
    refine g_sld (pc' := 201) rfl dL_law_200 (IX_nI (by omega) (by omega)) ?_
    refine g_aload_n (pc' := 202) dL_law_201 rfl rfl ?_
    refine g_iload_n (pc' := 203) dL_law_202 rfl rfl ?_
    refine g_iconst (pc' := 204) (v := nI 3) dL_law_203 (by decide) ?_
    first | refine g_iaddN (pc' := 205) dL_law_204 ?_ | refine g_iadd (pc' := 205) dL_law_204 ?_
    refine g_sld (pc' := 206) rfl dL_law_205 (IX_nI (by omega) (by omega)) ?_
    refine gc_V 209 47 [.int (xs (i + 1)), .int (xs (i + 2)), .int (xs (i + 3))] [.int (nI R)] cw_L_21 im_X8_row se_X8_row dL_law_206 (by decide) (by decide) (by show _ ≤ 600000; omega) (by show _ ≤ 7302249; omega) (Nat.le_of_ble_eq_true rfl) rfl (Nat.le_of_ble_eq_true rfl) (by omega) (by first | assumption | exact va_up_self _ _ _ | exact (va_up_ne _ _ (by first | decide | omega)).trans (by assumption) | exact (va_up_ne _ _ (by first | decide | omega)).trans (va_up_self _ _ _) | exact (va_up_ne _ _ (by first | decide | omega)).trans ((va_up_ne _ _ (by first | decide | omega)).trans (by assumption)) | exact (va_up_ne _ _ (by first | decide | omega)).trans ((va_up_ne _ _ (by first | decide | omega)).trans (va_up_self _ _ _)) | exact (va_up_ne _ _ (by first | decide | omega)).trans ((va_up_ne _ _ (by first | decide | omega)).trans ((va_up_ne _ _ (by first | decide | omega)).trans (by assumption))) | exact (va_up_ne _ _ (by first | decide | omega)).trans ((va_up_ne _ _ (by first | decide | omega)).trans ((va_up_ne _ _ (by first | decide | omega)).trans ((va_up_ne _ _ (by first | decide | omega)).trans (by assumption)))) | exact rfl) rfl rfl (c_row hn M1 (fun e => absurd (show (inB 0 5 (xs (i + 1)) && inB 1 6 (xs (i + 2)) && inB 0 30 (xs (i + 3))) = true by rw [ex, ey, ez, inB_v (Nat.zero_le _) hd (by decide), inB_v hs.1 hs.2 (by decide), inB_v (Nat.zero_le _) ht (by decide)]; rfl) (bft e)) (fun _ e2 => absurd e2 (bft eb)) (fun _ _ e3 => absurd e3 (by omega)) (fun _ _ a2 b2 c2 ex2 ey2 ez2 hd2 hs2 ht2 hp2 M2 F2 => ⟨rfl, ?_⟩))
    have q1 : a2 = a := (nI_eq (by omega) (by omega)).mp (ex2.symm.trans ex)
    have q2 : b2 = b := (nI_eq (by omega) (by omega)).mp (ey2.symm.trans ey)
    have q3 : c2 = c := (nI_eq (by omega) (by omega)).mp (ez2.symm.trans ez)
    subst q1 q2 q3
    refine g_icmp_eq (tgt := 564) (pc' := 212) dL_law_209 (by decide) (fun _ => ?_) (fun hne => absurd rfl hne)
    exact nx' hp2 n (LI_mk M2 (CS_F F2 X1) ⟨fun q => absurd q (bft eb), W.2⟩ (by omega) hn (by omega) hK)
theorem op_begin (hi : i + 4 ≤ L) (hL : L ≤ 2048) (I : LI i hp n K) (nx : ∀ (hp' : AH) (n' K' : Nat), LI (i + 4) hp' n' K' → Gl L xs Q (64 + (i + 4)) (300000 + 2 * K') 564 i [] hp' n') : Gl L xs Q (64 + i) (300000 + 2 * K) 214 i [] hp n := by
  obtain ⟨D, S, T, R, kd, nn, pp, bg, it, tt, s, sm, h, k, fl, lu, sl, kid, rd, M, X, W, hsm, hn, hn2, hK⟩ := I
  have nx' : ∀ (hp' : AH) (n' : Nat), LI (i + 4) hp' n' K → Gl L xs Q (64 + i) (300000 + 2 * K) 564 i [] hp' n' := fun hp' n' q => g_widen (by omega) (by omega) (nx hp' n' K q)
  have Mr := M.1
  have c0 := X.1
  obtain ⟨x8, x23, x31, c47, -⟩ := M.2.1
  have hs8 := WS_s Mr.2.2.2.2.2.2.1 W
  have hk31 := WS_k Mr.2.2.2.2.2.1 W
  have G0 : bg = true → WG D S T R it tt s h k := fun q => (W.1 q).1
  refine g_aload_n (pc' := 215) dL_law_214 rfl rfl ?_
  refine gc_V 218 0 [] [] cw_L_22 im_X7_begin se_X7_begin dL_law_215 (by decide) (by decide) (by show _ ≤ 600000; omega) (by show _ ≤ 7302249; omega) (Nat.le_of_ble_eq_true rfl) rfl (Nat.le_of_ble_eq_true rfl) (by omega) (by first | assumption | exact va_up_self _ _ _ | exact (va_up_ne _ _ (by first | decide | omega)).trans (by assumption) | exact (va_up_ne _ _ (by first | decide | omega)).trans (va_up_self _ _ _) | exact (va_up_ne _ _ (by first | decide | omega)).trans ((va_up_ne _ _ (by first | decide | omega)).trans (by assumption)) | exact (va_up_ne _ _ (by first | decide | omega)).trans ((va_up_ne _ _ (by first | decide | omega)).trans (va_up_self _ _ _)) | exact (va_up_ne _ _ (by first | decide | omega)).trans ((va_up_ne _ _ (by first | decide | omega)).trans ((va_up_ne _ _ (by first | decide | omega)).trans (by assumption))) | exact (va_up_ne _ _ (by first | decide | omega)).trans ((va_up_ne _ _ (by first | decide | omega)).trans ((va_up_ne _ _ (by first | decide | omega)).trans ((va_up_ne _ _ (by first | decide | omega)).trans (by assumption)))) | exact rfl) rfl rfl (c_beginC hn Mr X W (fun e => ⟨rfl, ?_⟩) (fun eb hR1 hl => ⟨rfl, ?_⟩) (fun eb hR1 hl hp1 X1 F1 => ⟨rfl, ?_⟩))
  · show Gl L xs Q (64 + i) (300000 + 2 * K) 218 i [.int (-4)] hp n
    refine g_aload_n (pc' := 219) dL_law_218 rfl rfl ?_
    refine gc_V 222 47 [] [.int (-4)] cw_L_26 im_X8_begin se_X8_begin dL_law_219 (by decide) (by decide) (by show _ ≤ 600000; omega) (by show _ ≤ 7302249; omega) (Nat.le_of_ble_eq_true rfl) rfl (Nat.le_of_ble_eq_true rfl) (by omega) (by first | assumption | exact va_up_self _ _ _ | exact (va_up_ne _ _ (by first | decide | omega)).trans (by assumption) | exact (va_up_ne _ _ (by first | decide | omega)).trans (va_up_self _ _ _) | exact (va_up_ne _ _ (by first | decide | omega)).trans ((va_up_ne _ _ (by first | decide | omega)).trans (by assumption)) | exact (va_up_ne _ _ (by first | decide | omega)).trans ((va_up_ne _ _ (by first | decide | omega)).trans (va_up_self _ _ _)) | exact (va_up_ne _ _ (by first | decide | omega)).trans ((va_up_ne _ _ (by first | decide | omega)).trans ((va_up_ne _ _ (by first | decide | omega)).trans (by assumption))) | exact (va_up_ne _ _ (by first | decide | omega)).trans ((va_up_ne _ _ (by first | decide | omega)).trans ((va_up_ne _ _ (by first | decide | omega)).trans ((va_up_ne _ _ (by first | decide | omega)).trans (by assumption)))) | exact rfl) rfl rfl (c_beginM hn M (fun q => (W.2 q).2.2.1) (fun _ => ⟨rfl, ?_⟩) (fun eb hR1 _ _ _ _ => False.elim (by rcases e with q | q; exact absurd q (bft eb); omega)) (fun eb hR1 _ _ _ _ => False.elim (by rcases e with q | q; exact absurd q (bft eb); omega)))
    refine g_icmp_eq (tgt := 564) (pc' := 225) dL_law_222 (by decide) (fun _ => ?_) (fun hne => absurd rfl hne)
    exact nx' hp n (LI_mk M X W (by omega) hn (by omega) hK)
  · show Gl L xs Q (64 + i) (300000 + 2 * K) 218 i [.int (-5)] hp n
    refine g_aload_n (pc' := 219) dL_law_218 rfl rfl ?_
    refine gc_V 222 47 [] [.int (-5)] cw_L_26 im_X8_begin se_X8_begin dL_law_219 (by decide) (by decide) (by show _ ≤ 600000; omega) (by show _ ≤ 7302249; omega) (Nat.le_of_ble_eq_true rfl) rfl (Nat.le_of_ble_eq_true rfl) (by omega) (by first | assumption | exact va_up_self _ _ _ | exact (va_up_ne _ _ (by first | decide | omega)).trans (by assumption) | exact (va_up_ne _ _ (by first | decide | omega)).trans (va_up_self _ _ _) | exact (va_up_ne _ _ (by first | decide | omega)).trans ((va_up_ne _ _ (by first | decide | omega)).trans (by assumption)) | exact (va_up_ne _ _ (by first | decide | omega)).trans ((va_up_ne _ _ (by first | decide | omega)).trans (va_up_self _ _ _)) | exact (va_up_ne _ _ (by first | decide | omega)).trans ((va_up_ne _ _ (by first | decide | omega)).trans ((va_up_ne _ _ (by first | decide | omega)).trans (by assumption))) | exact (va_up_ne _ _ (by first | decide | omega)).trans ((va_up_ne _ _ (by first | decide | omega)).trans ((va_up_ne _ _ (by first | decide | omega)).trans ((va_up_ne _ _ (by first | decide | omega)).trans (by assumption)))) | exact rfl) rfl rfl (c_beginM hn M (fun q => (W.2 q).2.2.1) (fun e => False.elim (by rcases e with q | q; exact absurd q (bft eb); omega)) (fun _ _ _ hp2 M2 F2 => ⟨rfl, ?_⟩) (fun _ _ hl2 _ _ _ => absurd hl2 (by omega)))
    refine g_icmp_eq (tgt := 564) (pc' := 225) dL_law_222 (by decide) (fun _ => ?_) (fun hne => absurd rfl hne)
    exact nx' hp2 n (LI_mk M2 (CS_F F2 X) W (by omega) hn (by omega) hK)
  · have M1 := MS_F F1 M
    obtain ⟨y8, y23, y31, d47, -⟩ := M1.2.1
    show Gl L xs Q (64 + i) (300000 + 2 * K) 218 i [.int (nI 1)] hp1 n
    refine g_aload_n (pc' := 219) dL_law_218 rfl rfl ?_
    refine gc_V 222 47 [] [.int (nI 1)] cw_L_26 im_X8_begin se_X8_begin dL_law_219 (by decide) (by decide) (by show _ ≤ 600000; omega) (by show _ ≤ 7302249; omega) (Nat.le_of_ble_eq_true rfl) rfl (Nat.le_of_ble_eq_true rfl) (by omega) (by first | assumption | exact va_up_self _ _ _ | exact (va_up_ne _ _ (by first | decide | omega)).trans (by assumption) | exact (va_up_ne _ _ (by first | decide | omega)).trans (va_up_self _ _ _) | exact (va_up_ne _ _ (by first | decide | omega)).trans ((va_up_ne _ _ (by first | decide | omega)).trans (by assumption)) | exact (va_up_ne _ _ (by first | decide | omega)).trans ((va_up_ne _ _ (by first | decide | omega)).trans (va_up_self _ _ _)) | exact (va_up_ne _ _ (by first | decide | omega)).trans ((va_up_ne _ _ (by first | decide | omega)).trans ((va_up_ne _ _ (by first | decide | omega)).trans (by assumption))) | exact (va_up_ne _ _ (by first | decide | omega)).trans ((va_up_ne _ _ (by first | decide | omega)).trans ((va_up_ne _ _ (by first | decide | omega)).trans ((va_up_ne _ _ (by first | decide | omega)).trans (by assumption)))) | exact rfl) rfl rfl (c_beginM hn M1 (fun q => (W.2 q).2.2.1) (fun e => False.elim (by rcases e with q | q; exact absurd q (bft eb); omega)) (fun _ _ hl2 _ _ _ => absurd hl2 (by omega)) (fun _ _ _ hp2 M2 F2 => ⟨rfl, ?_⟩))
    refine g_icmp_eq (tgt := 564) (pc' := 225) dL_law_222 (by decide) (fun _ => ?_) (fun hne => absurd rfl hne)
    exact nx' hp2 n (LI_mk M2 (CS_F F2 X1) ⟨fun _ => ⟨⟨Nat.two_pow_pos R, fun q => by (cases q), fun _ => ⟨rfl, rfl, rfl⟩⟩, fun q => by cases q⟩, fun q => by cases q⟩ (by omega) hn (by omega) hK)
theorem op_end (hi : i + 4 ≤ L) (hL : L ≤ 2048) (I : LI i hp n K) (nx : ∀ (hp' : AH) (n' K' : Nat), LI (i + 4) hp' n' K' → Gl L xs Q (64 + (i + 4)) (300000 + 2 * K') 564 i [] hp' n') : Gl L xs Q (64 + i) (300000 + 2 * K) 227 i [] hp n := by
  obtain ⟨D, S, T, R, kd, nn, pp, bg, it, tt, s, sm, h, k, fl, lu, sl, kid, rd, M, X, W, hsm, hn, hn2, hK⟩ := I
  have nx' : ∀ (hp' : AH) (n' : Nat), LI (i + 4) hp' n' K → Gl L xs Q (64 + i) (300000 + 2 * K) 564 i [] hp' n' := fun hp' n' q => g_widen (by omega) (by omega) (nx hp' n' K q)
  have Mr := M.1
  have c0 := X.1
  obtain ⟨x8, x23, x31, c47, -⟩ := M.2.1
  have hs8 := WS_s Mr.2.2.2.2.2.2.1 W
  have hk31 := WS_k Mr.2.2.2.2.2.1 W
  have G0 : bg = true → WG D S T R it tt s h k := fun q => (W.1 q).1
  refine g_aload_n (pc' := 228) dL_law_227 rfl rfl ?_
  refine gc_V 231 0 [] [] cw_L_27 im_X7_end se_X7_end dL_law_228 (by decide) (by decide) (by show _ ≤ 600000; omega) (by show _ ≤ 7302249; omega) (Nat.le_of_ble_eq_true rfl) rfl (Nat.le_of_ble_eq_true rfl) (by omega) (by first | assumption | exact va_up_self _ _ _ | exact (va_up_ne _ _ (by first | decide | omega)).trans (by assumption) | exact (va_up_ne _ _ (by first | decide | omega)).trans (va_up_self _ _ _) | exact (va_up_ne _ _ (by first | decide | omega)).trans ((va_up_ne _ _ (by first | decide | omega)).trans (by assumption)) | exact (va_up_ne _ _ (by first | decide | omega)).trans ((va_up_ne _ _ (by first | decide | omega)).trans (va_up_self _ _ _)) | exact (va_up_ne _ _ (by first | decide | omega)).trans ((va_up_ne _ _ (by first | decide | omega)).trans ((va_up_ne _ _ (by first | decide | omega)).trans (by assumption))) | exact (va_up_ne _ _ (by first | decide | omega)).trans ((va_up_ne _ _ (by first | decide | omega)).trans ((va_up_ne _ _ (by first | decide | omega)).trans ((va_up_ne _ _ (by first | decide | omega)).trans (by assumption)))) | exact rfl) rfl rfl (c_endC hn X (fun hp1 X1 F1 => ⟨rfl, ?_⟩))
  have M1 := MS_F F1 M
  obtain ⟨y8, y23, y31, d47, -⟩ := M1.2.1
  show Gl L xs Q (64 + i) (300000 + 2 * K) 231 i [.int (nI 1)] hp1 n
  refine g_aload_n (pc' := 232) dL_law_231 rfl rfl ?_
  refine gc_V 235 47 [] [.int (nI 1)] cw_L_30 im_X8_end se_X8_end dL_law_232 (by decide) (by decide) (by show _ ≤ 600000; omega) (by show _ ≤ 7302249; omega) (Nat.le_of_ble_eq_true rfl) rfl (Nat.le_of_ble_eq_true rfl) (by omega) (by first | assumption | exact va_up_self _ _ _ | exact (va_up_ne _ _ (by first | decide | omega)).trans (by assumption) | exact (va_up_ne _ _ (by first | decide | omega)).trans (va_up_self _ _ _) | exact (va_up_ne _ _ (by first | decide | omega)).trans ((va_up_ne _ _ (by first | decide | omega)).trans (by assumption)) | exact (va_up_ne _ _ (by first | decide | omega)).trans ((va_up_ne _ _ (by first | decide | omega)).trans (va_up_self _ _ _)) | exact (va_up_ne _ _ (by first | decide | omega)).trans ((va_up_ne _ _ (by first | decide | omega)).trans ((va_up_ne _ _ (by first | decide | omega)).trans (by assumption))) | exact (va_up_ne _ _ (by first | decide | omega)).trans ((va_up_ne _ _ (by first | decide | omega)).trans ((va_up_ne _ _ (by first | decide | omega)).trans ((va_up_ne _ _ (by first | decide | omega)).trans (by assumption)))) | exact rfl) rfl rfl (c_end hn M1 (fun hp2 M2 F2 => ⟨rfl, ?_⟩))
  refine g_icmp_eq (tgt := 564) (pc' := 238) dL_law_235 (by decide) (fun _ => ?_) (fun hne => absurd rfl hne)
  exact nx' hp2 n (LI_mk M2 (CS_F F2 X1) ⟨fun q => by (cases q), fun _ => ⟨rfl, rfl, rfl, rfl, rfl, rfl, rfl, rfl⟩⟩ (by omega) hn (by omega) hK)
theorem op_fall (hi : i + 4 ≤ L) (hL : L ≤ 2048) (I : LI i hp n K) (nx : ∀ (hp' : AH) (n' K' : Nat), LI (i + 4) hp' n' K' → Gl L xs Q (64 + (i + 4)) (300000 + 2 * K') 564 i [] hp' n') : Gl L xs Q (64 + i) (300000 + 2 * K) 240 i [] hp n := by
  obtain ⟨D, S, T, R, kd, nn, pp, bg, it, tt, s, sm, h, k, fl, lu, sl, kid, rd, M, X, W, hsm, hn, hn2, hK⟩ := I
  have nx' : ∀ (hp' : AH) (n' : Nat), LI (i + 4) hp' n' K → Gl L xs Q (64 + i) (300000 + 2 * K) 564 i [] hp' n' := fun hp' n' q => g_widen (by omega) (by omega) (nx hp' n' K q)
  have Mr := M.1
  have c0 := X.1
  obtain ⟨x8, x23, x31, c47, -⟩ := M.2.1
  have hs8 := WS_s Mr.2.2.2.2.2.2.1 W
  have hk31 := WS_k Mr.2.2.2.2.2.1 W
  have G0 : bg = true → WG D S T R it tt s h k := fun q => (W.1 q).1
  refine g_aload_n (pc' := 241) dL_law_240 rfl rfl ?_
  refine g_aload_n (pc' := 242) dL_law_241 rfl rfl ?_
  refine g_iload_n (pc' := 243) dL_law_242 rfl rfl ?_
  refine g_iconst (pc' := 244) (v := nI 1) dL_law_243 (by decide) ?_
  first | refine g_iaddN (pc' := 245) dL_law_244 ?_ | refine g_iadd (pc' := 245) dL_law_244 ?_
  refine g_sld (pc' := 246) rfl dL_law_245 (IX_nI (by omega) (by omega)) ?_
  obtain ⟨h2, h6, hD1, hD, hT1, hT3, hR, hRV⟩ := id Mr
  refine gc_V 249 0 [.int (xs (i + 1))] [] cw_L_31 im_X7_fall se_X7_fall dL_law_246 (by decide) (by decide) (by show _ ≤ 600000; omega) (by show _ ≤ 7302249; omega) (Nat.le_of_ble_eq_true rfl) rfl (Nat.le_of_ble_eq_true rfl) (by omega) (by first | assumption | exact va_up_self _ _ _ | exact (va_up_ne _ _ (by first | decide | omega)).trans (by assumption) | exact (va_up_ne _ _ (by first | decide | omega)).trans (va_up_self _ _ _) | exact (va_up_ne _ _ (by first | decide | omega)).trans ((va_up_ne _ _ (by first | decide | omega)).trans (by assumption)) | exact (va_up_ne _ _ (by first | decide | omega)).trans ((va_up_ne _ _ (by first | decide | omega)).trans (va_up_self _ _ _)) | exact (va_up_ne _ _ (by first | decide | omega)).trans ((va_up_ne _ _ (by first | decide | omega)).trans ((va_up_ne _ _ (by first | decide | omega)).trans (by assumption))) | exact (va_up_ne _ _ (by first | decide | omega)).trans ((va_up_ne _ _ (by first | decide | omega)).trans ((va_up_ne _ _ (by first | decide | omega)).trans ((va_up_ne _ _ (by first | decide | omega)).trans (by assumption)))) | exact rfl) rfl rfl (c_fallC hn Mr X W (by omega) (fun e => ⟨rfl, ?_⟩) (fun e1 e2 => ⟨rfl, ?_⟩) (fun e1 to e2 hp1 X1 F1 => ⟨rfl, ?_⟩))
  · show Gl L xs Q (64 + i) (300000 + 2 * K) 249 i [.int (-4)] hp n
    refine g_aload_n (pc' := 250) dL_law_249 rfl rfl ?_
    refine g_aload_n (pc' := 251) dL_law_250 rfl rfl ?_
    refine g_iload_n (pc' := 252) dL_law_251 rfl rfl ?_
    refine g_iconst (pc' := 253) (v := nI 1) dL_law_252 (by decide) ?_
    first | refine g_iaddN (pc' := 254) dL_law_253 ?_ | refine g_iadd (pc' := 254) dL_law_253 ?_
    refine g_sld (pc' := 255) rfl dL_law_254 (IX_nI (by omega) (by omega)) ?_
    refine gc_V 258 47 [.int (xs (i + 1))] [.int (-4)] cw_L_35 im_X8_fall se_X8_fall dL_law_255 (by decide) (by decide) (by show _ ≤ 600000; omega) (by show _ ≤ 7302249; omega) (Nat.le_of_ble_eq_true rfl) rfl (Nat.le_of_ble_eq_true rfl) (by omega) (by first | assumption | exact va_up_self _ _ _ | exact (va_up_ne _ _ (by first | decide | omega)).trans (by assumption) | exact (va_up_ne _ _ (by first | decide | omega)).trans (va_up_self _ _ _) | exact (va_up_ne _ _ (by first | decide | omega)).trans ((va_up_ne _ _ (by first | decide | omega)).trans (by assumption)) | exact (va_up_ne _ _ (by first | decide | omega)).trans ((va_up_ne _ _ (by first | decide | omega)).trans (va_up_self _ _ _)) | exact (va_up_ne _ _ (by first | decide | omega)).trans ((va_up_ne _ _ (by first | decide | omega)).trans ((va_up_ne _ _ (by first | decide | omega)).trans (by assumption))) | exact (va_up_ne _ _ (by first | decide | omega)).trans ((va_up_ne _ _ (by first | decide | omega)).trans ((va_up_ne _ _ (by first | decide | omega)).trans ((va_up_ne _ _ (by first | decide | omega)).trans (by assumption)))) | exact rfl) rfl rfl (c_fall hn M hs8 G0 (by omega) (fun _ => ⟨rfl, ?_⟩) (fun e1 => absurd e1 (bft e)) (fun e1 => absurd e1 (bft e)))
    refine g_icmp_eq (tgt := 564) (pc' := 261) dL_law_258 (by decide) (fun _ => ?_) (fun hne => absurd rfl hne)
    exact nx' hp n (LI_mk M X W (by omega) hn (by omega) hK)
  · show Gl L xs Q (64 + i) (300000 + 2 * K) 249 i [.int (-3)] hp n
    refine g_aload_n (pc' := 250) dL_law_249 rfl rfl ?_
    refine g_aload_n (pc' := 251) dL_law_250 rfl rfl ?_
    refine g_iload_n (pc' := 252) dL_law_251 rfl rfl ?_
    refine g_iconst (pc' := 253) (v := nI 1) dL_law_252 (by decide) ?_
    first | refine g_iaddN (pc' := 254) dL_law_253 ?_ | refine g_iadd (pc' := 254) dL_law_253 ?_
    refine g_sld (pc' := 255) rfl dL_law_254 (IX_nI (by omega) (by omega)) ?_
    refine gc_V 258 47 [.int (xs (i + 1))] [.int (-3)] cw_L_35 im_X8_fall se_X8_fall dL_law_255 (by decide) (by decide) (by show _ ≤ 600000; omega) (by show _ ≤ 7302249; omega) (Nat.le_of_ble_eq_true rfl) rfl (Nat.le_of_ble_eq_true rfl) (by omega) (by first | assumption | exact va_up_self _ _ _ | exact (va_up_ne _ _ (by first | decide | omega)).trans (by assumption) | exact (va_up_ne _ _ (by first | decide | omega)).trans (va_up_self _ _ _) | exact (va_up_ne _ _ (by first | decide | omega)).trans ((va_up_ne _ _ (by first | decide | omega)).trans (by assumption)) | exact (va_up_ne _ _ (by first | decide | omega)).trans ((va_up_ne _ _ (by first | decide | omega)).trans (va_up_self _ _ _)) | exact (va_up_ne _ _ (by first | decide | omega)).trans ((va_up_ne _ _ (by first | decide | omega)).trans ((va_up_ne _ _ (by first | decide | omega)).trans (by assumption))) | exact (va_up_ne _ _ (by first | decide | omega)).trans ((va_up_ne _ _ (by first | decide | omega)).trans ((va_up_ne _ _ (by first | decide | omega)).trans ((va_up_ne _ _ (by first | decide | omega)).trans (by assumption)))) | exact rfl) rfl rfl (c_fall hn M hs8 G0 (by omega) (fun e => absurd e1 (bft e)) (fun _ _ => ⟨rfl, ?_⟩) (fun _ to e3 => absurd (e2.symm.trans e3) (fun q => by cases q)))
    refine g_icmp_eq (tgt := 564) (pc' := 261) dL_law_258 (by decide) (fun _ => ?_) (fun hne => absurd rfl hne)
    exact nx' hp n (LI_mk M X W (by omega) hn (by omega) hK)
  · have M1 := MS_F F1 M
    obtain ⟨y8, y23, y31, d47, -⟩ := M1.2.1
    show Gl L xs Q (64 + i) (300000 + 2 * K) 249 i [.int (nI (td S to))] hp1 n
    refine g_aload_n (pc' := 250) dL_law_249 rfl rfl ?_
    refine g_aload_n (pc' := 251) dL_law_250 rfl rfl ?_
    refine g_iload_n (pc' := 252) dL_law_251 rfl rfl ?_
    refine g_iconst (pc' := 253) (v := nI 1) dL_law_252 (by decide) ?_
    first | refine g_iaddN (pc' := 254) dL_law_253 ?_ | refine g_iadd (pc' := 254) dL_law_253 ?_
    refine g_sld (pc' := 255) rfl dL_law_254 (IX_nI (by omega) (by omega)) ?_
    refine gc_V 258 47 [.int (xs (i + 1))] [.int (nI (td S to))] cw_L_35 im_X8_fall se_X8_fall dL_law_255 (by decide) (by decide) (by show _ ≤ 600000; omega) (by show _ ≤ 7302249; omega) (Nat.le_of_ble_eq_true rfl) rfl (Nat.le_of_ble_eq_true rfl) (by omega) (by first | assumption | exact va_up_self _ _ _ | exact (va_up_ne _ _ (by first | decide | omega)).trans (by assumption) | exact (va_up_ne _ _ (by first | decide | omega)).trans (va_up_self _ _ _) | exact (va_up_ne _ _ (by first | decide | omega)).trans ((va_up_ne _ _ (by first | decide | omega)).trans (by assumption)) | exact (va_up_ne _ _ (by first | decide | omega)).trans ((va_up_ne _ _ (by first | decide | omega)).trans (va_up_self _ _ _)) | exact (va_up_ne _ _ (by first | decide | omega)).trans ((va_up_ne _ _ (by first | decide | omega)).trans ((va_up_ne _ _ (by first | decide | omega)).trans (by assumption))) | exact (va_up_ne _ _ (by first | decide | omega)).trans ((va_up_ne _ _ (by first | decide | omega)).trans ((va_up_ne _ _ (by first | decide | omega)).trans ((va_up_ne _ _ (by first | decide | omega)).trans (by assumption)))) | exact rfl) rfl rfl (c_fall hn M1 hs8 G0 (by omega) (fun e => absurd e1 (bft e)) (fun _ e3 => absurd (e3.symm.trans e2) (fun q => by cases q)) (fun _ to2 e3 hp2 M2 F2 => ⟨rfl, ?_⟩))
    have q1 : to2 = to := Option.some.inj (e3.symm.trans e2)
    subst q1
    obtain ⟨eb, ho, hi9⟩ := mf_t e1
    have G1 := G0 eb
    obtain ⟨f1, f2, f3, f4⟩ := tl_f hT1 G1 ho hi9
    have hh := wh_h h2 h6 hD G1
    have zh := sz_of h2 h6 hD hh
    rw [f4] at e2
    obtain ⟨t1, t2⟩ := jfI_ok h2 h6 hD hh (by omega) e2
    refine g_icmp_eq (tgt := 564) (pc' := 261) dL_law_258 (by decide) (fun _ => ?_) (fun hne => absurd rfl hne)
    exact nx' hp2 n (LI_mk M2 (CS_F F2 X1) ⟨fun _ => ⟨WG_fall hT1 G1 ho t1 t2, fun q => by cases q⟩, fun q => by cases q⟩ (by omega) hn (by omega) hK)
theorem op_draw (hi : i + 4 ≤ L) (hL : L ≤ 2048) (I : LI i hp n K) (nx : ∀ (hp' : AH) (n' K' : Nat), LI (i + 4) hp' n' K' → Gl L xs Q (64 + (i + 4)) (300000 + 2 * K') 564 i [] hp' n') : Gl L xs Q (64 + i) (300000 + 2 * K) 263 i [] hp n := by
  obtain ⟨D, S, T, R, kd, nn, pp, bg, it, tt, s, sm, h, k, fl, lu, sl, kid, rd, M, X, W, hsm, hn, hn2, hK⟩ := I
  have nx' : ∀ (hp' : AH) (n' : Nat), LI (i + 4) hp' n' K → Gl L xs Q (64 + i) (300000 + 2 * K) 564 i [] hp' n' := fun hp' n' q => g_widen (by omega) (by omega) (nx hp' n' K q)
  have Mr := M.1
  have c0 := X.1
  obtain ⟨x8, x23, x31, c47, -⟩ := M.2.1
  have hs8 := WS_s Mr.2.2.2.2.2.2.1 W
  have hk31 := WS_k Mr.2.2.2.2.2.1 W
  have G0 : bg = true → WG D S T R it tt s h k := fun q => (W.1 q).1
  refine g_aload_n (pc' := 264) dL_law_263 rfl rfl ?_
  refine g_aload_n (pc' := 265) dL_law_264 rfl rfl ?_
  refine g_iload_n (pc' := 266) dL_law_265 rfl rfl ?_
  refine g_iconst (pc' := 267) (v := nI 1) dL_law_266 (by decide) ?_
  first | refine g_iaddN (pc' := 268) dL_law_267 ?_ | refine g_iadd (pc' := 268) dL_law_267 ?_
  refine g_sld (pc' := 269) rfl dL_law_268 (IX_nI (by omega) (by omega)) ?_
  obtain ⟨h2, h6, hD1, hD, hT1, hT3, hR, hRV⟩ := id Mr
  refine gc_V 272 0 [.int (xs (i + 1))] [] cw_L_36 im_X7_draw se_X7_draw dL_law_269 (by decide) (by decide) (by show _ ≤ 600000; omega) (by show _ ≤ 7302249; omega) (Nat.le_of_ble_eq_true rfl) rfl (Nat.le_of_ble_eq_true rfl) (by omega) (by first | assumption | exact va_up_self _ _ _ | exact (va_up_ne _ _ (by first | decide | omega)).trans (by assumption) | exact (va_up_ne _ _ (by first | decide | omega)).trans (va_up_self _ _ _) | exact (va_up_ne _ _ (by first | decide | omega)).trans ((va_up_ne _ _ (by first | decide | omega)).trans (by assumption)) | exact (va_up_ne _ _ (by first | decide | omega)).trans ((va_up_ne _ _ (by first | decide | omega)).trans (va_up_self _ _ _)) | exact (va_up_ne _ _ (by first | decide | omega)).trans ((va_up_ne _ _ (by first | decide | omega)).trans ((va_up_ne _ _ (by first | decide | omega)).trans (by assumption))) | exact (va_up_ne _ _ (by first | decide | omega)).trans ((va_up_ne _ _ (by first | decide | omega)).trans ((va_up_ne _ _ (by first | decide | omega)).trans ((va_up_ne _ _ (by first | decide | omega)).trans (by assumption)))) | exact rfl) rfl rfl (c_drawC DZ_dz hn Mr X W (by omega) (fun e => ⟨rfl, ?_⟩) (fun e1 to e2 hp1 X1 F1 => ⟨rfl, ?_⟩))
  · show Gl L xs Q (64 + i) (300000 + 2 * K) 272 i [.int (-4)] hp n
    refine g_aload_n (pc' := 273) dL_law_272 rfl rfl ?_
    refine g_aload_n (pc' := 274) dL_law_273 rfl rfl ?_
    refine g_iload_n (pc' := 275) dL_law_274 rfl rfl ?_
    refine g_iconst (pc' := 276) (v := nI 1) dL_law_275 (by decide) ?_
    first | refine g_iaddN (pc' := 277) dL_law_276 ?_ | refine g_iadd (pc' := 277) dL_law_276 ?_
    refine g_sld (pc' := 278) rfl dL_law_277 (IX_nI (by omega) (by omega)) ?_
    refine gc_V 281 47 [.int (xs (i + 1))] [.int (-4)] cw_L_39 im_X8_draw se_X8_draw dL_law_278 (by decide) (by decide) (by show _ ≤ 600000; omega) (by show _ ≤ 7302249; omega) (Nat.le_of_ble_eq_true rfl) rfl (Nat.le_of_ble_eq_true rfl) (by omega) (by first | assumption | exact va_up_self _ _ _ | exact (va_up_ne _ _ (by first | decide | omega)).trans (by assumption) | exact (va_up_ne _ _ (by first | decide | omega)).trans (va_up_self _ _ _) | exact (va_up_ne _ _ (by first | decide | omega)).trans ((va_up_ne _ _ (by first | decide | omega)).trans (by assumption)) | exact (va_up_ne _ _ (by first | decide | omega)).trans ((va_up_ne _ _ (by first | decide | omega)).trans (va_up_self _ _ _)) | exact (va_up_ne _ _ (by first | decide | omega)).trans ((va_up_ne _ _ (by first | decide | omega)).trans ((va_up_ne _ _ (by first | decide | omega)).trans (by assumption))) | exact (va_up_ne _ _ (by first | decide | omega)).trans ((va_up_ne _ _ (by first | decide | omega)).trans ((va_up_ne _ _ (by first | decide | omega)).trans ((va_up_ne _ _ (by first | decide | omega)).trans (by assumption)))) | exact rfl) rfl rfl (c_draw DZ_dz hn M hs8 G0 (by omega) (fun _ => ⟨rfl, ?_⟩) (fun e1 => absurd e1 (bft e)))
    refine g_icmp_eq (tgt := 564) (pc' := 284) dL_law_281 (by decide) (fun _ => ?_) (fun hne => absurd rfl hne)
    exact nx' hp n (LI_mk M X W (by omega) hn (by omega) hK)
  · have M1 := MS_F F1 M
    obtain ⟨y8, y23, y31, d47, -⟩ := M1.2.1
    show Gl L xs Q (64 + i) (300000 + 2 * K) 272 i [.int (nI (td S to))] hp1 n
    refine g_aload_n (pc' := 273) dL_law_272 rfl rfl ?_
    refine g_aload_n (pc' := 274) dL_law_273 rfl rfl ?_
    refine g_iload_n (pc' := 275) dL_law_274 rfl rfl ?_
    refine g_iconst (pc' := 276) (v := nI 1) dL_law_275 (by decide) ?_
    first | refine g_iaddN (pc' := 277) dL_law_276 ?_ | refine g_iadd (pc' := 277) dL_law_276 ?_
    refine g_sld (pc' := 278) rfl dL_law_277 (IX_nI (by omega) (by omega)) ?_
    refine gc_V 281 47 [.int (xs (i + 1))] [.int (nI (td S to))] cw_L_39 im_X8_draw se_X8_draw dL_law_278 (by decide) (by decide) (by show _ ≤ 600000; omega) (by show _ ≤ 7302249; omega) (Nat.le_of_ble_eq_true rfl) rfl (Nat.le_of_ble_eq_true rfl) (by omega) (by first | assumption | exact va_up_self _ _ _ | exact (va_up_ne _ _ (by first | decide | omega)).trans (by assumption) | exact (va_up_ne _ _ (by first | decide | omega)).trans (va_up_self _ _ _) | exact (va_up_ne _ _ (by first | decide | omega)).trans ((va_up_ne _ _ (by first | decide | omega)).trans (by assumption)) | exact (va_up_ne _ _ (by first | decide | omega)).trans ((va_up_ne _ _ (by first | decide | omega)).trans (va_up_self _ _ _)) | exact (va_up_ne _ _ (by first | decide | omega)).trans ((va_up_ne _ _ (by first | decide | omega)).trans ((va_up_ne _ _ (by first | decide | omega)).trans (by assumption))) | exact (va_up_ne _ _ (by first | decide | omega)).trans ((va_up_ne _ _ (by first | decide | omega)).trans ((va_up_ne _ _ (by first | decide | omega)).trans ((va_up_ne _ _ (by first | decide | omega)).trans (by assumption)))) | exact rfl) rfl rfl (c_draw DZ_dz hn M1 hs8 G0 (by omega) (fun e => absurd e1 (bft e)) (fun _ to2 e3 hp2 M2 F2 => ⟨rfl, ?_⟩))
    have q1 : to2 = to := e3.trans e2.symm
    subst q1
    obtain ⟨eb, ho, hi9⟩ := mf_t e1
    have G1 := G0 eb
    obtain ⟨f1, f2, f3, f4⟩ := tl_f hT1 G1 ho hi9
    have hh := wh_h h2 h6 hD G1
    have zh := sz_of h2 h6 hD hh
    rw [f4] at e2
    obtain ⟨t1, t2⟩ := dr_ok (zf := dz) (af := dn) h2 h6 hD (D - sz S h) h (xs (i + 1)) hh (by omega)
    rw [← e2] at t1 t2
    refine g_icmp_eq (tgt := 564) (pc' := 284) dL_law_281 (by decide) (fun _ => ?_) (fun hne => absurd rfl hne)
    exact nx' hp2 n (LI_mk M2 (CS_F F2 X1) ⟨fun _ => ⟨WG_fall hT1 G1 ho t1 t2, fun q => by cases q⟩, fun q => by cases q⟩ (by omega) hn (by omega) hK)
theorem op_hold (hi : i + 4 ≤ L) (hL : L ≤ 2048) (I : LI i hp n K) (nx : ∀ (hp' : AH) (n' K' : Nat), LI (i + 4) hp' n' K' → Gl L xs Q (64 + (i + 4)) (300000 + 2 * K') 564 i [] hp' n') : Gl L xs Q (64 + i) (300000 + 2 * K) 286 i [] hp n := by
  obtain ⟨D, S, T, R, kd, nn, pp, bg, it, tt, s, sm, h, k, fl, lu, sl, kid, rd, M, X, W, hsm, hn, hn2, hK⟩ := I
  have nx' : ∀ (hp' : AH) (n' : Nat), LI (i + 4) hp' n' K → Gl L xs Q (64 + i) (300000 + 2 * K) 564 i [] hp' n' := fun hp' n' q => g_widen (by omega) (by omega) (nx hp' n' K q)
  have Mr := M.1
  have c0 := X.1
  obtain ⟨x8, x23, x31, c47, -⟩ := M.2.1
  have hs8 := WS_s Mr.2.2.2.2.2.2.1 W
  have hk31 := WS_k Mr.2.2.2.2.2.1 W
  have G0 : bg = true → WG D S T R it tt s h k := fun q => (W.1 q).1
  refine g_aload_n (pc' := 287) dL_law_286 rfl rfl ?_
  refine g_aload_n (pc' := 288) dL_law_287 rfl rfl ?_
  refine g_iload_n (pc' := 289) dL_law_288 rfl rfl ?_
  refine g_iconst (pc' := 290) (v := nI 1) dL_law_289 (by decide) ?_
  first | refine g_iaddN (pc' := 291) dL_law_290 ?_ | refine g_iadd (pc' := 291) dL_law_290 ?_
  refine g_sld (pc' := 292) rfl dL_law_291 (IX_nI (by omega) (by omega)) ?_
  refine gc_V 295 0 [.int (xs (i + 1))] [] cw_L_40 im_X7_hold se_X7_hold dL_law_292 (by decide) (by decide) (by show _ ≤ 600000; omega) (by show _ ≤ 7302249; omega) (Nat.le_of_ble_eq_true rfl) rfl (Nat.le_of_ble_eq_true rfl) (by omega) (by first | assumption | exact va_up_self _ _ _ | exact (va_up_ne _ _ (by first | decide | omega)).trans (by assumption) | exact (va_up_ne _ _ (by first | decide | omega)).trans (va_up_self _ _ _) | exact (va_up_ne _ _ (by first | decide | omega)).trans ((va_up_ne _ _ (by first | decide | omega)).trans (by assumption)) | exact (va_up_ne _ _ (by first | decide | omega)).trans ((va_up_ne _ _ (by first | decide | omega)).trans (va_up_self _ _ _)) | exact (va_up_ne _ _ (by first | decide | omega)).trans ((va_up_ne _ _ (by first | decide | omega)).trans ((va_up_ne _ _ (by first | decide | omega)).trans (by assumption))) | exact (va_up_ne _ _ (by first | decide | omega)).trans ((va_up_ne _ _ (by first | decide | omega)).trans ((va_up_ne _ _ (by first | decide | omega)).trans ((va_up_ne _ _ (by first | decide | omega)).trans (by assumption)))) | exact rfl) rfl rfl (c_holdC hn Mr X W (by omega) (fun e => ⟨rfl, ?_⟩) (fun e1 e2 => ⟨rfl, ?_⟩) (fun e1 g e2 tt' h' k' et hp1 X1 W1 F1 => ⟨rfl, ?_⟩))
  · show Gl L xs Q (64 + i) (300000 + 2 * K) 295 i [.int (-4)] hp n
    refine g_aload_n (pc' := 296) dL_law_295 rfl rfl ?_
    refine g_aload_n (pc' := 297) dL_law_296 rfl rfl ?_
    refine g_iload_n (pc' := 298) dL_law_297 rfl rfl ?_
    refine g_iconst (pc' := 299) (v := nI 1) dL_law_298 (by decide) ?_
    first | refine g_iaddN (pc' := 300) dL_law_299 ?_ | refine g_iadd (pc' := 300) dL_law_299 ?_
    refine g_sld (pc' := 301) rfl dL_law_300 (IX_nI (by omega) (by omega)) ?_
    refine gc_V 304 47 [.int (xs (i + 1))] [.int (-4)] cw_L_43 im_X8_hold se_X8_hold dL_law_301 (by decide) (by decide) (by show _ ≤ 600000; omega) (by show _ ≤ 7302249; omega) (Nat.le_of_ble_eq_true rfl) rfl (Nat.le_of_ble_eq_true rfl) (by omega) (by first | assumption | exact va_up_self _ _ _ | exact (va_up_ne _ _ (by first | decide | omega)).trans (by assumption) | exact (va_up_ne _ _ (by first | decide | omega)).trans (va_up_self _ _ _) | exact (va_up_ne _ _ (by first | decide | omega)).trans ((va_up_ne _ _ (by first | decide | omega)).trans (by assumption)) | exact (va_up_ne _ _ (by first | decide | omega)).trans ((va_up_ne _ _ (by first | decide | omega)).trans (va_up_self _ _ _)) | exact (va_up_ne _ _ (by first | decide | omega)).trans ((va_up_ne _ _ (by first | decide | omega)).trans ((va_up_ne _ _ (by first | decide | omega)).trans (by assumption))) | exact (va_up_ne _ _ (by first | decide | omega)).trans ((va_up_ne _ _ (by first | decide | omega)).trans ((va_up_ne _ _ (by first | decide | omega)).trans ((va_up_ne _ _ (by first | decide | omega)).trans (by assumption)))) | exact rfl) rfl rfl (c_hold hn M hk31 G0 (by omega) (fun _ => ⟨rfl, ?_⟩) (fun e1 => absurd e1 (bft e)) (fun e1 => absurd e1 (bft e)))
    refine g_icmp_eq (tgt := 564) (pc' := 307) dL_law_304 (by decide) (fun _ => ?_) (fun hne => absurd rfl hne)
    exact nx' hp n (LI_mk M X W (by omega) hn (by omega) hK)
  · show Gl L xs Q (64 + i) (300000 + 2 * K) 295 i [.int (-3)] hp n
    refine g_aload_n (pc' := 296) dL_law_295 rfl rfl ?_
    refine g_aload_n (pc' := 297) dL_law_296 rfl rfl ?_
    refine g_iload_n (pc' := 298) dL_law_297 rfl rfl ?_
    refine g_iconst (pc' := 299) (v := nI 1) dL_law_298 (by decide) ?_
    first | refine g_iaddN (pc' := 300) dL_law_299 ?_ | refine g_iadd (pc' := 300) dL_law_299 ?_
    refine g_sld (pc' := 301) rfl dL_law_300 (IX_nI (by omega) (by omega)) ?_
    refine gc_V 304 47 [.int (xs (i + 1))] [.int (-3)] cw_L_43 im_X8_hold se_X8_hold dL_law_301 (by decide) (by decide) (by show _ ≤ 600000; omega) (by show _ ≤ 7302249; omega) (Nat.le_of_ble_eq_true rfl) rfl (Nat.le_of_ble_eq_true rfl) (by omega) (by first | assumption | exact va_up_self _ _ _ | exact (va_up_ne _ _ (by first | decide | omega)).trans (by assumption) | exact (va_up_ne _ _ (by first | decide | omega)).trans (va_up_self _ _ _) | exact (va_up_ne _ _ (by first | decide | omega)).trans ((va_up_ne _ _ (by first | decide | omega)).trans (by assumption)) | exact (va_up_ne _ _ (by first | decide | omega)).trans ((va_up_ne _ _ (by first | decide | omega)).trans (va_up_self _ _ _)) | exact (va_up_ne _ _ (by first | decide | omega)).trans ((va_up_ne _ _ (by first | decide | omega)).trans ((va_up_ne _ _ (by first | decide | omega)).trans (by assumption))) | exact (va_up_ne _ _ (by first | decide | omega)).trans ((va_up_ne _ _ (by first | decide | omega)).trans ((va_up_ne _ _ (by first | decide | omega)).trans ((va_up_ne _ _ (by first | decide | omega)).trans (by assumption)))) | exact rfl) rfl rfl (c_hold hn M hk31 G0 (by omega) (fun e => absurd e1 (bft e)) (fun _ _ => ⟨rfl, ?_⟩) (fun _ g e3 => absurd (e2.symm.trans e3) (fun q => by cases q)))
    refine g_icmp_eq (tgt := 564) (pc' := 307) dL_law_304 (by decide) (fun _ => ?_) (fun hne => absurd rfl hne)
    exact nx' hp n (LI_mk M X W (by omega) hn (by omega) hK)
  · have M1 := MS_F F1 M
    obtain ⟨y8, y23, y31, d47, -⟩ := M1.2.1
    show Gl L xs Q (64 + i) (300000 + 2 * K) 295 i [.int (nI (D - sz S g))] hp1 n
    refine g_aload_n (pc' := 296) dL_law_295 rfl rfl ?_
    refine g_aload_n (pc' := 297) dL_law_296 rfl rfl ?_
    refine g_iload_n (pc' := 298) dL_law_297 rfl rfl ?_
    refine g_iconst (pc' := 299) (v := nI 1) dL_law_298 (by decide) ?_
    first | refine g_iaddN (pc' := 300) dL_law_299 ?_ | refine g_iadd (pc' := 300) dL_law_299 ?_
    refine g_sld (pc' := 301) rfl dL_law_300 (IX_nI (by omega) (by omega)) ?_
    refine gc_V 304 47 [.int (xs (i + 1))] [.int (nI (D - sz S g))] cw_L_43 im_X8_hold se_X8_hold dL_law_301 (by decide) (by decide) (by show _ ≤ 600000; omega) (by show _ ≤ 7302249; omega) (Nat.le_of_ble_eq_true rfl) rfl (Nat.le_of_ble_eq_true rfl) (by omega) (by first | assumption | exact va_up_self _ _ _ | exact (va_up_ne _ _ (by first | decide | omega)).trans (by assumption) | exact (va_up_ne _ _ (by first | decide | omega)).trans (va_up_self _ _ _) | exact (va_up_ne _ _ (by first | decide | omega)).trans ((va_up_ne _ _ (by first | decide | omega)).trans (by assumption)) | exact (va_up_ne _ _ (by first | decide | omega)).trans ((va_up_ne _ _ (by first | decide | omega)).trans (va_up_self _ _ _)) | exact (va_up_ne _ _ (by first | decide | omega)).trans ((va_up_ne _ _ (by first | decide | omega)).trans ((va_up_ne _ _ (by first | decide | omega)).trans (by assumption))) | exact (va_up_ne _ _ (by first | decide | omega)).trans ((va_up_ne _ _ (by first | decide | omega)).trans ((va_up_ne _ _ (by first | decide | omega)).trans ((va_up_ne _ _ (by first | decide | omega)).trans (by assumption)))) | exact rfl) rfl rfl (c_hold hn M1 hk31 G0 (by omega) (fun e => absurd e1 (bft e)) (fun _ e3 => absurd (e3.symm.trans e2) (fun q => by cases q)) (fun _ g2 e3 tt2 h2' k2 et2 hp2 M2 F2 => ⟨rfl, ?_⟩))
    have q1 : g2 = g := Option.some.inj (e3.symm.trans e2)
    subst q1
    have q2 : (tt2, h2', k2) = (tt', h', k') := et2.trans et.symm
    cases q2
    refine g_icmp_eq (tgt := 564) (pc' := 307) dL_law_304 (by decide) (fun _ => ?_) (fun hne => absurd rfl hne)
    exact nx' hp2 n (LI_mk M2 (CS_F F2 X1) W1 (by omega) hn (by omega) hK)
theorem op_fill (hi : i + 4 ≤ L) (hL : L ≤ 2048) (I : LI i hp n K) (nx : ∀ (hp' : AH) (n' K' : Nat), LI (i + 4) hp' n' K' → Gl L xs Q (64 + (i + 4)) (300000 + 2 * K') 564 i [] hp' n') : Gl L xs Q (64 + i) (300000 + 2 * K) 309 i [] hp n := by
  obtain ⟨D, S, T, R, kd, nn, pp, bg, it, tt, s, sm, h, k, fl, lu, sl, kid, rd, M, X, W, hsm, hn, hn2, hK⟩ := I
  have nx' : ∀ (hp' : AH) (n' : Nat), LI (i + 4) hp' n' K → Gl L xs Q (64 + i) (300000 + 2 * K) 564 i [] hp' n' := fun hp' n' q => g_widen (by omega) (by omega) (nx hp' n' K q)
  have Mr := M.1
  have c0 := X.1
  obtain ⟨x8, x23, x31, c47, -⟩ := M.2.1
  have hs8 := WS_s Mr.2.2.2.2.2.2.1 W
  have hk31 := WS_k Mr.2.2.2.2.2.1 W
  have G0 : bg = true → WG D S T R it tt s h k := fun q => (W.1 q).1
  refine g_aload_n (pc' := 310) dL_law_309 rfl rfl ?_
  refine g_aload_n (pc' := 311) dL_law_310 rfl rfl ?_
  refine g_iload_n (pc' := 312) dL_law_311 rfl rfl ?_
  refine g_iconst (pc' := 313) (v := nI 1) dL_law_312 (by decide) ?_
  first | refine g_iaddN (pc' := 314) dL_law_313 ?_ | refine g_iadd (pc' := 314) dL_law_313 ?_
  refine g_sld (pc' := 315) rfl dL_law_314 (IX_nI (by omega) (by omega)) ?_
  have hR8 := Mr.2.2.2.2.2.2.1
  refine gc_V 318 0 [.int (xs (i + 1))] [] cw_L_44 im_X7_fill se_X7_fill dL_law_315 (by decide) (by decide) (by show _ ≤ 600000; omega) (by show _ ≤ 7302249; omega) (Nat.le_of_ble_eq_true rfl) rfl (Nat.le_of_ble_eq_true rfl) (by omega) (by first | assumption | exact va_up_self _ _ _ | exact (va_up_ne _ _ (by first | decide | omega)).trans (by assumption) | exact (va_up_ne _ _ (by first | decide | omega)).trans (va_up_self _ _ _) | exact (va_up_ne _ _ (by first | decide | omega)).trans ((va_up_ne _ _ (by first | decide | omega)).trans (by assumption)) | exact (va_up_ne _ _ (by first | decide | omega)).trans ((va_up_ne _ _ (by first | decide | omega)).trans (va_up_self _ _ _)) | exact (va_up_ne _ _ (by first | decide | omega)).trans ((va_up_ne _ _ (by first | decide | omega)).trans ((va_up_ne _ _ (by first | decide | omega)).trans (by assumption))) | exact (va_up_ne _ _ (by first | decide | omega)).trans ((va_up_ne _ _ (by first | decide | omega)).trans ((va_up_ne _ _ (by first | decide | omega)).trans ((va_up_ne _ _ (by first | decide | omega)).trans (by assumption)))) | exact rfl) rfl rfl (c_fillC hn Mr X W hs8 (by omega) (fun e => ⟨rfl, ?_⟩) (fun r hr ex e => ⟨rfl, ?_⟩) (fun r hr ex e hp1 X1 F1 => ⟨rfl, ?_⟩))
  · show Gl L xs Q (64 + i) (300000 + 2 * K) 318 i [.int (-2)] hp n
    refine g_aload_n (pc' := 319) dL_law_318 rfl rfl ?_
    refine g_aload_n (pc' := 320) dL_law_319 rfl rfl ?_
    refine g_iload_n (pc' := 321) dL_law_320 rfl rfl ?_
    refine g_iconst (pc' := 322) (v := nI 1) dL_law_321 (by decide) ?_
    first | refine g_iaddN (pc' := 323) dL_law_322 ?_ | refine g_iadd (pc' := 323) dL_law_322 ?_
    refine g_sld (pc' := 324) rfl dL_law_323 (IX_nI (by omega) (by omega)) ?_
    refine gc_V 327 47 [.int (xs (i + 1))] [.int (-2)] cw_L_47 im_X8_fill se_X8_fill dL_law_324 (by decide) (by decide) (by show _ ≤ 600000; omega) (by show _ ≤ 7302249; omega) (Nat.le_of_ble_eq_true rfl) rfl (Nat.le_of_ble_eq_true rfl) (by omega) (by first | assumption | exact va_up_self _ _ _ | exact (va_up_ne _ _ (by first | decide | omega)).trans (by assumption) | exact (va_up_ne _ _ (by first | decide | omega)).trans (va_up_self _ _ _) | exact (va_up_ne _ _ (by first | decide | omega)).trans ((va_up_ne _ _ (by first | decide | omega)).trans (by assumption)) | exact (va_up_ne _ _ (by first | decide | omega)).trans ((va_up_ne _ _ (by first | decide | omega)).trans (va_up_self _ _ _)) | exact (va_up_ne _ _ (by first | decide | omega)).trans ((va_up_ne _ _ (by first | decide | omega)).trans ((va_up_ne _ _ (by first | decide | omega)).trans (by assumption))) | exact (va_up_ne _ _ (by first | decide | omega)).trans ((va_up_ne _ _ (by first | decide | omega)).trans ((va_up_ne _ _ (by first | decide | omega)).trans ((va_up_ne _ _ (by first | decide | omega)).trans (by assumption)))) | exact rfl) rfl rfl (c_fill hn M hs8 G0 (by omega) (fun _ => ⟨rfl, ?_⟩) (fun r hr ex _ => absurd (show rwB R (xs (i + 1)) = true by rw [ex]; exact rwB_of hR8 hr) (bft e)) (fun r hr ex _ _ _ _ => absurd (show rwB R (xs (i + 1)) = true by rw [ex]; exact rwB_of hR8 hr) (bft e)))
    refine g_icmp_eq (tgt := 564) (pc' := 330) dL_law_327 (by decide) (fun _ => ?_) (fun hne => absurd rfl hne)
    exact nx' hp n (LI_mk M X W (by omega) hn (by omega) hK)
  · show Gl L xs Q (64 + i) (300000 + 2 * K) 318 i [.int (-4)] hp n
    refine g_aload_n (pc' := 319) dL_law_318 rfl rfl ?_
    refine g_aload_n (pc' := 320) dL_law_319 rfl rfl ?_
    refine g_iload_n (pc' := 321) dL_law_320 rfl rfl ?_
    refine g_iconst (pc' := 322) (v := nI 1) dL_law_321 (by decide) ?_
    first | refine g_iaddN (pc' := 323) dL_law_322 ?_ | refine g_iadd (pc' := 323) dL_law_322 ?_
    refine g_sld (pc' := 324) rfl dL_law_323 (IX_nI (by omega) (by omega)) ?_
    refine gc_V 327 47 [.int (xs (i + 1))] [.int (-4)] cw_L_47 im_X8_fill se_X8_fill dL_law_324 (by decide) (by decide) (by show _ ≤ 600000; omega) (by show _ ≤ 7302249; omega) (Nat.le_of_ble_eq_true rfl) rfl (Nat.le_of_ble_eq_true rfl) (by omega) (by first | assumption | exact va_up_self _ _ _ | exact (va_up_ne _ _ (by first | decide | omega)).trans (by assumption) | exact (va_up_ne _ _ (by first | decide | omega)).trans (va_up_self _ _ _) | exact (va_up_ne _ _ (by first | decide | omega)).trans ((va_up_ne _ _ (by first | decide | omega)).trans (by assumption)) | exact (va_up_ne _ _ (by first | decide | omega)).trans ((va_up_ne _ _ (by first | decide | omega)).trans (va_up_self _ _ _)) | exact (va_up_ne _ _ (by first | decide | omega)).trans ((va_up_ne _ _ (by first | decide | omega)).trans ((va_up_ne _ _ (by first | decide | omega)).trans (by assumption))) | exact (va_up_ne _ _ (by first | decide | omega)).trans ((va_up_ne _ _ (by first | decide | omega)).trans ((va_up_ne _ _ (by first | decide | omega)).trans ((va_up_ne _ _ (by first | decide | omega)).trans (by assumption)))) | exact rfl) rfl rfl (c_fill hn M hs8 G0 (by omega) (fun e9 => absurd (show rwB R (xs (i + 1)) = true by rw [ex]; exact rwB_of hR8 hr) (bft e9)) (fun _ _ _ _ => ⟨rfl, ?_⟩) (fun r2 hr2 ex2 e2 _ _ _ => False.elim (by have q1 : r2 = r := (nI_eq (by omega) (by omega)).mp (ex2.symm.trans ex); subst q1; exact absurd e2 (bft e))))
    refine g_icmp_eq (tgt := 564) (pc' := 330) dL_law_327 (by decide) (fun _ => ?_) (fun hne => absurd rfl hne)
    exact nx' hp n (LI_mk M X W (by omega) hn (by omega) hK)
  · have M1 := MS_F F1 M
    obtain ⟨y8, y23, y31, d47, -⟩ := M1.2.1
    show Gl L xs Q (64 + i) (300000 + 2 * K) 318 i [.int (nI (Pf kd nn pp S r h))] hp1 n
    refine g_aload_n (pc' := 319) dL_law_318 rfl rfl ?_
    refine g_aload_n (pc' := 320) dL_law_319 rfl rfl ?_
    refine g_iload_n (pc' := 321) dL_law_320 rfl rfl ?_
    refine g_iconst (pc' := 322) (v := nI 1) dL_law_321 (by decide) ?_
    first | refine g_iaddN (pc' := 323) dL_law_322 ?_ | refine g_iadd (pc' := 323) dL_law_322 ?_
    refine g_sld (pc' := 324) rfl dL_law_323 (IX_nI (by omega) (by omega)) ?_
    refine gc_V 327 47 [.int (xs (i + 1))] [.int (nI (Pf kd nn pp S r h))] cw_L_47 im_X8_fill se_X8_fill dL_law_324 (by decide) (by decide) (by show _ ≤ 600000; omega) (by show _ ≤ 7302249; omega) (Nat.le_of_ble_eq_true rfl) rfl (Nat.le_of_ble_eq_true rfl) (by omega) (by first | assumption | exact va_up_self _ _ _ | exact (va_up_ne _ _ (by first | decide | omega)).trans (by assumption) | exact (va_up_ne _ _ (by first | decide | omega)).trans (va_up_self _ _ _) | exact (va_up_ne _ _ (by first | decide | omega)).trans ((va_up_ne _ _ (by first | decide | omega)).trans (by assumption)) | exact (va_up_ne _ _ (by first | decide | omega)).trans ((va_up_ne _ _ (by first | decide | omega)).trans (va_up_self _ _ _)) | exact (va_up_ne _ _ (by first | decide | omega)).trans ((va_up_ne _ _ (by first | decide | omega)).trans ((va_up_ne _ _ (by first | decide | omega)).trans (by assumption))) | exact (va_up_ne _ _ (by first | decide | omega)).trans ((va_up_ne _ _ (by first | decide | omega)).trans ((va_up_ne _ _ (by first | decide | omega)).trans ((va_up_ne _ _ (by first | decide | omega)).trans (by assumption)))) | exact rfl) rfl rfl (c_fill hn M1 hs8 G0 (by omega) (fun e9 => absurd (show rwB R (xs (i + 1)) = true by rw [ex]; exact rwB_of hR8 hr) (bft e9)) (fun r2 hr2 ex2 e2 => False.elim (by have q1 : r2 = r := (nI_eq (by omega) (by omega)).mp (ex2.symm.trans ex); subst q1; exact absurd e (bft e2))) (fun r2 hr2 ex2 e2 hp2 M2 F2 => ⟨rfl, ?_⟩))
    have q1 : r2 = r := (nI_eq (by omega) (by omega)).mp (ex2.symm.trans ex)
    subst q1
    have hp9 := Pf_le (S := S) Mr.2.2.2.2.2.2.2 hr2 (x := h)
    have eb : bg = true := by cases bg <;> simp_all
    have G1 := G0 eb
    refine g_icmp_eq (tgt := 564) (pc' := 330) dL_law_327 (by decide) (fun _ => ?_) (fun hne => absurd rfl hne)
    exact nx' hp2 n (LI_mk M2 (CS_F F2 X1) ⟨fun _ => ⟨⟨or_ltR G1.1 hr2, fun q => by (cases q), fun _ => ⟨rfl, rfl, rfl⟩⟩, fun q => by cases q⟩, fun q => by cases q⟩ (by omega) hn (by omega) hK)
theorem op_unit (hi : i + 4 ≤ L) (hL : L ≤ 2048) (I : LI i hp n K) (nx : ∀ (hp' : AH) (n' K' : Nat), LI (i + 4) hp' n' K' → Gl L xs Q (64 + (i + 4)) (300000 + 2 * K') 564 i [] hp' n') : Gl L xs Q (64 + i) (300000 + 2 * K) 332 i [] hp n := by
  obtain ⟨D, S, T, R, kd, nn, pp, bg, it, tt, s, sm, h, k, fl, lu, sl, kid, rd, M, X, W, hsm, hn, hn2, hK⟩ := I
  have nx' : ∀ (hp' : AH) (n' : Nat), LI (i + 4) hp' n' K → Gl L xs Q (64 + i) (300000 + 2 * K) 564 i [] hp' n' := fun hp' n' q => g_widen (by omega) (by omega) (nx hp' n' K q)
  have Mr := M.1
  have c0 := X.1
  obtain ⟨x8, x23, x31, c47, -⟩ := M.2.1
  have hs8 := WS_s Mr.2.2.2.2.2.2.1 W
  have hk31 := WS_k Mr.2.2.2.2.2.1 W
  have G0 : bg = true → WG D S T R it tt s h k := fun q => (W.1 q).1
  refine g_aload_n (pc' := 333) dL_law_332 rfl rfl ?_
  refine gc_V 336 0 [] [] cw_L_48 im_X7_unit se_X7_unit dL_law_333 (by decide) (by decide) (by show _ ≤ 600000; omega) (by show _ ≤ 7302249; omega) (Nat.le_of_ble_eq_true rfl) rfl (Nat.le_of_ble_eq_true rfl) (by omega) (by first | assumption | exact va_up_self _ _ _ | exact (va_up_ne _ _ (by first | decide | omega)).trans (by assumption) | exact (va_up_ne _ _ (by first | decide | omega)).trans (va_up_self _ _ _) | exact (va_up_ne _ _ (by first | decide | omega)).trans ((va_up_ne _ _ (by first | decide | omega)).trans (by assumption)) | exact (va_up_ne _ _ (by first | decide | omega)).trans ((va_up_ne _ _ (by first | decide | omega)).trans (va_up_self _ _ _)) | exact (va_up_ne _ _ (by first | decide | omega)).trans ((va_up_ne _ _ (by first | decide | omega)).trans ((va_up_ne _ _ (by first | decide | omega)).trans (by assumption))) | exact (va_up_ne _ _ (by first | decide | omega)).trans ((va_up_ne _ _ (by first | decide | omega)).trans ((va_up_ne _ _ (by first | decide | omega)).trans ((va_up_ne _ _ (by first | decide | omega)).trans (by assumption)))) | exact rfl) rfl rfl (c_unitC hn Mr X W ⟨rfl, ?_⟩)
  show Gl L xs Q (64 + i) (300000 + 2 * K) 336 i [.long (if bg then lN (uhN D S T R it s k) else -4)] hp n
  refine g_aload_n (pc' := 337) dL_law_336 rfl rfl ?_
  refine gc_V 340 47 [] [.long (if bg then lN (uhN D S T R it s k) else -4)] cw_L_52 im_X8_unit se_X8_unit dL_law_337 (by decide) (by decide) (by show _ ≤ 600000; omega) (by show _ ≤ 7302249; omega) (Nat.le_of_ble_eq_true rfl) rfl (Nat.le_of_ble_eq_true rfl) (by omega) (by first | assumption | exact va_up_self _ _ _ | exact (va_up_ne _ _ (by first | decide | omega)).trans (by assumption) | exact (va_up_ne _ _ (by first | decide | omega)).trans (va_up_self _ _ _) | exact (va_up_ne _ _ (by first | decide | omega)).trans ((va_up_ne _ _ (by first | decide | omega)).trans (by assumption)) | exact (va_up_ne _ _ (by first | decide | omega)).trans ((va_up_ne _ _ (by first | decide | omega)).trans (va_up_self _ _ _)) | exact (va_up_ne _ _ (by first | decide | omega)).trans ((va_up_ne _ _ (by first | decide | omega)).trans ((va_up_ne _ _ (by first | decide | omega)).trans (by assumption))) | exact (va_up_ne _ _ (by first | decide | omega)).trans ((va_up_ne _ _ (by first | decide | omega)).trans ((va_up_ne _ _ (by first | decide | omega)).trans ((va_up_ne _ _ (by first | decide | omega)).trans (by assumption)))) | exact rfl) rfl rfl (c_unit hn M G0 ⟨rfl, ?_⟩)
  refine g_lcmp (pc' := 341) dL_law_340 ?_
  refine g_if_eq (tgt := 564) (pc' := 344) dL_law_341 (by decide) (fun _ => ?_) (fun hne => absurd ((lg_eq0 _ _).mpr rfl) hne)
  exact nx' hp n (LI_mk M X W (by omega) hn (by omega) hK)
theorem op_worth (hi : i + 4 ≤ L) (hL : L ≤ 2048) (I : LI i hp n K) (nx : ∀ (hp' : AH) (n' K' : Nat), LI (i + 4) hp' n' K' → Gl L xs Q (64 + (i + 4)) (300000 + 2 * K') 564 i [] hp' n') : Gl L xs Q (64 + i) (300000 + 2 * K) 346 i [] hp n := by
  obtain ⟨D, S, T, R, kd, nn, pp, bg, it, tt, s, sm, h, k, fl, lu, sl, kid, rd, M, X, W, hsm, hn, hn2, hK⟩ := I
  have nx' : ∀ (hp' : AH) (n' : Nat), LI (i + 4) hp' n' K → Gl L xs Q (64 + i) (300000 + 2 * K) 564 i [] hp' n' := fun hp' n' q => g_widen (by omega) (by omega) (nx hp' n' K q)
  have Mr := M.1
  have c0 := X.1
  obtain ⟨x8, x23, x31, c47, -⟩ := M.2.1
  have hs8 := WS_s Mr.2.2.2.2.2.2.1 W
  have hk31 := WS_k Mr.2.2.2.2.2.1 W
  have G0 : bg = true → WG D S T R it tt s h k := fun q => (W.1 q).1
  refine g_aload_n (pc' := 347) dL_law_346 rfl rfl ?_
  refine gc_V 350 0 [] [] cw_L_53 im_X7_worth se_X7_worth dL_law_347 (by decide) (by decide) (by show _ ≤ 600000; omega) (by show _ ≤ 7302249; omega) (Nat.le_of_ble_eq_true rfl) rfl (Nat.le_of_ble_eq_true rfl) (by omega) (by first | assumption | exact va_up_self _ _ _ | exact (va_up_ne _ _ (by first | decide | omega)).trans (by assumption) | exact (va_up_ne _ _ (by first | decide | omega)).trans (va_up_self _ _ _) | exact (va_up_ne _ _ (by first | decide | omega)).trans ((va_up_ne _ _ (by first | decide | omega)).trans (by assumption)) | exact (va_up_ne _ _ (by first | decide | omega)).trans ((va_up_ne _ _ (by first | decide | omega)).trans (va_up_self _ _ _)) | exact (va_up_ne _ _ (by first | decide | omega)).trans ((va_up_ne _ _ (by first | decide | omega)).trans ((va_up_ne _ _ (by first | decide | omega)).trans (by assumption))) | exact (va_up_ne _ _ (by first | decide | omega)).trans ((va_up_ne _ _ (by first | decide | omega)).trans ((va_up_ne _ _ (by first | decide | omega)).trans ((va_up_ne _ _ (by first | decide | omega)).trans (by assumption)))) | exact rfl) rfl rfl (c_worthC hn Mr X W ⟨rfl, ?_⟩)
  show Gl L xs Q (64 + i) (300000 + 2 * K) 350 i [.long (if bg then lN (whN D S T R (Pf kd nn pp S) it tt s h k) else -4)] hp n
  refine g_aload_n (pc' := 351) dL_law_350 rfl rfl ?_
  refine gc_V 354 47 [] [.long (if bg then lN (whN D S T R (Pf kd nn pp S) it tt s h k) else -4)] cw_L_56 im_X8_worth se_X8_worth dL_law_351 (by decide) (by decide) (by show _ ≤ 600000; omega) (by show _ ≤ 7302249; omega) (Nat.le_of_ble_eq_true rfl) rfl (Nat.le_of_ble_eq_true rfl) (by omega) (by first | assumption | exact va_up_self _ _ _ | exact (va_up_ne _ _ (by first | decide | omega)).trans (by assumption) | exact (va_up_ne _ _ (by first | decide | omega)).trans (va_up_self _ _ _) | exact (va_up_ne _ _ (by first | decide | omega)).trans ((va_up_ne _ _ (by first | decide | omega)).trans (by assumption)) | exact (va_up_ne _ _ (by first | decide | omega)).trans ((va_up_ne _ _ (by first | decide | omega)).trans (va_up_self _ _ _)) | exact (va_up_ne _ _ (by first | decide | omega)).trans ((va_up_ne _ _ (by first | decide | omega)).trans ((va_up_ne _ _ (by first | decide | omega)).trans (by assumption))) | exact (va_up_ne _ _ (by first | decide | omega)).trans ((va_up_ne _ _ (by first | decide | omega)).trans ((va_up_ne _ _ (by first | decide | omega)).trans ((va_up_ne _ _ (by first | decide | omega)).trans (by assumption)))) | exact rfl) rfl rfl (c_worth hn M G0 (fun hp2 M2 F2 => ⟨rfl, ?_⟩))
  refine g_lcmp (pc' := 355) dL_law_354 ?_
  refine g_if_eq (tgt := 564) (pc' := 358) dL_law_355 (by decide) (fun _ => ?_) (fun hne => absurd ((lg_eq0 _ _).mpr rfl) hne)
  exact nx' hp2 n (LI_mk M2 (CS_F F2 X) W (by omega) hn (by omega) hK)
theorem op_worthOf (hi : i + 4 ≤ L) (hL : L ≤ 2048) (I : LI i hp n K) (nx : ∀ (hp' : AH) (n' K' : Nat), LI (i + 4) hp' n' K' → Gl L xs Q (64 + (i + 4)) (300000 + 2 * K') 564 i [] hp' n') : Gl L xs Q (64 + i) (300000 + 2 * K) 360 i [] hp n := by
  obtain ⟨D, S, T, R, kd, nn, pp, bg, it, tt, s, sm, h, k, fl, lu, sl, kid, rd, M, X, W, hsm, hn, hn2, hK⟩ := I
  have nx' : ∀ (hp' : AH) (n' : Nat), LI (i + 4) hp' n' K → Gl L xs Q (64 + i) (300000 + 2 * K) 564 i [] hp' n' := fun hp' n' q => g_widen (by omega) (by omega) (nx hp' n' K q)
  have Mr := M.1
  have c0 := X.1
  obtain ⟨x8, x23, x31, c47, -⟩ := M.2.1
  have hs8 := WS_s Mr.2.2.2.2.2.2.1 W
  have hk31 := WS_k Mr.2.2.2.2.2.1 W
  have G0 : bg = true → WG D S T R it tt s h k := fun q => (W.1 q).1
  refine g_aload_n (pc' := 361) dL_law_360 rfl rfl ?_
  refine g_aload_n (pc' := 362) dL_law_361 rfl rfl ?_
  refine g_iload_n (pc' := 363) dL_law_362 rfl rfl ?_
  refine g_iconst (pc' := 364) (v := nI 1) dL_law_363 (by decide) ?_
  first | refine g_iaddN (pc' := 365) dL_law_364 ?_ | refine g_iadd (pc' := 365) dL_law_364 ?_
  refine g_sld (pc' := 366) rfl dL_law_365 (IX_nI (by omega) (by omega)) ?_
  refine gc_V 369 0 [.int (xs (i + 1))] [] cw_L_57 im_X7_worthOf se_X7_worthOf dL_law_366 (by decide) (by decide) (by show _ ≤ 600000; omega) (by show _ ≤ 7302249; omega) (Nat.le_of_ble_eq_true rfl) rfl (Nat.le_of_ble_eq_true rfl) (by omega) (by first | assumption | exact va_up_self _ _ _ | exact (va_up_ne _ _ (by first | decide | omega)).trans (by assumption) | exact (va_up_ne _ _ (by first | decide | omega)).trans (va_up_self _ _ _) | exact (va_up_ne _ _ (by first | decide | omega)).trans ((va_up_ne _ _ (by first | decide | omega)).trans (by assumption)) | exact (va_up_ne _ _ (by first | decide | omega)).trans ((va_up_ne _ _ (by first | decide | omega)).trans (va_up_self _ _ _)) | exact (va_up_ne _ _ (by first | decide | omega)).trans ((va_up_ne _ _ (by first | decide | omega)).trans ((va_up_ne _ _ (by first | decide | omega)).trans (by assumption))) | exact (va_up_ne _ _ (by first | decide | omega)).trans ((va_up_ne _ _ (by first | decide | omega)).trans ((va_up_ne _ _ (by first | decide | omega)).trans ((va_up_ne _ _ (by first | decide | omega)).trans (by assumption)))) | exact rfl) rfl rfl (c_worthOfC hn Mr X W (fun e => ⟨rfl, ?_⟩) (fun e1 e2 => ⟨rfl, ?_⟩) (fun e1 g e2 => ⟨rfl, ?_⟩))
  · show Gl L xs Q (64 + i) (300000 + 2 * K) 369 i [.long (-4)] hp n
    refine g_aload_n (pc' := 370) dL_law_369 rfl rfl ?_
    refine g_aload_n (pc' := 371) dL_law_370 rfl rfl ?_
    refine g_iload_n (pc' := 372) dL_law_371 rfl rfl ?_
    refine g_iconst (pc' := 373) (v := nI 1) dL_law_372 (by decide) ?_
    first | refine g_iaddN (pc' := 374) dL_law_373 ?_ | refine g_iadd (pc' := 374) dL_law_373 ?_
    refine g_sld (pc' := 375) rfl dL_law_374 (IX_nI (by omega) (by omega)) ?_
    refine gc_V 378 47 [.int (xs (i + 1))] [.long (-4)] cw_L_61 im_X8_worthOf se_X8_worthOf dL_law_375 (by decide) (by decide) (by show _ ≤ 600000; omega) (by show _ ≤ 7302249; omega) (Nat.le_of_ble_eq_true rfl) rfl (Nat.le_of_ble_eq_true rfl) (by omega) (by first | assumption | exact va_up_self _ _ _ | exact (va_up_ne _ _ (by first | decide | omega)).trans (by assumption) | exact (va_up_ne _ _ (by first | decide | omega)).trans (va_up_self _ _ _) | exact (va_up_ne _ _ (by first | decide | omega)).trans ((va_up_ne _ _ (by first | decide | omega)).trans (by assumption)) | exact (va_up_ne _ _ (by first | decide | omega)).trans ((va_up_ne _ _ (by first | decide | omega)).trans (va_up_self _ _ _)) | exact (va_up_ne _ _ (by first | decide | omega)).trans ((va_up_ne _ _ (by first | decide | omega)).trans ((va_up_ne _ _ (by first | decide | omega)).trans (by assumption))) | exact (va_up_ne _ _ (by first | decide | omega)).trans ((va_up_ne _ _ (by first | decide | omega)).trans ((va_up_ne _ _ (by first | decide | omega)).trans ((va_up_ne _ _ (by first | decide | omega)).trans (by assumption)))) | exact rfl) rfl rfl (c_worthOf hn M hk31 G0 (fun _ => ⟨rfl, ?_⟩) (fun e1 => absurd e1 (bft e)) (fun e1 => absurd e1 (bft e)))
    refine g_lcmp (pc' := 379) dL_law_378 ?_
    refine g_if_eq (tgt := 564) (pc' := 382) dL_law_379 (by decide) (fun _ => ?_) (fun hne => absurd ((lg_eq0 _ _).mpr rfl) hne)
    exact nx' hp n (LI_mk M X W (by omega) hn (by omega) hK)
  · show Gl L xs Q (64 + i) (300000 + 2 * K) 369 i [.long (-3)] hp n
    refine g_aload_n (pc' := 370) dL_law_369 rfl rfl ?_
    refine g_aload_n (pc' := 371) dL_law_370 rfl rfl ?_
    refine g_iload_n (pc' := 372) dL_law_371 rfl rfl ?_
    refine g_iconst (pc' := 373) (v := nI 1) dL_law_372 (by decide) ?_
    first | refine g_iaddN (pc' := 374) dL_law_373 ?_ | refine g_iadd (pc' := 374) dL_law_373 ?_
    refine g_sld (pc' := 375) rfl dL_law_374 (IX_nI (by omega) (by omega)) ?_
    refine gc_V 378 47 [.int (xs (i + 1))] [.long (-3)] cw_L_61 im_X8_worthOf se_X8_worthOf dL_law_375 (by decide) (by decide) (by show _ ≤ 600000; omega) (by show _ ≤ 7302249; omega) (Nat.le_of_ble_eq_true rfl) rfl (Nat.le_of_ble_eq_true rfl) (by omega) (by first | assumption | exact va_up_self _ _ _ | exact (va_up_ne _ _ (by first | decide | omega)).trans (by assumption) | exact (va_up_ne _ _ (by first | decide | omega)).trans (va_up_self _ _ _) | exact (va_up_ne _ _ (by first | decide | omega)).trans ((va_up_ne _ _ (by first | decide | omega)).trans (by assumption)) | exact (va_up_ne _ _ (by first | decide | omega)).trans ((va_up_ne _ _ (by first | decide | omega)).trans (va_up_self _ _ _)) | exact (va_up_ne _ _ (by first | decide | omega)).trans ((va_up_ne _ _ (by first | decide | omega)).trans ((va_up_ne _ _ (by first | decide | omega)).trans (by assumption))) | exact (va_up_ne _ _ (by first | decide | omega)).trans ((va_up_ne _ _ (by first | decide | omega)).trans ((va_up_ne _ _ (by first | decide | omega)).trans ((va_up_ne _ _ (by first | decide | omega)).trans (by assumption)))) | exact rfl) rfl rfl (c_worthOf hn M hk31 G0 (fun e => absurd e1 (bft e)) (fun _ _ => ⟨rfl, ?_⟩) (fun _ g e3 => absurd (e2.symm.trans e3) (fun q => by cases q)))
    refine g_lcmp (pc' := 379) dL_law_378 ?_
    refine g_if_eq (tgt := 564) (pc' := 382) dL_law_379 (by decide) (fun _ => ?_) (fun hne => absurd ((lg_eq0 _ _).mpr rfl) hne)
    exact nx' hp n (LI_mk M X W (by omega) hn (by omega) hK)
  · show Gl L xs Q (64 + i) (300000 + 2 * K) 369 i [.long (lN (hv D S (vl D S (gd D S T R (Pf kd nn pp S) s) (k - 1)) g))] hp n
    refine g_aload_n (pc' := 370) dL_law_369 rfl rfl ?_
    refine g_aload_n (pc' := 371) dL_law_370 rfl rfl ?_
    refine g_iload_n (pc' := 372) dL_law_371 rfl rfl ?_
    refine g_iconst (pc' := 373) (v := nI 1) dL_law_372 (by decide) ?_
    first | refine g_iaddN (pc' := 374) dL_law_373 ?_ | refine g_iadd (pc' := 374) dL_law_373 ?_
    refine g_sld (pc' := 375) rfl dL_law_374 (IX_nI (by omega) (by omega)) ?_
    refine gc_V 378 47 [.int (xs (i + 1))] [.long (lN (hv D S (vl D S (gd D S T R (Pf kd nn pp S) s) (k - 1)) g))] cw_L_61 im_X8_worthOf se_X8_worthOf dL_law_375 (by decide) (by decide) (by show _ ≤ 600000; omega) (by show _ ≤ 7302249; omega) (Nat.le_of_ble_eq_true rfl) rfl (Nat.le_of_ble_eq_true rfl) (by omega) (by first | assumption | exact va_up_self _ _ _ | exact (va_up_ne _ _ (by first | decide | omega)).trans (by assumption) | exact (va_up_ne _ _ (by first | decide | omega)).trans (va_up_self _ _ _) | exact (va_up_ne _ _ (by first | decide | omega)).trans ((va_up_ne _ _ (by first | decide | omega)).trans (by assumption)) | exact (va_up_ne _ _ (by first | decide | omega)).trans ((va_up_ne _ _ (by first | decide | omega)).trans (va_up_self _ _ _)) | exact (va_up_ne _ _ (by first | decide | omega)).trans ((va_up_ne _ _ (by first | decide | omega)).trans ((va_up_ne _ _ (by first | decide | omega)).trans (by assumption))) | exact (va_up_ne _ _ (by first | decide | omega)).trans ((va_up_ne _ _ (by first | decide | omega)).trans ((va_up_ne _ _ (by first | decide | omega)).trans ((va_up_ne _ _ (by first | decide | omega)).trans (by assumption)))) | exact rfl) rfl rfl (c_worthOf hn M hk31 G0 (fun e => absurd e1 (bft e)) (fun _ e3 => absurd (e3.symm.trans e2) (fun q => by cases q)) (fun _ g2 e3 hp2 M2 F2 => ⟨rfl, ?_⟩))
    have q1 : g2 = g := Option.some.inj (e3.symm.trans e2)
    subst q1
    refine g_lcmp (pc' := 379) dL_law_378 ?_
    refine g_if_eq (tgt := 564) (pc' := 382) dL_law_379 (by decide) (fun _ => ?_) (fun hne => absurd ((lg_eq0 _ _).mpr rfl) hne)
    exact nx' hp2 n (LI_mk M2 (CS_F F2 X) W (by omega) hn (by omega) hK)
theorem op_bestHold (hi : i + 4 ≤ L) (hL : L ≤ 2048) (I : LI i hp n K) (nx : ∀ (hp' : AH) (n' K' : Nat), LI (i + 4) hp' n' K' → Gl L xs Q (64 + (i + 4)) (300000 + 2 * K') 564 i [] hp' n') : Gl L xs Q (64 + i) (300000 + 2 * K) 384 i [] hp n := by
  obtain ⟨D, S, T, R, kd, nn, pp, bg, it, tt, s, sm, h, k, fl, lu, sl, kid, rd, M, X, W, hsm, hn, hn2, hK⟩ := I
  have nx' : ∀ (hp' : AH) (n' : Nat), LI (i + 4) hp' n' K → Gl L xs Q (64 + i) (300000 + 2 * K) 564 i [] hp' n' := fun hp' n' q => g_widen (by omega) (by omega) (nx hp' n' K q)
  have Mr := M.1
  have c0 := X.1
  obtain ⟨x8, x23, x31, c47, -⟩ := M.2.1
  have hs8 := WS_s Mr.2.2.2.2.2.2.1 W
  have hk31 := WS_k Mr.2.2.2.2.2.1 W
  have G0 : bg = true → WG D S T R it tt s h k := fun q => (W.1 q).1
  refine g_aload_n (pc' := 385) dL_law_384 rfl rfl ?_
  refine gc_V 388 0 [] [] cw_L_62 im_X7_bestHold se_X7_bestHold dL_law_385 (by decide) (by decide) (by show _ ≤ 600000; omega) (by show _ ≤ 7302249; omega) (Nat.le_of_ble_eq_true rfl) rfl (Nat.le_of_ble_eq_true rfl) (by omega) (by first | assumption | exact va_up_self _ _ _ | exact (va_up_ne _ _ (by first | decide | omega)).trans (by assumption) | exact (va_up_ne _ _ (by first | decide | omega)).trans (va_up_self _ _ _) | exact (va_up_ne _ _ (by first | decide | omega)).trans ((va_up_ne _ _ (by first | decide | omega)).trans (by assumption)) | exact (va_up_ne _ _ (by first | decide | omega)).trans ((va_up_ne _ _ (by first | decide | omega)).trans (va_up_self _ _ _)) | exact (va_up_ne _ _ (by first | decide | omega)).trans ((va_up_ne _ _ (by first | decide | omega)).trans ((va_up_ne _ _ (by first | decide | omega)).trans (by assumption))) | exact (va_up_ne _ _ (by first | decide | omega)).trans ((va_up_ne _ _ (by first | decide | omega)).trans ((va_up_ne _ _ (by first | decide | omega)).trans ((va_up_ne _ _ (by first | decide | omega)).trans (by assumption)))) | exact rfl) rfl rfl (c_bestHoldC hn Mr X W (fun e => ⟨rfl, ?_⟩) (fun e1 j e2 => ⟨rfl, ?_⟩))
  · show Gl L xs Q (64 + i) (300000 + 2 * K) 388 i [.int (-4)] hp n
    refine g_aload_n (pc' := 389) dL_law_388 rfl rfl ?_
    refine gc_V 392 47 [] [.int (-4)] cw_L_65 im_X8_bestHold se_X8_bestHold dL_law_389 (by decide) (by decide) (by show _ ≤ 600000; omega) (by show _ ≤ 7302249; omega) (Nat.le_of_ble_eq_true rfl) rfl (Nat.le_of_ble_eq_true rfl) (by omega) (by first | assumption | exact va_up_self _ _ _ | exact (va_up_ne _ _ (by first | decide | omega)).trans (by assumption) | exact (va_up_ne _ _ (by first | decide | omega)).trans (va_up_self _ _ _) | exact (va_up_ne _ _ (by first | decide | omega)).trans ((va_up_ne _ _ (by first | decide | omega)).trans (by assumption)) | exact (va_up_ne _ _ (by first | decide | omega)).trans ((va_up_ne _ _ (by first | decide | omega)).trans (va_up_self _ _ _)) | exact (va_up_ne _ _ (by first | decide | omega)).trans ((va_up_ne _ _ (by first | decide | omega)).trans ((va_up_ne _ _ (by first | decide | omega)).trans (by assumption))) | exact (va_up_ne _ _ (by first | decide | omega)).trans ((va_up_ne _ _ (by first | decide | omega)).trans ((va_up_ne _ _ (by first | decide | omega)).trans ((va_up_ne _ _ (by first | decide | omega)).trans (by assumption)))) | exact rfl) rfl rfl (c_bestHold hn M hk31 G0 (fun _ => ⟨rfl, ?_⟩) (fun e1 => absurd e1 (bft e)))
    refine g_icmp_eq (tgt := 564) (pc' := 395) dL_law_392 (by decide) (fun _ => ?_) (fun hne => absurd rfl hne)
    exact nx' hp n (LI_mk M X W (by omega) hn (by omega) hK)
  · show Gl L xs Q (64 + i) (300000 + 2 * K) 388 i [.int (nI (td S j))] hp n
    refine g_aload_n (pc' := 389) dL_law_388 rfl rfl ?_
    refine gc_V 392 47 [] [.int (nI (td S j))] cw_L_65 im_X8_bestHold se_X8_bestHold dL_law_389 (by decide) (by decide) (by show _ ≤ 600000; omega) (by show _ ≤ 7302249; omega) (Nat.le_of_ble_eq_true rfl) rfl (Nat.le_of_ble_eq_true rfl) (by omega) (by first | assumption | exact va_up_self _ _ _ | exact (va_up_ne _ _ (by first | decide | omega)).trans (by assumption) | exact (va_up_ne _ _ (by first | decide | omega)).trans (va_up_self _ _ _) | exact (va_up_ne _ _ (by first | decide | omega)).trans ((va_up_ne _ _ (by first | decide | omega)).trans (by assumption)) | exact (va_up_ne _ _ (by first | decide | omega)).trans ((va_up_ne _ _ (by first | decide | omega)).trans (va_up_self _ _ _)) | exact (va_up_ne _ _ (by first | decide | omega)).trans ((va_up_ne _ _ (by first | decide | omega)).trans ((va_up_ne _ _ (by first | decide | omega)).trans (by assumption))) | exact (va_up_ne _ _ (by first | decide | omega)).trans ((va_up_ne _ _ (by first | decide | omega)).trans ((va_up_ne _ _ (by first | decide | omega)).trans ((va_up_ne _ _ (by first | decide | omega)).trans (by assumption)))) | exact rfl) rfl rfl (c_bestHold hn M hk31 G0 (fun e => absurd e1 (bft e)) (fun _ j2 e3 hp2 M2 F2 => ⟨rfl, ?_⟩))
    have q1 : j2 = j := Option.some.inj (e3.symm.trans e2)
    subst q1
    refine g_icmp_eq (tgt := 564) (pc' := 395) dL_law_392 (by decide) (fun _ => ?_) (fun hne => absurd rfl hne)
    exact nx' hp2 n (LI_mk M2 (CS_F F2 X) W (by omega) hn (by omega) hK)
theorem op_bestRow (hi : i + 4 ≤ L) (hL : L ≤ 2048) (I : LI i hp n K) (nx : ∀ (hp' : AH) (n' K' : Nat), LI (i + 4) hp' n' K' → Gl L xs Q (64 + (i + 4)) (300000 + 2 * K') 564 i [] hp' n') : Gl L xs Q (64 + i) (300000 + 2 * K) 397 i [] hp n := by
  obtain ⟨D, S, T, R, kd, nn, pp, bg, it, tt, s, sm, h, k, fl, lu, sl, kid, rd, M, X, W, hsm, hn, hn2, hK⟩ := I
  have nx' : ∀ (hp' : AH) (n' : Nat), LI (i + 4) hp' n' K → Gl L xs Q (64 + i) (300000 + 2 * K) 564 i [] hp' n' := fun hp' n' q => g_widen (by omega) (by omega) (nx hp' n' K q)
  have Mr := M.1
  have c0 := X.1
  obtain ⟨x8, x23, x31, c47, -⟩ := M.2.1
  have hs8 := WS_s Mr.2.2.2.2.2.2.1 W
  have hk31 := WS_k Mr.2.2.2.2.2.1 W
  have G0 : bg = true → WG D S T R it tt s h k := fun q => (W.1 q).1
  refine g_aload_n (pc' := 398) dL_law_397 rfl rfl ?_
  refine gc_V 401 0 [] [] cw_L_66 im_X7_bestRow se_X7_bestRow dL_law_398 (by decide) (by decide) (by show _ ≤ 600000; omega) (by show _ ≤ 7302249; omega) (Nat.le_of_ble_eq_true rfl) rfl (Nat.le_of_ble_eq_true rfl) (by omega) (by first | assumption | exact va_up_self _ _ _ | exact (va_up_ne _ _ (by first | decide | omega)).trans (by assumption) | exact (va_up_ne _ _ (by first | decide | omega)).trans (va_up_self _ _ _) | exact (va_up_ne _ _ (by first | decide | omega)).trans ((va_up_ne _ _ (by first | decide | omega)).trans (by assumption)) | exact (va_up_ne _ _ (by first | decide | omega)).trans ((va_up_ne _ _ (by first | decide | omega)).trans (va_up_self _ _ _)) | exact (va_up_ne _ _ (by first | decide | omega)).trans ((va_up_ne _ _ (by first | decide | omega)).trans ((va_up_ne _ _ (by first | decide | omega)).trans (by assumption))) | exact (va_up_ne _ _ (by first | decide | omega)).trans ((va_up_ne _ _ (by first | decide | omega)).trans ((va_up_ne _ _ (by first | decide | omega)).trans ((va_up_ne _ _ (by first | decide | omega)).trans (by assumption)))) | exact rfl) rfl rfl (c_bestRowC hn Mr X W (fun e => ⟨rfl, ?_⟩) (fun e1 j e2 => ⟨rfl, ?_⟩))
  · show Gl L xs Q (64 + i) (300000 + 2 * K) 401 i [.int (-4)] hp n
    refine g_aload_n (pc' := 402) dL_law_401 rfl rfl ?_
    refine gc_V 405 47 [] [.int (-4)] cw_L_69 im_X8_bestRow se_X8_bestRow dL_law_402 (by decide) (by decide) (by show _ ≤ 600000; omega) (by show _ ≤ 7302249; omega) (Nat.le_of_ble_eq_true rfl) rfl (Nat.le_of_ble_eq_true rfl) (by omega) (by first | assumption | exact va_up_self _ _ _ | exact (va_up_ne _ _ (by first | decide | omega)).trans (by assumption) | exact (va_up_ne _ _ (by first | decide | omega)).trans (va_up_self _ _ _) | exact (va_up_ne _ _ (by first | decide | omega)).trans ((va_up_ne _ _ (by first | decide | omega)).trans (by assumption)) | exact (va_up_ne _ _ (by first | decide | omega)).trans ((va_up_ne _ _ (by first | decide | omega)).trans (va_up_self _ _ _)) | exact (va_up_ne _ _ (by first | decide | omega)).trans ((va_up_ne _ _ (by first | decide | omega)).trans ((va_up_ne _ _ (by first | decide | omega)).trans (by assumption))) | exact (va_up_ne _ _ (by first | decide | omega)).trans ((va_up_ne _ _ (by first | decide | omega)).trans ((va_up_ne _ _ (by first | decide | omega)).trans ((va_up_ne _ _ (by first | decide | omega)).trans (by assumption)))) | exact rfl) rfl rfl (c_bestRow hn M hs8 G0 (fun _ => ⟨rfl, ?_⟩) (fun e1 => absurd e1 (bft e)))
    refine g_icmp_eq (tgt := 564) (pc' := 408) dL_law_405 (by decide) (fun _ => ?_) (fun hne => absurd rfl hne)
    exact nx' hp n (LI_mk M X W (by omega) hn (by omega) hK)
  · show Gl L xs Q (64 + i) (300000 + 2 * K) 401 i [.int (nI j)] hp n
    refine g_aload_n (pc' := 402) dL_law_401 rfl rfl ?_
    refine gc_V 405 47 [] [.int (nI j)] cw_L_69 im_X8_bestRow se_X8_bestRow dL_law_402 (by decide) (by decide) (by show _ ≤ 600000; omega) (by show _ ≤ 7302249; omega) (Nat.le_of_ble_eq_true rfl) rfl (Nat.le_of_ble_eq_true rfl) (by omega) (by first | assumption | exact va_up_self _ _ _ | exact (va_up_ne _ _ (by first | decide | omega)).trans (by assumption) | exact (va_up_ne _ _ (by first | decide | omega)).trans (va_up_self _ _ _) | exact (va_up_ne _ _ (by first | decide | omega)).trans ((va_up_ne _ _ (by first | decide | omega)).trans (by assumption)) | exact (va_up_ne _ _ (by first | decide | omega)).trans ((va_up_ne _ _ (by first | decide | omega)).trans (va_up_self _ _ _)) | exact (va_up_ne _ _ (by first | decide | omega)).trans ((va_up_ne _ _ (by first | decide | omega)).trans ((va_up_ne _ _ (by first | decide | omega)).trans (by assumption))) | exact (va_up_ne _ _ (by first | decide | omega)).trans ((va_up_ne _ _ (by first | decide | omega)).trans ((va_up_ne _ _ (by first | decide | omega)).trans ((va_up_ne _ _ (by first | decide | omega)).trans (by assumption)))) | exact rfl) rfl rfl (c_bestRow hn M hs8 G0 (fun e => absurd e1 (bft e)) (fun _ j2 e3 hp2 M2 F2 => ⟨rfl, ?_⟩))
    have q1 : j2 = j := Option.some.inj (e3.symm.trans e2)
    subst q1
    refine g_icmp_eq (tgt := 564) (pc' := 408) dL_law_405 (by decide) (fun _ => ?_) (fun hne => absurd rfl hne)
    exact nx' hp2 n (LI_mk M2 (CS_F F2 X) W (by omega) hn (by omega) hK)
theorem op_luck (hi : i + 4 ≤ L) (hL : L ≤ 2048) (I : LI i hp n K) (nx : ∀ (hp' : AH) (n' K' : Nat), LI (i + 4) hp' n' K' → Gl L xs Q (64 + (i + 4)) (300000 + 2 * K') 564 i [] hp' n') : Gl L xs Q (64 + i) (300000 + 2 * K) 434 i [] hp n := by
  obtain ⟨D, S, T, R, kd, nn, pp, bg, it, tt, s, sm, h, k, fl, lu, sl, kid, rd, M, X, W, hsm, hn, hn2, hK⟩ := I
  have nx' : ∀ (hp' : AH) (n' : Nat), LI (i + 4) hp' n' K → Gl L xs Q (64 + i) (300000 + 2 * K) 564 i [] hp' n' := fun hp' n' q => g_widen (by omega) (by omega) (nx hp' n' K q)
  have Mr := M.1
  have c0 := X.1
  obtain ⟨x8, x23, x31, c47, -⟩ := M.2.1
  have hs8 := WS_s Mr.2.2.2.2.2.2.1 W
  have hk31 := WS_k Mr.2.2.2.2.2.1 W
  have G0 : bg = true → WG D S T R it tt s h k := fun q => (W.1 q).1
  refine g_aload_n (pc' := 435) dL_law_434 rfl rfl ?_
  refine gc_V 438 0 [] [] cw_L_74 im_X7_luck se_X7_luck dL_law_435 (by decide) (by decide) (by show _ ≤ 600000; omega) (by show _ ≤ 7302249; omega) (Nat.le_of_ble_eq_true rfl) rfl (Nat.le_of_ble_eq_true rfl) (by omega) (by first | assumption | exact va_up_self _ _ _ | exact (va_up_ne _ _ (by first | decide | omega)).trans (by assumption) | exact (va_up_ne _ _ (by first | decide | omega)).trans (va_up_self _ _ _) | exact (va_up_ne _ _ (by first | decide | omega)).trans ((va_up_ne _ _ (by first | decide | omega)).trans (by assumption)) | exact (va_up_ne _ _ (by first | decide | omega)).trans ((va_up_ne _ _ (by first | decide | omega)).trans (va_up_self _ _ _)) | exact (va_up_ne _ _ (by first | decide | omega)).trans ((va_up_ne _ _ (by first | decide | omega)).trans ((va_up_ne _ _ (by first | decide | omega)).trans (by assumption))) | exact (va_up_ne _ _ (by first | decide | omega)).trans ((va_up_ne _ _ (by first | decide | omega)).trans ((va_up_ne _ _ (by first | decide | omega)).trans ((va_up_ne _ _ (by first | decide | omega)).trans (by assumption)))) | exact rfl) rfl rfl (c_luckC hn X ⟨rfl, ?_⟩)
  show Gl L xs Q (64 + i) (300000 + 2 * K) 438 i [.long (lu)] hp n
  refine g_aload_n (pc' := 439) dL_law_438 rfl rfl ?_
  refine gc_V 442 47 [] [.long (lu)] cw_L_77 im_X8_luck se_X8_luck dL_law_439 (by decide) (by decide) (by show _ ≤ 600000; omega) (by show _ ≤ 7302249; omega) (Nat.le_of_ble_eq_true rfl) rfl (Nat.le_of_ble_eq_true rfl) (by omega) (by first | assumption | exact va_up_self _ _ _ | exact (va_up_ne _ _ (by first | decide | omega)).trans (by assumption) | exact (va_up_ne _ _ (by first | decide | omega)).trans (va_up_self _ _ _) | exact (va_up_ne _ _ (by first | decide | omega)).trans ((va_up_ne _ _ (by first | decide | omega)).trans (by assumption)) | exact (va_up_ne _ _ (by first | decide | omega)).trans ((va_up_ne _ _ (by first | decide | omega)).trans (va_up_self _ _ _)) | exact (va_up_ne _ _ (by first | decide | omega)).trans ((va_up_ne _ _ (by first | decide | omega)).trans ((va_up_ne _ _ (by first | decide | omega)).trans (by assumption))) | exact (va_up_ne _ _ (by first | decide | omega)).trans ((va_up_ne _ _ (by first | decide | omega)).trans ((va_up_ne _ _ (by first | decide | omega)).trans ((va_up_ne _ _ (by first | decide | omega)).trans (by assumption)))) | exact rfl) rfl rfl (c_luck hn M ⟨rfl, ?_⟩)
  refine g_lcmp (pc' := 443) dL_law_442 ?_
  refine g_if_eq (tgt := 564) (pc' := 446) dL_law_443 (by decide) (fun _ => ?_) (fun hne => absurd ((lg_eq0 _ _).mpr rfl) hne)
  exact nx' hp n (LI_mk M X W (by omega) hn (by omega) hK)
theorem op_slip (hi : i + 4 ≤ L) (hL : L ≤ 2048) (I : LI i hp n K) (nx : ∀ (hp' : AH) (n' K' : Nat), LI (i + 4) hp' n' K' → Gl L xs Q (64 + (i + 4)) (300000 + 2 * K') 564 i [] hp' n') : Gl L xs Q (64 + i) (300000 + 2 * K) 448 i [] hp n := by
  obtain ⟨D, S, T, R, kd, nn, pp, bg, it, tt, s, sm, h, k, fl, lu, sl, kid, rd, M, X, W, hsm, hn, hn2, hK⟩ := I
  have nx' : ∀ (hp' : AH) (n' : Nat), LI (i + 4) hp' n' K → Gl L xs Q (64 + i) (300000 + 2 * K) 564 i [] hp' n' := fun hp' n' q => g_widen (by omega) (by omega) (nx hp' n' K q)
  have Mr := M.1
  have c0 := X.1
  obtain ⟨x8, x23, x31, c47, -⟩ := M.2.1
  have hs8 := WS_s Mr.2.2.2.2.2.2.1 W
  have hk31 := WS_k Mr.2.2.2.2.2.1 W
  have G0 : bg = true → WG D S T R it tt s h k := fun q => (W.1 q).1
  refine g_aload_n (pc' := 449) dL_law_448 rfl rfl ?_
  refine gc_V 452 0 [] [] cw_L_78 im_X7_slip se_X7_slip dL_law_449 (by decide) (by decide) (by show _ ≤ 600000; omega) (by show _ ≤ 7302249; omega) (Nat.le_of_ble_eq_true rfl) rfl (Nat.le_of_ble_eq_true rfl) (by omega) (by first | assumption | exact va_up_self _ _ _ | exact (va_up_ne _ _ (by first | decide | omega)).trans (by assumption) | exact (va_up_ne _ _ (by first | decide | omega)).trans (va_up_self _ _ _) | exact (va_up_ne _ _ (by first | decide | omega)).trans ((va_up_ne _ _ (by first | decide | omega)).trans (by assumption)) | exact (va_up_ne _ _ (by first | decide | omega)).trans ((va_up_ne _ _ (by first | decide | omega)).trans (va_up_self _ _ _)) | exact (va_up_ne _ _ (by first | decide | omega)).trans ((va_up_ne _ _ (by first | decide | omega)).trans ((va_up_ne _ _ (by first | decide | omega)).trans (by assumption))) | exact (va_up_ne _ _ (by first | decide | omega)).trans ((va_up_ne _ _ (by first | decide | omega)).trans ((va_up_ne _ _ (by first | decide | omega)).trans ((va_up_ne _ _ (by first | decide | omega)).trans (by assumption)))) | exact rfl) rfl rfl (c_slipC hn X ⟨rfl, ?_⟩)
  show Gl L xs Q (64 + i) (300000 + 2 * K) 452 i [.long (sl)] hp n
  refine g_aload_n (pc' := 453) dL_law_452 rfl rfl ?_
  refine gc_V 456 47 [] [.long (sl)] cw_L_81 im_X8_slip se_X8_slip dL_law_453 (by decide) (by decide) (by show _ ≤ 600000; omega) (by show _ ≤ 7302249; omega) (Nat.le_of_ble_eq_true rfl) rfl (Nat.le_of_ble_eq_true rfl) (by omega) (by first | assumption | exact va_up_self _ _ _ | exact (va_up_ne _ _ (by first | decide | omega)).trans (by assumption) | exact (va_up_ne _ _ (by first | decide | omega)).trans (va_up_self _ _ _) | exact (va_up_ne _ _ (by first | decide | omega)).trans ((va_up_ne _ _ (by first | decide | omega)).trans (by assumption)) | exact (va_up_ne _ _ (by first | decide | omega)).trans ((va_up_ne _ _ (by first | decide | omega)).trans (va_up_self _ _ _)) | exact (va_up_ne _ _ (by first | decide | omega)).trans ((va_up_ne _ _ (by first | decide | omega)).trans ((va_up_ne _ _ (by first | decide | omega)).trans (by assumption))) | exact (va_up_ne _ _ (by first | decide | omega)).trans ((va_up_ne _ _ (by first | decide | omega)).trans ((va_up_ne _ _ (by first | decide | omega)).trans ((va_up_ne _ _ (by first | decide | omega)).trans (by assumption)))) | exact rfl) rfl rfl (c_slip hn M ⟨rfl, ?_⟩)
  refine g_lcmp (pc' := 457) dL_law_456 ?_
  refine g_if_eq (tgt := 564) (pc' := 460) dL_law_457 (by decide) (fun _ => ?_) (fun hne => absurd ((lg_eq0 _ _).mpr rfl) hne)
  exact nx' hp n (LI_mk M X W (by omega) hn (by omega) hK)
theorem op_points (hi : i + 4 ≤ L) (hL : L ≤ 2048) (I : LI i hp n K) (nx : ∀ (hp' : AH) (n' K' : Nat), LI (i + 4) hp' n' K' → Gl L xs Q (64 + (i + 4)) (300000 + 2 * K') 564 i [] hp' n') : Gl L xs Q (64 + i) (300000 + 2 * K) 462 i [] hp n := by
  obtain ⟨D, S, T, R, kd, nn, pp, bg, it, tt, s, sm, h, k, fl, lu, sl, kid, rd, M, X, W, hsm, hn, hn2, hK⟩ := I
  have nx' : ∀ (hp' : AH) (n' : Nat), LI (i + 4) hp' n' K → Gl L xs Q (64 + i) (300000 + 2 * K) 564 i [] hp' n' := fun hp' n' q => g_widen (by omega) (by omega) (nx hp' n' K q)
  have Mr := M.1
  have c0 := X.1
  obtain ⟨x8, x23, x31, c47, -⟩ := M.2.1
  have hs8 := WS_s Mr.2.2.2.2.2.2.1 W
  have hk31 := WS_k Mr.2.2.2.2.2.1 W
  have G0 : bg = true → WG D S T R it tt s h k := fun q => (W.1 q).1
  refine g_aload_n (pc' := 463) dL_law_462 rfl rfl ?_
  refine g_aload_n (pc' := 464) dL_law_463 rfl rfl ?_
  refine g_iload_n (pc' := 465) dL_law_464 rfl rfl ?_
  refine g_iconst (pc' := 466) (v := nI 1) dL_law_465 (by decide) ?_
  first | refine g_iaddN (pc' := 467) dL_law_466 ?_ | refine g_iadd (pc' := 467) dL_law_466 ?_
  refine g_sld (pc' := 468) rfl dL_law_467 (IX_nI (by omega) (by omega)) ?_
  refine g_aload_n (pc' := 469) dL_law_468 rfl rfl ?_
  refine g_iload_n (pc' := 470) dL_law_469 rfl rfl ?_
  refine g_iconst (pc' := 471) (v := nI 2) dL_law_470 (by decide) ?_
  first | refine g_iaddN (pc' := 472) dL_law_471 ?_ | refine g_iadd (pc' := 472) dL_law_471 ?_
  refine g_sld (pc' := 473) rfl dL_law_472 (IX_nI (by omega) (by omega)) ?_
  have hR8 := Mr.2.2.2.2.2.2.1
  refine gc_V 476 0 [.int (xs (i + 1)), .int (xs (i + 2))] [] cw_L_82 im_X7_points se_X7_points dL_law_473 (by decide) (by decide) (by show _ ≤ 600000; omega) (by show _ ≤ 7302249; omega) (Nat.le_of_ble_eq_true rfl) rfl (Nat.le_of_ble_eq_true rfl) (by omega) (by first | assumption | exact va_up_self _ _ _ | exact (va_up_ne _ _ (by first | decide | omega)).trans (by assumption) | exact (va_up_ne _ _ (by first | decide | omega)).trans (va_up_self _ _ _) | exact (va_up_ne _ _ (by first | decide | omega)).trans ((va_up_ne _ _ (by first | decide | omega)).trans (by assumption)) | exact (va_up_ne _ _ (by first | decide | omega)).trans ((va_up_ne _ _ (by first | decide | omega)).trans (va_up_self _ _ _)) | exact (va_up_ne _ _ (by first | decide | omega)).trans ((va_up_ne _ _ (by first | decide | omega)).trans ((va_up_ne _ _ (by first | decide | omega)).trans (by assumption))) | exact (va_up_ne _ _ (by first | decide | omega)).trans ((va_up_ne _ _ (by first | decide | omega)).trans ((va_up_ne _ _ (by first | decide | omega)).trans ((va_up_ne _ _ (by first | decide | omega)).trans (by assumption)))) | exact rfl) rfl rfl (c_pointsC hn Mr X (fun e => ⟨rfl, ?_⟩) (fun r hr ex e hp1 X1 F1 => ⟨rfl, ?_⟩) (fun r hr ex g e hp1 X1 F1 => ⟨rfl, ?_⟩))
  · show Gl L xs Q (64 + i) (300000 + 2 * K) 476 i [.int (-2)] hp n
    refine g_aload_n (pc' := 477) dL_law_476 rfl rfl ?_
    refine g_aload_n (pc' := 478) dL_law_477 rfl rfl ?_
    refine g_iload_n (pc' := 479) dL_law_478 rfl rfl ?_
    refine g_iconst (pc' := 480) (v := nI 1) dL_law_479 (by decide) ?_
    first | refine g_iaddN (pc' := 481) dL_law_480 ?_ | refine g_iadd (pc' := 481) dL_law_480 ?_
    refine g_sld (pc' := 482) rfl dL_law_481 (IX_nI (by omega) (by omega)) ?_
    refine g_aload_n (pc' := 483) dL_law_482 rfl rfl ?_
    refine g_iload_n (pc' := 484) dL_law_483 rfl rfl ?_
    refine g_iconst (pc' := 485) (v := nI 2) dL_law_484 (by decide) ?_
    first | refine g_iaddN (pc' := 486) dL_law_485 ?_ | refine g_iadd (pc' := 486) dL_law_485 ?_
    refine g_sld (pc' := 487) rfl dL_law_486 (IX_nI (by omega) (by omega)) ?_
    refine gc_V 490 47 [.int (xs (i + 1)), .int (xs (i + 2))] [.int (-2)] cw_L_86 im_X8_points se_X8_points dL_law_487 (by decide) (by decide) (by show _ ≤ 600000; omega) (by show _ ≤ 7302249; omega) (Nat.le_of_ble_eq_true rfl) rfl (Nat.le_of_ble_eq_true rfl) (by omega) (by first | assumption | exact va_up_self _ _ _ | exact (va_up_ne _ _ (by first | decide | omega)).trans (by assumption) | exact (va_up_ne _ _ (by first | decide | omega)).trans (va_up_self _ _ _) | exact (va_up_ne _ _ (by first | decide | omega)).trans ((va_up_ne _ _ (by first | decide | omega)).trans (by assumption)) | exact (va_up_ne _ _ (by first | decide | omega)).trans ((va_up_ne _ _ (by first | decide | omega)).trans (va_up_self _ _ _)) | exact (va_up_ne _ _ (by first | decide | omega)).trans ((va_up_ne _ _ (by first | decide | omega)).trans ((va_up_ne _ _ (by first | decide | omega)).trans (by assumption))) | exact (va_up_ne _ _ (by first | decide | omega)).trans ((va_up_ne _ _ (by first | decide | omega)).trans ((va_up_ne _ _ (by first | decide | omega)).trans ((va_up_ne _ _ (by first | decide | omega)).trans (by assumption)))) | exact rfl) rfl rfl (c_points hn M (fun _ => ⟨rfl, ?_⟩) (fun e1 => absurd e1 (bft e)) (fun r hr ex _ _ _ _ _ => absurd (show rwB R (xs (i + 1)) = true by rw [ex]; exact rwB_of hR8 hr) (bft e)))
    refine g_icmp_eq (tgt := 564) (pc' := 493) dL_law_490 (by decide) (fun _ => ?_) (fun hne => absurd rfl hne)
    exact nx' hp n (LI_mk M X W (by omega) hn (by omega) hK)
  · have M1 := MS_F F1 M
    obtain ⟨y8, y23, y31, d47, -⟩ := M1.2.1
    show Gl L xs Q (64 + i) (300000 + 2 * K) 476 i [.int (-3)] hp1 n
    refine g_aload_n (pc' := 477) dL_law_476 rfl rfl ?_
    refine g_aload_n (pc' := 478) dL_law_477 rfl rfl ?_
    refine g_iload_n (pc' := 479) dL_law_478 rfl rfl ?_
    refine g_iconst (pc' := 480) (v := nI 1) dL_law_479 (by decide) ?_
    first | refine g_iaddN (pc' := 481) dL_law_480 ?_ | refine g_iadd (pc' := 481) dL_law_480 ?_
    refine g_sld (pc' := 482) rfl dL_law_481 (IX_nI (by omega) (by omega)) ?_
    refine g_aload_n (pc' := 483) dL_law_482 rfl rfl ?_
    refine g_iload_n (pc' := 484) dL_law_483 rfl rfl ?_
    refine g_iconst (pc' := 485) (v := nI 2) dL_law_484 (by decide) ?_
    first | refine g_iaddN (pc' := 486) dL_law_485 ?_ | refine g_iadd (pc' := 486) dL_law_485 ?_
    refine g_sld (pc' := 487) rfl dL_law_486 (IX_nI (by omega) (by omega)) ?_
    refine gc_V 490 47 [.int (xs (i + 1)), .int (xs (i + 2))] [.int (-3)] cw_L_86 im_X8_points se_X8_points dL_law_487 (by decide) (by decide) (by show _ ≤ 600000; omega) (by show _ ≤ 7302249; omega) (Nat.le_of_ble_eq_true rfl) rfl (Nat.le_of_ble_eq_true rfl) (by omega) (by first | assumption | exact va_up_self _ _ _ | exact (va_up_ne _ _ (by first | decide | omega)).trans (by assumption) | exact (va_up_ne _ _ (by first | decide | omega)).trans (va_up_self _ _ _) | exact (va_up_ne _ _ (by first | decide | omega)).trans ((va_up_ne _ _ (by first | decide | omega)).trans (by assumption)) | exact (va_up_ne _ _ (by first | decide | omega)).trans ((va_up_ne _ _ (by first | decide | omega)).trans (va_up_self _ _ _)) | exact (va_up_ne _ _ (by first | decide | omega)).trans ((va_up_ne _ _ (by first | decide | omega)).trans ((va_up_ne _ _ (by first | decide | omega)).trans (by assumption))) | exact (va_up_ne _ _ (by first | decide | omega)).trans ((va_up_ne _ _ (by first | decide | omega)).trans ((va_up_ne _ _ (by first | decide | omega)).trans ((va_up_ne _ _ (by first | decide | omega)).trans (by assumption)))) | exact rfl) rfl rfl (c_points hn M1 (fun e9 => absurd (show rwB R (xs (i + 1)) = true by rw [ex]; exact rwB_of hR8 hr) (bft e9)) (fun _ _ hp2 M2 F2 => ⟨rfl, ?_⟩) (fun _ _ _ g e3 => absurd (e.symm.trans e3) (fun q => by cases q)))
    refine g_icmp_eq (tgt := 564) (pc' := 493) dL_law_490 (by decide) (fun _ => ?_) (fun hne => absurd rfl hne)
    exact nx' hp2 n (LI_mk M2 (CS_F F2 X1) W (by omega) hn (by omega) hK)
  · have M1 := MS_F F1 M
    obtain ⟨y8, y23, y31, d47, -⟩ := M1.2.1
    show Gl L xs Q (64 + i) (300000 + 2 * K) 476 i [.int (nI (Pf kd nn pp S r g))] hp1 n
    refine g_aload_n (pc' := 477) dL_law_476 rfl rfl ?_
    refine g_aload_n (pc' := 478) dL_law_477 rfl rfl ?_
    refine g_iload_n (pc' := 479) dL_law_478 rfl rfl ?_
    refine g_iconst (pc' := 480) (v := nI 1) dL_law_479 (by decide) ?_
    first | refine g_iaddN (pc' := 481) dL_law_480 ?_ | refine g_iadd (pc' := 481) dL_law_480 ?_
    refine g_sld (pc' := 482) rfl dL_law_481 (IX_nI (by omega) (by omega)) ?_
    refine g_aload_n (pc' := 483) dL_law_482 rfl rfl ?_
    refine g_iload_n (pc' := 484) dL_law_483 rfl rfl ?_
    refine g_iconst (pc' := 485) (v := nI 2) dL_law_484 (by decide) ?_
    first | refine g_iaddN (pc' := 486) dL_law_485 ?_ | refine g_iadd (pc' := 486) dL_law_485 ?_
    refine g_sld (pc' := 487) rfl dL_law_486 (IX_nI (by omega) (by omega)) ?_
    refine gc_V 490 47 [.int (xs (i + 1)), .int (xs (i + 2))] [.int (nI (Pf kd nn pp S r g))] cw_L_86 im_X8_points se_X8_points dL_law_487 (by decide) (by decide) (by show _ ≤ 600000; omega) (by show _ ≤ 7302249; omega) (Nat.le_of_ble_eq_true rfl) rfl (Nat.le_of_ble_eq_true rfl) (by omega) (by first | assumption | exact va_up_self _ _ _ | exact (va_up_ne _ _ (by first | decide | omega)).trans (by assumption) | exact (va_up_ne _ _ (by first | decide | omega)).trans (va_up_self _ _ _) | exact (va_up_ne _ _ (by first | decide | omega)).trans ((va_up_ne _ _ (by first | decide | omega)).trans (by assumption)) | exact (va_up_ne _ _ (by first | decide | omega)).trans ((va_up_ne _ _ (by first | decide | omega)).trans (va_up_self _ _ _)) | exact (va_up_ne _ _ (by first | decide | omega)).trans ((va_up_ne _ _ (by first | decide | omega)).trans ((va_up_ne _ _ (by first | decide | omega)).trans (by assumption))) | exact (va_up_ne _ _ (by first | decide | omega)).trans ((va_up_ne _ _ (by first | decide | omega)).trans ((va_up_ne _ _ (by first | decide | omega)).trans ((va_up_ne _ _ (by first | decide | omega)).trans (by assumption)))) | exact rfl) rfl rfl (c_points hn M1 (fun e9 => absurd (show rwB R (xs (i + 1)) = true by rw [ex]; exact rwB_of hR8 hr) (bft e9)) (fun _ e3 => absurd (e3.symm.trans e) (fun q => by cases q)) (fun r2 hr2 ex2 g2 e3 hp2 M2 F2 => ⟨rfl, ?_⟩))
    have q1 : r2 = r := (nI_eq (by omega) (by omega)).mp (ex2.symm.trans ex)
    have q2 : g2 = g := Option.some.inj (e3.symm.trans e)
    subst q1 q2
    refine g_icmp_eq (tgt := 564) (pc' := 493) dL_law_490 (by decide) (fun _ => ?_) (fun hne => absurd rfl hne)
    exact nx' hp2 n (LI_mk M2 (CS_F F2 X1) W (by omega) hn (by omega) hK)
theorem op_ways (hi : i + 4 ≤ L) (hL : L ≤ 2048) (I : LI i hp n K) (nx : ∀ (hp' : AH) (n' K' : Nat), LI (i + 4) hp' n' K' → Gl L xs Q (64 + (i + 4)) (300000 + 2 * K') 564 i [] hp' n') : Gl L xs Q (64 + i) (300000 + 2 * K) 495 i [] hp n := by
  obtain ⟨D, S, T, R, kd, nn, pp, bg, it, tt, s, sm, h, k, fl, lu, sl, kid, rd, M, X, W, hsm, hn, hn2, hK⟩ := I
  have nx' : ∀ (hp' : AH) (n' : Nat), LI (i + 4) hp' n' K → Gl L xs Q (64 + i) (300000 + 2 * K) 564 i [] hp' n' := fun hp' n' q => g_widen (by omega) (by omega) (nx hp' n' K q)
  have Mr := M.1
  have c0 := X.1
  obtain ⟨x8, x23, x31, c47, -⟩ := M.2.1
  have hs8 := WS_s Mr.2.2.2.2.2.2.1 W
  have hk31 := WS_k Mr.2.2.2.2.2.1 W
  have G0 : bg = true → WG D S T R it tt s h k := fun q => (W.1 q).1
  refine g_aload_n (pc' := 496) dL_law_495 rfl rfl ?_
  refine g_aload_n (pc' := 497) dL_law_496 rfl rfl ?_
  refine g_iload_n (pc' := 498) dL_law_497 rfl rfl ?_
  refine g_iconst (pc' := 499) (v := nI 1) dL_law_498 (by decide) ?_
  first | refine g_iaddN (pc' := 500) dL_law_499 ?_ | refine g_iadd (pc' := 500) dL_law_499 ?_
  refine g_sld (pc' := 501) rfl dL_law_500 (IX_nI (by omega) (by omega)) ?_
  refine gc_V 504 0 [.int (xs (i + 1))] [] cw_L_87 im_X7_ways se_X7_ways dL_law_501 (by decide) (by decide) (by show _ ≤ 600000; omega) (by show _ ≤ 7302249; omega) (Nat.le_of_ble_eq_true rfl) rfl (Nat.le_of_ble_eq_true rfl) (by omega) (by first | assumption | exact va_up_self _ _ _ | exact (va_up_ne _ _ (by first | decide | omega)).trans (by assumption) | exact (va_up_ne _ _ (by first | decide | omega)).trans (va_up_self _ _ _) | exact (va_up_ne _ _ (by first | decide | omega)).trans ((va_up_ne _ _ (by first | decide | omega)).trans (by assumption)) | exact (va_up_ne _ _ (by first | decide | omega)).trans ((va_up_ne _ _ (by first | decide | omega)).trans (va_up_self _ _ _)) | exact (va_up_ne _ _ (by first | decide | omega)).trans ((va_up_ne _ _ (by first | decide | omega)).trans ((va_up_ne _ _ (by first | decide | omega)).trans (by assumption))) | exact (va_up_ne _ _ (by first | decide | omega)).trans ((va_up_ne _ _ (by first | decide | omega)).trans ((va_up_ne _ _ (by first | decide | omega)).trans ((va_up_ne _ _ (by first | decide | omega)).trans (by assumption)))) | exact rfl) rfl rfl (c_waysC hn Mr X (fun e hp1 X1 F1 => ⟨rfl, ?_⟩) (fun g e hp1 X1 F1 => ⟨rfl, ?_⟩))
  · have M1 := MS_F F1 M
    obtain ⟨y8, y23, y31, d47, -⟩ := M1.2.1
    show Gl L xs Q (64 + i) (300000 + 2 * K) 504 i [.int (-3)] hp1 n
    refine g_aload_n (pc' := 505) dL_law_504 rfl rfl ?_
    refine g_aload_n (pc' := 506) dL_law_505 rfl rfl ?_
    refine g_iload_n (pc' := 507) dL_law_506 rfl rfl ?_
    refine g_iconst (pc' := 508) (v := nI 1) dL_law_507 (by decide) ?_
    first | refine g_iaddN (pc' := 509) dL_law_508 ?_ | refine g_iadd (pc' := 509) dL_law_508 ?_
    refine g_sld (pc' := 510) rfl dL_law_509 (IX_nI (by omega) (by omega)) ?_
    refine gc_V 513 47 [.int (xs (i + 1))] [.int (-3)] cw_L_90 im_X8_ways se_X8_ways dL_law_510 (by decide) (by decide) (by show _ ≤ 600000; omega) (by show _ ≤ 7302249; omega) (Nat.le_of_ble_eq_true rfl) rfl (Nat.le_of_ble_eq_true rfl) (by omega) (by first | assumption | exact va_up_self _ _ _ | exact (va_up_ne _ _ (by first | decide | omega)).trans (by assumption) | exact (va_up_ne _ _ (by first | decide | omega)).trans (va_up_self _ _ _) | exact (va_up_ne _ _ (by first | decide | omega)).trans ((va_up_ne _ _ (by first | decide | omega)).trans (by assumption)) | exact (va_up_ne _ _ (by first | decide | omega)).trans ((va_up_ne _ _ (by first | decide | omega)).trans (va_up_self _ _ _)) | exact (va_up_ne _ _ (by first | decide | omega)).trans ((va_up_ne _ _ (by first | decide | omega)).trans ((va_up_ne _ _ (by first | decide | omega)).trans (by assumption))) | exact (va_up_ne _ _ (by first | decide | omega)).trans ((va_up_ne _ _ (by first | decide | omega)).trans ((va_up_ne _ _ (by first | decide | omega)).trans ((va_up_ne _ _ (by first | decide | omega)).trans (by assumption)))) | exact rfl) rfl rfl (c_ways hn M1 (fun _ hp2 M2 F2 => ⟨rfl, ?_⟩) (fun g e3 => absurd (e.symm.trans e3) (fun q => by cases q)))
    refine g_icmp_eq (tgt := 564) (pc' := 516) dL_law_513 (by decide) (fun _ => ?_) (fun hne => absurd rfl hne)
    exact nx' hp2 n (LI_mk M2 (CS_F F2 X1) W (by omega) hn (by omega) hK)
  · have M1 := MS_F F1 M
    obtain ⟨y8, y23, y31, d47, -⟩ := M1.2.1
    show Gl L xs Q (64 + i) (300000 + 2 * K) 504 i [.int (nI (wo (sh S g) 6).1)] hp1 n
    refine g_aload_n (pc' := 505) dL_law_504 rfl rfl ?_
    refine g_aload_n (pc' := 506) dL_law_505 rfl rfl ?_
    refine g_iload_n (pc' := 507) dL_law_506 rfl rfl ?_
    refine g_iconst (pc' := 508) (v := nI 1) dL_law_507 (by decide) ?_
    first | refine g_iaddN (pc' := 509) dL_law_508 ?_ | refine g_iadd (pc' := 509) dL_law_508 ?_
    refine g_sld (pc' := 510) rfl dL_law_509 (IX_nI (by omega) (by omega)) ?_
    refine gc_V 513 47 [.int (xs (i + 1))] [.int (nI (wo (sh S g) 6).1)] cw_L_90 im_X8_ways se_X8_ways dL_law_510 (by decide) (by decide) (by show _ ≤ 600000; omega) (by show _ ≤ 7302249; omega) (Nat.le_of_ble_eq_true rfl) rfl (Nat.le_of_ble_eq_true rfl) (by omega) (by first | assumption | exact va_up_self _ _ _ | exact (va_up_ne _ _ (by first | decide | omega)).trans (by assumption) | exact (va_up_ne _ _ (by first | decide | omega)).trans (va_up_self _ _ _) | exact (va_up_ne _ _ (by first | decide | omega)).trans ((va_up_ne _ _ (by first | decide | omega)).trans (by assumption)) | exact (va_up_ne _ _ (by first | decide | omega)).trans ((va_up_ne _ _ (by first | decide | omega)).trans (va_up_self _ _ _)) | exact (va_up_ne _ _ (by first | decide | omega)).trans ((va_up_ne _ _ (by first | decide | omega)).trans ((va_up_ne _ _ (by first | decide | omega)).trans (by assumption))) | exact (va_up_ne _ _ (by first | decide | omega)).trans ((va_up_ne _ _ (by first | decide | omega)).trans ((va_up_ne _ _ (by first | decide | omega)).trans ((va_up_ne _ _ (by first | decide | omega)).trans (by assumption)))) | exact rfl) rfl rfl (c_ways hn M1 (fun e3 => absurd (e3.symm.trans e) (fun q => by cases q)) (fun g2 e3 hp2 M2 F2 => ⟨rfl, ?_⟩))
    have q2 : g2 = g := Option.some.inj (e3.symm.trans e)
    subst q2
    refine g_icmp_eq (tgt := 564) (pc' := 516) dL_law_513 (by decide) (fun _ => ?_) (fun hne => absurd rfl hne)
    exact nx' hp2 n (LI_mk M2 (CS_F F2 X1) W (by omega) hn (by omega) hK)
theorem op_filled (hi : i + 4 ≤ L) (hL : L ≤ 2048) (I : LI i hp n K) (nx : ∀ (hp' : AH) (n' K' : Nat), LI (i + 4) hp' n' K' → Gl L xs Q (64 + (i + 4)) (300000 + 2 * K') 564 i [] hp' n') : Gl L xs Q (64 + i) (300000 + 2 * K) 518 i [] hp n := by
  obtain ⟨D, S, T, R, kd, nn, pp, bg, it, tt, s, sm, h, k, fl, lu, sl, kid, rd, M, X, W, hsm, hn, hn2, hK⟩ := I
  have nx' : ∀ (hp' : AH) (n' : Nat), LI (i + 4) hp' n' K → Gl L xs Q (64 + i) (300000 + 2 * K) 564 i [] hp' n' := fun hp' n' q => g_widen (by omega) (by omega) (nx hp' n' K q)
  have Mr := M.1
  have c0 := X.1
  obtain ⟨x8, x23, x31, c47, -⟩ := M.2.1
  have hs8 := WS_s Mr.2.2.2.2.2.2.1 W
  have hk31 := WS_k Mr.2.2.2.2.2.1 W
  have G0 : bg = true → WG D S T R it tt s h k := fun q => (W.1 q).1
  refine g_aload_n (pc' := 519) dL_law_518 rfl rfl ?_
  refine g_aload_n (pc' := 520) dL_law_519 rfl rfl ?_
  refine g_iload_n (pc' := 521) dL_law_520 rfl rfl ?_
  refine g_iconst (pc' := 522) (v := nI 1) dL_law_521 (by decide) ?_
  first | refine g_iaddN (pc' := 523) dL_law_522 ?_ | refine g_iadd (pc' := 523) dL_law_522 ?_
  refine g_sld (pc' := 524) rfl dL_law_523 (IX_nI (by omega) (by omega)) ?_
  have hR8 := Mr.2.2.2.2.2.2.1
  refine gc_V 527 0 [.int (xs (i + 1))] [] cw_L_91 im_X7_filled se_X7_filled dL_law_524 (by decide) (by decide) (by show _ ≤ 600000; omega) (by show _ ≤ 7302249; omega) (Nat.le_of_ble_eq_true rfl) rfl (Nat.le_of_ble_eq_true rfl) (by omega) (by first | assumption | exact va_up_self _ _ _ | exact (va_up_ne _ _ (by first | decide | omega)).trans (by assumption) | exact (va_up_ne _ _ (by first | decide | omega)).trans (va_up_self _ _ _) | exact (va_up_ne _ _ (by first | decide | omega)).trans ((va_up_ne _ _ (by first | decide | omega)).trans (by assumption)) | exact (va_up_ne _ _ (by first | decide | omega)).trans ((va_up_ne _ _ (by first | decide | omega)).trans (va_up_self _ _ _)) | exact (va_up_ne _ _ (by first | decide | omega)).trans ((va_up_ne _ _ (by first | decide | omega)).trans ((va_up_ne _ _ (by first | decide | omega)).trans (by assumption))) | exact (va_up_ne _ _ (by first | decide | omega)).trans ((va_up_ne _ _ (by first | decide | omega)).trans ((va_up_ne _ _ (by first | decide | omega)).trans ((va_up_ne _ _ (by first | decide | omega)).trans (by assumption)))) | exact rfl) rfl rfl (c_filledC hn hR8 X hs8 (fun e => ⟨rfl, ?_⟩) (fun r hr ex => ⟨rfl, ?_⟩))
  · show Gl L xs Q (64 + i) (300000 + 2 * K) 527 i [.int (-2)] hp n
    refine g_aload_n (pc' := 528) dL_law_527 rfl rfl ?_
    refine g_aload_n (pc' := 529) dL_law_528 rfl rfl ?_
    refine g_iload_n (pc' := 530) dL_law_529 rfl rfl ?_
    refine g_iconst (pc' := 531) (v := nI 1) dL_law_530 (by decide) ?_
    first | refine g_iaddN (pc' := 532) dL_law_531 ?_ | refine g_iadd (pc' := 532) dL_law_531 ?_
    refine g_sld (pc' := 533) rfl dL_law_532 (IX_nI (by omega) (by omega)) ?_
    refine gc_V 536 47 [.int (xs (i + 1))] [.int (-2)] cw_L_94 im_X8_filled se_X8_filled dL_law_533 (by decide) (by decide) (by show _ ≤ 600000; omega) (by show _ ≤ 7302249; omega) (Nat.le_of_ble_eq_true rfl) rfl (Nat.le_of_ble_eq_true rfl) (by omega) (by first | assumption | exact va_up_self _ _ _ | exact (va_up_ne _ _ (by first | decide | omega)).trans (by assumption) | exact (va_up_ne _ _ (by first | decide | omega)).trans (va_up_self _ _ _) | exact (va_up_ne _ _ (by first | decide | omega)).trans ((va_up_ne _ _ (by first | decide | omega)).trans (by assumption)) | exact (va_up_ne _ _ (by first | decide | omega)).trans ((va_up_ne _ _ (by first | decide | omega)).trans (va_up_self _ _ _)) | exact (va_up_ne _ _ (by first | decide | omega)).trans ((va_up_ne _ _ (by first | decide | omega)).trans ((va_up_ne _ _ (by first | decide | omega)).trans (by assumption))) | exact (va_up_ne _ _ (by first | decide | omega)).trans ((va_up_ne _ _ (by first | decide | omega)).trans ((va_up_ne _ _ (by first | decide | omega)).trans ((va_up_ne _ _ (by first | decide | omega)).trans (by assumption)))) | exact rfl) rfl rfl (c_filled hn M (fun _ => ⟨rfl, ?_⟩) (fun r hr ex => absurd (show rwB R (xs (i + 1)) = true by rw [ex]; exact rwB_of hR8 hr) (bft e)))
    refine g_icmp_eq (tgt := 564) (pc' := 539) dL_law_536 (by decide) (fun _ => ?_) (fun hne => absurd rfl hne)
    exact nx' hp n (LI_mk M X W (by omega) hn (by omega) hK)
  · show Gl L xs Q (64 + i) (300000 + 2 * K) 527 i [.int (if bt0 s r then -1 else nI (fl r))] hp n
    refine g_aload_n (pc' := 528) dL_law_527 rfl rfl ?_
    refine g_aload_n (pc' := 529) dL_law_528 rfl rfl ?_
    refine g_iload_n (pc' := 530) dL_law_529 rfl rfl ?_
    refine g_iconst (pc' := 531) (v := nI 1) dL_law_530 (by decide) ?_
    first | refine g_iaddN (pc' := 532) dL_law_531 ?_ | refine g_iadd (pc' := 532) dL_law_531 ?_
    refine g_sld (pc' := 533) rfl dL_law_532 (IX_nI (by omega) (by omega)) ?_
    refine gc_V 536 47 [.int (xs (i + 1))] [.int (if bt0 s r then -1 else nI (fl r))] cw_L_94 im_X8_filled se_X8_filled dL_law_533 (by decide) (by decide) (by show _ ≤ 600000; omega) (by show _ ≤ 7302249; omega) (Nat.le_of_ble_eq_true rfl) rfl (Nat.le_of_ble_eq_true rfl) (by omega) (by first | assumption | exact va_up_self _ _ _ | exact (va_up_ne _ _ (by first | decide | omega)).trans (by assumption) | exact (va_up_ne _ _ (by first | decide | omega)).trans (va_up_self _ _ _) | exact (va_up_ne _ _ (by first | decide | omega)).trans ((va_up_ne _ _ (by first | decide | omega)).trans (by assumption)) | exact (va_up_ne _ _ (by first | decide | omega)).trans ((va_up_ne _ _ (by first | decide | omega)).trans (va_up_self _ _ _)) | exact (va_up_ne _ _ (by first | decide | omega)).trans ((va_up_ne _ _ (by first | decide | omega)).trans ((va_up_ne _ _ (by first | decide | omega)).trans (by assumption))) | exact (va_up_ne _ _ (by first | decide | omega)).trans ((va_up_ne _ _ (by first | decide | omega)).trans ((va_up_ne _ _ (by first | decide | omega)).trans ((va_up_ne _ _ (by first | decide | omega)).trans (by assumption)))) | exact rfl) rfl rfl (c_filled hn M (fun e9 => absurd (show rwB R (xs (i + 1)) = true by rw [ex]; exact rwB_of hR8 hr) (bft e9)) (fun r2 hr2 ex2 => ⟨rfl, ?_⟩))
    have q1 : r2 = r := (nI_eq (by omega) (by omega)).mp (ex2.symm.trans ex)
    subst q1
    refine g_icmp_eq (tgt := 564) (pc' := 539) dL_law_536 (by decide) (fun _ => ?_) (fun hne => absurd rfl hne)
    exact nx' hp n (LI_mk M X W (by omega) hn (by omega) hK)
theorem op_count (hi : i + 4 ≤ L) (hL : L ≤ 2048) (I : LI i hp n K) (nx : ∀ (hp' : AH) (n' K' : Nat), LI (i + 4) hp' n' K' → Gl L xs Q (64 + (i + 4)) (300000 + 2 * K') 564 i [] hp' n') : Gl L xs Q (64 + i) (300000 + 2 * K) 541 i [] hp n := by
  obtain ⟨D, S, T, R, kd, nn, pp, bg, it, tt, s, sm, h, k, fl, lu, sl, kid, rd, M, X, W, hsm, hn, hn2, hK⟩ := I
  have nx' : ∀ (hp' : AH) (n' : Nat), LI (i + 4) hp' n' K → Gl L xs Q (64 + i) (300000 + 2 * K) 564 i [] hp' n' := fun hp' n' q => g_widen (by omega) (by omega) (nx hp' n' K q)
  have Mr := M.1
  have c0 := X.1
  obtain ⟨x8, x23, x31, c47, -⟩ := M.2.1
  have hs8 := WS_s Mr.2.2.2.2.2.2.1 W
  have hk31 := WS_k Mr.2.2.2.2.2.1 W
  have G0 : bg = true → WG D S T R it tt s h k := fun q => (W.1 q).1
  refine g_aload_n (pc' := 542) dL_law_541 rfl rfl ?_
  refine g_aload_n (pc' := 543) dL_law_542 rfl rfl ?_
  refine g_iload_n (pc' := 544) dL_law_543 rfl rfl ?_
  refine g_iconst (pc' := 545) (v := nI 1) dL_law_544 (by decide) ?_
  first | refine g_iaddN (pc' := 546) dL_law_545 ?_ | refine g_iadd (pc' := 546) dL_law_545 ?_
  refine g_sld (pc' := 547) rfl dL_law_546 (IX_nI (by omega) (by omega)) ?_
  refine gc_V 550 0 [.int (xs (i + 1))] [] cw_L_95 im_X7_count se_X7_count dL_law_547 (by decide) (by decide) (by show _ ≤ 600000; omega) (by show _ ≤ 7302249; omega) (Nat.le_of_ble_eq_true rfl) rfl (Nat.le_of_ble_eq_true rfl) (by omega) (by first | assumption | exact va_up_self _ _ _ | exact (va_up_ne _ _ (by first | decide | omega)).trans (by assumption) | exact (va_up_ne _ _ (by first | decide | omega)).trans (va_up_self _ _ _) | exact (va_up_ne _ _ (by first | decide | omega)).trans ((va_up_ne _ _ (by first | decide | omega)).trans (by assumption)) | exact (va_up_ne _ _ (by first | decide | omega)).trans ((va_up_ne _ _ (by first | decide | omega)).trans (va_up_self _ _ _)) | exact (va_up_ne _ _ (by first | decide | omega)).trans ((va_up_ne _ _ (by first | decide | omega)).trans ((va_up_ne _ _ (by first | decide | omega)).trans (by assumption))) | exact (va_up_ne _ _ (by first | decide | omega)).trans ((va_up_ne _ _ (by first | decide | omega)).trans ((va_up_ne _ _ (by first | decide | omega)).trans ((va_up_ne _ _ (by first | decide | omega)).trans (by assumption)))) | exact rfl) rfl rfl (c_countC hn Mr X W (fun e => ⟨rfl, ?_⟩) (fun v hv ex => ⟨rfl, ?_⟩))
  · show Gl L xs Q (64 + i) (300000 + 2 * K) 550 i [.int (-3)] hp n
    refine g_aload_n (pc' := 551) dL_law_550 rfl rfl ?_
    refine g_aload_n (pc' := 552) dL_law_551 rfl rfl ?_
    refine g_iload_n (pc' := 553) dL_law_552 rfl rfl ?_
    refine g_iconst (pc' := 554) (v := nI 1) dL_law_553 (by decide) ?_
    first | refine g_iaddN (pc' := 555) dL_law_554 ?_ | refine g_iadd (pc' := 555) dL_law_554 ?_
    refine g_sld (pc' := 556) rfl dL_law_555 (IX_nI (by omega) (by omega)) ?_
    refine gc_V 559 47 [.int (xs (i + 1))] [.int (-3)] cw_L_98 im_X8_count se_X8_count dL_law_556 (by decide) (by decide) (by show _ ≤ 600000; omega) (by show _ ≤ 7302249; omega) (Nat.le_of_ble_eq_true rfl) rfl (Nat.le_of_ble_eq_true rfl) (by omega) (by first | assumption | exact va_up_self _ _ _ | exact (va_up_ne _ _ (by first | decide | omega)).trans (by assumption) | exact (va_up_ne _ _ (by first | decide | omega)).trans (va_up_self _ _ _) | exact (va_up_ne _ _ (by first | decide | omega)).trans ((va_up_ne _ _ (by first | decide | omega)).trans (by assumption)) | exact (va_up_ne _ _ (by first | decide | omega)).trans ((va_up_ne _ _ (by first | decide | omega)).trans (va_up_self _ _ _)) | exact (va_up_ne _ _ (by first | decide | omega)).trans ((va_up_ne _ _ (by first | decide | omega)).trans ((va_up_ne _ _ (by first | decide | omega)).trans (by assumption))) | exact (va_up_ne _ _ (by first | decide | omega)).trans ((va_up_ne _ _ (by first | decide | omega)).trans ((va_up_ne _ _ (by first | decide | omega)).trans ((va_up_ne _ _ (by first | decide | omega)).trans (by assumption)))) | exact rfl) rfl rfl (c_count hn M hs8 G0 (fun _ => ⟨rfl, ?_⟩) (fun v hv ex => absurd (show inB 0 9 (xs (i + 1)) = true by rw [ex]; exact inB_v (Nat.zero_le _) hv (by decide)) (bft e)))
    refine g_icmp_eq (tgt := 564) (pc' := 562) dL_law_559 (by decide) (fun _ => ?_) (fun hne => absurd rfl hne)
    exact nx' hp n (LI_mk M X W (by omega) hn (by omega) hK)
  · show Gl L xs Q (64 + i) (300000 + 2 * K) 550 i [.int (nI (cnN D S T R bg it tt s sm h k v))] hp n
    refine g_aload_n (pc' := 551) dL_law_550 rfl rfl ?_
    refine g_aload_n (pc' := 552) dL_law_551 rfl rfl ?_
    refine g_iload_n (pc' := 553) dL_law_552 rfl rfl ?_
    refine g_iconst (pc' := 554) (v := nI 1) dL_law_553 (by decide) ?_
    first | refine g_iaddN (pc' := 555) dL_law_554 ?_ | refine g_iadd (pc' := 555) dL_law_554 ?_
    refine g_sld (pc' := 556) rfl dL_law_555 (IX_nI (by omega) (by omega)) ?_
    refine gc_V 559 47 [.int (xs (i + 1))] [.int (nI (cnN D S T R bg it tt s sm h k v))] cw_L_98 im_X8_count se_X8_count dL_law_556 (by decide) (by decide) (by show _ ≤ 600000; omega) (by show _ ≤ 7302249; omega) (Nat.le_of_ble_eq_true rfl) rfl (Nat.le_of_ble_eq_true rfl) (by omega) (by first | assumption | exact va_up_self _ _ _ | exact (va_up_ne _ _ (by first | decide | omega)).trans (by assumption) | exact (va_up_ne _ _ (by first | decide | omega)).trans (va_up_self _ _ _) | exact (va_up_ne _ _ (by first | decide | omega)).trans ((va_up_ne _ _ (by first | decide | omega)).trans (by assumption)) | exact (va_up_ne _ _ (by first | decide | omega)).trans ((va_up_ne _ _ (by first | decide | omega)).trans (va_up_self _ _ _)) | exact (va_up_ne _ _ (by first | decide | omega)).trans ((va_up_ne _ _ (by first | decide | omega)).trans ((va_up_ne _ _ (by first | decide | omega)).trans (by assumption))) | exact (va_up_ne _ _ (by first | decide | omega)).trans ((va_up_ne _ _ (by first | decide | omega)).trans ((va_up_ne _ _ (by first | decide | omega)).trans ((va_up_ne _ _ (by first | decide | omega)).trans (by assumption)))) | exact rfl) rfl rfl (c_count hn M hs8 G0 (fun e => absurd (show inB 0 9 (xs (i + 1)) = true by rw [ex]; exact inB_v (Nat.zero_le _) hv (by decide)) (bft e)) (fun v2 hv2 ex2 => ⟨rfl, ?_⟩))
    have q1 : v2 = v := (nI_eq (by omega) (by omega)).mp (ex2.symm.trans ex)
    subst q1
    refine g_icmp_eq (tgt := 564) (pc' := 562) dL_law_559 (by decide) (fun _ => ?_) (fun hne => absurd rfl hne)
    exact nx' hp n (LI_mk M X W (by omega) hn (by omega) hK)
theorem op_chance (hi : i + 4 ≤ L) (hL : L ≤ 2048) (I : LI i hp n K) (nx : ∀ (hp' : AH) (n' K' : Nat), LI (i + 4) hp' n' K' → Gl L xs Q (64 + (i + 4)) (300000 + 2 * K') 564 i [] hp' n') : Gl L xs Q (64 + i) (300000 + 2 * K) 410 i [] hp n := by
  obtain ⟨D, S, T, R, kd, nn, pp, bg, it, tt, s, sm, h, k, fl, lu, sl, kid, rd, M, X, W, hsm, hn, hn2, hK⟩ := I
  have nx' : ∀ (hp' : AH) (n' : Nat), LI (i + 4) hp' n' K → Gl L xs Q (64 + i) (300000 + 2 * K) 564 i [] hp' n' := fun hp' n' q => g_widen (by omega) (by omega) (nx hp' n' K q)
  have Mr := M.1
  have c0 := X.1
  obtain ⟨x8, x23, x31, c47, -⟩ := M.2.1
  have hs8 := WS_s Mr.2.2.2.2.2.2.1 W
  have hk31 := WS_k Mr.2.2.2.2.2.1 W
  have G0 : bg = true → WG D S T R it tt s h k := fun q => (W.1 q).1
  refine g_aload_n (pc' := 411) dL_law_410 rfl rfl ?_
  refine g_aload_n (pc' := 412) dL_law_411 rfl rfl ?_
  refine g_iload_n (pc' := 413) dL_law_412 rfl rfl ?_
  refine g_iconst (pc' := 414) (v := nI 1) dL_law_413 (by decide) ?_
  first | refine g_iaddN (pc' := 415) dL_law_414 ?_ | refine g_iadd (pc' := 415) dL_law_414 ?_
  refine g_sld (pc' := 416) rfl dL_law_415 (IX_nI (by omega) (by omega)) ?_
  have hwf := wfH_of hn X M
  obtain ⟨c, hc1, hc2, hcb⟩ : ∃ c, (bg = true → inB 0 500 (xs (i + 1)) = true → c = ctN rd K (ttN D S R (Pf kd nn pp S))) ∧ (bg = false ∨ inB 0 500 (xs (i + 1)) = false → c = 0) ∧ c ≤ 1720320 := by
    by_cases e1 : bg = true
    · by_cases e2 : inB 0 500 (xs (i + 1)) = true
      · refine ⟨_, fun _ _ => rfl, fun q => ?_, ?_⟩
        · rcases q with q | q
          · exact absurd e1 (bft q)
          · exact absurd e2 (bft q)
        · obtain ⟨XG, -⟩ := X.2.2.2 e1
          have hp8 : 2 ^ R ≤ 2 ^ 8 := Nat.pow_le_pow_right (by decide) Mr.2.2.2.2.2.2.1
          have htt : ttN D S R (Pf kd nn pp S) ≤ 430080 := sc_le XG.1 XG.2.2.2.1 (by omega)
          unfold ctN
          split
          · omega
          · split <;> omega
      · exact ⟨0, fun _ q => absurd q e2, fun _ => rfl, by omega⟩
    · exact ⟨0, fun q => absurd q e1, fun _ => rfl, by omega⟩
  refine gc_VA 419 0 [.int (xs (i + 1))] [] cw_L_70 im_X7_chance se_X7_chance dL_law_416 ⟨⟨by show 25 + 1 ≤ 2048; decide, by show 8 + (4 + 11) + 60 * 25 ≤ 84000; decide⟩, by show 64 + i + 1 ≤ 600000; omega, by show 300000 + 2 * K + c ≤ 7302249; omega⟩ (Nat.le_of_ble_eq_true rfl) rfl (Nat.le_of_ble_eq_true rfl) (by omega) c0 rfl rfl ⟨(by repeat (first | exact fun _ h => absurd h List.not_mem_nil | refine List.forall_mem_cons.mpr ⟨?_, ?_⟩ | exact trivial | exact wfr (by omega) | exact wfxS)), (by repeat (first | exact fun _ h => absurd h List.not_mem_nil | refine List.forall_mem_cons.mpr ⟨?_, ?_⟩ | exact trivial | exact wfr (by omega) | exact wfxS))⟩ (c_chanceC hn (by omega) Mr X W hwf (by omega) hc1 (fun e _ => ?_) (fun e1 eb _ => ?_) (fun eb v hv ex hp1 n1 kid1 K1 X1 b1 b2 b3 b4 F1 _ => ?_))
  · have ec := hc2 (Or.inr e)
    subst ec
    show Gl L xs Q (64 + i + 1) (300000 + 2 * K + 0) 419 i [.long (-3)] hp n
    refine g_aload_n (pc' := 420) dL_law_419 rfl rfl ?_
    refine g_aload_n (pc' := 421) dL_law_420 rfl rfl ?_
    refine g_iload_n (pc' := 422) dL_law_421 rfl rfl ?_
    refine g_iconst (pc' := 423) (v := nI 1) dL_law_422 (by decide) ?_
    first | refine g_iaddN (pc' := 424) dL_law_423 ?_ | refine g_iadd (pc' := 424) dL_law_423 ?_
    refine g_sld (pc' := 425) rfl dL_law_424 (IX_nI (by omega) (by omega)) ?_
    refine gc_V 428 47 [.int (xs (i + 1))] [.long (-3)] cw_L_73 im_X8_chance se_X8_chance dL_law_425 (by decide) (by decide) (by show _ ≤ 600000; omega) (by show _ ≤ 7302249; omega) (Nat.le_of_ble_eq_true rfl) rfl (Nat.le_of_ble_eq_true rfl) (by omega) (by first | assumption | exact va_up_self _ _ _ | exact (va_up_ne _ _ (by first | decide | omega)).trans (by assumption) | exact (va_up_ne _ _ (by first | decide | omega)).trans (va_up_self _ _ _) | exact (va_up_ne _ _ (by first | decide | omega)).trans ((va_up_ne _ _ (by first | decide | omega)).trans (by assumption)) | exact (va_up_ne _ _ (by first | decide | omega)).trans ((va_up_ne _ _ (by first | decide | omega)).trans (va_up_self _ _ _)) | exact (va_up_ne _ _ (by first | decide | omega)).trans ((va_up_ne _ _ (by first | decide | omega)).trans ((va_up_ne _ _ (by first | decide | omega)).trans (by assumption))) | exact (va_up_ne _ _ (by first | decide | omega)).trans ((va_up_ne _ _ (by first | decide | omega)).trans ((va_up_ne _ _ (by first | decide | omega)).trans ((va_up_ne _ _ (by first | decide | omega)).trans (by assumption)))) | exact rfl) rfl rfl (c_chance hn M G0 (by omega) (fun _ => ⟨rfl, ?_⟩) (fun e1 => absurd e1 (bft e)) (fun _ v hv ex => absurd (show inB 0 500 (xs (i + 1)) = true by rw [ex]; exact inB_v (Nat.zero_le _) hv (by decide)) (bft e)))
    refine g_lcmp (pc' := 429) dL_law_428 ?_
    refine g_if_eq (tgt := 564) (pc' := 432) dL_law_429 (by decide) (fun _ => ?_) (fun hne => absurd ((lg_eq0 _ _).mpr rfl) hne)
    exact g_widen (by omega) (by omega) (nx hp n K (LI_mk M X W (by omega) hn (by omega) hK))
  · have ec := hc2 (Or.inl eb)
    subst ec
    show Gl L xs Q (64 + i + 1) (300000 + 2 * K + 0) 419 i [.long (-4)] hp n
    refine g_aload_n (pc' := 420) dL_law_419 rfl rfl ?_
    refine g_aload_n (pc' := 421) dL_law_420 rfl rfl ?_
    refine g_iload_n (pc' := 422) dL_law_421 rfl rfl ?_
    refine g_iconst (pc' := 423) (v := nI 1) dL_law_422 (by decide) ?_
    first | refine g_iaddN (pc' := 424) dL_law_423 ?_ | refine g_iadd (pc' := 424) dL_law_423 ?_
    refine g_sld (pc' := 425) rfl dL_law_424 (IX_nI (by omega) (by omega)) ?_
    refine gc_V 428 47 [.int (xs (i + 1))] [.long (-4)] cw_L_73 im_X8_chance se_X8_chance dL_law_425 (by decide) (by decide) (by show _ ≤ 600000; omega) (by show _ ≤ 7302249; omega) (Nat.le_of_ble_eq_true rfl) rfl (Nat.le_of_ble_eq_true rfl) (by omega) (by first | assumption | exact va_up_self _ _ _ | exact (va_up_ne _ _ (by first | decide | omega)).trans (by assumption) | exact (va_up_ne _ _ (by first | decide | omega)).trans (va_up_self _ _ _) | exact (va_up_ne _ _ (by first | decide | omega)).trans ((va_up_ne _ _ (by first | decide | omega)).trans (by assumption)) | exact (va_up_ne _ _ (by first | decide | omega)).trans ((va_up_ne _ _ (by first | decide | omega)).trans (va_up_self _ _ _)) | exact (va_up_ne _ _ (by first | decide | omega)).trans ((va_up_ne _ _ (by first | decide | omega)).trans ((va_up_ne _ _ (by first | decide | omega)).trans (by assumption))) | exact (va_up_ne _ _ (by first | decide | omega)).trans ((va_up_ne _ _ (by first | decide | omega)).trans ((va_up_ne _ _ (by first | decide | omega)).trans ((va_up_ne _ _ (by first | decide | omega)).trans (by assumption)))) | exact rfl) rfl rfl (c_chance hn M G0 (by omega) (fun e => absurd e1 (bft e)) (fun _ _ => ⟨rfl, ?_⟩) (fun q => absurd q (bft eb)))
    refine g_lcmp (pc' := 429) dL_law_428 ?_
    refine g_if_eq (tgt := 564) (pc' := 432) dL_law_429 (by decide) (fun _ => ?_) (fun hne => absurd ((lg_eq0 _ _).mpr rfl) hne)
    exact g_widen (by omega) (by omega) (nx hp n K (LI_mk M X W (by omega) hn (by omega) hK))
  · have M1 := MS_F F1 M
    obtain ⟨y8, y23, y31, d47, -⟩ := M1.2.1
    show Gl L xs Q (64 + i + 1) (300000 + 2 * K + c) 419 i [.long (lN (chV D S T R (Pf kd nn pp S) it tt s h k (v - sm)))] hp1 n1
    refine g_aload_n (pc' := 420) dL_law_419 rfl rfl ?_
    refine g_aload_n (pc' := 421) dL_law_420 rfl rfl ?_
    refine g_iload_n (pc' := 422) dL_law_421 rfl rfl ?_
    refine g_iconst (pc' := 423) (v := nI 1) dL_law_422 (by decide) ?_
    first | refine g_iaddN (pc' := 424) dL_law_423 ?_ | refine g_iadd (pc' := 424) dL_law_423 ?_
    refine g_sld (pc' := 425) rfl dL_law_424 (IX_nI (by omega) (by omega)) ?_
    refine gc_V 428 47 [.int (xs (i + 1))] [.long (lN (chV D S T R (Pf kd nn pp S) it tt s h k (v - sm)))] cw_L_73 im_X8_chance se_X8_chance dL_law_425 (by decide) (by decide) (by show _ ≤ 600000; omega) (by show _ ≤ 7302249; omega) (Nat.le_of_ble_eq_true rfl) rfl (Nat.le_of_ble_eq_true rfl) (by omega) (by first | assumption | exact va_up_self _ _ _ | exact (va_up_ne _ _ (by first | decide | omega)).trans (by assumption) | exact (va_up_ne _ _ (by first | decide | omega)).trans (va_up_self _ _ _) | exact (va_up_ne _ _ (by first | decide | omega)).trans ((va_up_ne _ _ (by first | decide | omega)).trans (by assumption)) | exact (va_up_ne _ _ (by first | decide | omega)).trans ((va_up_ne _ _ (by first | decide | omega)).trans (va_up_self _ _ _)) | exact (va_up_ne _ _ (by first | decide | omega)).trans ((va_up_ne _ _ (by first | decide | omega)).trans ((va_up_ne _ _ (by first | decide | omega)).trans (by assumption))) | exact (va_up_ne _ _ (by first | decide | omega)).trans ((va_up_ne _ _ (by first | decide | omega)).trans ((va_up_ne _ _ (by first | decide | omega)).trans ((va_up_ne _ _ (by first | decide | omega)).trans (by assumption)))) | exact rfl) rfl rfl (c_chance (by omega) M1 G0 (by omega) (fun e => absurd (show inB 0 500 (xs (i + 1)) = true by rw [ex]; exact inB_v (Nat.zero_le _) hv (by decide)) (bft e)) (fun _ q => absurd eb (bft q)) (fun _ v2 hv2 ex2 hp2 M2 F2 => ⟨rfl, ?_⟩))
    have q1 : v2 = v := (nI_eq (by omega) (by omega)).mp (ex2.symm.trans ex)
    subst q1
    refine g_lcmp (pc' := 429) dL_law_428 ?_
    refine g_if_eq (tgt := 564) (pc' := 432) dL_law_429 (by decide) (fun _ => ?_) (fun hne => absurd ((lg_eq0 _ _).mpr rfl) hne)
    exact g_widen (by omega) (by omega) (nx hp2 n1 K1 (LI_mk M2 (CS_F F2 X1) W (by omega) (by omega) (by omega) b1))
end LW
