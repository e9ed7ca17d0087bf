/-! what a heap shows, counted; its points -/
def aA (c : Nat → Nat) : Nat → Nat
  | 0 => 0
  | s + 1 => aA c s + c s * (s + 1)
def aM (c : Nat → Nat) : Nat → Nat
  | 0 => 0
  | s + 1 => max (aM c s) (c s)
/-- how many sides are shown by k dice or more -/
def aT (k : Nat) (c : Nat → Nat) : Nat → Nat
  | 0 => 0
  | s + 1 => aT k c s + (if k ≤ c s then 1 else 0)
def aU (c : Nat → Nat) : Nat → Nat
  | 0 => 0
  | s + 1 => if 0 < c s then aU c s + 1 else 0
def aL (c : Nat → Nat) : Nat → Nat
  | 0 => 0
  | s + 1 => max (aL c s) (aU c (s + 1))
def ptsF (kind n p : Nat) (c : Nat → Nat) : Nat := match kind with
  | 0 => n * c (n - 1)
  | 1 => if n ≤ aM c 6 then aA c 6 else 0
  | 2 => if n ≤ aL c 6 then p else 0
  | 3 => if n ≤ aT 2 c 6 then p else 0
  | 4 => if aT 1 c 6 = n then p else 0
  | _ => aA c 6 + p
theorem aA_le {c : Nat → Nat} (h : ∀ s, s < 6 → c s ≤ 5) : ∀ i, i ≤ 6 → aA c i ≤ 30 * i
  | 0, _ => Nat.le_refl _
  | s + 1, hs => by
    have h1 := aA_le h s (by omega)
    have h3 : c s * (s + 1) ≤ 5 * 6 := Nat.mul_le_mul (h s (by omega)) (by omega)
    unfold aA
    omega
theorem aM_le {c : Nat → Nat} (h : ∀ s, s < 6 → c s ≤ 5) : ∀ i, i ≤ 6 → aM c i ≤ 5
  | 0, _ => Nat.zero_le _
  | s + 1, hs => by
    have h1 := aM_le h s (by omega)
    have h3 := h s (by omega)
    unfold aM
    omega
theorem aT_le (k : Nat) (c : Nat → Nat) : ∀ i, aT k c i ≤ i
  | 0 => Nat.le_refl _
  | s + 1 => by
    have h1 := aT_le k c s
    unfold aT
    split <;> omega
theorem aU_le (c : Nat → Nat) : ∀ i, aU c i ≤ i
  | 0 => Nat.le_refl _
  | s + 1 => by
    have h1 := aU_le c s
    unfold aU
    split <;> omega
theorem aL_le (c : Nat → Nat) : ∀ i, aL c i ≤ i
  | 0 => Nat.le_refl _
  | s + 1 => by
    have h1 := aL_le c s
    have h2 := aU_le c (s + 1)
    unfold aL
    omega
theorem ptsF_le {kind n p : Nat} {c : Nat → Nat} (h : ∀ s, s < 6 → c s ≤ 5) (hn1 : 1 ≤ n) (hn : n ≤ 6) (hp : p ≤ 30) : ptsF kind n p c ≤ 210 := by
  have h1 := aA_le h 6 (by omega)
  unfold ptsF
  split
  · have : n * c (n - 1) ≤ 6 * 5 := Nat.mul_le_mul hn (h (n - 1) (by omega))
    omega
  all_goals first | omega | (split <;> omega)
theorem ptsF_congr {kind n p : Nat} {c e : Nat → Nat} (h : ∀ s, s < 6 → c s = e s) (hn1 : 1 ≤ n) (hn : n ≤ 6) : ptsF kind n p c = ptsF kind n p e := by
  have hA : ∀ i, i ≤ 6 → aA c i = aA e i := fun i => by
    induction i with
    | zero => intro _; rfl
    | succ i ih => intro hi; unfold aA; rw [ih (by omega), h i (by omega)]
  have hM : ∀ i, i ≤ 6 → aM c i = aM e i := fun i => by
    induction i with
    | zero => intro _; rfl
    | succ i ih => intro hi; unfold aM; rw [ih (by omega), h i (by omega)]
  have hT : ∀ k i, i ≤ 6 → aT k c i = aT k e i := fun k i => by
    induction i with
    | zero => intro _; rfl
    | succ i ih => intro hi; unfold aT; rw [ih (by omega), h i (by omega)]
  have hU : ∀ i, i ≤ 6 → aU c i = aU e i := fun i => by
    induction i with
    | zero => intro _; rfl
    | succ i ih => intro hi; unfold aU; rw [ih (by omega), h i (by omega)]
  have hL : ∀ i, i ≤ 6 → aL c i = aL e i := fun i => by
    induction i with
    | zero => intro _; rfl
    | succ i ih => intro hi; unfold aL; rw [ih (by omega), hU (i + 1) hi]
  unfold ptsF
  rw [hA 6 (by omega), hM 6 (by omega), hT 1 6 (by omega), hT 2 6 (by omega), hL 6 (by omega), h (n - 1) (by omega)]
set_option maxHeartbeats 4000000 in
theorem c_pointsIn {hp : AH} {n D S T R h r kd nn pp : Nat} {fs : List Value} {fsh fk fn fpp : Nat → Int32} {cn : Nat → Nat} {Q : Option Value → AH → Nat → Prop} (hn : 64 ≤ n) (c47 : hp 47 = ob 8 fs) (F : MF fs D S T R) (c48 : hp 48 = aI 8 fk) (c49 : hp 49 = aI 8 fn) (c50 : hp 50 = aI 8 fpp) (c51 : hp 51 = aI 2772 fsh) (hh : h < 462) (hr : r < 8) (hk : kd ≤ 5) (hn1 : 1 ≤ nn) (hn6 : nn ≤ 6) (hpp : pp ≤ 30) (hc : ∀ k, k < 6 → fsh (6 * h + k) = nI (cn k)) (hc5 : ∀ k, k < 6 → cn k ≤ 5) (hfk : fk r = nI kd) (hfn : fn r = nI nn) (hfp : fpp r = nI pp) (hq : Q (some (.int (nI (ptsF kd nn pp cn)))) hp n) : CT yX8_pointsIn cX8_pointsIn 11 (some .int) (rmD 0) [.ref 47, .int (nI h), .int (nI r)] hp n Q := by
  obtain ⟨f99, f0, f1, f2, f3, f4, f5, f6, f9, f10, f11, f12, f13, f16, f24, f25, f26, f27, f28, f29, f30⟩ := F
  show G yX8_pointsIn cX8_pointsIn 11 (some .int) (rmD 0) none Q 0 0 0 [.ref 47, .int (nI h), .int (nI r), uu, uu, uu, uu, uu, uu, uu, uu] [] hp n
  refine g_iconst (pc' := 1) (v := nI 0) dX8_pointsIn_0 (by decide) ?_
  refine g_istore_n (pc' := 2) dX8_pointsIn_1 rfl (by decide) ?_
  refine g_iconst (pc' := 3) (v := nI 0) dX8_pointsIn_2 (by decide) ?_
  refine g_istore (pc' := 5) dX8_pointsIn_3 (by decide) ?_
  refine g_iconst (pc' := 6) (v := nI 0) dX8_pointsIn_5 (by decide) ?_
  refine g_istore (pc' := 8) dX8_pointsIn_6 (by decide) ?_
  refine g_iconst (pc' := 9) (v := nI 0) dX8_pointsIn_8 (by decide) ?_
  refine g_istore (pc' := 11) dX8_pointsIn_9 (by decide) ?_
  refine g_iconst (pc' := 12) (v := nI 0) dX8_pointsIn_11 (by decide) ?_
  refine g_istore (pc' := 14) dX8_pointsIn_12 (by decide) ?_
  refine g_iconst (pc' := 15) (v := nI 0) dX8_pointsIn_14 (by decide) ?_
  refine g_istore (pc' := 17) dX8_pointsIn_15 (by decide) ?_
  refine g_iconst (pc' := 18) (v := nI 0) dX8_pointsIn_17 (by decide) ?_
  refine g_istore (pc' := 20) dX8_pointsIn_18 (by decide) ?_
  have loop : ∀ k i w, i + k = 6 → G yX8_pointsIn cX8_pointsIn 11 (some .int) (rmD 0) none Q 0 0 20 [.ref 47, .int (nI h), .int (nI r), .int (nI (aA cn i)), .int (nI (aM cn i)), .int (nI (aT 2 cn i)), .int (nI (aT 1 cn i)), .int (nI (aU cn i)), .int (nI (aL cn i)), .int (nI i), w] [] hp n := by
    intro k
    induction k with
    | zero =>
      intro i w hi
      have hi' : i = 6 := by omega
      subst hi'
      have b1 := aA_le hc5 6 (by omega)
      have b2 := aM_le hc5 6 (by omega)
      have b3 := aT_le 2 cn 6
      have b4 := aT_le 1 cn 6
      have b5 := aL_le cn 6
      have b6 := hc5 (nn - 1) (by omega)
      refine g_iload (pc' := 22) dX8_pointsIn_20 rfl ?_
      refine g_bipush (pc' := 24) (v := nI 6) dX8_pointsIn_22 (by decide) ?_
      refine g_icmp_geN (tgt := 135) (pc' := 27) dX8_pointsIn_24 (by decide) (by first | omega | decide) (by first | omega | decide) (fun h1 => ?_) (fun h1 => ?_)
      · refine g_aload_n (pc' := 136) dX8_pointsIn_135 rfl rfl ?_
        refine g_get (pc' := 139) fl_X8_23 dX8_pointsIn_136 (by omega) (by first | assumption | exact va_up_self _ _ _ | exact (va_up_ne _ _ (by decide)).trans (by assumption) | exact (va_up_ne _ _ (by decide)).trans (va_up_self _ _ _) | exact (va_up_ne _ _ (by decide)).trans ((va_up_ne _ _ (by decide)).trans (by assumption)) | exact (va_up_ne _ _ (by decide)).trans ((va_up_ne _ _ (by decide)).trans (va_up_self _ _ _)) | exact (va_up_ne _ _ (by decide)).trans ((va_up_ne _ _ (by decide)).trans ((va_up_ne _ _ (by decide)).trans (by assumption))) | exact (va_up_ne _ _ (by decide)).trans ((va_up_ne _ _ (by decide)).trans ((va_up_ne _ _ (by decide)).trans ((va_up_ne _ _ (by decide)).trans (by assumption)))) | exact rfl) (by first | assumption | rfl | exact (List.getElem?_set_ne (by decide)).trans (by assumption) | exact List.getElem?_set_self (by omega)) ?_
        refine g_iload_n (pc' := 140) dX8_pointsIn_139 rfl rfl ?_
        refine g_ialdV (pc' := 141) dX8_pointsIn_140 (by omega) (by first | assumption | exact va_up_self _ _ _ | exact (va_up_ne _ _ (by decide)).trans (by assumption) | exact (va_up_ne _ _ (by decide)).trans (va_up_self _ _ _) | exact (va_up_ne _ _ (by decide)).trans ((va_up_ne _ _ (by decide)).trans (by assumption)) | exact (va_up_ne _ _ (by decide)).trans ((va_up_ne _ _ (by decide)).trans (va_up_self _ _ _)) | exact (va_up_ne _ _ (by decide)).trans ((va_up_ne _ _ (by decide)).trans ((va_up_ne _ _ (by decide)).trans (by assumption))) | exact (va_up_ne _ _ (by decide)).trans ((va_up_ne _ _ (by decide)).trans ((va_up_ne _ _ (by decide)).trans ((va_up_ne _ _ (by decide)).trans (by assumption)))) | exact rfl) ((IX_nI (by omega) (by omega))) (hfn) ?_
        refine g_istore (pc' := 143) dX8_pointsIn_141 (by decide) ?_
        refine g_aload_n (pc' := 144) dX8_pointsIn_143 rfl rfl ?_
        refine g_get (pc' := 147) fl_X8_26 dX8_pointsIn_144 (by omega) (by first | assumption | exact va_up_self _ _ _ | exact (va_up_ne _ _ (by decide)).trans (by assumption) | exact (va_up_ne _ _ (by decide)).trans (va_up_self _ _ _) | exact (va_up_ne _ _ (by decide)).trans ((va_up_ne _ _ (by decide)).trans (by assumption)) | exact (va_up_ne _ _ (by decide)).trans ((va_up_ne _ _ (by decide)).trans (va_up_self _ _ _)) | exact (va_up_ne _ _ (by decide)).trans ((va_up_ne _ _ (by decide)).trans ((va_up_ne _ _ (by decide)).trans (by assumption))) | exact (va_up_ne _ _ (by decide)).trans ((va_up_ne _ _ (by decide)).trans ((va_up_ne _ _ (by decide)).trans ((va_up_ne _ _ (by decide)).trans (by assumption)))) | exact rfl) (by first | assumption | rfl | exact (List.getElem?_set_ne (by decide)).trans (by assumption) | exact List.getElem?_set_self (by omega)) ?_
        refine g_iload_n (pc' := 148) dX8_pointsIn_147 rfl rfl ?_
        refine g_ialdV (pc' := 149) dX8_pointsIn_148 (by omega) (by first | assumption | exact va_up_self _ _ _ | exact (va_up_ne _ _ (by decide)).trans (by assumption) | exact (va_up_ne _ _ (by decide)).trans (va_up_self _ _ _) | exact (va_up_ne _ _ (by decide)).trans ((va_up_ne _ _ (by decide)).trans (by assumption)) | exact (va_up_ne _ _ (by decide)).trans ((va_up_ne _ _ (by decide)).trans (va_up_self _ _ _)) | exact (va_up_ne _ _ (by decide)).trans ((va_up_ne _ _ (by decide)).trans ((va_up_ne _ _ (by decide)).trans (by assumption))) | exact (va_up_ne _ _ (by decide)).trans ((va_up_ne _ _ (by decide)).trans ((va_up_ne _ _ (by decide)).trans ((va_up_ne _ _ (by decide)).trans (by assumption)))) | exact rfl) ((IX_nI (by omega) (by omega))) (hfp) ?_
        refine g_istore (pc' := 151) dX8_pointsIn_149 (by decide) ?_
        refine g_aload_n (pc' := 152) dX8_pointsIn_151 rfl rfl ?_
        refine g_get (pc' := 155) fl_X8_19 dX8_pointsIn_152 (by omega) (by first | assumption | exact va_up_self _ _ _ | exact (va_up_ne _ _ (by decide)).trans (by assumption) | exact (va_up_ne _ _ (by decide)).trans (va_up_self _ _ _) | exact (va_up_ne _ _ (by decide)).trans ((va_up_ne _ _ (by decide)).trans (by assumption)) | exact (va_up_ne _ _ (by decide)).trans ((va_up_ne _ _ (by decide)).trans (va_up_self _ _ _)) | exact (va_up_ne _ _ (by decide)).trans ((va_up_ne _ _ (by decide)).trans ((va_up_ne _ _ (by decide)).trans (by assumption))) | exact (va_up_ne _ _ (by decide)).trans ((va_up_ne _ _ (by decide)).trans ((va_up_ne _ _ (by decide)).trans ((va_up_ne _ _ (by decide)).trans (by assumption)))) | exact rfl) (by first | assumption | rfl | exact (List.getElem?_set_ne (by decide)).trans (by assumption) | exact List.getElem?_set_self (by omega)) ?_
        refine g_iload_n (pc' := 156) dX8_pointsIn_155 rfl rfl ?_
        refine g_ialdV (pc' := 157) dX8_pointsIn_156 (by omega) (by first | assumption | exact va_up_self _ _ _ | exact (va_up_ne _ _ (by decide)).trans (by assumption) | exact (va_up_ne _ _ (by decide)).trans (va_up_self _ _ _) | exact (va_up_ne _ _ (by decide)).trans ((va_up_ne _ _ (by decide)).trans (by assumption)) | exact (va_up_ne _ _ (by decide)).trans ((va_up_ne _ _ (by decide)).trans (va_up_self _ _ _)) | exact (va_up_ne _ _ (by decide)).trans ((va_up_ne _ _ (by decide)).trans ((va_up_ne _ _ (by decide)).trans (by assumption))) | exact (va_up_ne _ _ (by decide)).trans ((va_up_ne _ _ (by decide)).trans ((va_up_ne _ _ (by decide)).trans ((va_up_ne _ _ (by decide)).trans (by assumption)))) | exact rfl) ((IX_nI (by omega) (by omega))) (hfk) ?_
        have hkd : kd = 0 ∨ kd = 1 ∨ kd = 2 ∨ kd = 3 ∨ kd = 4 ∨ kd = 5 := by omega
        rcases hkd with rfl | rfl | rfl | rfl | rfl | rfl
        · refine g_tabIn (tgt := 192) dX8_pointsIn_157 (by decide) (by decide) (show _ = some 35 from by decide) (by decide) ?_
          refine g_iload (pc' := 194) dX8_pointsIn_192 rfl ?_
          refine g_aload_n (pc' := 195) dX8_pointsIn_194 rfl rfl ?_
          refine g_get (pc' := 198) fl_X8_29 dX8_pointsIn_195 (by omega) (by first | assumption | exact va_up_self _ _ _ | exact (va_up_ne _ _ (by decide)).trans (by assumption) | exact (va_up_ne _ _ (by decide)).trans (va_up_self _ _ _) | exact (va_up_ne _ _ (by decide)).trans ((va_up_ne _ _ (by decide)).trans (by assumption)) | exact (va_up_ne _ _ (by decide)).trans ((va_up_ne _ _ (by decide)).trans (va_up_self _ _ _)) | exact (va_up_ne _ _ (by decide)).trans ((va_up_ne _ _ (by decide)).trans ((va_up_ne _ _ (by decide)).trans (by assumption))) | exact (va_up_ne _ _ (by decide)).trans ((va_up_ne _ _ (by decide)).trans ((va_up_ne _ _ (by decide)).trans ((va_up_ne _ _ (by decide)).trans (by assumption)))) | exact rfl) (by first | assumption | rfl | exact (List.getElem?_set_ne (by decide)).trans (by assumption) | exact List.getElem?_set_self (by omega)) ?_
          refine g_bipush (pc' := 200) (v := nI 6) dX8_pointsIn_198 (by decide) ?_
          refine g_iload_n (pc' := 201) dX8_pointsIn_200 rfl rfl ?_
          first | refine g_imulN (pc' := 202) dX8_pointsIn_201 ?_ | refine g_imul (pc' := 202) dX8_pointsIn_201 ?_
          refine g_iload (pc' := 204) dX8_pointsIn_202 rfl ?_
          first | refine g_iaddN (pc' := 205) dX8_pointsIn_204 ?_ | refine g_iadd (pc' := 205) dX8_pointsIn_204 ?_
          refine g_iconst (pc' := 206) (v := nI 1) dX8_pointsIn_205 (by decide) ?_
          first | refine g_isubN (pc' := 207) dX8_pointsIn_206 (by omega) ?_ | refine g_isub (pc' := 207) dX8_pointsIn_206 ?_
          rw [show 6 * h + nn - 1 = 6 * h + (nn - 1) by omega]
          refine g_ialdV (pc' := 208) dX8_pointsIn_207 (by omega) (by first | assumption | exact va_up_self _ _ _ | exact (va_up_ne _ _ (by decide)).trans (by assumption) | exact (va_up_ne _ _ (by decide)).trans (va_up_self _ _ _) | exact (va_up_ne _ _ (by decide)).trans ((va_up_ne _ _ (by decide)).trans (by assumption)) | exact (va_up_ne _ _ (by decide)).trans ((va_up_ne _ _ (by decide)).trans (va_up_self _ _ _)) | exact (va_up_ne _ _ (by decide)).trans ((va_up_ne _ _ (by decide)).trans ((va_up_ne _ _ (by decide)).trans (by assumption))) | exact (va_up_ne _ _ (by decide)).trans ((va_up_ne _ _ (by decide)).trans ((va_up_ne _ _ (by decide)).trans ((va_up_ne _ _ (by decide)).trans (by assumption)))) | exact rfl) ((IX_nI (by omega) (by omega))) (hc _ (by omega)) ?_
          first | refine g_imulN (pc' := 209) dX8_pointsIn_208 ?_ | refine g_imul (pc' := 209) dX8_pointsIn_208 ?_
          exact g_iret dX8_pointsIn_209 rfl (Nat.le_refl _) (Nat.le_refl _) hq
        · refine g_tabIn (tgt := 210) dX8_pointsIn_157 (by decide) (by decide) (show _ = some 53 from by decide) (by decide) ?_
          refine g_iload (pc' := 212) dX8_pointsIn_210 rfl ?_
          refine g_iload (pc' := 214) dX8_pointsIn_212 rfl ?_
          refine g_icmp_ltN (tgt := 221) (pc' := 217) dX8_pointsIn_214 (by decide) (by first | omega | decide) (by first | omega | decide) (fun h3 => ?_) (fun h3 => ?_)
          · refine g_iconst (pc' := 222) (v := nI 0) dX8_pointsIn_221 (by decide) ?_
            have e : ptsF 1 nn pp cn = 0 := if_neg (by omega)
            rw [e] at hq
            exact g_iret dX8_pointsIn_222 rfl (Nat.le_refl _) (Nat.le_refl _) hq
          · refine g_iload_n (pc' := 218) dX8_pointsIn_217 rfl rfl ?_
            refine g_goto (tgt := 222) dX8_pointsIn_218 (by decide) ?_
            have e : ptsF 1 nn pp cn = aA cn 6 := if_pos (by omega)
            rw [e] at hq
            exact g_iret dX8_pointsIn_222 rfl (Nat.le_refl _) (Nat.le_refl _) hq
        · refine g_tabIn (tgt := 223) dX8_pointsIn_157 (by decide) (by decide) (show _ = some 66 from by decide) (by decide) ?_
          refine g_iload (pc' := 225) dX8_pointsIn_223 rfl ?_
          refine g_iload (pc' := 227) dX8_pointsIn_225 rfl ?_
          refine g_icmp_ltN (tgt := 235) (pc' := 230) dX8_pointsIn_227 (by decide) (by first | omega | decide) (by first | omega | decide) (fun h3 => ?_) (fun h3 => ?_)
          · refine g_iconst (pc' := 236) (v := nI 0) dX8_pointsIn_235 (by decide) ?_
            have e : ptsF 2 nn pp cn = 0 := if_neg (by omega)
            rw [e] at hq
            exact g_iret dX8_pointsIn_236 rfl (Nat.le_refl _) (Nat.le_refl _) hq
          · refine g_iload (pc' := 232) dX8_pointsIn_230 rfl ?_
            refine g_goto (tgt := 236) dX8_pointsIn_232 (by decide) ?_
            have e : ptsF 2 nn pp cn = pp := if_pos (by omega)
            rw [e] at hq
            exact g_iret dX8_pointsIn_236 rfl (Nat.le_refl _) (Nat.le_refl _) hq
        · refine g_tabIn (tgt := 237) dX8_pointsIn_157 (by decide) (by decide) (show _ = some 80 from by decide) (by decide) ?_
          refine g_iload (pc' := 239) dX8_pointsIn_237 rfl ?_
          refine g_iload (pc' := 241) dX8_pointsIn_239 rfl ?_
          refine g_icmp_ltN (tgt := 249) (pc' := 244) dX8_pointsIn_241 (by decide) (by first | omega | decide) (by first | omega | decide) (fun h3 => ?_) (fun h3 => ?_)
          · refine g_iconst (pc' := 250) (v := nI 0) dX8_pointsIn_249 (by decide) ?_
            have e : ptsF 3 nn pp cn = 0 := if_neg (by omega)
            rw [e] at hq
            exact g_iret dX8_pointsIn_250 rfl (Nat.le_refl _) (Nat.le_refl _) hq
          · refine g_iload (pc' := 246) dX8_pointsIn_244 rfl ?_
            refine g_goto (tgt := 250) dX8_pointsIn_246 (by decide) ?_
            have e : ptsF 3 nn pp cn = pp := if_pos (by omega)
            rw [e] at hq
            exact g_iret dX8_pointsIn_250 rfl (Nat.le_refl _) (Nat.le_refl _) hq
        · refine g_tabIn (tgt := 251) dX8_pointsIn_157 (by decide) (by decide) (show _ = some 94 from by decide) (by decide) ?_
          refine g_iload (pc' := 253) dX8_pointsIn_251 rfl ?_
          refine g_iload (pc' := 255) dX8_pointsIn_253 rfl ?_
          refine g_icmp_neN (tgt := 263) (pc' := 258) dX8_pointsIn_255 (by decide) (by first | omega | decide) (by first | omega | decide) (fun h3 => ?_) (fun h3 => ?_)
          · refine g_iconst (pc' := 264) (v := nI 0) dX8_pointsIn_263 (by decide) ?_
            have e : ptsF 4 nn pp cn = 0 := if_neg (by omega)
            rw [e] at hq
            exact g_iret dX8_pointsIn_264 rfl (Nat.le_refl _) (Nat.le_refl _) hq
          · refine g_iload (pc' := 260) dX8_pointsIn_258 rfl ?_
            refine g_goto (tgt := 264) dX8_pointsIn_260 (by decide) ?_
            have e : ptsF 4 nn pp cn = pp := if_pos (by omega)
            rw [e] at hq
            exact g_iret dX8_pointsIn_264 rfl (Nat.le_refl _) (Nat.le_refl _) hq
        · refine g_tabOut (tgt := 265) dX8_pointsIn_157 (Or.inr (by decide)) (by decide) ?_
          refine g_iload_n (pc' := 266) dX8_pointsIn_265 rfl rfl ?_
          refine g_iload (pc' := 268) dX8_pointsIn_266 rfl ?_
          first | refine g_iaddN (pc' := 269) dX8_pointsIn_268 ?_ | refine g_iadd (pc' := 269) dX8_pointsIn_268 ?_
          exact g_iret dX8_pointsIn_269 rfl (Nat.le_refl _) (Nat.le_refl _) hq
      · omega
    | succ k ih =>
      intro i w hi
      have b1 := aA_le hc5 i (by omega)
      have b2 := aM_le hc5 i (by omega)
      have b3 := aT_le 2 cn i
      have b4 := aT_le 1 cn i
      have b5 := aL_le cn i
      have b6 := aU_le cn i
      have b7 := hc5 i (by omega)
      have b8 : cn i * (i + 1) ≤ 5 * 6 := Nat.mul_le_mul b7 (by omega)
      have nxt := ih (i + 1) (.int (nI (cn i))) (by omega)
      have eA : aA cn (i + 1) = aA cn i + cn i * (i + 1) := rfl
      rw [eA] at nxt
      refine g_iload (pc' := 22) dX8_pointsIn_20 rfl ?_
      refine g_bipush (pc' := 24) (v := nI 6) dX8_pointsIn_22 (by decide) ?_
      refine g_icmp_geN (tgt := 135) (pc' := 27) dX8_pointsIn_24 (by decide) (by first | omega | decide) (by first | omega | decide) (fun h1 => ?_) (fun h1 => ?_)
      · omega
      · refine g_aload_n (pc' := 28) dX8_pointsIn_27 rfl rfl ?_
        refine g_get (pc' := 31) fl_X8_29 dX8_pointsIn_28 (by omega) (by first | assumption | exact va_up_self _ _ _ | exact (va_up_ne _ _ (by decide)).trans (by assumption) | exact (va_up_ne _ _ (by decide)).trans (va_up_self _ _ _) | exact (va_up_ne _ _ (by decide)).trans ((va_up_ne _ _ (by decide)).trans (by assumption)) | exact (va_up_ne _ _ (by decide)).trans ((va_up_ne _ _ (by decide)).trans (va_up_self _ _ _)) | exact (va_up_ne _ _ (by decide)).trans ((va_up_ne _ _ (by decide)).trans ((va_up_ne _ _ (by decide)).trans (by assumption))) | exact (va_up_ne _ _ (by decide)).trans ((va_up_ne _ _ (by decide)).trans ((va_up_ne _ _ (by decide)).trans ((va_up_ne _ _ (by decide)).trans (by assumption)))) | exact rfl) (by first | assumption | rfl | exact (List.getElem?_set_ne (by decide)).trans (by assumption) | exact List.getElem?_set_self (by omega)) ?_
        refine g_bipush (pc' := 33) (v := nI 6) dX8_pointsIn_31 (by decide) ?_
        refine g_iload_n (pc' := 34) dX8_pointsIn_33 rfl rfl ?_
        first | refine g_imulN (pc' := 35) dX8_pointsIn_34 ?_ | refine g_imul (pc' := 35) dX8_pointsIn_34 ?_
        refine g_iload (pc' := 37) dX8_pointsIn_35 rfl ?_
        first | refine g_iaddN (pc' := 38) dX8_pointsIn_37 ?_ | refine g_iadd (pc' := 38) dX8_pointsIn_37 ?_
        refine g_ialdV (pc' := 39) dX8_pointsIn_38 (by omega) (by first | assumption | exact va_up_self _ _ _ | exact (va_up_ne _ _ (by decide)).trans (by assumption) | exact (va_up_ne _ _ (by decide)).trans (va_up_self _ _ _) | exact (va_up_ne _ _ (by decide)).trans ((va_up_ne _ _ (by decide)).trans (by assumption)) | exact (va_up_ne _ _ (by decide)).trans ((va_up_ne _ _ (by decide)).trans (va_up_self _ _ _)) | exact (va_up_ne _ _ (by decide)).trans ((va_up_ne _ _ (by decide)).trans ((va_up_ne _ _ (by decide)).trans (by assumption))) | exact (va_up_ne _ _ (by decide)).trans ((va_up_ne _ _ (by decide)).trans ((va_up_ne _ _ (by decide)).trans ((va_up_ne _ _ (by decide)).trans (by assumption)))) | exact rfl) ((IX_nI (by omega) (by omega))) (hc _ (by omega)) ?_
        refine g_istore (pc' := 41) dX8_pointsIn_39 (by decide) ?_
        refine g_iload_n (pc' := 42) dX8_pointsIn_41 rfl rfl ?_
        refine g_iload (pc' := 44) dX8_pointsIn_42 rfl ?_
        refine g_iload (pc' := 46) dX8_pointsIn_44 rfl ?_
        refine g_iconst (pc' := 47) (v := nI 1) dX8_pointsIn_46 (by decide) ?_
        first | refine g_iaddN (pc' := 48) dX8_pointsIn_47 ?_ | refine g_iadd (pc' := 48) dX8_pointsIn_47 ?_
        first | refine g_imulN (pc' := 49) dX8_pointsIn_48 ?_ | refine g_imul (pc' := 49) dX8_pointsIn_48 ?_
        first | refine g_iaddN (pc' := 50) dX8_pointsIn_49 ?_ | refine g_iadd (pc' := 50) dX8_pointsIn_49 ?_
        refine g_istore_n (pc' := 51) dX8_pointsIn_50 rfl (by decide) ?_
        refine g_iload (pc' := 53) dX8_pointsIn_51 rfl ?_
        refine g_iload (pc' := 55) dX8_pointsIn_53 rfl ?_
        have st4 : G yX8_pointsIn cX8_pointsIn 11 (some .int) (rmD 0) none Q 0 0 67 [.ref 47, .int (nI h), .int (nI r), .int (nI (aA cn i + cn i * (i + 1))), .int (nI (aM cn (i + 1))), .int (nI (aT 2 cn i)), .int (nI (aT 1 cn i)), .int (nI (aU cn i)), .int (nI (aL cn i)), .int (nI i), .int (nI (cn i))] [] hp n := by
          have st5 : G yX8_pointsIn cX8_pointsIn 11 (some .int) (rmD 0) none Q 0 0 83 [.ref 47, .int (nI h), .int (nI r), .int (nI (aA cn i + cn i * (i + 1))), .int (nI (aM cn (i + 1))), .int (nI (aT 2 cn (i + 1))), .int (nI (aT 1 cn i)), .int (nI (aU cn i)), .int (nI (aL cn i)), .int (nI i), .int (nI (cn i))] [] hp n := by
            have st6 : G yX8_pointsIn cX8_pointsIn 11 (some .int) (rmD 0) none Q 0 0 98 [.ref 47, .int (nI h), .int (nI r), .int (nI (aA cn i + cn i * (i + 1))), .int (nI (aM cn (i + 1))), .int (nI (aT 2 cn (i + 1))), .int (nI (aT 1 cn (i + 1))), .int (nI (aU cn i)), .int (nI (aL cn i)), .int (nI i), .int (nI (cn i))] [] hp n := by
              have st7 : G yX8_pointsIn cX8_pointsIn 11 (some .int) (rmD 0) none Q 0 0 113 [.ref 47, .int (nI h), .int (nI r), .int (nI (aA cn i + cn i * (i + 1))), .int (nI (aM cn (i + 1))), .int (nI (aT 2 cn (i + 1))), .int (nI (aT 1 cn (i + 1))), .int (nI (aU cn (i + 1))), .int (nI (aL cn i)), .int (nI i), .int (nI (cn i))] [] hp n := by
                have b9 := aU_le cn (i + 1)
                have eL : aL cn (i + 1) = max (aL cn i) (aU cn (i + 1)) := rfl
                rw [eL] at nxt
                refine g_iload (pc' := 115) dX8_pointsIn_113 rfl ?_
                refine g_iload (pc' := 117) dX8_pointsIn_115 rfl ?_
                refine g_icmp_leN (tgt := 125) (pc' := 120) dX8_pointsIn_117 (by decide) (by first | omega | decide) (by first | omega | decide) (fun h3 => ?_) (fun h3 => ?_)
                · refine g_iload (pc' := 127) dX8_pointsIn_125 rfl ?_
                  refine g_istore (pc' := 129) dX8_pointsIn_127 (by decide) ?_
                  first | refine g_iincN (z := 1) (pc' := 132) dX8_pointsIn_129 rfl rfl (by decide) ?_ | refine g_iinc (pc' := 132) dX8_pointsIn_129 rfl rfl (by decide) ?_
                  refine g_goto (tgt := 20) dX8_pointsIn_132 (by decide) ?_
                  rw [Nat.max_eq_left h3] at nxt
                  exact nxt
                · refine g_iload (pc' := 122) dX8_pointsIn_120 rfl ?_
                  refine g_goto (tgt := 127) dX8_pointsIn_122 (by decide) ?_
                  refine g_istore (pc' := 129) dX8_pointsIn_127 (by decide) ?_
                  first | refine g_iincN (z := 1) (pc' := 132) dX8_pointsIn_129 rfl rfl (by decide) ?_ | refine g_iinc (pc' := 132) dX8_pointsIn_129 rfl rfl (by decide) ?_
                  refine g_goto (tgt := 20) dX8_pointsIn_132 (by decide) ?_
                  rw [Nat.max_eq_right (by omega)] at nxt
                  exact nxt
              refine g_iload (pc' := 100) dX8_pointsIn_98 rfl ?_
              refine g_if_leN (tgt := 110) (pc' := 103) dX8_pointsIn_100 (by decide) (by first | omega | decide) (fun h3 => ?_) (fun h3 => ?_)
              · refine g_iconst (pc' := 111) (v := nI 0) dX8_pointsIn_110 (by decide) ?_
                refine g_istore (pc' := 113) dX8_pointsIn_111 (by decide) ?_
                have e : aU cn (i + 1) = 0 := if_neg (by omega)
                rw [e] at st7
                exact st7
              · refine g_iload (pc' := 105) dX8_pointsIn_103 rfl ?_
                refine g_iconst (pc' := 106) (v := nI 1) dX8_pointsIn_105 (by decide) ?_
                first | refine g_iaddN (pc' := 107) dX8_pointsIn_106 ?_ | refine g_iadd (pc' := 107) dX8_pointsIn_106 ?_
                refine g_goto (tgt := 111) dX8_pointsIn_107 (by decide) ?_
                refine g_istore (pc' := 113) dX8_pointsIn_111 (by decide) ?_
                have e : aU cn (i + 1) = aU cn i + 1 := if_pos h3
                rw [e] at st7
                exact st7
            refine g_iload (pc' := 85) dX8_pointsIn_83 rfl ?_
            refine g_iload (pc' := 87) dX8_pointsIn_85 rfl ?_
            refine g_if_leN (tgt := 94) (pc' := 90) dX8_pointsIn_87 (by decide) (by first | omega | decide) (fun h3 => ?_) (fun h3 => ?_)
            · refine g_iconst (pc' := 95) (v := nI 0) dX8_pointsIn_94 (by decide) ?_
              first | refine g_iaddN (pc' := 96) dX8_pointsIn_95 ?_ | refine g_iadd (pc' := 96) dX8_pointsIn_95 ?_
              refine g_istore (pc' := 98) dX8_pointsIn_96 (by decide) ?_
              have e : aT 1 cn (i + 1) = aT 1 cn i + 0 := by show aT 1 cn i + _ = _; rw [if_neg (by omega)]
              rw [e] at st6
              exact st6
            · refine g_iconst (pc' := 91) (v := nI 1) dX8_pointsIn_90 (by decide) ?_
              refine g_goto (tgt := 95) dX8_pointsIn_91 (by decide) ?_
              first | refine g_iaddN (pc' := 96) dX8_pointsIn_95 ?_ | refine g_iadd (pc' := 96) dX8_pointsIn_95 ?_
              refine g_istore (pc' := 98) dX8_pointsIn_96 (by decide) ?_
              have e : aT 1 cn (i + 1) = aT 1 cn i + 1 := by show aT 1 cn i + _ = _; rw [if_pos (by omega)]
              rw [e] at st6
              exact st6
          refine g_iload (pc' := 69) dX8_pointsIn_67 rfl ?_
          refine g_iload (pc' := 71) dX8_pointsIn_69 rfl ?_
          refine g_iconst (pc' := 72) (v := nI 1) dX8_pointsIn_71 (by decide) ?_
          refine g_icmp_leN (tgt := 79) (pc' := 75) dX8_pointsIn_72 (by decide) (by first | omega | decide) (by first | omega | decide) (fun h3 => ?_) (fun h3 => ?_)
          · refine g_iconst (pc' := 80) (v := nI 0) dX8_pointsIn_79 (by decide) ?_
            first | refine g_iaddN (pc' := 81) dX8_pointsIn_80 ?_ | refine g_iadd (pc' := 81) dX8_pointsIn_80 ?_
            refine g_istore (pc' := 83) dX8_pointsIn_81 (by decide) ?_
            have e : aT 2 cn (i + 1) = aT 2 cn i + 0 := by show aT 2 cn i + _ = _; rw [if_neg (by omega)]
            rw [e] at st5
            exact st5
          · refine g_iconst (pc' := 76) (v := nI 1) dX8_pointsIn_75 (by decide) ?_
            refine g_goto (tgt := 80) dX8_pointsIn_76 (by decide) ?_
            first | refine g_iaddN (pc' := 81) dX8_pointsIn_80 ?_ | refine g_iadd (pc' := 81) dX8_pointsIn_80 ?_
            refine g_istore (pc' := 83) dX8_pointsIn_81 (by decide) ?_
            have e : aT 2 cn (i + 1) = aT 2 cn i + 1 := by show aT 2 cn i + _ = _; rw [if_pos (by omega)]
            rw [e] at st5
            exact st5
        have eM : aM cn (i + 1) = max (aM cn i) (cn i) := rfl
        rw [eM] at st4
        refine g_icmp_leN (tgt := 63) (pc' := 58) dX8_pointsIn_55 (by decide) (by first | omega | decide) (by first | omega | decide) (fun h3 => ?_) (fun h3 => ?_)
        · refine g_iload (pc' := 65) dX8_pointsIn_63 rfl ?_
          refine g_istore (pc' := 67) dX8_pointsIn_65 (by decide) ?_
          rw [Nat.max_eq_left h3] at st4
          exact st4
        · refine g_iload (pc' := 60) dX8_pointsIn_58 rfl ?_
          refine g_goto (tgt := 65) dX8_pointsIn_60 (by decide) ?_
          refine g_istore (pc' := 67) dX8_pointsIn_65 (by decide) ?_
          rw [Nat.max_eq_right (by omega)] at st4
          exact st4
  exact loop 6 0 uu (by omega)
/-- the heap that a number tells, dice added to h; none: it is no such heap -/
def ho (D S : Nat) : Nat → Nat → Nat → Option Nat
  | 0, h, v => if v = 0 then some h else none
  | f + 1, h, v => if v = 0 then some h else if 1 ≤ v % 10 ∧ v % 10 ≤ S then ho D S f (nx S h (v % 10 - 1)) (v / 10) else none
def hoI : Option Nat → Int32
  | none => -1
  | some h => nI h
theorem c_heapOf {hp : AH} {n D S T R : Nat} {fs : List Value} {fz fm : Nat → Int32} {x : Int32} {Q : Option Value → AH → Nat → Prop} (hn : 64 ≤ n) (c47 : hp 47 = ob 8 fs) (F : MF fs D S T R) (h2 : 2 ≤ S) (h6 : S ≤ 6) (hD : D ≤ 5) (c52 : hp 52 = aI 462 fz) (c54 : hp 54 = aI 2772 fm) (hz : ∀ h, h < nh S D → fz h = nI (sz S h)) (hmo : ∀ h s, h < nh S D → sz S h < D → s < S → fm (6 * h + s) = nI (nx S h s))
    (hq0 : x < 0 → Q (some (.int (-1))) hp n) (hq : ∀ v, v < 2 ^ 31 → x = nI v → Q (some (.int (hoI (ho D S D 0 v)))) hp n) : CT yX8_heapOf cX8_heapOf 5 (some .int) (rmD 0) [.ref 47, .int x] hp n Q := by
  obtain ⟨f99, f0, f1, f2, f3, f4, f5, f6, f9, f10, f11, f12, f13, f16, f24, f25, f26, f27, f28, f29, f30⟩ := F
  obtain ⟨hN, hN1⟩ := nh_le h2 h6 hD
  show G yX8_heapOf cX8_heapOf 5 (some .int) (rmD 0) none Q 0 0 0 [.ref 47, .int x, uu, uu, uu] [] hp n
  refine g_iload_n (pc' := 1) dX8_heapOf_0 rfl rfl ?_
  refine g_if_ge (tgt := 6) (pc' := 4) dX8_heapOf_1 (by decide) (fun hx => ?_) (fun hx => ?_)
  · obtain ⟨v, hv, rfl⟩ := nI_of (Int32.not_lt.mpr hx)
    have hq := hq v hv rfl
    refine g_iconst (pc' := 7) (v := nI 0) dX8_heapOf_6 (by decide) ?_
    refine g_istore_n (pc' := 8) dX8_heapOf_7 rfl (by decide) ?_
    refine g_iload_n (pc' := 9) dX8_heapOf_8 rfl rfl ?_
    refine g_istore_n (pc' := 10) dX8_heapOf_9 rfl (by decide) ?_
    have loop : ∀ f h v w, v < 2 ^ 31 → h < nh S D → sz S h + f = D → Q (some (.int (hoI (ho D S f h v)))) hp n → ∀ x, G yX8_heapOf cX8_heapOf 5 (some .int) (rmD 0) none Q 0 0 10 [.ref 47, .int x, .int (nI h), .int (nI v), w] [] hp n := by
      intro f
      induction f with
      | zero =>
        intro h v w hv hh hf hq x
        refine g_iload_n (pc' := 11) dX8_heapOf_10 rfl rfl ?_
        refine g_if_leN (tgt := 73) (pc' := 14) dX8_heapOf_11 (by decide) (by first | omega | decide) (fun h1 => ?_) (fun h1 => ?_)
        · refine g_iload_n (pc' := 74) dX8_heapOf_73 rfl rfl ?_
          have e : ho D S 0 h v = some h := if_pos h1
          rw [e] at hq
          exact g_iret dX8_heapOf_74 rfl (Nat.le_refl _) (Nat.le_refl _) hq
        · have e : ho D S 0 h v = none := if_neg (by omega)
          rw [e] at hq
          have hm10 : v % 10 < 10 := Nat.mod_lt _ (by decide)
          have zl := sz_le S h
          refine g_iload_n (pc' := 15) dX8_heapOf_14 rfl rfl ?_
          refine g_bipush (pc' := 17) (v := nI 10) dX8_heapOf_15 (by decide) ?_
          first | refine g_iremN (pc' := 18) dX8_heapOf_17 (by omega) (by omega) (by omega) ?_ | refine g_irem (pc' := 18) dX8_heapOf_17 (by decide) ?_
          refine g_istore (pc' := 20) dX8_heapOf_18 (by decide) ?_
          refine g_iload (pc' := 22) dX8_heapOf_20 rfl ?_
          refine g_iconst (pc' := 23) (v := nI 1) dX8_heapOf_22 (by decide) ?_
          refine g_icmp_ltN (tgt := 48) (pc' := 26) dX8_heapOf_23 (by decide) (by first | omega | decide) (by first | omega | decide) (fun h3 => ?_) (fun h3 => ?_)
          · refine g_iconst (pc' := 49) (v := -1) dX8_heapOf_48 (by decide) ?_
            exact g_iret dX8_heapOf_49 rfl (Nat.le_refl _) (Nat.le_refl _) hq
          · refine g_iload (pc' := 28) dX8_heapOf_26 rfl ?_
            refine g_aload_n (pc' := 29) dX8_heapOf_28 rfl rfl ?_
            refine g_get (pc' := 32) fl_X8_13 dX8_heapOf_29 (by omega) (by first | assumption | exact va_up_self _ _ _ | exact (va_up_ne _ _ (by decide)).trans (by assumption) | exact (va_up_ne _ _ (by decide)).trans (va_up_self _ _ _) | exact (va_up_ne _ _ (by decide)).trans ((va_up_ne _ _ (by decide)).trans (by assumption)) | exact (va_up_ne _ _ (by decide)).trans ((va_up_ne _ _ (by decide)).trans (va_up_self _ _ _)) | exact (va_up_ne _ _ (by decide)).trans ((va_up_ne _ _ (by decide)).trans ((va_up_ne _ _ (by decide)).trans (by assumption))) | exact (va_up_ne _ _ (by decide)).trans ((va_up_ne _ _ (by decide)).trans ((va_up_ne _ _ (by decide)).trans ((va_up_ne _ _ (by decide)).trans (by assumption)))) | exact rfl) (by first | assumption | rfl | exact (List.getElem?_set_ne (by decide)).trans (by assumption) | exact List.getElem?_set_self (by omega)) ?_
            refine g_icmp_gtN (tgt := 48) (pc' := 35) dX8_heapOf_32 (by decide) (by first | omega | decide) (by first | omega | decide) (fun h4 => ?_) (fun h4 => ?_)
            · refine g_iconst (pc' := 49) (v := -1) dX8_heapOf_48 (by decide) ?_
              exact g_iret dX8_heapOf_49 rfl (Nat.le_refl _) (Nat.le_refl _) hq
            · refine g_aload_n (pc' := 36) dX8_heapOf_35 rfl rfl ?_
              refine g_get (pc' := 39) fl_X8_32 dX8_heapOf_36 (by omega) (by first | assumption | exact va_up_self _ _ _ | exact (va_up_ne _ _ (by decide)).trans (by assumption) | exact (va_up_ne _ _ (by decide)).trans (va_up_self _ _ _) | exact (va_up_ne _ _ (by decide)).trans ((va_up_ne _ _ (by decide)).trans (by assumption)) | exact (va_up_ne _ _ (by decide)).trans ((va_up_ne _ _ (by decide)).trans (va_up_self _ _ _)) | exact (va_up_ne _ _ (by decide)).trans ((va_up_ne _ _ (by decide)).trans ((va_up_ne _ _ (by decide)).trans (by assumption))) | exact (va_up_ne _ _ (by decide)).trans ((va_up_ne _ _ (by decide)).trans ((va_up_ne _ _ (by decide)).trans ((va_up_ne _ _ (by decide)).trans (by assumption)))) | exact rfl) (by first | assumption | rfl | exact (List.getElem?_set_ne (by decide)).trans (by assumption) | exact List.getElem?_set_self (by omega)) ?_
              refine g_iload_n (pc' := 40) dX8_heapOf_39 rfl rfl ?_
              refine g_ialdV (pc' := 41) dX8_heapOf_40 (by omega) (by first | assumption | exact va_up_self _ _ _ | exact (va_up_ne _ _ (by decide)).trans (by assumption) | exact (va_up_ne _ _ (by decide)).trans (va_up_self _ _ _) | exact (va_up_ne _ _ (by decide)).trans ((va_up_ne _ _ (by decide)).trans (by assumption)) | exact (va_up_ne _ _ (by decide)).trans ((va_up_ne _ _ (by decide)).trans (va_up_self _ _ _)) | exact (va_up_ne _ _ (by decide)).trans ((va_up_ne _ _ (by decide)).trans ((va_up_ne _ _ (by decide)).trans (by assumption))) | exact (va_up_ne _ _ (by decide)).trans ((va_up_ne _ _ (by decide)).trans ((va_up_ne _ _ (by decide)).trans ((va_up_ne _ _ (by decide)).trans (by assumption)))) | exact rfl) ((IX_nI (by omega) (by omega))) (hz _ hh) ?_
              refine g_aload_n (pc' := 42) dX8_heapOf_41 rfl rfl ?_
              refine g_get (pc' := 45) fl_X8_7 dX8_heapOf_42 (by omega) (by first | assumption | exact va_up_self _ _ _ | exact (va_up_ne _ _ (by decide)).trans (by assumption) | exact (va_up_ne _ _ (by decide)).trans (va_up_self _ _ _) | exact (va_up_ne _ _ (by decide)).trans ((va_up_ne _ _ (by decide)).trans (by assumption)) | exact (va_up_ne _ _ (by decide)).trans ((va_up_ne _ _ (by decide)).trans (va_up_self _ _ _)) | exact (va_up_ne _ _ (by decide)).trans ((va_up_ne _ _ (by decide)).trans ((va_up_ne _ _ (by decide)).trans (by assumption))) | exact (va_up_ne _ _ (by decide)).trans ((va_up_ne _ _ (by decide)).trans ((va_up_ne _ _ (by decide)).trans ((va_up_ne _ _ (by decide)).trans (by assumption)))) | exact rfl) (by first | assumption | rfl | exact (List.getElem?_set_ne (by decide)).trans (by assumption) | exact List.getElem?_set_self (by omega)) ?_
              refine g_icmp_neN (tgt := 50) (pc' := 48) dX8_heapOf_45 (by decide) (by first | omega | decide) (by first | omega | decide) (fun h5 => ?_) (fun h5 => ?_)
              · omega
              · refine g_iconst (pc' := 49) (v := -1) dX8_heapOf_48 (by decide) ?_
                exact g_iret dX8_heapOf_49 rfl (Nat.le_refl _) (Nat.le_refl _) hq
      | succ f ih =>
        intro h v w hv hh hf hq x
        have zl := sz_le S h
        refine g_iload_n (pc' := 11) dX8_heapOf_10 rfl rfl ?_
        refine g_if_leN (tgt := 73) (pc' := 14) dX8_heapOf_11 (by decide) (by first | omega | decide) (fun h1 => ?_) (fun h1 => ?_)
        · refine g_iload_n (pc' := 74) dX8_heapOf_73 rfl rfl ?_
          have e : ho D S (f + 1) h v = some h := if_pos h1
          rw [e] at hq
          exact g_iret dX8_heapOf_74 rfl (Nat.le_refl _) (Nat.le_refl _) hq
        · have e : ho D S (f + 1) h v = if 1 ≤ v % 10 ∧ v % 10 ≤ S then ho D S f (nx S h (v % 10 - 1)) (v / 10) else none := if_neg (by omega)
          rw [e] at hq
          have hm10 : v % 10 < 10 := Nat.mod_lt _ (by decide)
          refine g_iload_n (pc' := 15) dX8_heapOf_14 rfl rfl ?_
          refine g_bipush (pc' := 17) (v := nI 10) dX8_heapOf_15 (by decide) ?_
          first | refine g_iremN (pc' := 18) dX8_heapOf_17 (by omega) (by omega) (by omega) ?_ | refine g_irem (pc' := 18) dX8_heapOf_17 (by decide) ?_
          refine g_istore (pc' := 20) dX8_heapOf_18 (by decide) ?_
          refine g_iload (pc' := 22) dX8_heapOf_20 rfl ?_
          refine g_iconst (pc' := 23) (v := nI 1) dX8_heapOf_22 (by decide) ?_
          refine g_icmp_ltN (tgt := 48) (pc' := 26) dX8_heapOf_23 (by decide) (by first | omega | decide) (by first | omega | decide) (fun h3 => ?_) (fun h3 => ?_)
          · rw [if_neg (by omega)] at hq
            refine g_iconst (pc' := 49) (v := -1) dX8_heapOf_48 (by decide) ?_
            exact g_iret dX8_heapOf_49 rfl (Nat.le_refl _) (Nat.le_refl _) hq
          · refine g_iload (pc' := 28) dX8_heapOf_26 rfl ?_
            refine g_aload_n (pc' := 29) dX8_heapOf_28 rfl rfl ?_
            refine g_get (pc' := 32) fl_X8_13 dX8_heapOf_29 (by omega) (by first | assumption | exact va_up_self _ _ _ | exact (va_up_ne _ _ (by decide)).trans (by assumption) | exact (va_up_ne _ _ (by decide)).trans (va_up_self _ _ _) | exact (va_up_ne _ _ (by decide)).trans ((va_up_ne _ _ (by decide)).trans (by assumption)) | exact (va_up_ne _ _ (by decide)).trans ((va_up_ne _ _ (by decide)).trans (va_up_self _ _ _)) | exact (va_up_ne _ _ (by decide)).trans ((va_up_ne _ _ (by decide)).trans ((va_up_ne _ _ (by decide)).trans (by assumption))) | exact (va_up_ne _ _ (by decide)).trans ((va_up_ne _ _ (by decide)).trans ((va_up_ne _ _ (by decide)).trans ((va_up_ne _ _ (by decide)).trans (by assumption)))) | exact rfl) (by first | assumption | rfl | exact (List.getElem?_set_ne (by decide)).trans (by assumption) | exact List.getElem?_set_self (by omega)) ?_
            refine g_icmp_gtN (tgt := 48) (pc' := 35) dX8_heapOf_32 (by decide) (by first | omega | decide) (by first | omega | decide) (fun h4 => ?_) (fun h4 => ?_)
            · rw [if_neg (by omega)] at hq
              refine g_iconst (pc' := 49) (v := -1) dX8_heapOf_48 (by decide) ?_
              exact g_iret dX8_heapOf_49 rfl (Nat.le_refl _) (Nat.le_refl _) hq
            · rw [if_pos (by omega)] at hq
              obtain ⟨b1, b2, b3, -⟩ := nx_ok h2 h6 hD hh (by omega) (show v % 10 - 1 < S by omega)
              refine g_aload_n (pc' := 36) dX8_heapOf_35 rfl rfl ?_
              refine g_get (pc' := 39) fl_X8_32 dX8_heapOf_36 (by omega) (by first | assumption | exact va_up_self _ _ _ | exact (va_up_ne _ _ (by decide)).trans (by assumption) | exact (va_up_ne _ _ (by decide)).trans (va_up_self _ _ _) | exact (va_up_ne _ _ (by decide)).trans ((va_up_ne _ _ (by decide)).trans (by assumption)) | exact (va_up_ne _ _ (by decide)).trans ((va_up_ne _ _ (by decide)).trans (va_up_self _ _ _)) | exact (va_up_ne _ _ (by decide)).trans ((va_up_ne _ _ (by decide)).trans ((va_up_ne _ _ (by decide)).trans (by assumption))) | exact (va_up_ne _ _ (by decide)).trans ((va_up_ne _ _ (by decide)).trans ((va_up_ne _ _ (by decide)).trans ((va_up_ne _ _ (by decide)).trans (by assumption)))) | exact rfl) (by first | assumption | rfl | exact (List.getElem?_set_ne (by decide)).trans (by assumption) | exact List.getElem?_set_self (by omega)) ?_
              refine g_iload_n (pc' := 40) dX8_heapOf_39 rfl rfl ?_
              refine g_ialdV (pc' := 41) dX8_heapOf_40 (by omega) (by first | assumption | exact va_up_self _ _ _ | exact (va_up_ne _ _ (by decide)).trans (by assumption) | exact (va_up_ne _ _ (by decide)).trans (va_up_self _ _ _) | exact (va_up_ne _ _ (by decide)).trans ((va_up_ne _ _ (by decide)).trans (by assumption)) | exact (va_up_ne _ _ (by decide)).trans ((va_up_ne _ _ (by decide)).trans (va_up_self _ _ _)) | exact (va_up_ne _ _ (by decide)).trans ((va_up_ne _ _ (by decide)).trans ((va_up_ne _ _ (by decide)).trans (by assumption))) | exact (va_up_ne _ _ (by decide)).trans ((va_up_ne _ _ (by decide)).trans ((va_up_ne _ _ (by decide)).trans ((va_up_ne _ _ (by decide)).trans (by assumption)))) | exact rfl) ((IX_nI (by omega) (by omega))) (hz _ hh) ?_
              refine g_aload_n (pc' := 42) dX8_heapOf_41 rfl rfl ?_
              refine g_get (pc' := 45) fl_X8_7 dX8_heapOf_42 (by omega) (by first | assumption | exact va_up_self _ _ _ | exact (va_up_ne _ _ (by decide)).trans (by assumption) | exact (va_up_ne _ _ (by decide)).trans (va_up_self _ _ _) | exact (va_up_ne _ _ (by decide)).trans ((va_up_ne _ _ (by decide)).trans (by assumption)) | exact (va_up_ne _ _ (by decide)).trans ((va_up_ne _ _ (by decide)).trans (va_up_self _ _ _)) | exact (va_up_ne _ _ (by decide)).trans ((va_up_ne _ _ (by decide)).trans ((va_up_ne _ _ (by decide)).trans (by assumption))) | exact (va_up_ne _ _ (by decide)).trans ((va_up_ne _ _ (by decide)).trans ((va_up_ne _ _ (by decide)).trans ((va_up_ne _ _ (by decide)).trans (by assumption)))) | exact rfl) (by first | assumption | rfl | exact (List.getElem?_set_ne (by decide)).trans (by assumption) | exact List.getElem?_set_self (by omega)) ?_
              refine g_icmp_neN (tgt := 50) (pc' := 48) dX8_heapOf_45 (by decide) (by first | omega | decide) (by first | omega | decide) (fun h5 => ?_) (fun h5 => ?_)
              · refine g_aload_n (pc' := 51) dX8_heapOf_50 rfl rfl ?_
                refine g_get (pc' := 54) fl_X8_38 dX8_heapOf_51 (by omega) (by first | assumption | exact va_up_self _ _ _ | exact (va_up_ne _ _ (by decide)).trans (by assumption) | exact (va_up_ne _ _ (by decide)).trans (va_up_self _ _ _) | exact (va_up_ne _ _ (by decide)).trans ((va_up_ne _ _ (by decide)).trans (by assumption)) | exact (va_up_ne _ _ (by decide)).trans ((va_up_ne _ _ (by decide)).trans (va_up_self _ _ _)) | exact (va_up_ne _ _ (by decide)).trans ((va_up_ne _ _ (by decide)).trans ((va_up_ne _ _ (by decide)).trans (by assumption))) | exact (va_up_ne _ _ (by decide)).trans ((va_up_ne _ _ (by decide)).trans ((va_up_ne _ _ (by decide)).trans ((va_up_ne _ _ (by decide)).trans (by assumption)))) | exact rfl) (by first | assumption | rfl | exact (List.getElem?_set_ne (by decide)).trans (by assumption) | exact List.getElem?_set_self (by omega)) ?_
                refine g_bipush (pc' := 56) (v := nI 6) dX8_heapOf_54 (by decide) ?_
                refine g_iload_n (pc' := 57) dX8_heapOf_56 rfl rfl ?_
                first | refine g_imulN (pc' := 58) dX8_heapOf_57 ?_ | refine g_imul (pc' := 58) dX8_heapOf_57 ?_
                refine g_iload (pc' := 60) dX8_heapOf_58 rfl ?_
                first | refine g_iaddN (pc' := 61) dX8_heapOf_60 ?_ | refine g_iadd (pc' := 61) dX8_heapOf_60 ?_
                refine g_iconst (pc' := 62) (v := nI 1) dX8_heapOf_61 (by decide) ?_
                first | refine g_isubN (pc' := 63) dX8_heapOf_62 (by omega) ?_ | refine g_isub (pc' := 63) dX8_heapOf_62 ?_
                rw [show 6 * h + v % 10 - 1 = 6 * h + (v % 10 - 1) by omega]
                refine g_ialdV (pc' := 64) dX8_heapOf_63 (by omega) (by first | assumption | exact va_up_self _ _ _ | exact (va_up_ne _ _ (by decide)).trans (by assumption) | exact (va_up_ne _ _ (by decide)).trans (va_up_self _ _ _) | exact (va_up_ne _ _ (by decide)).trans ((va_up_ne _ _ (by decide)).trans (by assumption)) | exact (va_up_ne _ _ (by decide)).trans ((va_up_ne _ _ (by decide)).trans (va_up_self _ _ _)) | exact (va_up_ne _ _ (by decide)).trans ((va_up_ne _ _ (by decide)).trans ((va_up_ne _ _ (by decide)).trans (by assumption))) | exact (va_up_ne _ _ (by decide)).trans ((va_up_ne _ _ (by decide)).trans ((va_up_ne _ _ (by decide)).trans ((va_up_ne _ _ (by decide)).trans (by assumption)))) | exact rfl) ((IX_nI (by omega) (by omega))) (hmo _ _ hh (by omega) (by omega)) ?_
                refine g_istore_n (pc' := 65) dX8_heapOf_64 rfl (by decide) ?_
                refine g_iload_n (pc' := 66) dX8_heapOf_65 rfl rfl ?_
                refine g_bipush (pc' := 68) (v := nI 10) dX8_heapOf_66 (by decide) ?_
                first | refine g_idivN (pc' := 69) dX8_heapOf_68 (by omega) (by omega) (by omega) ?_ | refine g_idiv (pc' := 69) dX8_heapOf_68 (by decide) ?_
                refine g_istore_n (pc' := 70) dX8_heapOf_69 rfl (by decide) ?_
                refine g_goto (tgt := 10) dX8_heapOf_70 (by decide) ?_
                exact ih _ _ _ (by omega) b2 (by omega) hq x
              · omega
    exact loop D 0 v uu hv (by omega) (by rw [sz_0]; omega) hq (nI v)
  · refine g_iconst (pc' := 5) (v := -1) dX8_heapOf_4 (by decide) ?_
    exact g_iret dX8_heapOf_5 rfl (Nat.le_refl _) (Nat.le_refl _) (hq0 (Int32.not_le.mp hx))
