section GN
variable {y : MethodName} {cc : ByteArray} {nL : Nat} {ret : Option FieldType} {R : Room} {sc : SC} {Q : Option Value → AH → Nat → Prop} {cu su pc : Nat} {vs st : List Value} {hp : AH} {n : Nat}
theorem ofInt_nI (z : Nat) : Int32.ofInt (z : Int) = nI z := by
  apply Int32.toBitVec_inj.mp
  simp [nI]

theorem g_iaddN {pc' : Nat} {a b : Nat} (hd : decode cc pc = .ok (.iadd, 1))  (k : G y cc nL ret R sc Q cu su pc' vs (.int (nI (a + b)) :: st) hp n) (e : pc + 1 = pc' := by rfl) : G y cc nL ret R sc Q cu su pc vs (.int (nI b) :: .int (nI a) :: st) hp n := g_iadd hd (by rw [nI_add]; exact k) e

theorem g_imulN {pc' : Nat} {a b : Nat} (hd : decode cc pc = .ok (.imul, 1))  (k : G y cc nL ret R sc Q cu su pc' vs (.int (nI (a * b)) :: st) hp n) (e : pc + 1 = pc' := by rfl) : G y cc nL ret R sc Q cu su pc vs (.int (nI b) :: .int (nI a) :: st) hp n := g_imul hd (by rw [pk_mul]; exact k) e

theorem g_isubN {pc' : Nat} {a b : Nat} (hd : decode cc pc = .ok (.isub, 1)) (h : b ≤ a) (k : G y cc nL ret R sc Q cu su pc' vs (.int (nI (a - b)) :: st) hp n) (e : pc + 1 = pc' := by rfl) : G y cc nL ret R sc Q cu su pc vs (.int (nI b) :: .int (nI a) :: st) hp n := g_isub hd (by rw [pk_sub h]; exact k) e

theorem g_idivN {pc' : Nat} {a b : Nat} (hd : decode cc pc = .ok (.idiv, 1)) (ha : a < 2 ^ 31) (h0 : 0 < b) (hb : b < 2 ^ 31) (k : G y cc nL ret R sc Q cu su pc' vs (.int (nI (a / b)) :: st) hp n) (e : pc + 1 = pc' := by rfl) : G y cc nL ret R sc Q cu su pc vs (.int (nI b) :: .int (nI a) :: st) hp n := g_idiv hd (nI_ne0 h0 hb) (by rw [pk_div ha h0 hb]; exact k) e

theorem g_iremN {pc' : Nat} {a b : Nat} (hd : decode cc pc = .ok (.irem, 1)) (ha : a < 2 ^ 31) (h0 : 0 < b) (hb : b < 2 ^ 31) (k : G y cc nL ret R sc Q cu su pc' vs (.int (nI (a % b)) :: st) hp n) (e : pc + 1 = pc' := by rfl) : G y cc nL ret R sc Q cu su pc vs (.int (nI b) :: .int (nI a) :: st) hp n := g_irem hd (nI_ne0 h0 hb) (by rw [pk_rem ha h0 hb]; exact k) e

theorem g_laddN {pc' : Nat} {a b : Nat} (hd : decode cc pc = .ok (.ladd, 1))  (k : G y cc nL ret R sc Q cu su pc' vs (.long (lN (a + b)) :: st) hp n) (e : pc + 1 = pc' := by rfl) : G y cc nL ret R sc Q cu su pc vs (.long (lN b) :: .long (lN a) :: st) hp n := g_ladd hd (by rw [lN_add]; exact k) e

theorem g_lmulN {pc' : Nat} {a b : Nat} (hd : decode cc pc = .ok (.lmul, 1))  (k : G y cc nL ret R sc Q cu su pc' vs (.long (lN (a * b)) :: st) hp n) (e : pc + 1 = pc' := by rfl) : G y cc nL ret R sc Q cu su pc vs (.long (lN b) :: .long (lN a) :: st) hp n := g_lmul hd (by rw [lN_mul]; exact k) e

theorem g_i2lN {pc' : Nat} {a : Nat} (hd : decode cc pc = .ok (.i2l, 1)) (h : a < 2 ^ 31) (k : G y cc nL ret R sc Q cu su pc' vs (.long (lN a) :: st) hp n) (e : pc + 1 = pc' := by rfl) : G y cc nL ret R sc Q cu su pc vs (.int (nI a) :: st) hp n := g_i2l hd (by rw [nI_l h]; exact k) e

theorem g_iincN {pc' : Nat} {i a z : Nat} {z' : Int} (hd : decode cc pc = .ok (.iinc i z', 3)) (hz : z' = (z : Int)) (hv : vs[i]? = some (.int (nI a))) (hn : i < nL) (k : G y cc nL ret R sc Q cu su pc' (st1 vs i (.int (nI (a + z)))) st hp n) (e : pc + 3 = pc' := by rfl) : G y cc nL ret R sc Q cu su pc vs st hp n := g_iinc hd hv (by rw [hz, ofInt_nI, nI_add]) hn k e
theorem g_idecN {pc' : Nat} {i a : Nat} {z' : Int} (hd : decode cc pc = .ok (.iinc i z', 3)) (hz : z' = -1) (hv : vs[i]? = some (.int (nI a))) (h : 1 ≤ a) (hn : i < nL) (k : G y cc nL ret R sc Q cu su pc' (st1 vs i (.int (nI (a - 1)))) st hp n) (e : pc + 3 = pc' := by rfl) : G y cc nL ret R sc Q cu su pc vs st hp n := g_iinc hd hv (by
    obtain ⟨b, rfl⟩ : ∃ b, a = b + 1 := ⟨a - 1, by omega⟩
    rw [hz, show Int32.ofInt (-1) = (-1 : Int32) from by decide, pk_m1]; rfl) hn k e

theorem g_icmp_eqN {a b : Nat} {off : Int} {tgt pc' : Nat} (hd : decode cc pc = .ok (.if_icmp .eq off, 3)) (ht : (pc : Int) + off = (tgt : Int)) (ha : a < 2 ^ 31) (hb : b < 2 ^ 31) (kt : a = b → G y cc nL ret R sc Q cu su tgt vs st hp n) (kf : ¬ a = b → G y cc nL ret R sc Q cu su pc' vs st hp n) (e : pc + 3 = pc' := by rfl) : G y cc nL ret R sc Q cu su pc vs (.int (nI b) :: .int (nI a) :: st) hp n := g_icmp_eq hd ht (fun h => kt ((nI_eq ha hb).mp h)) (fun h => kf (fun q => h ((nI_eq ha hb).mpr q))) e

theorem g_icmp_neN {a b : Nat} {off : Int} {tgt pc' : Nat} (hd : decode cc pc = .ok (.if_icmp .ne off, 3)) (ht : (pc : Int) + off = (tgt : Int)) (ha : a < 2 ^ 31) (hb : b < 2 ^ 31) (kt : ¬ a = b → G y cc nL ret R sc Q cu su tgt vs st hp n) (kf : a = b → G y cc nL ret R sc Q cu su pc' vs st hp n) (e : pc + 3 = pc' := by rfl) : G y cc nL ret R sc Q cu su pc vs (.int (nI b) :: .int (nI a) :: st) hp n := g_icmp_ne hd ht (fun h => kt (fun q => h ((nI_eq ha hb).mpr q))) (fun h => kf ((nI_eq ha hb).mp h)) e

theorem g_icmp_ltN {a b : Nat} {off : Int} {tgt pc' : Nat} (hd : decode cc pc = .ok (.if_icmp .lt off, 3)) (ht : (pc : Int) + off = (tgt : Int)) (ha : a < 2 ^ 31) (hb : b < 2 ^ 31) (kt : a < b → G y cc nL ret R sc Q cu su tgt vs st hp n) (kf : b ≤ a → G y cc nL ret R sc Q cu su pc' vs st hp n) (e : pc + 3 = pc' := by rfl) : G y cc nL ret R sc Q cu su pc vs (.int (nI b) :: .int (nI a) :: st) hp n := g_icmp_lt hd ht (fun h => kt ((nI_ltI ha hb).mp h)) (fun h => kf (Nat.not_lt.mp (fun q => h ((nI_ltI ha hb).mpr q)))) e

theorem g_icmp_geN {a b : Nat} {off : Int} {tgt pc' : Nat} (hd : decode cc pc = .ok (.if_icmp .ge off, 3)) (ht : (pc : Int) + off = (tgt : Int)) (ha : a < 2 ^ 31) (hb : b < 2 ^ 31) (kt : b ≤ a → G y cc nL ret R sc Q cu su tgt vs st hp n) (kf : a < b → G y cc nL ret R sc Q cu su pc' vs st hp n) (e : pc + 3 = pc' := by rfl) : G y cc nL ret R sc Q cu su pc vs (.int (nI b) :: .int (nI a) :: st) hp n := g_icmp_ge hd ht (fun h => kt ((nI_leI hb ha).mp h)) (fun h => kf (Nat.not_le.mp (fun q => h ((nI_leI hb ha).mpr q)))) e

theorem g_icmp_gtN {a b : Nat} {off : Int} {tgt pc' : Nat} (hd : decode cc pc = .ok (.if_icmp .gt off, 3)) (ht : (pc : Int) + off = (tgt : Int)) (ha : a < 2 ^ 31) (hb : b < 2 ^ 31) (kt : b < a → G y cc nL ret R sc Q cu su tgt vs st hp n) (kf : a ≤ b → G y cc nL ret R sc Q cu su pc' vs st hp n) (e : pc + 3 = pc' := by rfl) : G y cc nL ret R sc Q cu su pc vs (.int (nI b) :: .int (nI a) :: st) hp n := g_icmp_gt hd ht (fun h => kt ((nI_ltI hb ha).mp h)) (fun h => kf (Nat.not_lt.mp (fun q => h ((nI_ltI hb ha).mpr q)))) e

theorem g_icmp_leN {a b : Nat} {off : Int} {tgt pc' : Nat} (hd : decode cc pc = .ok (.if_icmp .le off, 3)) (ht : (pc : Int) + off = (tgt : Int)) (ha : a < 2 ^ 31) (hb : b < 2 ^ 31) (kt : a ≤ b → G y cc nL ret R sc Q cu su tgt vs st hp n) (kf : b < a → G y cc nL ret R sc Q cu su pc' vs st hp n) (e : pc + 3 = pc' := by rfl) : G y cc nL ret R sc Q cu su pc vs (.int (nI b) :: .int (nI a) :: st) hp n := g_icmp_le hd ht (fun h => kt ((nI_leI ha hb).mp h)) (fun h => kf (Nat.not_le.mp (fun q => h ((nI_leI ha hb).mpr q)))) e

theorem nI_z {a : Nat} (h : a < 2 ^ 31) : nI a = 0 ↔ a = 0 := by rw [← nI_0, nI_eq h (by decide)]
theorem nI_p {a : Nat} (h : a < 2 ^ 31) : (0 : Int32) < nI a ↔ 0 < a := by rw [← nI_0, nI_ltI (by decide) h]
theorem nI_np {a : Nat} (h : a < 2 ^ 31) : nI a ≤ 0 ↔ a = 0 := by rw [← nI_0, nI_leI h (by decide)]; omega

theorem g_if_eqN {a : Nat} {off : Int} {tgt pc' : Nat} (hd : decode cc pc = .ok (.ifCond .eq off, 3)) (ht : (pc : Int) + off = (tgt : Int)) (ha : a < 2 ^ 31) (kt : a = 0 → G y cc nL ret R sc Q cu su tgt vs st hp n) (kf : ¬ a = 0 → G y cc nL ret R sc Q cu su pc' vs st hp n) (e : pc + 3 = pc' := by rfl) : G y cc nL ret R sc Q cu su pc vs (.int (nI a) :: st) hp n := g_if_eq hd ht (fun h => kt ((nI_z ha).mp h)) (fun h => kf (fun q => h ((nI_z ha).mpr q))) e

theorem g_if_neN {a : Nat} {off : Int} {tgt pc' : Nat} (hd : decode cc pc = .ok (.ifCond .ne off, 3)) (ht : (pc : Int) + off = (tgt : Int)) (ha : a < 2 ^ 31) (kt : ¬ a = 0 → G y cc nL ret R sc Q cu su tgt vs st hp n) (kf : a = 0 → G y cc nL ret R sc Q cu su pc' vs st hp n) (e : pc + 3 = pc' := by rfl) : G y cc nL ret R sc Q cu su pc vs (.int (nI a) :: st) hp n := g_if_ne hd ht (fun h => kt (fun q => h ((nI_z ha).mpr q))) (fun h => kf ((nI_z ha).mp h)) e

theorem g_if_gtN {a : Nat} {off : Int} {tgt pc' : Nat} (hd : decode cc pc = .ok (.ifCond .gt off, 3)) (ht : (pc : Int) + off = (tgt : Int)) (ha : a < 2 ^ 31) (kt : 0 < a → G y cc nL ret R sc Q cu su tgt vs st hp n) (kf : a = 0 → G y cc nL ret R sc Q cu su pc' vs st hp n) (e : pc + 3 = pc' := by rfl) : G y cc nL ret R sc Q cu su pc vs (.int (nI a) :: st) hp n := g_if_gt hd ht (fun h => kt ((nI_p ha).mp h)) (fun h => kf ((Nat.eq_zero_or_pos a).elim id (fun q => absurd ((nI_p ha).mpr q) h))) e

theorem g_if_leN {a : Nat} {off : Int} {tgt pc' : Nat} (hd : decode cc pc = .ok (.ifCond .le off, 3)) (ht : (pc : Int) + off = (tgt : Int)) (ha : a < 2 ^ 31) (kt : a = 0 → G y cc nL ret R sc Q cu su tgt vs st hp n) (kf : 0 < a → G y cc nL ret R sc Q cu su pc' vs st hp n) (e : pc + 3 = pc' := by rfl) : G y cc nL ret R sc Q cu su pc vs (.int (nI a) :: st) hp n := g_if_le hd ht (fun h => kt ((nI_np ha).mp h)) (fun h => kf ((Nat.eq_zero_or_pos a).elim (fun q => absurd ((nI_np ha).mpr q) h) id)) e

theorem g_if_geN {a : Nat} {off : Int} {tgt pc' : Nat} (hd : decode cc pc = .ok (.ifCond .ge off, 3)) (ht : (pc : Int) + off = (tgt : Int)) (ha : a < 2 ^ 31) (kt : True → G y cc nL ret R sc Q cu su tgt vs st hp n) (kf : False → G y cc nL ret R sc Q cu su pc' vs st hp n) (e : pc + 3 = pc' := by rfl) : G y cc nL ret R sc Q cu su pc vs (.int (nI a) :: st) hp n := g_if_ge hd ht (fun _ => kt trivial) (fun h => kf (h (nI_pos' ha))) e
theorem g_if_ltN {a : Nat} {off : Int} {tgt pc' : Nat} (hd : decode cc pc = .ok (.ifCond .lt off, 3)) (ht : (pc : Int) + off = (tgt : Int)) (ha : a < 2 ^ 31) (kt : False → G y cc nL ret R sc Q cu su tgt vs st hp n) (kf : True → G y cc nL ret R sc Q cu su pc' vs st hp n) (e : pc + 3 = pc' := by rfl) : G y cc nL ret R sc Q cu su pc vs (.int (nI a) :: st) hp n := g_if_lt hd ht (fun h => kt (nI_pos ha h)) (fun _ => kf trivial) e

end GN
