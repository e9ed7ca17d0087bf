section GR
variable {y : MethodName} {cc : ByteArray} {nL : Nat} {ret : Option FieldType} {R : Room} {sc : SC} {Q : Option Value → AH → Nat → Prop} {cu su pc : Nat} {vs st : List Value} {hp : AH} {n : Nat}

theorem g_iconst {pc' : Nat} {z : Int} {v : Int32} (hd : decode cc pc = .ok (.iconst z, 1)) (hv : Int32.ofInt z = v) (k : G y cc nL ret R sc Q cu su pc' vs (.int v :: st) hp n) (e : pc + 1 = pc' := by rfl) : G y cc nL ret R sc Q cu su pc vs (st) hp n := by
  subst e
  intro p l e s m args below meth c D dA A tF b Z ad H locs ls C X L ex
  exact lv_iconst C.1 C.2.1 hd hv (k p l e s m args below meth c D dA A tF b Z ad H locs ls C X L ex)

theorem g_bipush {pc' : Nat} {z : Int} {v : Int32} (hd : decode cc pc = .ok (.bipush z, 2)) (hv : (Int8.ofInt z).toInt32 = v) (k : G y cc nL ret R sc Q cu su pc' vs (.int v :: st) hp n) (e : pc + 2 = pc' := by rfl) : G y cc nL ret R sc Q cu su pc vs (st) hp n := by
  subst e
  intro p l e s m args below meth c D dA A tF b Z ad H locs ls C X L ex
  exact lv_bipush C.1 C.2.1 hd hv (k p l e s m args below meth c D dA A tF b Z ad H locs ls C X L ex)

theorem g_sipush {pc' : Nat} {z : Int} {v : Int32} (hd : decode cc pc = .ok (.sipush z, 3)) (hv : (Int16.ofInt z).toInt32 = v) (k : G y cc nL ret R sc Q cu su pc' vs (.int v :: st) hp n) (e : pc + 3 = pc' := by rfl) : G y cc nL ret R sc Q cu su pc vs (st) hp n := by
  subst e
  intro p l e s m args below meth c D dA A tF b Z ad H locs ls C X L ex
  exact lv_sipush C.1 C.2.1 hd hv (k p l e s m args below meth c D dA A tF b Z ad H locs ls C X L ex)

theorem g_lconst {pc' : Nat} {z : Fin 2} {v : Int64} (hd : decode cc pc = .ok (.lconst z, 1)) (hv : Int64.ofNat (z : Nat) = v) (k : G y cc nL ret R sc Q cu su pc' vs (.long v :: st) hp n) (e : pc + 1 = pc' := by rfl) : G y cc nL ret R sc Q cu su pc vs (st) hp n := by
  subst e
  intro p l e s m args below meth c D dA A tF b Z ad H locs ls C X L ex
  exact lv_lconst C.1 C.2.1 hd hv (k p l e s m args below meth c D dA A tF b Z ad H locs ls C X L ex)

theorem g_ldc {pc' : Nat} {i : Nat} {v : Int32} (hd : decode cc pc = .ok (.ldc i, 2)) (hw : Cond.constant y.cls i v ∈ gt) (k : G y cc nL ret R sc Q cu su pc' vs (.int v :: st) hp n) (e : pc + 2 = pc' := by rfl) : G y cc nL ret R sc Q cu su pc vs (st) hp n := by
  subst e
  intro p l e s m args below meth c D dA A tF b Z ad H locs ls C X L ex
  exact lv_ldc C.1 C.2.1 C.2.2.2.2.1 (C.2.2.2.2.2.1 _ hw) hd (k p l e s m args below meth c D dA A tF b Z ad H locs ls C X L ex)

theorem g_ldcw {pc' : Nat} {i : Nat} {v : Int32} (hd : decode cc pc = .ok (.ldc_w i, 3)) (hw : Cond.constant y.cls i v ∈ gt) (k : G y cc nL ret R sc Q cu su pc' vs (.int v :: st) hp n) (e : pc + 3 = pc' := by rfl) : G y cc nL ret R sc Q cu su pc vs (st) hp n := by
  subst e
  intro p l e s m args below meth c D dA A tF b Z ad H locs ls C X L ex
  exact lv_ldcw C.1 C.2.1 C.2.2.2.2.1 (C.2.2.2.2.2.1 _ hw) hd (k p l e s m args below meth c D dA A tF b Z ad H locs ls C X L ex)

theorem g_ldc2 {pc' : Nat} {i : Nat} {v : Int64} (hd : decode cc pc = .ok (.ldc2_w i, 3)) (hw : Cond.constantLong y.cls i v ∈ gt) (k : G y cc nL ret R sc Q cu su pc' vs (.long v :: st) hp n) (e : pc + 3 = pc' := by rfl) : G y cc nL ret R sc Q cu su pc vs (st) hp n := by
  subst e
  intro p l e s m args below meth c D dA A tF b Z ad H locs ls C X L ex
  exact lv_ldc2 C.1 C.2.1 C.2.2.2.2.1 (C.2.2.2.2.2.1 _ hw) hd (k p l e s m args below meth c D dA A tF b Z ad H locs ls C X L ex)

theorem g_iload_n {pc' : Nat} {j : Fin 4} {i : Nat} {x : Int32} (hd : decode cc pc = .ok (.iload_n j, 1)) (hi : (j : Nat) = i) (hv : vs[i]? = some (.int x)) (k : G y cc nL ret R sc Q cu su pc' vs (.int x :: st) hp n) (e : pc + 1 = pc' := by rfl) : G y cc nL ret R sc Q cu su pc vs (st) hp n := by
  subst e
  intro p l e s m args below meth c D dA A tF b Z ad H locs ls C X L ex
  exact lv_iload_n C.1 C.2.1 hd hi (LV_at L hv (fun q => by cases q)) (k p l e s m args below meth c D dA A tF b Z ad H locs ls C X L ex)

theorem g_iload {pc' : Nat} {i : Nat} {x : Int32} (hd : decode cc pc = .ok (.iload i, 2)) (hv : vs[i]? = some (.int x)) (k : G y cc nL ret R sc Q cu su pc' vs (.int x :: st) hp n) (e : pc + 2 = pc' := by rfl) : G y cc nL ret R sc Q cu su pc vs (st) hp n := by
  subst e
  intro p l e s m args below meth c D dA A tF b Z ad H locs ls C X L ex
  exact lv_iload C.1 C.2.1 hd (LV_at L hv (fun q => by cases q)) (k p l e s m args below meth c D dA A tF b Z ad H locs ls C X L ex)

theorem g_istore_n {pc' : Nat} {j : Fin 4} {i : Nat} {x : Int32} (hd : decode cc pc = .ok (.istore_n j, 1)) (hi : (j : Nat) = i) (hn : i < nL) (k : G y cc nL ret R sc Q cu su pc' (st1 vs i (.int x)) st hp n) (e : pc + 1 = pc' := by rfl) : G y cc nL ret R sc Q cu su pc vs (.int x :: st) hp n := by
  subst e
  intro p l e s m args below meth c D dA A tF b Z ad H locs ls C X L ex
  exact lv_istore_n C.1 C.2.1 hd hi L hn rfl (fun ls' L' => (k p l e s m args below meth c D dA A tF b Z ad H locs ls' C X (LV_st1 (v := .int x) L') ex))

theorem g_istore {pc' : Nat} {i : Nat} {x : Int32} (hd : decode cc pc = .ok (.istore i, 2)) (hn : i < nL) (k : G y cc nL ret R sc Q cu su pc' (st1 vs i (.int x)) st hp n) (e : pc + 2 = pc' := by rfl) : G y cc nL ret R sc Q cu su pc vs (.int x :: st) hp n := by
  subst e
  intro p l e s m args below meth c D dA A tF b Z ad H locs ls C X L ex
  exact lv_istore C.1 C.2.1 hd L hn rfl (fun ls' L' => (k p l e s m args below meth c D dA A tF b Z ad H locs ls' C X (LV_st1 (v := .int x) L') ex))

theorem g_lload_n {pc' : Nat} {j : Fin 4} {i : Nat} {x : Int64} (hd : decode cc pc = .ok (.lload_n j, 1)) (hi : (j : Nat) = i) (hv : vs[i]? = some (.long x)) (k : G y cc nL ret R sc Q cu su pc' vs (.long x :: st) hp n) (e : pc + 1 = pc' := by rfl) : G y cc nL ret R sc Q cu su pc vs (st) hp n := by
  subst e
  intro p l e s m args below meth c D dA A tF b Z ad H locs ls C X L ex
  exact lv_lload_n C.1 C.2.1 hd hi (LV_at L hv (fun q => by cases q)) (k p l e s m args below meth c D dA A tF b Z ad H locs ls C X L ex)

theorem g_lload {pc' : Nat} {i : Nat} {x : Int64} (hd : decode cc pc = .ok (.lload i, 2)) (hv : vs[i]? = some (.long x)) (k : G y cc nL ret R sc Q cu su pc' vs (.long x :: st) hp n) (e : pc + 2 = pc' := by rfl) : G y cc nL ret R sc Q cu su pc vs (st) hp n := by
  subst e
  intro p l e s m args below meth c D dA A tF b Z ad H locs ls C X L ex
  exact lv_lload C.1 C.2.1 hd (LV_at L hv (fun q => by cases q)) (k p l e s m args below meth c D dA A tF b Z ad H locs ls C X L ex)

theorem g_lstore_n {pc' : Nat} {j : Fin 4} {i : Nat} {x : Int64} (hd : decode cc pc = .ok (.lstore_n j, 1)) (hi : (j : Nat) = i) (hn : i + 1 < nL) (k : G y cc nL ret R sc Q cu su pc' (st2 vs i (.long x)) st hp n) (e : pc + 1 = pc' := by rfl) : G y cc nL ret R sc Q cu su pc vs (.long x :: st) hp n := by
  subst e
  intro p l e s m args below meth c D dA A tF b Z ad H locs ls C X L ex
  exact lv_lstore_n C.1 C.2.1 hd hi L hn rfl (fun ls' L' => (k p l e s m args below meth c D dA A tF b Z ad H locs ls' C X (LV_st2 (v := .long x) L') ex))

theorem g_lstore {pc' : Nat} {i : Nat} {x : Int64} (hd : decode cc pc = .ok (.lstore i, 2)) (hn : i + 1 < nL) (k : G y cc nL ret R sc Q cu su pc' (st2 vs i (.long x)) st hp n) (e : pc + 2 = pc' := by rfl) : G y cc nL ret R sc Q cu su pc vs (.long x :: st) hp n := by
  subst e
  intro p l e s m args below meth c D dA A tF b Z ad H locs ls C X L ex
  exact lv_lstore C.1 C.2.1 hd L hn rfl (fun ls' L' => (k p l e s m args below meth c D dA A tF b Z ad H locs ls' C X (LV_st2 (v := .long x) L') ex))

theorem g_aload_n {pc' : Nat} {j : Fin 4} {i : Nat} {x : Nat} (hd : decode cc pc = .ok (.aload_n j, 1)) (hi : (j : Nat) = i) (hv : vs[i]? = some (.ref x)) (k : G y cc nL ret R sc Q cu su pc' vs (.ref x :: st) hp n) (e : pc + 1 = pc' := by rfl) : G y cc nL ret R sc Q cu su pc vs (st) hp n := by
  subst e
  intro p l e s m args below meth c D dA A tF b Z ad H locs ls C X L ex
  exact lv_aload_n C.1 C.2.1 hd hi (LV_at L hv (fun q => by cases q)) (k p l e s m args below meth c D dA A tF b Z ad H locs ls C X L ex)

theorem g_aload {pc' : Nat} {i : Nat} {x : Nat} (hd : decode cc pc = .ok (.aload i, 2)) (hv : vs[i]? = some (.ref x)) (k : G y cc nL ret R sc Q cu su pc' vs (.ref x :: st) hp n) (e : pc + 2 = pc' := by rfl) : G y cc nL ret R sc Q cu su pc vs (st) hp n := by
  subst e
  intro p l e s m args below meth c D dA A tF b Z ad H locs ls C X L ex
  exact lv_aload C.1 C.2.1 hd (LV_at L hv (fun q => by cases q)) (k p l e s m args below meth c D dA A tF b Z ad H locs ls C X L ex)

theorem g_astore_n {pc' : Nat} {j : Fin 4} {i : Nat} {x : Nat} (hd : decode cc pc = .ok (.astore_n j, 1)) (hi : (j : Nat) = i) (hn : i < nL) (k : G y cc nL ret R sc Q cu su pc' (st1 vs i (.ref x)) st hp n) (e : pc + 1 = pc' := by rfl) : G y cc nL ret R sc Q cu su pc vs (.ref x :: st) hp n := by
  subst e
  intro p l e s m args below meth c D dA A tF b Z ad H locs ls C X L ex
  exact lv_astore_n C.1 C.2.1 hd hi L hn rfl (fun ls' L' => (k p l e s m args below meth c D dA A tF b Z ad H locs ls' C X (LV_st1 (v := .ref x) L') ex))

theorem g_astore {pc' : Nat} {i : Nat} {x : Nat} (hd : decode cc pc = .ok (.astore i, 2)) (hn : i < nL) (k : G y cc nL ret R sc Q cu su pc' (st1 vs i (.ref x)) st hp n) (e : pc + 2 = pc' := by rfl) : G y cc nL ret R sc Q cu su pc vs (.ref x :: st) hp n := by
  subst e
  intro p l e s m args below meth c D dA A tF b Z ad H locs ls C X L ex
  exact lv_astore C.1 C.2.1 hd L hn rfl (fun ls' L' => (k p l e s m args below meth c D dA A tF b Z ad H locs ls' C X (LV_st1 (v := .ref x) L') ex))

theorem lvl_ix {ad : Nat → Nat} {vs : List Value} {i : Nat} {v : Value} (hv : vs[i]? = some v) (hu : v ≠ uu) : ∃ k : Nat, (lvl ad vs)[k]? = some (i, trV ad v) := List.getElem?_of_mem (lvl_mem.mpr ⟨v, hv, hu, rfl⟩)
theorem g_iinc {pc' : Nat} {i : Nat} {z : Int} {x v : Int32} (hd : decode cc pc = .ok (.iinc i z, 3)) (hv : vs[i]? = some (.int x)) (hz : x + Int32.ofInt z = v) (hn : i < nL) (k : G y cc nL ret R sc Q cu su pc' (st1 vs i (.int v)) st hp n) (e : pc + 3 = pc' := by rfl) : G y cc nL ret R sc Q cu su pc vs st hp n := by
  subst e
  intro p l e s m args below meth c D dA A tF b Z ad H locs ls C X L ex
  obtain ⟨j, hj⟩ := lvl_ix (ad := ad) hv (fun q => by cases q)
  exact lv_iinc C.1 C.2.1 hd L hj hz hn rfl (fun ls' L' => k p l e s m args below meth c D dA A tF b Z ad H locs ls' C X (LV_st1 (v := .int v) L') ex)

theorem g_iadd {pc' : Nat} {x z : Int32} (hd : decode cc pc = .ok (.iadd, 1))  (k : G y cc nL ret R sc Q cu su pc' vs (.int (x + z) :: st) hp n) (e : pc + 1 = pc' := by rfl) : G y cc nL ret R sc Q cu su pc vs (.int z :: .int x :: st) hp n := by
  subst e
  intro p l e s m args below meth c D dA A tF b Z ad H locs ls C X L ex
  exact lv_iadd C.1 C.2.1 hd (k p l e s m args below meth c D dA A tF b Z ad H locs ls C X L ex)

theorem g_isub {pc' : Nat} {x z : Int32} (hd : decode cc pc = .ok (.isub, 1))  (k : G y cc nL ret R sc Q cu su pc' vs (.int (x - z) :: st) hp n) (e : pc + 1 = pc' := by rfl) : G y cc nL ret R sc Q cu su pc vs (.int z :: .int x :: st) hp n := by
  subst e
  intro p l e s m args below meth c D dA A tF b Z ad H locs ls C X L ex
  exact lv_isub C.1 C.2.1 hd (k p l e s m args below meth c D dA A tF b Z ad H locs ls C X L ex)

theorem g_imul {pc' : Nat} {x z : Int32} (hd : decode cc pc = .ok (.imul, 1))  (k : G y cc nL ret R sc Q cu su pc' vs (.int (x * z) :: st) hp n) (e : pc + 1 = pc' := by rfl) : G y cc nL ret R sc Q cu su pc vs (.int z :: .int x :: st) hp n := by
  subst e
  intro p l e s m args below meth c D dA A tF b Z ad H locs ls C X L ex
  exact lv_imul C.1 C.2.1 hd (k p l e s m args below meth c D dA A tF b Z ad H locs ls C X L ex)

theorem g_iand {pc' : Nat} {x z : Int32} (hd : decode cc pc = .ok (.iand, 1))  (k : G y cc nL ret R sc Q cu su pc' vs (.int (x &&& z) :: st) hp n) (e : pc + 1 = pc' := by rfl) : G y cc nL ret R sc Q cu su pc vs (.int z :: .int x :: st) hp n := by
  subst e
  intro p l e s m args below meth c D dA A tF b Z ad H locs ls C X L ex
  exact lv_iand C.1 C.2.1 hd (k p l e s m args below meth c D dA A tF b Z ad H locs ls C X L ex)

theorem g_ior {pc' : Nat} {x z : Int32} (hd : decode cc pc = .ok (.ior, 1))  (k : G y cc nL ret R sc Q cu su pc' vs (.int (x ||| z) :: st) hp n) (e : pc + 1 = pc' := by rfl) : G y cc nL ret R sc Q cu su pc vs (.int z :: .int x :: st) hp n := by
  subst e
  intro p l e s m args below meth c D dA A tF b Z ad H locs ls C X L ex
  exact lv_ior C.1 C.2.1 hd (k p l e s m args below meth c D dA A tF b Z ad H locs ls C X L ex)

theorem g_ixor {pc' : Nat} {x z : Int32} (hd : decode cc pc = .ok (.ixor, 1))  (k : G y cc nL ret R sc Q cu su pc' vs (.int (x ^^^ z) :: st) hp n) (e : pc + 1 = pc' := by rfl) : G y cc nL ret R sc Q cu su pc vs (.int z :: .int x :: st) hp n := by
  subst e
  intro p l e s m args below meth c D dA A tF b Z ad H locs ls C X L ex
  exact lv_ixor C.1 C.2.1 hd (k p l e s m args below meth c D dA A tF b Z ad H locs ls C X L ex)

theorem g_ishl {pc' : Nat} {x z : Int32} (hd : decode cc pc = .ok (.ishl, 1))  (k : G y cc nL ret R sc Q cu su pc' vs (.int (x <<< (z &&& 31)) :: st) hp n) (e : pc + 1 = pc' := by rfl) : G y cc nL ret R sc Q cu su pc vs (.int z :: .int x :: st) hp n := by
  subst e
  intro p l e s m args below meth c D dA A tF b Z ad H locs ls C X L ex
  exact lv_ishl C.1 C.2.1 hd (k p l e s m args below meth c D dA A tF b Z ad H locs ls C X L ex)

theorem g_ishr {pc' : Nat} {x z : Int32} (hd : decode cc pc = .ok (.ishr, 1))  (k : G y cc nL ret R sc Q cu su pc' vs (.int (x >>> (z &&& 31)) :: st) hp n) (e : pc + 1 = pc' := by rfl) : G y cc nL ret R sc Q cu su pc vs (.int z :: .int x :: st) hp n := by
  subst e
  intro p l e s m args below meth c D dA A tF b Z ad H locs ls C X L ex
  exact lv_ishr C.1 C.2.1 hd (k p l e s m args below meth c D dA A tF b Z ad H locs ls C X L ex)

theorem g_iushr {pc' : Nat} {x z : Int32} (hd : decode cc pc = .ok (.iushr, 1))  (k : G y cc nL ret R sc Q cu su pc' vs (.int ((x.toUInt32 >>> (z.toUInt32 &&& Int32.toUInt32 31)).toInt32) :: st) hp n) (e : pc + 1 = pc' := by rfl) : G y cc nL ret R sc Q cu su pc vs (.int z :: .int x :: st) hp n := by
  subst e
  intro p l e s m args below meth c D dA A tF b Z ad H locs ls C X L ex
  exact lv_iushr C.1 C.2.1 hd rfl (k p l e s m args below meth c D dA A tF b Z ad H locs ls C X L ex)

theorem g_idiv {pc' : Nat} {x z : Int32} (hd : decode cc pc = .ok (.idiv, 1)) (hz : ¬ z = 0) (k : G y cc nL ret R sc Q cu su pc' vs (.int (x / z) :: st) hp n) (e : pc + 1 = pc' := by rfl) : G y cc nL ret R sc Q cu su pc vs (.int z :: .int x :: st) hp n := by
  subst e
  intro p l e s m args below meth c D dA A tF b Z ad H locs ls C X L ex
  exact lv_idiv C.1 C.2.1 hd hz (k p l e s m args below meth c D dA A tF b Z ad H locs ls C X L ex)

theorem g_irem {pc' : Nat} {x z : Int32} (hd : decode cc pc = .ok (.irem, 1)) (hz : ¬ z = 0) (k : G y cc nL ret R sc Q cu su pc' vs (.int (x - x / z * z) :: st) hp n) (e : pc + 1 = pc' := by rfl) : G y cc nL ret R sc Q cu su pc vs (.int z :: .int x :: st) hp n := by
  subst e
  intro p l e s m args below meth c D dA A tF b Z ad H locs ls C X L ex
  exact lv_irem C.1 C.2.1 hd hz (k p l e s m args below meth c D dA A tF b Z ad H locs ls C X L ex)

theorem g_ladd {pc' : Nat} {x z : Int64} (hd : decode cc pc = .ok (.ladd, 1))  (k : G y cc nL ret R sc Q cu su pc' vs (.long (x + z) :: st) hp n) (e : pc + 1 = pc' := by rfl) : G y cc nL ret R sc Q cu su pc vs (.long z :: .long x :: st) hp n := by
  subst e
  intro p l e s m args below meth c D dA A tF b Z ad H locs ls C X L ex
  exact lv_ladd C.1 C.2.1 hd (k p l e s m args below meth c D dA A tF b Z ad H locs ls C X L ex)

theorem g_lsub {pc' : Nat} {x z : Int64} (hd : decode cc pc = .ok (.lsub, 1))  (k : G y cc nL ret R sc Q cu su pc' vs (.long (x - z) :: st) hp n) (e : pc + 1 = pc' := by rfl) : G y cc nL ret R sc Q cu su pc vs (.long z :: .long x :: st) hp n := by
  subst e
  intro p l e s m args below meth c D dA A tF b Z ad H locs ls C X L ex
  exact lv_lsub C.1 C.2.1 hd (k p l e s m args below meth c D dA A tF b Z ad H locs ls C X L ex)

theorem g_lmul {pc' : Nat} {x z : Int64} (hd : decode cc pc = .ok (.lmul, 1))  (k : G y cc nL ret R sc Q cu su pc' vs (.long (x * z) :: st) hp n) (e : pc + 1 = pc' := by rfl) : G y cc nL ret R sc Q cu su pc vs (.long z :: .long x :: st) hp n := by
  subst e
  intro p l e s m args below meth c D dA A tF b Z ad H locs ls C X L ex
  exact lv_lmul C.1 C.2.1 hd (k p l e s m args below meth c D dA A tF b Z ad H locs ls C X L ex)

theorem g_ldiv {pc' : Nat} {x z : Int64} (hd : decode cc pc = .ok (.ldiv, 1)) (hz : ¬ z = 0) (k : G y cc nL ret R sc Q cu su pc' vs (.long (x / z) :: st) hp n) (e : pc + 1 = pc' := by rfl) : G y cc nL ret R sc Q cu su pc vs (.long z :: .long x :: st) hp n := by
  subst e
  intro p l e s m args below meth c D dA A tF b Z ad H locs ls C X L ex
  exact lv_ldiv C.1 C.2.1 hd hz (k p l e s m args below meth c D dA A tF b Z ad H locs ls C X L ex)

theorem g_i2l {pc' : Nat} {x : Int32} (hd : decode cc pc = .ok (.i2l, 1))  (k : G y cc nL ret R sc Q cu su pc' vs (.long x.toInt64 :: st) hp n) (e : pc + 1 = pc' := by rfl) : G y cc nL ret R sc Q cu su pc vs (.int x :: st) hp n := by
  subst e
  intro p l e s m args below meth c D dA A tF b Z ad H locs ls C X L ex
  exact lv_i2l C.1 C.2.1 hd rfl (k p l e s m args below meth c D dA A tF b Z ad H locs ls C X L ex)

theorem g_lcmp {pc' : Nat} {x z : Int64} (hd : decode cc pc = .ok (.lcmp, 1))  (k : G y cc nL ret R sc Q cu su pc' vs (.int (lg_cmp x z) :: st) hp n) (e : pc + 1 = pc' := by rfl) : G y cc nL ret R sc Q cu su pc vs (.long z :: .long x :: st) hp n := by
  subst e
  intro p l e s m args below meth c D dA A tF b Z ad H locs ls C X L ex
  exact W.lcmp C.1 C.2.1 hd (k p l e s m args below meth c D dA A tF b Z ad H locs ls C X L ex)

theorem g_dup {pc' : Nat} {a : Value} (hd : decode cc pc = .ok (.dup, 1)) (h1 : a.category = 1) (k : G y cc nL ret R sc Q cu su pc' vs (a :: a :: st) hp n) (e : pc + 1 = pc' := by rfl) : G y cc nL ret R sc Q cu su pc vs (a :: st) hp n := by
  subst e
  intro p l e s m args below meth c D dA A tF b Z ad H locs ls C X L ex
  exact lv_dup C.1 C.2.1 hd ((trV_cat ad a).trans h1) (k p l e s m args below meth c D dA A tF b Z ad H locs ls C X L ex)

theorem g_pop {pc' : Nat} {a : Value} (hd : decode cc pc = .ok (.pop, 1)) (h1 : a.category = 1) (k : G y cc nL ret R sc Q cu su pc' vs (st) hp n) (e : pc + 1 = pc' := by rfl) : G y cc nL ret R sc Q cu su pc vs (a :: st) hp n := by
  subst e
  intro p l e s m args below meth c D dA A tF b Z ad H locs ls C X L ex
  exact lv_pop C.1 C.2.1 hd ((trV_cat ad a).trans h1) (k p l e s m args below meth c D dA A tF b Z ad H locs ls C X L ex)

theorem g_dup2 {pc' : Nat} {a z : Value} (hd : decode cc pc = .ok (.dup2, 1)) (h1 : a.category = 1) (h2 : z.category = 1) (k : G y cc nL ret R sc Q cu su pc' vs (a :: z :: a :: z :: st) hp n) (e : pc + 1 = pc' := by rfl) : G y cc nL ret R sc Q cu su pc vs (a :: z :: st) hp n := by
  subst e
  intro p l e s m args below meth c D dA A tF b Z ad H locs ls C X L ex
  exact lv_dup2_11 C.1 C.2.1 hd ((trV_cat ad a).trans h1) ((trV_cat ad z).trans h2) (k p l e s m args below meth c D dA A tF b Z ad H locs ls C X L ex)

theorem g_dup2_2 {pc' : Nat} {a : Value} (hd : decode cc pc = .ok (.dup2, 1)) (h1 : a.category = 2) (k : G y cc nL ret R sc Q cu su pc' vs (a :: a :: st) hp n) (e : pc + 1 = pc' := by rfl) : G y cc nL ret R sc Q cu su pc vs (a :: st) hp n := by
  subst e
  intro p l e s m args below meth c D dA A tF b Z ad H locs ls C X L ex
  exact lv_dup2_2 C.1 C.2.1 hd ((trV_cat ad a).trans h1) (k p l e s m args below meth c D dA A tF b Z ad H locs ls C X L ex)

theorem g_if_eq {x : Int32} {off : Int} {tgt pc' : Nat} (hd : decode cc pc = .ok (.ifCond .eq off, 3)) (ht : (pc : Int) + off = (tgt : Int)) (kt : x = 0 → G y cc nL ret R sc Q cu su tgt vs st hp n) (kf : ¬ (x = 0) → G y cc nL ret R sc Q cu su pc' vs st hp n) (e : pc + 3 = pc' := by rfl) : G y cc nL ret R sc Q cu su pc vs (.int x :: st) hp n := by
  subst e
  intro p l e s m args below meth c D dA A tF b Z ad H locs ls C X L ex
  exact lv_if_eq C.1 C.2.1 hd ht (fun h => kt h p l e s m args below meth c D dA A tF b Z ad H locs ls C X L ex) (fun h => kf h p l e s m args below meth c D dA A tF b Z ad H locs ls C X L ex)

theorem g_if_ne {x : Int32} {off : Int} {tgt pc' : Nat} (hd : decode cc pc = .ok (.ifCond .ne off, 3)) (ht : (pc : Int) + off = (tgt : Int)) (kt : ¬ x = 0 → G y cc nL ret R sc Q cu su tgt vs st hp n) (kf : x = 0 → G y cc nL ret R sc Q cu su pc' vs st hp n) (e : pc + 3 = pc' := by rfl) : G y cc nL ret R sc Q cu su pc vs (.int x :: st) hp n := by
  subst e
  intro p l e s m args below meth c D dA A tF b Z ad H locs ls C X L ex
  exact lv_if_ne C.1 C.2.1 hd ht (fun h => kt h p l e s m args below meth c D dA A tF b Z ad H locs ls C X L ex) (fun h => kf h p l e s m args below meth c D dA A tF b Z ad H locs ls C X L ex)

theorem g_if_lt {x : Int32} {off : Int} {tgt pc' : Nat} (hd : decode cc pc = .ok (.ifCond .lt off, 3)) (ht : (pc : Int) + off = (tgt : Int)) (kt : x < 0 → G y cc nL ret R sc Q cu su tgt vs st hp n) (kf : ¬ (x < 0) → G y cc nL ret R sc Q cu su pc' vs st hp n) (e : pc + 3 = pc' := by rfl) : G y cc nL ret R sc Q cu su pc vs (.int x :: st) hp n := by
  subst e
  intro p l e s m args below meth c D dA A tF b Z ad H locs ls C X L ex
  exact lv_if_lt C.1 C.2.1 hd ht (fun h => kt h p l e s m args below meth c D dA A tF b Z ad H locs ls C X L ex) (fun h => kf h p l e s m args below meth c D dA A tF b Z ad H locs ls C X L ex)

theorem g_if_ge {x : Int32} {off : Int} {tgt pc' : Nat} (hd : decode cc pc = .ok (.ifCond .ge off, 3)) (ht : (pc : Int) + off = (tgt : Int)) (kt : 0 ≤ x → G y cc nL ret R sc Q cu su tgt vs st hp n) (kf : ¬ (0 ≤ x) → G y cc nL ret R sc Q cu su pc' vs st hp n) (e : pc + 3 = pc' := by rfl) : G y cc nL ret R sc Q cu su pc vs (.int x :: st) hp n := by
  subst e
  intro p l e s m args below meth c D dA A tF b Z ad H locs ls C X L ex
  exact lv_if_ge C.1 C.2.1 hd ht (fun h => kt h p l e s m args below meth c D dA A tF b Z ad H locs ls C X L ex) (fun h => kf h p l e s m args below meth c D dA A tF b Z ad H locs ls C X L ex)

theorem g_if_gt {x : Int32} {off : Int} {tgt pc' : Nat} (hd : decode cc pc = .ok (.ifCond .gt off, 3)) (ht : (pc : Int) + off = (tgt : Int)) (kt : 0 < x → G y cc nL ret R sc Q cu su tgt vs st hp n) (kf : ¬ (0 < x) → G y cc nL ret R sc Q cu su pc' vs st hp n) (e : pc + 3 = pc' := by rfl) : G y cc nL ret R sc Q cu su pc vs (.int x :: st) hp n := by
  subst e
  intro p l e s m args below meth c D dA A tF b Z ad H locs ls C X L ex
  exact lv_if_gt C.1 C.2.1 hd ht (fun h => kt h p l e s m args below meth c D dA A tF b Z ad H locs ls C X L ex) (fun h => kf h p l e s m args below meth c D dA A tF b Z ad H locs ls C X L ex)

theorem g_if_le {x : Int32} {off : Int} {tgt pc' : Nat} (hd : decode cc pc = .ok (.ifCond .le off, 3)) (ht : (pc : Int) + off = (tgt : Int)) (kt : x ≤ 0 → G y cc nL ret R sc Q cu su tgt vs st hp n) (kf : ¬ (x ≤ 0) → G y cc nL ret R sc Q cu su pc' vs st hp n) (e : pc + 3 = pc' := by rfl) : G y cc nL ret R sc Q cu su pc vs (.int x :: st) hp n := by
  subst e
  intro p l e s m args below meth c D dA A tF b Z ad H locs ls C X L ex
  exact lv_if_le C.1 C.2.1 hd ht (fun h => kt h p l e s m args below meth c D dA A tF b Z ad H locs ls C X L ex) (fun h => kf h p l e s m args below meth c D dA A tF b Z ad H locs ls C X L ex)

theorem g_icmp_eq {x z : Int32} {off : Int} {tgt pc' : Nat} (hd : decode cc pc = .ok (.if_icmp .eq off, 3)) (ht : (pc : Int) + off = (tgt : Int)) (kt : x = z → G y cc nL ret R sc Q cu su tgt vs st hp n) (kf : ¬ (x = z) → G y cc nL ret R sc Q cu su pc' vs st hp n) (e : pc + 3 = pc' := by rfl) : G y cc nL ret R sc Q cu su pc vs (.int z :: .int x :: st) hp n := by
  subst e
  intro p l e s m args below meth c D dA A tF b Z ad H locs ls C X L ex
  exact lv_icmp_eq C.1 C.2.1 hd ht (fun h => kt h p l e s m args below meth c D dA A tF b Z ad H locs ls C X L ex) (fun h => kf h p l e s m args below meth c D dA A tF b Z ad H locs ls C X L ex)

theorem g_icmp_ne {x z : Int32} {off : Int} {tgt pc' : Nat} (hd : decode cc pc = .ok (.if_icmp .ne off, 3)) (ht : (pc : Int) + off = (tgt : Int)) (kt : ¬ x = z → G y cc nL ret R sc Q cu su tgt vs st hp n) (kf : x = z → G y cc nL ret R sc Q cu su pc' vs st hp n) (e : pc + 3 = pc' := by rfl) : G y cc nL ret R sc Q cu su pc vs (.int z :: .int x :: st) hp n := by
  subst e
  intro p l e s m args below meth c D dA A tF b Z ad H locs ls C X L ex
  exact lv_icmp_ne C.1 C.2.1 hd ht (fun h => kt h p l e s m args below meth c D dA A tF b Z ad H locs ls C X L ex) (fun h => kf h p l e s m args below meth c D dA A tF b Z ad H locs ls C X L ex)

theorem g_icmp_lt {x z : Int32} {off : Int} {tgt pc' : Nat} (hd : decode cc pc = .ok (.if_icmp .lt off, 3)) (ht : (pc : Int) + off = (tgt : Int)) (kt : x < z → G y cc nL ret R sc Q cu su tgt vs st hp n) (kf : ¬ (x < z) → G y cc nL ret R sc Q cu su pc' vs st hp n) (e : pc + 3 = pc' := by rfl) : G y cc nL ret R sc Q cu su pc vs (.int z :: .int x :: st) hp n := by
  subst e
  intro p l e s m args below meth c D dA A tF b Z ad H locs ls C X L ex
  exact lv_icmp_lt C.1 C.2.1 hd ht (fun h => kt h p l e s m args below meth c D dA A tF b Z ad H locs ls C X L ex) (fun h => kf h p l e s m args below meth c D dA A tF b Z ad H locs ls C X L ex)

theorem g_icmp_ge {x z : Int32} {off : Int} {tgt pc' : Nat} (hd : decode cc pc = .ok (.if_icmp .ge off, 3)) (ht : (pc : Int) + off = (tgt : Int)) (kt : z ≤ x → G y cc nL ret R sc Q cu su tgt vs st hp n) (kf : ¬ (z ≤ x) → G y cc nL ret R sc Q cu su pc' vs st hp n) (e : pc + 3 = pc' := by rfl) : G y cc nL ret R sc Q cu su pc vs (.int z :: .int x :: st) hp n := by
  subst e
  intro p l e s m args below meth c D dA A tF b Z ad H locs ls C X L ex
  exact lv_icmp_ge C.1 C.2.1 hd ht (fun h => kt h p l e s m args below meth c D dA A tF b Z ad H locs ls C X L ex) (fun h => kf h p l e s m args below meth c D dA A tF b Z ad H locs ls C X L ex)

theorem g_icmp_gt {x z : Int32} {off : Int} {tgt pc' : Nat} (hd : decode cc pc = .ok (.if_icmp .gt off, 3)) (ht : (pc : Int) + off = (tgt : Int)) (kt : z < x → G y cc nL ret R sc Q cu su tgt vs st hp n) (kf : ¬ (z < x) → G y cc nL ret R sc Q cu su pc' vs st hp n) (e : pc + 3 = pc' := by rfl) : G y cc nL ret R sc Q cu su pc vs (.int z :: .int x :: st) hp n := by
  subst e
  intro p l e s m args below meth c D dA A tF b Z ad H locs ls C X L ex
  exact lv_icmp_gt C.1 C.2.1 hd ht (fun h => kt h p l e s m args below meth c D dA A tF b Z ad H locs ls C X L ex) (fun h => kf h p l e s m args below meth c D dA A tF b Z ad H locs ls C X L ex)

theorem g_icmp_le {x z : Int32} {off : Int} {tgt pc' : Nat} (hd : decode cc pc = .ok (.if_icmp .le off, 3)) (ht : (pc : Int) + off = (tgt : Int)) (kt : x ≤ z → G y cc nL ret R sc Q cu su tgt vs st hp n) (kf : ¬ (x ≤ z) → G y cc nL ret R sc Q cu su pc' vs st hp n) (e : pc + 3 = pc' := by rfl) : G y cc nL ret R sc Q cu su pc vs (.int z :: .int x :: st) hp n := by
  subst e
  intro p l e s m args below meth c D dA A tF b Z ad H locs ls C X L ex
  exact lv_icmp_le C.1 C.2.1 hd ht (fun h => kt h p l e s m args below meth c D dA A tF b Z ad H locs ls C X L ex) (fun h => kf h p l e s m args below meth c D dA A tF b Z ad H locs ls C X L ex)

theorem g_goto {off : Int} {tgt : Nat} (hd : decode cc pc = .ok (.goto off, 3)) (ht : (pc : Int) + off = (tgt : Int)) (k : G y cc nL ret R sc Q cu su tgt vs st hp n) : G y cc nL ret R sc Q cu su pc vs st hp n := by
  intro p l e s m args below meth c D dA A tF b Z ad H locs ls C X L ex
  exact lv_goto C.1 C.2.1 hd ht (k p l e s m args below meth c D dA A tF b Z ad H locs ls C X L ex)

theorem g_tabIn {dflt lo hi off : Int} {offs : Array Int} {len tgt : Nat} {x : Int32} (hd : decode cc pc = .ok (.tableswitch dflt lo hi offs, len)) (h1 : ¬ x.toInt < lo) (h2 : ¬ hi < x.toInt) (ho : offs[(x.toInt - lo).toNat]? = some off) (ht : (pc : Int) + off = (tgt : Int)) (k : G y cc nL ret R sc Q cu su tgt vs st hp n) : G y cc nL ret R sc Q cu su pc vs (.int x :: st) hp n := by
  intro p l e s m args below meth c D dA A tF b Z ad H locs ls C X L ex
  exact lv_tableIn C.1 C.2.1 hd h1 h2 ho ht (k p l e s m args below meth c D dA A tF b Z ad H locs ls C X L ex)

theorem g_tabOut {dflt lo hi : Int} {offs : Array Int} {len tgt : Nat} {x : Int32} (hd : decode cc pc = .ok (.tableswitch dflt lo hi offs, len)) (h : x.toInt < lo ∨ hi < x.toInt) (ht : (pc : Int) + dflt = (tgt : Int)) (k : G y cc nL ret R sc Q cu su tgt vs st hp n) : G y cc nL ret R sc Q cu su pc vs (.int x :: st) hp n := by
  intro p l e s m args below meth c D dA A tF b Z ad H locs ls C X L ex
  exact lv_tableOut C.1 C.2.1 hd h ht (k p l e s m args below meth c D dA A tF b Z ad H locs ls C X L ex)

theorem g_iret {x : Int32} (hd : decode cc pc = .ok (.ireturn, 1)) (hr : ret = some .int) (hc : cu ≤ R.cells) (hs : su ≤ R.slots) (hq : Q (some (.int x)) hp n) : G y cc nL ret R sc Q cu su pc vs [.int x] hp n := by
  subst hr
  intro p l e s m args below meth c D dA A tF b Z ad H locs ls C X L ex
  exact W.widen hc hs (ex (some (.int x)) hp n ad H locs ls pc hq hd (Nat.le_refl _) agr.rf X)
theorem g_zret {x : Int32} (hd : decode cc pc = .ok (.ireturn, 1)) (hr : ret = some .boolean) (hx : narrow .boolean (.int x) = .int x) (hc : cu ≤ R.cells) (hs : su ≤ R.slots) (hq : Q (some (.int x)) hp n) : G y cc nL ret R sc Q cu su pc vs [.int x] hp n := by
  subst hr
  intro p l e s m args below meth c D dA A tF b Z ad H locs ls C X L ex
  exact W.widen hc hs (ex (some (.int x)) hp n ad H locs ls pc hq ⟨hd, hx⟩ (Nat.le_refl _) agr.rf X)
theorem g_lret {x : Int64} (hd : decode cc pc = .ok (.lreturn, 1)) (hr : ret = some .long) (hc : cu ≤ R.cells) (hs : su ≤ R.slots) (hq : Q (some (.long x)) hp n) : G y cc nL ret R sc Q cu su pc vs [.long x] hp n := by
  subst hr
  intro p l e s m args below meth c D dA A tF b Z ad H locs ls C X L ex
  exact W.widen hc hs (ex (some (.long x)) hp n ad H locs ls pc hq hd (Nat.le_refl _) agr.rf X)
theorem g_vret (hd : decode cc pc = .ok (.return_, 1)) (hr : ret = none) (hc : cu ≤ R.cells) (hs : su ≤ R.slots) (hq : Q none hp n) : G y cc nL ret R sc Q cu su pc vs [] hp n := by
  subst hr
  intro p l e s m args below meth c D dA A tF b Z ad H locs ls C X L ex
  exact W.widen hc hs (ex none hp n ad H locs ls pc hq hd (Nat.le_refl _) agr.rf X)
theorem g_aret {a : Nat} {ty : FieldType} (hd : decode cc pc = .ok (.areturn, 1)) (hr : ret = some ty) (ht : (∃ C, ty = .object C) ∨ ∃ t, ty = .array t) (hc : cu ≤ R.cells) (hs : su ≤ R.slots) (hq : Q (some (.ref a)) hp n) : G y cc nL ret R sc Q cu su pc vs [.ref a] hp n := by
  subst hr
  intro p l e s m args below meth c D dA A tF b Z ad H locs ls C X L ex
  refine W.widen hc hs (ex (some (.ref a)) hp n ad H locs ls pc hq ?_ (Nat.le_refl _) agr.rf X)
  rcases ht with ⟨C, rfl⟩ | ⟨t, rfl⟩ <;> exact hd
theorem g_widen {cu' su' : Nat} (h1 : cu ≤ cu') (h2 : su ≤ su') (k : G y cc nL ret R sc Q cu' su' pc vs st hp n) : G y cc nL ret R sc Q cu su pc vs st hp n := by
  intro p l e s m args below meth c D dA A tF b Z ad H locs ls C X L ex
  exact W.widen h1 h2 (k p l e s m args below meth c D dA A tF b Z ad H locs ls C X L ex)
theorem g_mono {Q' : Option Value → AH → Nat → Prop} (h : ∀ v hp n, Q' v hp n → Q v hp n) (k : G y cc nL ret R sc Q' cu su pc vs st hp n) : G y cc nL ret R sc Q cu su pc vs st hp n := by
  intro p l e s m args below meth c D dA A tF b Z ad H locs ls C X L ex
  exact k p l e s m args below meth c D dA A tF b Z ad H locs ls C X L (fun v hp' n' ad' H' locs' ls' pc' hq => ex v hp' n' ad' H' locs' ls' pc' (h v hp' n' hq))

/-- i is the place j of a row of N -/
def IX (i : Int32) (j N : Nat) : Prop := vp_in i N ∧ i.toNatClampNeg = j
theorem IX_nI {j N : Nat} (h : j < N) (hN : N < 2 ^ 31) : IX (nI j) j N := ⟨vp_in_nI h hN, nI_clamp (Nat.lt_trans h hN)⟩

theorem g_iald {pc' : Nat} {a N j : Nat} {f : Nat → Int32} {i : Int32} (hd : decode cc pc = .ok (.iaload, 1)) (ha : a < n) (he : hp a = aI N f) (hi : IX i j N) (k : G y cc nL ret R sc Q cu su pc' vs (.int (f j) :: st) hp n) (e : pc + 1 = pc' := by rfl) : G y cc nL ret R sc Q cu su pc vs (.int i :: .ref a :: st) hp n := by
  subst e
  intro p l e s m args below meth c D dA A tF b Z ad H locs ls C X L ex
  obtain ⟨h1, h2⟩ := hi
  subst h2
  have hc := wl_get (dA := dA) (ad := ad) (hp := hp) ha
  rw [he] at hc
  exact va_iald C.1 C.2.1 C.2.2.2.2.2.2.2.2.1 X.1 a 0 hc rfl h1 hd (k p l e s m args below meth c D dA A tF b Z ad H locs ls C X L ex)

theorem g_lald {pc' : Nat} {a N j : Nat} {f : Nat → Int64} {i : Int32} (hd : decode cc pc = .ok (.laload, 1)) (ha : a < n) (he : hp a = aJ N f) (hi : IX i j N) (k : G y cc nL ret R sc Q cu su pc' vs (.long (f j) :: st) hp n) (e : pc + 1 = pc' := by rfl) : G y cc nL ret R sc Q cu su pc vs (.int i :: .ref a :: st) hp n := by
  subst e
  intro p l e s m args below meth c D dA A tF b Z ad H locs ls C X L ex
  obtain ⟨h1, h2⟩ := hi
  subst h2
  have hc := wl_get (dA := dA) (ad := ad) (hp := hp) ha
  rw [he] at hc
  exact va_lald C.1 C.2.1 C.2.2.2.2.2.2.2.2.1 X.1 a 1 hc rfl h1 hd (k p l e s m args below meth c D dA A tF b Z ad H locs ls C X L ex)

theorem g_zald {pc' : Nat} {a N j : Nat} {f : Nat → Int32} {i : Int32} (hd : decode cc pc = .ok (.baload, 1)) (ha : a < n) (he : hp a = aZ N f) (hi : IX i j N) (k : G y cc nL ret R sc Q cu su pc' vs (.int (f j) :: st) hp n) (e : pc + 1 = pc' := by rfl) : G y cc nL ret R sc Q cu su pc vs (.int i :: .ref a :: st) hp n := by
  subst e
  intro p l e s m args below meth c D dA A tF b Z ad H locs ls C X L ex
  obtain ⟨h1, h2⟩ := hi
  subst h2
  have hc := wl_get (dA := dA) (ad := ad) (hp := hp) ha
  rw [he] at hc
  exact va_zald C.1 C.2.1 C.2.2.2.2.2.2.2.2.1 X.1 a 2 hc rfl h1 hd (k p l e s m args below meth c D dA A tF b Z ad H locs ls C X L ex)

theorem g_iast {pc' : Nat} {a N j : Nat} {f : Nat → Int32} {i : Int32} {x : Int32} (hd : decode cc pc = .ok (.iastore, 1)) (ha : a < n) (he : hp a = aI N f) (hi : IX i j N)  (k : G y cc nL ret R sc Q cu su pc' vs st (va_up hp a (aI N (upd f j x))) n) (e : pc + 1 = pc' := by rfl) : G y cc nL ret R sc Q cu su pc vs (.int x :: .int i :: .ref a :: st) hp n := by
  subst e
  intro p l e s m args below meth c D dA A tF b Z ad H locs ls C X L ex
  obtain ⟨h1, h2⟩ := hi
  subst h2
  have hc := wl_get (dA := dA) (ad := ad) (hp := hp) ha
  rw [he] at hc
  refine va_iast C.1 C.2.1 C.2.2.2.2.2.2.2.2.1 X.1 X.2.1 X.2.2.1 a 0 hc rfl h1 hd (fun H1 locs1 hP hD hS => ?_)
  skip
  have hs := wl_set (dA := dA) (ad := ad) (hp := hp) ha (aI N (upd f i.toNatClampNeg x))
  have hP2 : va_P D vwCl (wl dA ad (va_up hp a (aI N (upd f i.toNatClampNeg x))) n) H1 := hs ▸ hP
  have hD2 : va_D A (wl dA ad (va_up hp a (aI N (upd f i.toNatClampNeg x))) n) := hs ▸ hD
  exact k p l e s m args below meth c D dA A tF b Z ad H1 locs1 ls C ⟨hP2, hD2, hS, X.2.2.2⟩ L ex

theorem g_last {pc' : Nat} {a N j : Nat} {f : Nat → Int64} {i : Int32} {x : Int64} (hd : decode cc pc = .ok (.lastore, 1)) (ha : a < n) (he : hp a = aJ N f) (hi : IX i j N)  (k : G y cc nL ret R sc Q cu su pc' vs st (va_up hp a (aJ N (vp_updL f j x))) n) (e : pc + 1 = pc' := by rfl) : G y cc nL ret R sc Q cu su pc vs (.long x :: .int i :: .ref a :: st) hp n := by
  subst e
  intro p l e s m args below meth c D dA A tF b Z ad H locs ls C X L ex
  obtain ⟨h1, h2⟩ := hi
  subst h2
  have hc := wl_get (dA := dA) (ad := ad) (hp := hp) ha
  rw [he] at hc
  refine va_last C.1 C.2.1 C.2.2.2.2.2.2.2.2.1 X.1 X.2.1 X.2.2.1 a 1 hc rfl h1 hd (fun H1 locs1 hP hD hS => ?_)
  skip
  have hs := wl_set (dA := dA) (ad := ad) (hp := hp) ha (aJ N (vp_updL f i.toNatClampNeg x))
  have hP2 : va_P D vwCl (wl dA ad (va_up hp a (aJ N (vp_updL f i.toNatClampNeg x))) n) H1 := hs ▸ hP
  have hD2 : va_D A (wl dA ad (va_up hp a (aJ N (vp_updL f i.toNatClampNeg x))) n) := hs ▸ hD
  exact k p l e s m args below meth c D dA A tF b Z ad H1 locs1 ls C ⟨hP2, hD2, hS, X.2.2.2⟩ L ex

theorem g_zast {pc' : Nat} {a N j : Nat} {f : Nat → Int32} {i : Int32} {x : Int32} (hd : decode cc pc = .ok (.bastore, 1)) (ha : a < n) (he : hp a = aZ N f) (hi : IX i j N) (hx : vp_nar .boolean x = x) (k : G y cc nL ret R sc Q cu su pc' vs st (va_up hp a (aZ N (upd f j x))) n) (e : pc + 1 = pc' := by rfl) : G y cc nL ret R sc Q cu su pc vs (.int x :: .int i :: .ref a :: st) hp n := by
  subst e
  intro p l e s m args below meth c D dA A tF b Z ad H locs ls C X L ex
  obtain ⟨h1, h2⟩ := hi
  subst h2
  have hc := wl_get (dA := dA) (ad := ad) (hp := hp) ha
  rw [he] at hc
  refine va_zast C.1 C.2.1 C.2.2.2.2.2.2.2.2.1 X.1 X.2.1 X.2.2.1 a 2 hc rfl h1 hd (fun H1 locs1 hP hD hS => ?_)
  rw [hx] at hP hD
  have hs := wl_set (dA := dA) (ad := ad) (hp := hp) ha (aZ N (upd f i.toNatClampNeg x))
  have hP2 : va_P D vwCl (wl dA ad (va_up hp a (aZ N (upd f i.toNatClampNeg x))) n) H1 := hs ▸ hP
  have hD2 : va_D A (wl dA ad (va_up hp a (aZ N (upd f i.toNatClampNeg x))) n) := hs ▸ hD
  exact k p l e s m args below meth c D dA A tF b Z ad H1 locs1 ls C ⟨hP2, hD2, hS, X.2.2.2⟩ L ex

theorem g_aaldR {pc' : Nat} {a N j z : Nat} {f : Nat → Option Nat} {i : Int32} (hd : decode cc pc = .ok (.aaload, 1)) (ha : a < n) (he : hp a = aR N f) (hi : IX i j N) (hz : f j = some z) (k : G y cc nL ret R sc Q cu su pc' vs (.ref z :: st) hp n) (e : pc + 1 = pc' := by rfl) : G y cc nL ret R sc Q cu su pc vs (.int i :: .ref a :: st) hp n := by
  subst e
  intro p l e s m args below meth c D dA A tF b Z ad H locs ls C X L ex
  obtain ⟨h1, h2⟩ := hi
  subst h2
  have hc := wl_get (dA := dA) (ad := ad) (hp := hp) ha
  rw [he] at hc
  refine va_aldq C.1 C.2.1 C.2.2.2.2.2.2.2.2.1 X.1 a 3 hc rfl h1 hd ?_
  show W p l e R s m args below meth c H locs cu su Z (F0 m (pc + 1) ls (va_rf ((f i.toNatClampNeg).map ad) :: st.map (trV ad)))
  rw [hz]
  exact (k p l e s m args below meth c D dA A tF b Z ad H locs ls C X L ex)
theorem g_aaldG {pc' : Nat} {a N j z : Nat} {f : Nat → Option Nat} {i : Int32} (hd : decode cc pc = .ok (.aaload, 1)) (ha : a < n) (he : hp a = aG N f) (hi : IX i j N) (hz : f j = some z) (k : G y cc nL ret R sc Q cu su pc' vs (.ref z :: st) hp n) (e : pc + 1 = pc' := by rfl) : G y cc nL ret R sc Q cu su pc vs (.int i :: .ref a :: st) hp n := by
  subst e
  intro p l e s m args below meth c D dA A tF b Z ad H locs ls C X L ex
  obtain ⟨h1, h2⟩ := hi
  subst h2
  have hc := wl_get (dA := dA) (ad := ad) (hp := hp) ha
  rw [he] at hc
  have hlt : i.toNatClampNeg < N := Nat.not_le.mp fun q => h1 (Or.inr q)
  have hcell : H[ad a]? = some (arrV (dA 4) N (fun j => va_rf ((f j).map ad))) := X.1 a _ hc
  refine W.aald (v := va_rf ((f i.toNatClampNeg).map ad)) (ty := .array .long) C.1 C.2.1 hcell ((C.2.2.2.2.2.2.2.2.1.2 4 _ rfl).1 N (fun j => va_rf ((f j).map ad))) rfl (fun q => by cases q) (by rw [arrV_size]; exact h1) (by rw [arrV_read _ _ hlt]) rfl rfl hd ?_
  rw [hz]
  exact (k p l e s m args below meth c D dA A tF b Z ad H locs ls C X L ex)
theorem g_alen {pc' : Nat} {a t : Nat} {x : vp_A} (hd : decode cc pc = .ok (.arraylength, 1)) (ha : a < n) (he : hp a = .inl (t, x)) (ht : t < 5) (k : G y cc nL ret R sc Q cu su pc' vs (.int (nI x.1) :: st) hp n) (e : pc + 1 = pc' := by rfl) : G y cc nL ret R sc Q cu su pc vs (.ref a :: st) hp n := by
  subst e
  intro p l e s m args below meth c D dA A tF b Z ad H locs ls C X L ex
  have hc := wl_get (dA := dA) (ad := ad) (hp := hp) ha
  rw [he] at hc
  have h1 : (trA ad x).1 = x.1 := by rcases x with ⟨N, f | f | f | f | f⟩ <;> rfl
  have h2 : ∃ ty, (tyL dA)[t]? = some (dA t, ty) := by
    match t, ht with
    | 0, _ => exact ⟨_, rfl⟩
    | 1, _ => exact ⟨_, rfl⟩
    | 2, _ => exact ⟨_, rfl⟩
    | 3, _ => exact ⟨_, rfl⟩
    | 4, _ => exact ⟨_, rfl⟩
  obtain ⟨ty, h2⟩ := h2
  refine va_alen C.1 C.2.1 C.2.2.2.2.2.2.2.2.1 X.1 a t hc h2 (v := nI x.1) (by rw [h1]; rfl) hd (k p l e s m args below meth c D dA A tF b Z ad H locs ls C X L ex)

def FL (own : String) (idx ci k : Nat) : Prop := ∃ q, CLS ci q ∧ k < q.2.2 ∧ Cond.fieldLink own idx (q.2.1 k).1 (q.2.1 k).2.1 (q.2.1 k).2.2.1 ∈ gt
def FN (own : String) (idx ci k : Nat) : Prop := ∃ q host, CLS ci q ∧ k < q.2.2 ∧ Cond.fieldLinkNest own idx (q.2.1 k).1 (q.2.1 k).2.1 (q.2.1 k).2.2.1 host ∈ nwl
/-- the type of a field, and whether it is final -/
def FT (ci k : Nat) (ty : FieldType) (fin : Bool) : Prop := ∀ q, vwCl[ci]? = some q → parseFieldDescriptor (q.2.1 k).2.2.1 = some ty ∧ (q.2.1 k).2.2.2 = fin
theorem narrow_tr {ty : FieldType} {v : Value} (ad : Nat → Nat) (h : narrow ty v = v) : narrow ty (trV ad v) = trV ad v := by
  cases v <;> first | exact h | (simp only [trV]; cases ty <;> simp_all [narrow])
theorem fits_tr {ty : FieldType} {v : Value} (ad : Nat → Nat) (h : fits ty v = true) : fits ty (trV ad v) = true := by
  cases v <;> first | exact h | (simp only [trV]; cases ty <;> simp_all [fits])
theorem map_ix {ad : Nat → Nat} {fs : List Value} {k : Nat} {v : Value} (h : fs[k]? = some v) : (fs.map (trV ad))[k]? = some (trV ad v) := by rw [List.getElem?_map, h]; rfl
theorem g_get {pc' : Nat} {ci idx f a : Nat} {fs : List Value} {v : Value} (hl : FL y.cls idx ci f) (hd : decode cc pc = .ok (.getfield idx, 3)) (ha : a < n) (he : hp a = ob ci fs) (hv : fs[f]? = some v) (k : G y cc nL ret R sc Q cu su pc' vs (v :: st) hp n) (e : pc + 3 = pc' := by rfl) : G y cc nL ret R sc Q cu su pc vs (.ref a :: st) hp n := by
  subst e
  intro p l e s m args below meth c D dA A tF b Z ad H locs ls C X L ex
  obtain ⟨q, h1, h2, h3⟩ := hl
  have hc := wl_get (dA := dA) (ad := ad) (hp := hp) ha
  rw [he] at hc
  exact va_get C.1 C.2.1 C.2.2.2.2.2.1 h1.2.1 C.2.2.2.2.1 C.2.2.2.2.2.2.2.2.1 X.1 a hc h1.1 f h2 (C.2.2.2.2.2.1 _ h3) (fun _ h9 => h9) (map_ix hv) hd (k p l e s m args below meth c D dA A tF b Z ad H locs ls C X L ex)
theorem g_getN {pc' : Nat} {ci idx f a : Nat} {fs : List Value} {v : Value} (hl : FN y.cls idx ci f) (hd : decode cc pc = .ok (.getfield idx, 3)) (ha : a < n) (he : hp a = ob ci fs) (hv : fs[f]? = some v) (k : G y cc nL ret R sc Q cu su pc' vs (v :: st) hp n) (e : pc + 3 = pc' := by rfl) : G y cc nL ret R sc Q cu su pc vs (.ref a :: st) hp n := by
  subst e
  intro p l e s m args below meth c D dA A tF b Z ad H locs ls C X L ex
  obtain ⟨q, host, h1, h2, h3⟩ := hl
  have hc := wl_get (dA := dA) (ad := ad) (hp := hp) ha
  rw [he] at hc
  exact va_getN C.1 C.2.1 C.2.2.2.2.2.1 h1.2.1 C.2.2.2.2.1 C.2.2.2.2.2.2.2.2.1 X.1 a hc h1.1 f h2 (va_Nw.use rfl (C.2.2.2.2.2.2.2.2.2.1.1 _ h3)) (fun _ h9 => h9) (map_ix hv) hd (k p l e s m args below meth c D dA A tF b Z ad H locs ls C X L ex)

theorem g_put {pc' : Nat} {ci idx f a : Nat} {fs : List Value} {v : Value} {ty : FieldType} (hl : FL y.cls idx ci f) (ht : FT ci f ty false)  (hd : decode cc pc = .ok (.putfield idx, 3)) (ha : a < n) (he : hp a = ob ci fs) (hf : f < fs.length) (hn : narrow ty v = v) (hg : fits ty v = true) (k : G y cc nL ret R sc Q cu su pc' vs st (va_up hp a (ob ci (fs.set f v))) n) (e : pc + 3 = pc' := by rfl) : G y cc nL ret R sc Q cu su pc vs (v :: .ref a :: st) hp n := by
  subst e
  intro p l e s m args below meth c D dA A tF b Z ad H locs ls C X L ex
  obtain ⟨q, h1, h2, h3⟩ := hl
  obtain ⟨ty0, hty0⟩ := h1.2.2.1
  have hc := wl_get (dA := dA) (ad := ad) (hp := hp) ha
  rw [he] at hc
  refine va_put C.1 C.2.1 C.2.2.2.2.2.1 h1.2.1 ty0 hty0 h1.2.2.2 C.2.2.2.2.1 C.2.2.2.2.2.2.2.2.1 X.1 X.2.1 X.2.2.1 a hc h1.1 f h2 (C.2.2.2.2.2.1 _ h3) (fun _ h9 => h9) (ht q h1.1).2 (ht q h1.1).1 (narrow_tr ad hn) (fits_tr ad hg) (by rw [List.length_map]; exact hf) hd (fun H1 locs1 hP hD hS => ?_)
  have hs := wl_set (dA := dA) (ad := ad) (hp := hp) ha (ob ci (fs.set f v))
  have e1 : (fs.map (trV ad)).set f (trV ad v) = (fs.set f v).map (trV ad) := by rw [List.map_set]
  rw [e1] at hP hD
  have hP2 : va_P D vwCl (wl dA ad (va_up hp a (ob ci (fs.set f v))) n) H1 := hs ▸ hP
  have hD2 : va_D A (wl dA ad (va_up hp a (ob ci (fs.set f v))) n) := hs ▸ hD
  exact k p l e s m args below meth c D dA A tF b Z ad H1 locs1 ls C ⟨hP2, hD2, hS, X.2.2.2⟩ L ex

theorem g_putF {pc' : Nat} {ci idx f a : Nat} {fs : List Value} {v : Value} {ty : FieldType} (hl : FL y.cls idx ci f) (ht : FT ci f ty true) (hi : y.name = "<init>") (ho : ∀ q, vwCl[ci]? = some q → (q.2.1 f).1 = y.cls) (hd : decode cc pc = .ok (.putfield idx, 3)) (ha : a < n) (he : hp a = ob ci fs) (hf : f < fs.length) (hn : narrow ty v = v) (hg : fits ty v = true) (k : G y cc nL ret R sc Q cu su pc' vs st (va_up hp a (ob ci (fs.set f v))) n) (e : pc + 3 = pc' := by rfl) : G y cc nL ret R sc Q cu su pc vs (v :: .ref a :: st) hp n := by
  subst e
  intro p l e s m args below meth c D dA A tF b Z ad H locs ls C X L ex
  obtain ⟨q, h1, h2, h3⟩ := hl
  obtain ⟨ty0, hty0⟩ := h1.2.2.1
  have hc := wl_get (dA := dA) (ad := ad) (hp := hp) ha
  rw [he] at hc
  refine va_putF C.1 C.2.1 C.2.2.2.2.2.1 h1.2.1 ty0 hty0 h1.2.2.2 C.2.2.2.2.1 C.2.2.2.2.2.2.2.2.1 X.1 X.2.1 X.2.2.1 a hc h1.1 f h2 (C.2.2.2.2.2.1 _ h3) (fun _ h9 => h9) (ht q h1.1).2 (C.2.2.2.2.2.2.2.1.trans hi) (ho q h1.1) (ht q h1.1).1 (narrow_tr ad hn) (fits_tr ad hg) (by rw [List.length_map]; exact hf) hd (fun H1 locs1 hP hD hS => ?_)
  have hs := wl_set (dA := dA) (ad := ad) (hp := hp) ha (ob ci (fs.set f v))
  have e1 : (fs.map (trV ad)).set f (trV ad v) = (fs.set f v).map (trV ad) := by rw [List.map_set]
  rw [e1] at hP hD
  have hP2 : va_P D vwCl (wl dA ad (va_up hp a (ob ci (fs.set f v))) n) H1 := hs ▸ hP
  have hD2 : va_D A (wl dA ad (va_up hp a (ob ci (fs.set f v))) n) := hs ▸ hD
  exact k p l e s m args below meth c D dA A tF b Z ad H1 locs1 ls C ⟨hP2, hD2, hS, X.2.2.2⟩ L ex

theorem g_putN {pc' : Nat} {ci idx f a : Nat} {fs : List Value} {v : Value} {ty : FieldType} (hl : FN y.cls idx ci f) (ht : FT ci f ty false)  (hd : decode cc pc = .ok (.putfield idx, 3)) (ha : a < n) (he : hp a = ob ci fs) (hf : f < fs.length) (hn : narrow ty v = v) (hg : fits ty v = true) (k : G y cc nL ret R sc Q cu su pc' vs st (va_up hp a (ob ci (fs.set f v))) n) (e : pc + 3 = pc' := by rfl) : G y cc nL ret R sc Q cu su pc vs (v :: .ref a :: st) hp n := by
  subst e
  intro p l e s m args below meth c D dA A tF b Z ad H locs ls C X L ex
  obtain ⟨q, host, h1, h2, h3⟩ := hl
  obtain ⟨ty0, hty0⟩ := h1.2.2.1
  have hc := wl_get (dA := dA) (ad := ad) (hp := hp) ha
  rw [he] at hc
  refine va_putN C.1 C.2.1 C.2.2.2.2.2.1 h1.2.1 ty0 hty0 h1.2.2.2 C.2.2.2.2.1 C.2.2.2.2.2.2.2.2.1 X.1 X.2.1 X.2.2.1 a hc h1.1 f h2 (va_Nw.use rfl (C.2.2.2.2.2.2.2.2.2.1.1 _ h3)) (fun _ h9 => h9) (ht q h1.1).2 (ht q h1.1).1 (narrow_tr ad hn) (fits_tr ad hg) (by rw [List.length_map]; exact hf) hd (fun H1 locs1 hP hD hS => ?_)
  have hs := wl_set (dA := dA) (ad := ad) (hp := hp) ha (ob ci (fs.set f v))
  have e1 : (fs.map (trV ad)).set f (trV ad v) = (fs.set f v).map (trV ad) := by rw [List.map_set]
  rw [e1] at hP hD
  have hP2 : va_P D vwCl (wl dA ad (va_up hp a (ob ci (fs.set f v))) n) H1 := hs ▸ hP
  have hD2 : va_D A (wl dA ad (va_up hp a (ob ci (fs.set f v))) n) := hs ▸ hD
  exact k p l e s m args below meth c D dA A tF b Z ad H1 locs1 ls C ⟨hP2, hD2, hS, X.2.2.2⟩ L ex

theorem g_getsF {pc' : Nat} {idx : Nat} (hw : Cond.fieldLink y.cls idx "FiveDice$Tally" "FACTORIAL" "[I" ∈ gt) (hd : decode cc pc = .ok (.getstatic idx, 3)) (k : G y cc nL ret R sc Q cu su pc' vs (.ref xF :: st) hp n) (e : pc + 3 = pc' := by rfl) : G y cc nL ret R sc Q cu su pc vs st hp n := by
  subst e
  intro p l e s m args below meth c D dA A tF b Z ad H locs ls C X L ex
  refine va_gets C.1 C.2.1 C.2.2.2.2.2.2.2.2.2.2.1.1 X.2.2.1 C.2.2.2.2.1 (C.2.2.2.2.2.1 _ hw) (fun _ h9 => h9) hd ?_
  have h := k p l e s m args below meth c D dA A tF b Z ad H locs ls C X L ex
  rw [← X.2.2.2.1]
  exact h
theorem g_fac {pc' : Nat} {i : Int32} {j : Nat} {x : Int32} (hd : decode cc pc = .ok (.iaload, 1)) (hi : IX i j 6) (hx : facV j = .int x) (k : G y cc nL ret R sc Q cu su pc' vs (.int x :: st) hp n) (e : pc + 1 = pc' := by rfl) : G y cc nL ret R sc Q cu su pc vs (.int i :: .ref xF :: st) hp n := by
  subst e
  intro p l e s m args below meth c D dA A tF b Z ad H locs ls C X L ex
  obtain ⟨h1, h2⟩ := hi
  subst h2
  have hT := C.2.2.2.2.2.2.2.2.2.2.1.2
  rw [← X.2.2.2.1] at hT
  exact va_ti C.1 C.2.1 hT X.2.2.1 h1 hx hd (k p l e s m args below meth c D dA A tF b Z ad H locs ls C X L ex)
theorem g_sld {pc' : Nat} {i : Int32} {j N : Nat} {xs : Nat → Int32} (hs : sc = some (N, xs)) (hd : decode cc pc = .ok (.iaload, 1)) (hi : IX i j N) (k : G y cc nL ret R sc Q cu su pc' vs (.int (xs j) :: st) hp n) (e : pc + 1 = pc' := by rfl) : G y cc nL ret R sc Q cu su pc vs (.int i :: .ref xS :: st) hp n := by
  subst e
  intro p l e s m args below meth c D dA A tF b Z ad H locs ls C X L ex
  obtain ⟨h1, h2⟩ := hi
  subst h2
  have hT := C.2.2.2.2.2.2.2.2.2.2.2.2 N xs hs
  rw [← X.2.2.2.2.1] at hT
  exact va_ti C.1 C.2.1 hT X.2.2.1 h1 rfl hd (k p l e s m args below meth c D dA A tF b Z ad H locs ls C X L ex)
theorem g_slen {pc' : Nat} {N : Nat} {xs : Nat → Int32} (hs : sc = some (N, xs)) (hd : decode cc pc = .ok (.arraylength, 1)) (k : G y cc nL ret R sc Q cu su pc' vs (.int (nI N) :: st) hp n) (e : pc + 1 = pc' := by rfl) : G y cc nL ret R sc Q cu su pc vs (.ref xS :: st) hp n := by
  subst e
  intro p l e s m args below meth c D dA A tF b Z ad H locs ls C X L ex
  have hT := C.2.2.2.2.2.2.2.2.2.2.2.2 N xs hs
  rw [← X.2.2.2.2.1] at hT
  exact va_tlen C.1 C.2.1 hT X.2.2.1 rfl hd (k p l e s m args below meth c D dA A tF b Z ad H locs ls C X L ex)

end GR
