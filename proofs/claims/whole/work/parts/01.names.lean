def va_AOA (ty : FieldType) (U : State) : Prop := (Cond.arrayOver (.array ty)).before #[] U = true
theorem va_AOA.use {ty : FieldType} {U : State} {A : Array Value} (h : va_AOA ty U) : (Cond.arrayOver (.array ty)).before A U = true := h
/-! ===== BEGIN words of one list among another's, by their places ===== -/
theorem goodIn_r {big : List Cond} (ws : List Cond) (ps : List Nat) (hp : ws = ps.filterMap (fun i => big[i]?)) (h : ws.all goodWord = true) : GoodIn big ws := by
  intro w hw
  have h1 := List.all_eq_true.mp h w hw
  rw [hp] at hw
  obtain ⟨i, -, hi⟩ := List.mem_filterMap.mp hw
  have hm : w ∈ big := by first | exact List.mem_of_getElem? hi | exact List.getElem?_mem hi
  exact ⟨hm, good_of_word h1⟩
theorem goodIn_app {big a b : List Cond} (ha : GoodIn big a) (hb : GoodIn big b) : GoodIn big (a ++ b) := fun w h => (List.mem_append.mp h).elim (ha w) (hb w)
theorem goodIn_ca {big a b : List Cond} {c : Cond} (ha : GoodIn big (c :: a)) (hb : GoodIn big b) : GoodIn big (c :: (a ++ b)) := fun w h => (List.mem_cons.mp h).elim (fun e => ha w (List.mem_cons.mpr (Or.inl e))) (fun h => (List.mem_append.mp h).elim (fun h => ha w (List.mem_cons.mpr (Or.inr h))) (hb w))
theorem goodIn_sub {big ws : List Cond} (hm : ∀ w ∈ ws, w ∈ big) (h : ws.all goodWord = true) : GoodIn big ws := fun w hw => ⟨hm w hw, good_of_word (List.all_eq_true.mp h w hw)⟩
/-! ===== END ===== -/

/-! ===== BEGIN new T[n][m]: the outer array a place, the inner ones among the pooled ===== -/
/-- f, but v at every address of l -/
def vr_up {α : Type} (f : Nat → α) (l : List Nat) (v : α) : Nat → α := fun a => if a ∈ l then v else f a
theorem vr_up_in {α : Type} {f : Nat → α} {l : List Nat} {v : α} {a : Nat} (h : a ∈ l) : vr_up f l v a = v := if_pos h
theorem vr_up_ne {α : Type} {f : Nat → α} {l : List Nat} {v : α} {a : Nat} (h : a ∉ l) : vr_up f l v a = f a := if_neg h
theorem vr_rows {L l : List Nat} {f : Nat → va_E} {e : va_E} (h : ∀ a, a ∈ l → a ∉ L) : va_pl L f ++ l.map (fun a => (a, e)) = va_pl (L ++ l) (vr_up f l e) := by
  unfold va_pl
  rw [List.map_append]
  congr 1
  · apply List.map_congr_left
    intro a ha
    rw [vr_up_ne (fun q => h a q ha)]
  · apply List.map_congr_left
    intro a ha
    rw [vr_up_in ha]
theorem vr_lay {X rows : va_W} {x : Nat × va_E} {pl : va_W} {D : va_G} {cl : List vw_C} {H : Heap} (hP : va_P D cl (((X ++ pl) ++ [x]) ++ rows) H) : va_P D cl ((X ++ [x]) ++ (pl ++ rows)) H := by
  rw [List.append_assoc (X ++ pl)] at hP
  have h := va_P.swap hP
  rw [← List.append_assoc X] at h
  have h2 := va_P.swap h
  rw [List.append_assoc (X ++ [x])] at h2
  exact h2
theorem vr_layD {X rows : va_W} {x : Nat × va_E} {pl : va_W} {A : Nat → Prop} (hD : va_D A (((X ++ pl) ++ [x]) ++ rows)) : va_D A ((X ++ [x]) ++ (pl ++ rows)) := by
  rw [List.append_assoc (X ++ pl)] at hD
  have h := va_D.swap hD
  rw [← List.append_assoc X] at h
  have h2 := va_D.swap h
  rw [List.append_assoc (X ++ [x])] at h2
  exact h2
theorem vr_outer (c : ClassId) (N h0 : Nat) : ∀ i : Nat, Jvm.Free.Multi.outerC c N h0 i = arrV c N (fun j => va_rf (if j < i then some (h0 + 1 + j) else none))
  | 0 => by
    show ({ cls := c, slots := Array.replicate N .null, vm := .none } : Cell) = _
    rw [arrV_new]
    refine congrArg (arrV c N) (funext fun j => ?_)
    simp [va_rf]
  | i + 1 => by
    show (Jvm.Free.Multi.outerC c N h0 i).setSlot i (.ref (h0 + 1 + i)) = _
    rw [vr_outer c N h0 i, arrV_store]
    refine congrArg (arrV c N) (funext fun j => ?_)
    by_cases e : j = i
    · subst e
      simp [updV, va_rf]
    · by_cases h : j < i
      · simp [updV, e, h, Nat.lt_succ_of_lt h]
      · simp [updV, e, h, show ¬ j < i + 1 by omega]
section VGM
variable {p : Program} {l : Launch} {e : Env} {R : Room} {s : State} {m : MethodId} {args : Array Value} {below : List Frame} {meth : Method} {c : Code} {H : Heap} {locs : List Loc} {cells slots : Nat} {Q : State → Prop}
variable {cc : ByteArray} {pc : Nat} {ls : Array Slot} {rest : List Value} {D : va_G} {cl : List vw_C} {A : Nat → Prop} {a : Nat} {tys : List (ClassId × FieldType)} {ws : va_W} {H0 : Heap}
theorem va_mna {X : va_W} {L : List Nat} {f : Nat → va_E} {cc : ByteArray} (hexec : p.tables.exec = Jvm.exec) (hb : c.code = cc) {own : String} {index : Nat} {ty : FieldType} {cy : ClassId} (hown : s.vm.findClass own = some m.cls) (hclink : (Cond.classLink own index ("[" ++ (FieldType.array ty).toString)).before args s = true) (hover : va_AOA ty s) (harr : (Cond.arrayClass ty).before args s = true) (hcy : s.vm.findClass (FieldType.array ty).toString = some cy)
    (hK : va_K D cl tys s) (hP : va_P D cl (X ++ va_pl L f) H) (hD : va_D A (X ++ va_pl L f)) (hS : va_S A H0 H locs) (hA : ∀ q, H0.size ≤ q → A q) {n k : Int32} {N' K' : Nat} {z : vp_A} (hn : ¬ n < 0) (hk : ¬ k < 0) (hN : n.toNatClampNeg = N') (hM : k.toNatClampNeg = K')
    (hb1 : N' * 4 ≤ 536870912) (hb2 : K' * componentBytes ty ≤ 536870912) (hb3 : K' ≤ 536870912) (hdf : fits ty (defaultValue ty) = true) (hdd : (defaultValue ty).isDefault = true) (hcells : cells + (1 + N') ≤ R.cells) (hslots : slots + (N' + N' * K') ≤ R.slots) (hz : ∀ c : ClassId, Jvm.Free.Multi.innerC c K' (defaultValue ty) = vp_cell c z) (hdg : decode cc pc = .ok (.multianewarray index 2, 4))
    (kk : ∀ (q : Nat) (r : Nat → Nat) (cA : ClassId) (H1 : Heap), (∀ i j : Nat, i < N' → j < N' → r i = r j → i = j) → (∀ i : Nat, i < N' → r i ∉ L) → va_K D cl (tys ++ [(cA, .array ty)]) s →
      va_P D cl ((X ++ [(q, .inl (cA, N', .inr (.inr (.inr (.inr (fun i => if i < N' then some (r i) else none))))))]) ++ va_pl (L ++ (List.range N').map r) (vr_up f ((List.range N').map r) (.inl (cy, z)))) H1 → va_D A ((X ++ [(q, .inl (cA, N', .inr (.inr (.inr (.inr (fun i => if i < N' then some (r i) else none))))))]) ++ va_pl (L ++ (List.range N').map r) (vr_up f ((List.range N').map r) (.inl (cy, z)))) → va_S A H0 H1 locs →
      W p l e R s m args below meth c H1 locs (cells + 1 + N') (slots + N' + N' * K') Q (F0 m (pc + 4) ls (.ref q :: rest))) : W p l e R s m args below meth c H locs cells slots Q (F0 m pc ls (.int k :: .int n :: rest)) := by
  subst hN
  subst hM
  intro T hT Xs
  obtain ⟨vm₁, cA, comp, -, fA, fC, hO, -, X', step⟩ := Xs.multianewarray2F hexec hown hclink (va_AOA.use hover) harr (g := F0 m pc ls (.int k :: .int n :: rest)) rfl (by rw [hb]; exact hdg) rfl hn hk hb1 hb2 hb3 hdf hdd hcells hslots
  have ec : some cy = some comp := hcy.symm.trans fC
  cases ec
  generalize hF : Jvm.Free.Multi.fill (T.setVm vm₁) cA cy n.toNatClampNeg k.toNatClampNeg (defaultValue ty) n.toNatClampNeg = F at X' step
  have hTh : (T.setVm vm₁).heap = H := hT
  obtain ⟨f1, f2, -, -⟩ := Jvm.Free.Multi.fill_facts (T.setVm vm₁) cA cy n.toNatClampNeg k.toNatClampNeg (defaultValue ty) n.toNatClampNeg
  rw [hF, hTh] at f1 f2
  have hold : ∀ x : Nat, x < H.size → F.heap[x]? = H[x]? := fun x hx => by
    have := Jvm.Free.Multi.fill_old (T.setVm vm₁) cA cy n.toNatClampNeg k.toNatClampNeg (defaultValue ty) (a := x) (by rw [hTh]; exact hx) n.toNatClampNeg
    rw [hF, hTh] at this
    exact this
  have hrow : ∀ j : Nat, j < n.toNatClampNeg → F.heap[H.size + 1 + j]? = some (vp_cell cy z) := fun j hj => by
    have := Jvm.Free.Multi.fill_inner (T.setVm vm₁) cA cy n.toNatClampNeg k.toNatClampNeg (defaultValue ty) n.toNatClampNeg j hj
    rw [hF, hTh, hz] at this
    exact this
  have hout : Jvm.Free.Multi.outerC cA n.toNatClampNeg H.size n.toNatClampNeg = vp_cell cA (n.toNatClampNeg, .inr (.inr (.inr (.inr (fun i => if i < n.toNatClampNeg then some (H.size + 1 + i) else none))))) := by
    rw [vp_cell_q]
    exact vr_outer cA n.toNatClampNeg H.size n.toNatClampNeg
  rw [hout] at f2
  have hlt : ∀ a, a ∈ L → a < H.size := fun a ha => by
    obtain ⟨k9, hk9⟩ := va_pl_get (X := X) (f := f) ha
    exact (hP k9 _ hk9).lt
  have hnl : ∀ i : Nat, i < n.toNatClampNeg → H.size + 1 + i ∉ L := fun i _ h => by
    have := hlt _ h
    omega
  have hnm : ∀ a, a ∈ (List.range n.toNatClampNeg).map (fun i => H.size + 1 + i) → a ∉ L := fun a ha h => by
    obtain ⟨i, -, rfl⟩ := List.mem_map.mp ha
    have := hlt _ h
    omega
  have hP0 : va_P D cl (X ++ va_pl L f) F.heap := hP.kept (fun k9 x hx => hold x.1 ((hP k9 x hx).lt))
  have hP1 : va_P D cl ((X ++ va_pl L f) ++ [(H.size, .inl (cA, n.toNatClampNeg, .inr (.inr (.inr (.inr (fun i => if i < n.toNatClampNeg then some (H.size + 1 + i) else none))))))]) F.heap := hP0.app (fun k9 x hx => by
    have h0 : k9 < 1 := (List.getElem?_eq_some_iff.mp hx).1
    rw [show k9 = 0 by omega] at hx
    cases hx
    exact f2)
  have hP2 : va_P D cl (((X ++ va_pl L f) ++ [(H.size, .inl (cA, n.toNatClampNeg, .inr (.inr (.inr (.inr (fun i => if i < n.toNatClampNeg then some (H.size + 1 + i) else none))))))]) ++ ((List.range n.toNatClampNeg).map (fun i => H.size + 1 + i)).map (fun a => (a, .inl (cy, z)))) F.heap := hP1.app (fun k9 x hx => by
    obtain ⟨a, ha, rfl⟩ := List.mem_map.mp (List.mem_of_getElem? hx)
    obtain ⟨i, hi, rfl⟩ := List.mem_map.mp ha
    exact hrow i (List.mem_range.mp hi))
  have hD2 : va_D A (((X ++ va_pl L f) ++ [(H.size, .inl (cA, n.toNatClampNeg, .inr (.inr (.inr (.inr (fun i => if i < n.toNatClampNeg then some (H.size + 1 + i) else none))))))]) ++ ((List.range n.toNatClampNeg).map (fun i => H.size + 1 + i)).map (fun a => (a, .inl (cy, z)))) := by
    have hD1 := hD.push (e := .inl (cA, n.toNatClampNeg, .inr (.inr (.inr (.inr (fun i => if i < n.toNatClampNeg then some (H.size + 1 + i) else none)))))) hP rfl (hA _ hS.1)
    generalize hW1 : (X ++ va_pl L f) ++ [(H.size, .inl (cA, n.toNatClampNeg, .inr (.inr (.inr (.inr (fun i => if i < n.toNatClampNeg then some (H.size + 1 + i) else none))))))] = W1 at hD1 hP1 ⊢
    have hle : ∀ (k9 : Nat) (x : Nat × va_E), W1[k9]? = some x → x.1 ≤ H.size := fun k9 x hx => by
      rw [← hW1] at hx
      by_cases hl : k9 < (X ++ va_pl L f).length
      · rw [List.getElem?_append_left hl] at hx
        exact Nat.le_of_lt ((hP k9 x hx).lt)
      · rw [List.getElem?_append_right (by omega)] at hx
        have h0 : k9 - (X ++ va_pl L f).length < 1 := (List.getElem?_eq_some_iff.mp hx).1
        rw [show k9 - (X ++ va_pl L f).length = 0 by omega] at hx
        cases hx
        exact Nat.le_refl _
    have hr : ∀ (k9 : Nat) (x : Nat × va_E), (((List.range n.toNatClampNeg).map (fun i => H.size + 1 + i)).map (fun a => ((a, .inl (cy, z)) : Nat × va_E)))[k9]? = some x → x.1 = H.size + 1 + k9 := fun k9 x hx => by
      rw [List.getElem?_map, List.getElem?_map] at hx
      by_cases h9 : k9 < n.toNatClampNeg
      · rw [List.getElem?_range h9] at hx
        cases hx
        rfl
      · have hn0 : (List.range n.toNatClampNeg)[k9]? = none := List.getElem?_eq_none (by rw [List.length_range]; omega)
        rw [hn0] at hx
        cases hx
    refine ⟨fun i j x y hi hj hxy => ?_, fun k9 x hx => ?_⟩
    · by_cases h1 : i < W1.length <;> by_cases h2 : j < W1.length
      · rw [List.getElem?_append_left h1] at hi
        rw [List.getElem?_append_left h2] at hj
        exact hD1.1 i j x y hi hj hxy
      · rw [List.getElem?_append_left h1] at hi
        rw [List.getElem?_append_right (by omega)] at hj
        have := hle _ _ hi
        have := hr _ _ hj
        omega
      · rw [List.getElem?_append_right (by omega)] at hi
        rw [List.getElem?_append_left h2] at hj
        have := hle _ _ hj
        have := hr _ _ hi
        omega
      · rw [List.getElem?_append_right (by omega)] at hi hj
        have := hr _ _ hi
        have := hr _ _ hj
        omega
    · by_cases h1 : k9 < W1.length
      · rw [List.getElem?_append_left h1] at hx
        exact hD1.2 k9 x hx
      · rw [List.getElem?_append_right (by omega)] at hx
        have := hr _ _ hx
        exact hA _ (by have := hS.1; omega)
  have hAr : ArrOfT s cA (.array ty) := fun N9 z9 => by
    obtain ⟨-, k9, hk9, cm9, hkk9⟩ := (hO 0 0 0).1
    exact ⟨(fun q hq => by cases hq), k9, hk9, cm9, hkk9⟩
  have hK2 : va_K D cl (tys ++ [(cA, .array ty)]) s := ⟨hK.1, fun k9 x hx => by
    by_cases hl : k9 < tys.length
    · rw [List.getElem?_append_left hl] at hx
      exact hK.2 k9 x hx
    · rw [List.getElem?_append_right (by omega)] at hx
      have h0 : k9 - tys.length < 1 := (List.getElem?_eq_some_iff.mp hx).1
      rw [show k9 - tys.length = 0 by omega] at hx
      cases hx
      exact ⟨hAr, fA⟩⟩
  obtain ⟨t, a1, b1⟩ := kk H.size (fun i => H.size + 1 + i) cA F.heap (fun i j _ _ h => by have h9 : H.size + 1 + i = H.size + 1 + j := h; omega) hnl hK2 (by rw [← vr_rows hnm]; exact vr_lay hP2) (by rw [← vr_rows hnm]; exact vr_layD hD2) ⟨by rw [f1]; have := hS.1; omega, fun x h1 h2 => (hold x (Nat.lt_of_lt_of_le h1 hS.1)).trans (hS.2.1 x h1 h2), hS.2.2⟩ F rfl X'
  refine ⟨t, step t ?_, b1⟩
  have e : T.heap.size = H.size := by rw [hT]
  rw [e]
  exact a1
end VGM
/-! ===== END ===== -/

def RX0 : String := "FiveDice$Chances"
def TX0 : u_T := fun k => match k with
  | 0 => ("FiveDice$Chances", "game", "LFiveDice$Game;", true)
  | 1 => ("FiveDice$Chances", "turn", "LFiveDice$Turn;", true)
  | 2 => ("FiveDice$Chances", "least", "[I", true)
  | 3 => ("FiveDice$Chances", "most", "[I", true)
  | 4 => ("FiveDice$Chances", "start", "[I", true)
  | 5 => ("FiveDice$Chances", "grounds", "[J", true)
  | 6 => ("FiveDice$Chances", "kept", "[J", false)
  | _ => ("FiveDice$Chances", "ready", "Z", false)
def tyX0 : Nat → FieldType := fun k => match k with
  | 0 => .object "FiveDice$Game"
  | 1 => .object "FiveDice$Turn"
  | 2 => .array .int
  | 3 => .array .int
  | 4 => .array .int
  | 5 => .array .long
  | 6 => .array .long
  | _ => .boolean
theorem nmX0 : ∀ a, a < 8 → ∀ b, b < 8 → a ≠ b → (TX0 a).2.1 ≠ (TX0 b).2.1 := by decide +kernel
theorem tyX0_ok : ∀ k, k < 8 → parseFieldDescriptor (TX0 k).2.2.1 = some (tyX0 k) := by decide +kernel
abbrev cX0_init : ByteArray := prog_2_method_1_code
def yX0_init : MethodName := ⟨RX0, "<init>", "(LFiveDice$Game;)V"⟩
abbrev cX0_forget : ByteArray := prog_2_method_2_code
def yX0_forget : MethodName := ⟨RX0, "forget", "()V"⟩
abbrev cX0_beforeTurn : ByteArray := prog_2_method_3_code
def yX0_beforeTurn : MethodName := ⟨RX0, "beforeTurn", "(II)J"⟩
abbrev cX0_inTurn : ByteArray := prog_2_method_4_code
def yX0_inTurn : MethodName := ⟨RX0, "inTurn", "(III)LFiveDice$Turn;"⟩
abbrev cX0_makeReady : ByteArray := prog_2_method_5_code
def yX0_makeReady : MethodName := ⟨RX0, "makeReady", "()V"⟩
abbrev cX0_measureSheets : ByteArray := prog_2_method_6_code
def yX0_measureSheets : MethodName := ⟨RX0, "measureSheets", "()I"⟩
abbrev cX0_leastOfRow : ByteArray := prog_2_method_7_code
def yX0_leastOfRow : MethodName := ⟨RX0, "leastOfRow", "(I)I"⟩
abbrev cX0_mostOfRow : ByteArray := prog_2_method_8_code
def yX0_mostOfRow : MethodName := ⟨RX0, "mostOfRow", "(I)I"⟩
abbrev cX0_ofSheet : ByteArray := prog_2_method_9_code
def yX0_ofSheet : MethodName := ⟨RX0, "ofSheet", "(III)J"⟩
abbrev cX0_layGround : ByteArray := prog_2_method_10_code
def yX0_layGround : MethodName := ⟨RX0, "layGround", "(III)V"⟩
def RX1 : String := "FiveDice$Game"
def TX1 : u_T := fun k => match k with
  | 0 => ("FiveDice$Game", "heaps", "LFiveDice$Heaps;", true)
  | 1 => ("FiveDice$Game", "points", "[I", true)
  | 2 => ("FiveDice$Game", "units", "[J", true)
  | 3 => ("FiveDice$Game", "powersOfSides", "[J", true)
  | 4 => ("FiveDice$Game", "throwsATurn", "I", false)
  | _ => ("FiveDice$Game", "rowCount", "I", false)
def tyX1 : Nat → FieldType := fun k => match k with
  | 0 => .object "FiveDice$Heaps"
  | 1 => .array .int
  | 2 => .array .long
  | 3 => .array .long
  | 4 => .int
  | _ => .int
theorem nmX1 : ∀ a, a < 6 → ∀ b, b < 6 → a ≠ b → (TX1 a).2.1 ≠ (TX1 b).2.1 := by decide +kernel
theorem tyX1_ok : ∀ k, k < 6 → parseFieldDescriptor (TX1 k).2.2.1 = some (tyX1 k) := by decide +kernel
abbrev cX1_init : ByteArray := prog_3_method_1_code
def yX1_init : MethodName := ⟨RX1, "<init>", "()V"⟩
abbrev cX1_prepare : ByteArray := prog_3_method_2_code
def yX1_prepare : MethodName := ⟨RX1, "prepare", "(IIII)V"⟩
abbrev cX1_writePoints : ByteArray := prog_3_method_3_code
def yX1_writePoints : MethodName := ⟨RX1, "writePoints", "([LFiveDice$Row;LFiveDice$Tally;)V"⟩
abbrev cX1_pointsAt : ByteArray := prog_3_method_4_code
def yX1_pointsAt : MethodName := ⟨RX1, "pointsAt", "(II)I"⟩
abbrev cX1_freeRows : ByteArray := prog_3_method_5_code
def yX1_freeRows : MethodName := ⟨RX1, "freeRows", "(I)I"⟩
abbrev cX1_fullSheet : ByteArray := prog_3_method_6_code
def yX1_fullSheet : MethodName := ⟨RX1, "fullSheet", "()I"⟩
abbrev cX1_isFree : ByteArray := prog_3_method_7_code
def yX1_isFree : MethodName := ⟨RX1, "isFree", "(II)Z"⟩
abbrev cX1_unitBefore : ByteArray := prog_3_method_8_code
def yX1_unitBefore : MethodName := ⟨RX1, "unitBefore", "(I)J"⟩
def RX2 : String := "FiveDice$Heaps"
def TX2 : u_T := fun k => match k with
  | 0 => ("FiveDice$Heaps", "told", "[I", true)
  | 1 => ("FiveDice$Heaps", "size", "[I", true)
  | 2 => ("FiveDice$Heaps", "withoutLargest", "[I", true)
  | 3 => ("FiveDice$Heaps", "next", "[I", true)
  | 4 => ("FiveDice$Heaps", "dice", "I", false)
  | 5 => ("FiveDice$Heaps", "sides", "I", false)
  | 6 => ("FiveDice$Heaps", "count", "I", false)
  | _ => ("FiveDice$Heaps", "firstWhole", "I", false)
def tyX2 : Nat → FieldType := fun k => match k with
  | 0 => .array .int
  | 1 => .array .int
  | 2 => .array .int
  | 3 => .array .int
  | 4 => .int
  | 5 => .int
  | 6 => .int
  | _ => .int
theorem nmX2 : ∀ a, a < 8 → ∀ b, b < 8 → a ≠ b → (TX2 a).2.1 ≠ (TX2 b).2.1 := by decide +kernel
theorem tyX2_ok : ∀ k, k < 8 → parseFieldDescriptor (TX2 k).2.2.1 = some (tyX2 k) := by decide +kernel
abbrev cX2_init : ByteArray := prog_4_method_1_code
def yX2_init : MethodName := ⟨RX2, "<init>", "()V"⟩
abbrev cX2_build : ByteArray := prog_4_method_2_code
def yX2_build : MethodName := ⟨RX2, "build", "(II)V"⟩
abbrev cX2_addLargestDie : ByteArray := prog_4_method_3_code
def yX2_addLargestDie : MethodName := ⟨RX2, "addLargestDie", "(II)V"⟩
abbrev cX2_addSmallerDie : ByteArray := prog_4_method_4_code
def yX2_addSmallerDie : MethodName := ⟨RX2, "addSmallerDie", "(II)V"⟩
abbrev cX2_wholeCount : ByteArray := prog_4_method_5_code
def yX2_wholeCount : MethodName := ⟨RX2, "wholeCount", "()I"⟩
abbrev cX2_withDie : ByteArray := prog_4_method_6_code
def yX2_withDie : MethodName := ⟨RX2, "withDie", "(II)I"⟩
abbrev cX2_joined : ByteArray := prog_4_method_7_code
def yX2_joined : MethodName := ⟨RX2, "joined", "(III)I"⟩
abbrev cX2_partOf : ByteArray := prog_4_method_8_code
def yX2_partOf : MethodName := ⟨RX2, "partOf", "(II)I"⟩
abbrev cX2_figuresOf : ByteArray := prog_4_method_9_code
def yX2_figuresOf : MethodName := ⟨RX2, "figuresOf", "(I)I"⟩
abbrev cX2_holdsAll : ByteArray := prog_4_method_10_code
def yX2_holdsAll : MethodName := ⟨RX2, "holdsAll", "(II)Z"⟩
def RX3 : String := "FiveDice$Row"
def TX3 : u_T := fun k => match k with
  | 0 => ("FiveDice$Row", "kind", "I", false)
  | 1 => ("FiveDice$Row", "n", "I", false)
  | 2 => ("FiveDice$Row", "p", "I", false)
  | _ => ("FiveDice$Row", "filledWith", "I", false)
def tyX3 : Nat → FieldType := fun k => match k with
  | 0 => .int
  | 1 => .int
  | 2 => .int
  | _ => .int
theorem nmX3 : ∀ a, a < 4 → ∀ b, b < 4 → a ≠ b → (TX3 a).2.1 ≠ (TX3 b).2.1 := by decide +kernel
theorem tyX3_ok : ∀ k, k < 4 → parseFieldDescriptor (TX3 k).2.2.1 = some (tyX3 k) := by decide +kernel
abbrev cX3_init : ByteArray := prog_5_method_1_code
def yX3_init : MethodName := ⟨RX3, "<init>", "()V"⟩
abbrev cX3_become : ByteArray := prog_5_method_2_code
def yX3_become : MethodName := ⟨RX3, "become", "(III)V"⟩
abbrev cX3_pointsOf : ByteArray := prog_5_method_3_code
def yX3_pointsOf : MethodName := ⟨RX3, "pointsOf", "(LFiveDice$Tally;)I"⟩
def RX4 : String := "FiveDice$Tally"
def TX4 : u_T := fun k => match k with
  | _ => ("FiveDice$Tally", "shown", "[I", true)
def tyX4 : Nat → FieldType := fun k => match k with
  | _ => .array .int
theorem nmX4 : ∀ a, a < 1 → ∀ b, b < 1 → a ≠ b → (TX4 a).2.1 ≠ (TX4 b).2.1 := by decide +kernel
theorem tyX4_ok : ∀ k, k < 1 → parseFieldDescriptor (TX4 k).2.2.1 = some (tyX4 k) := by decide +kernel
abbrev cX4_init : ByteArray := prog_6_method_1_code
def yX4_init : MethodName := ⟨RX4, "<init>", "()V"⟩
abbrev cX4_read : ByteArray := prog_6_method_2_code
def yX4_read : MethodName := ⟨RX4, "read", "(III)Z"⟩
abbrev cX4_showing : ByteArray := prog_6_method_3_code
def yX4_showing : MethodName := ⟨RX4, "showing", "(I)I"⟩
abbrev cX4_total : ByteArray := prog_6_method_4_code
def yX4_total : MethodName := ⟨RX4, "total", "()I"⟩
abbrev cX4_mostAlike : ByteArray := prog_6_method_5_code
def yX4_mostAlike : MethodName := ⟨RX4, "mostAlike", "()I"⟩
abbrev cX4_longestRun : ByteArray := prog_6_method_6_code
def yX4_longestRun : MethodName := ⟨RX4, "longestRun", "()I"⟩
abbrev cX4_sidesShownBy : ByteArray := prog_6_method_7_code
def yX4_sidesShownBy : MethodName := ⟨RX4, "sidesShownBy", "(I)I"⟩
abbrev cX4_orders : ByteArray := prog_6_method_8_code
def yX4_orders : MethodName := ⟨RX4, "orders", "()I"⟩
def RX5 : String := "FiveDice$Turn"
def TX5 : u_T := fun k => match k with
  | 0 => ("FiveDice$Turn", "game", "LFiveDice$Game;", true)
  | 1 => ("FiveDice$Turn", "ofHeap", "[[J", true)
  | _ => ("FiveDice$Turn", "ofHold", "[[J", true)
def tyX5 : Nat → FieldType := fun k => match k with
  | 0 => .object "FiveDice$Game"
  | 1 => .array (.array .long)
  | _ => .array (.array .long)
theorem nmX5 : ∀ a, a < 3 → ∀ b, b < 3 → a ≠ b → (TX5 a).2.1 ≠ (TX5 b).2.1 := by decide +kernel
theorem tyX5_ok : ∀ k, k < 3 → parseFieldDescriptor (TX5 k).2.2.1 = some (tyX5 k) := by decide +kernel
abbrev cX5_init : ByteArray := prog_7_method_1_code
def yX5_init : MethodName := ⟨RX5, "<init>", "(LFiveDice$Game;)V"⟩
abbrev cX5_ground : ByteArray := prog_7_method_2_code
def yX5_ground : MethodName := ⟨RX5, "ground", "()[J"⟩
abbrev cX5_valueOfHeap : ByteArray := prog_7_method_3_code
def yX5_valueOfHeap : MethodName := ⟨RX5, "valueOfHeap", "(II)J"⟩
abbrev cX5_valueOfHold : ByteArray := prog_7_method_4_code
def yX5_valueOfHold : MethodName := ⟨RX5, "valueOfHold", "(II)J"⟩
abbrev cX5_bestHoldOf : ByteArray := prog_7_method_5_code
def yX5_bestHoldOf : MethodName := ⟨RX5, "bestHoldOf", "(II)I"⟩
abbrev cX5_climb : ByteArray := prog_7_method_6_code
def yX5_climb : MethodName := ⟨RX5, "climb", "(I)V"⟩
abbrev cX5_valueBefore : ByteArray := prog_7_method_7_code
def yX5_valueBefore : MethodName := ⟨RX5, "valueBefore", "()J"⟩
abbrev cX5_throwOthers : ByteArray := prog_7_method_8_code
def yX5_throwOthers : MethodName := ⟨RX5, "throwOthers", "([J[J)V"⟩
abbrev cX5_bringToUnit : ByteArray := prog_7_method_9_code
def yX5_bringToUnit : MethodName := ⟨RX5, "bringToUnit", "([J)V"⟩
abbrev cX5_chooseHolds : ByteArray := prog_7_method_10_code
def yX5_chooseHolds : MethodName := ⟨RX5, "chooseHolds", "([J[J)V"⟩
def RX6 : String := "FiveDice$Worths"
def TX6 : u_T := fun k => match k with
  | 0 => ("FiveDice$Worths", "game", "LFiveDice$Game;", true)
  | 1 => ("FiveDice$Worths", "turn", "LFiveDice$Turn;", true)
  | _ => ("FiveDice$Worths", "before", "[J", true)
def tyX6 : Nat → FieldType := fun k => match k with
  | 0 => .object "FiveDice$Game"
  | 1 => .object "FiveDice$Turn"
  | _ => .array .long
theorem nmX6 : ∀ a, a < 3 → ∀ b, b < 3 → a ≠ b → (TX6 a).2.1 ≠ (TX6 b).2.1 := by decide +kernel
theorem tyX6_ok : ∀ k, k < 3 → parseFieldDescriptor (TX6 k).2.2.1 = some (tyX6 k) := by decide +kernel
abbrev cX6_init : ByteArray := prog_8_method_1_code
def yX6_init : MethodName := ⟨RX6, "<init>", "(LFiveDice$Game;)V"⟩
abbrev cX6_reckonAll : ByteArray := prog_8_method_2_code
def yX6_reckonAll : MethodName := ⟨RX6, "reckonAll", "()V"⟩
abbrev cX6_lookAt : ByteArray := prog_8_method_3_code
def yX6_lookAt : MethodName := ⟨RX6, "lookAt", "(I)V"⟩
abbrev cX6_bestRowFor : ByteArray := prog_8_method_4_code
def yX6_bestRowFor : MethodName := ⟨RX6, "bestRowFor", "(II)I"⟩
abbrev cX6_layGround : ByteArray := prog_8_method_5_code
def yX6_layGround : MethodName := ⟨RX6, "layGround", "(I)V"⟩
def RX7 : String := "FiveDice"
def TX7 : u_T := fun k => match k with
  | 0 => ("FiveDice", "tally", "LFiveDice$Tally;", true)
  | 1 => ("FiveDice", "rows", "[LFiveDice$Row;", true)
  | 2 => ("FiveDice", "game", "LFiveDice$Game;", true)
  | 3 => ("FiveDice", "worths", "LFiveDice$Worths;", true)
  | 4 => ("FiveDice", "chances", "LFiveDice$Chances;", true)
  | 5 => ("FiveDice", "diceNow", "I", false)
  | 6 => ("FiveDice", "sidesNow", "I", false)
  | 7 => ("FiveDice", "throwsNow", "I", false)
  | 8 => ("FiveDice", "rowCount", "I", false)
  | 9 => ("FiveDice", "begun", "Z", false)
  | 10 => ("FiveDice", "sheet", "I", false)
  | 11 => ("FiveDice", "sum", "I", false)
  | 12 => ("FiveDice", "luckSoFar", "J", false)
  | 13 => ("FiveDice", "slipSoFar", "J", false)
  | 14 => ("FiveDice", "inTurn", "Z", false)
  | 15 => ("FiveDice", "heapNow", "I", false)
  | 16 => ("FiveDice", "toThrow", "I", false)
  | _ => ("FiveDice", "throwsLeft", "I", false)
def tyX7 : Nat → FieldType := fun k => match k with
  | 0 => .object "FiveDice$Tally"
  | 1 => .array (.object "FiveDice$Row")
  | 2 => .object "FiveDice$Game"
  | 3 => .object "FiveDice$Worths"
  | 4 => .object "FiveDice$Chances"
  | 5 => .int
  | 6 => .int
  | 7 => .int
  | 8 => .int
  | 9 => .boolean
  | 10 => .int
  | 11 => .int
  | 12 => .long
  | 13 => .long
  | 14 => .boolean
  | 15 => .int
  | 16 => .int
  | _ => .int
theorem nmX7 : ∀ a, a < 18 → ∀ b, b < 18 → a ≠ b → (TX7 a).2.1 ≠ (TX7 b).2.1 := by decide +kernel
theorem tyX7_ok : ∀ k, k < 18 → parseFieldDescriptor (TX7 k).2.2.1 = some (tyX7 k) := by decide +kernel
abbrev cX7_init : ByteArray := prog_1_method_1_code
def yX7_init : MethodName := ⟨RX7, "<init>", "()V"⟩
abbrev cX7_dice : ByteArray := prog_1_method_2_code
def yX7_dice : MethodName := ⟨RX7, "dice", "(III)I"⟩
abbrev cX7_row : ByteArray := prog_1_method_3_code
def yX7_row : MethodName := ⟨RX7, "row", "(III)I"⟩
abbrev cX7_begin : ByteArray := prog_1_method_4_code
def yX7_begin : MethodName := ⟨RX7, "begin", "()I"⟩
abbrev cX7_end : ByteArray := prog_1_method_5_code
def yX7_end : MethodName := ⟨RX7, "end", "()I"⟩
abbrev cX7_fall : ByteArray := prog_1_method_6_code
def yX7_fall : MethodName := ⟨RX7, "fall", "(I)I"⟩
abbrev cX7_draw : ByteArray := prog_1_method_7_code
def yX7_draw : MethodName := ⟨RX7, "draw", "(I)I"⟩
abbrev cX7_hold : ByteArray := prog_1_method_8_code
def yX7_hold : MethodName := ⟨RX7, "hold", "(I)I"⟩
abbrev cX7_fill : ByteArray := prog_1_method_9_code
def yX7_fill : MethodName := ⟨RX7, "fill", "(I)I"⟩
abbrev cX7_unit : ByteArray := prog_1_method_10_code
def yX7_unit : MethodName := ⟨RX7, "unit", "()J"⟩
abbrev cX7_worth : ByteArray := prog_1_method_11_code
def yX7_worth : MethodName := ⟨RX7, "worth", "()J"⟩
abbrev cX7_worthOf : ByteArray := prog_1_method_12_code
def yX7_worthOf : MethodName := ⟨RX7, "worthOf", "(I)J"⟩
abbrev cX7_bestHold : ByteArray := prog_1_method_13_code
def yX7_bestHold : MethodName := ⟨RX7, "bestHold", "()I"⟩
abbrev cX7_bestRow : ByteArray := prog_1_method_14_code
def yX7_bestRow : MethodName := ⟨RX7, "bestRow", "()I"⟩
abbrev cX7_chance : ByteArray := prog_1_method_15_code
def yX7_chance : MethodName := ⟨RX7, "chance", "(I)J"⟩
abbrev cX7_luck : ByteArray := prog_1_method_16_code
def yX7_luck : MethodName := ⟨RX7, "luck", "()J"⟩
abbrev cX7_slip : ByteArray := prog_1_method_17_code
def yX7_slip : MethodName := ⟨RX7, "slip", "()J"⟩
abbrev cX7_points : ByteArray := prog_1_method_18_code
def yX7_points : MethodName := ⟨RX7, "points", "(II)I"⟩
abbrev cX7_ways : ByteArray := prog_1_method_19_code
def yX7_ways : MethodName := ⟨RX7, "ways", "(I)I"⟩
abbrev cX7_filled : ByteArray := prog_1_method_20_code
def yX7_filled : MethodName := ⟨RX7, "filled", "(I)I"⟩
abbrev cX7_count : ByteArray := prog_1_method_21_code
def yX7_count : MethodName := ⟨RX7, "count", "(I)I"⟩
abbrev cX7_isRow : ByteArray := prog_1_method_22_code
def yX7_isRow : MethodName := ⟨RX7, "isRow", "(I)Z"⟩
abbrev cX7_isFilled : ByteArray := prog_1_method_23_code
def yX7_isFilled : MethodName := ⟨RX7, "isFilled", "(I)Z"⟩
abbrev cX7_hasHeap : ByteArray := prog_1_method_24_code
def yX7_hasHeap : MethodName := ⟨RX7, "hasHeap", "()Z"⟩
abbrev cX7_mayHold : ByteArray := prog_1_method_25_code
def yX7_mayHold : MethodName := ⟨RX7, "mayHold", "()Z"⟩
abbrev cX7_isLarge : ByteArray := prog_1_method_26_code
def yX7_isLarge : MethodName := ⟨RX7, "isLarge", "()Z"⟩
abbrev cX7_comeToTurn : ByteArray := prog_1_method_27_code
def yX7_comeToTurn : MethodName := ⟨RX7, "comeToTurn", "()V"⟩
abbrev cX7_comeToHeap : ByteArray := prog_1_method_28_code
def yX7_comeToHeap : MethodName := ⟨RX7, "comeToHeap", "(I)I"⟩
abbrev cX7_unitPower : ByteArray := prog_1_method_29_code
def yX7_unitPower : MethodName := ⟨RX7, "unitPower", "()I"⟩
abbrev cX7_worthHere : ByteArray := prog_1_method_30_code
def yX7_worthHere : MethodName := ⟨RX7, "worthHere", "()J"⟩
abbrev cX7_valueIn : ByteArray := prog_1_method_31_code
def yX7_valueIn : MethodName := ⟨RX7, "valueIn", "(LFiveDice$Turn;)J"⟩
abbrev cX7_stand : ByteArray := prog_1_method_32_code
def yX7_stand : MethodName := ⟨RX7, "stand", "()J"⟩
abbrev cX7_sideOf : ByteArray := prog_1_method_33_code
def yX7_sideOf : MethodName := ⟨RX7, "sideOf", "(II)I"⟩
abbrev cX7_at : ByteArray := prog_1_method_34_code
def yX7_at : MethodName := ⟨RX7, "at", "([II)I"⟩
abbrev cX7_at_ : ByteArray := prog_1_method_35_code
def yX7_at_ : MethodName := ⟨RX7, "at", "([JI)J"⟩
def RX8 : String := "FiveDiceModel"
def TX8 : u_T := fun k => match k with
  | 0 => ("FiveDiceModel", "dice", "I", false)
  | 1 => ("FiveDiceModel", "sides", "I", false)
  | 2 => ("FiveDiceModel", "throwsOf", "I", false)
  | 3 => ("FiveDiceModel", "rows", "I", false)
  | 4 => ("FiveDiceModel", "kind", "[I", true)
  | 5 => ("FiveDiceModel", "nOf", "[I", true)
  | 6 => ("FiveDiceModel", "pOf", "[I", true)
  | 7 => ("FiveDiceModel", "hasBegun", "Z", false)
  | 8 => ("FiveDiceModel", "heaps", "I", false)
  | 9 => ("FiveDiceModel", "shown", "[I", true)
  | 10 => ("FiveDiceModel", "size", "[I", true)
  | 11 => ("FiveDiceModel", "told", "[I", true)
  | 12 => ("FiveDiceModel", "more", "[I", true)
  | 13 => ("FiveDiceModel", "points", "[I", true)
  | 14 => ("FiveDiceModel", "mask", "I", false)
  | 15 => ("FiveDiceModel", "sum", "I", false)
  | 16 => ("FiveDiceModel", "filled", "[I", true)
  | 17 => ("FiveDiceModel", "inTurn", "Z", false)
  | 18 => ("FiveDiceModel", "toThrow", "Z", false)
  | 19 => ("FiveDiceModel", "heap", "I", false)
  | 20 => ("FiveDiceModel", "left", "I", false)
  | 21 => ("FiveDiceModel", "luck", "J", false)
  | 22 => ("FiveDiceModel", "slip", "J", false)
  | 23 => ("FiveDiceModel", "bigPower", "J", false)
  | 24 => ("FiveDiceModel", "sidePower", "[J", true)
  | 25 => ("FiveDiceModel", "worthOf", "[J", true)
  | 26 => ("FiveDiceModel", "value", "[J", true)
  | 27 => ("FiveDiceModel", "thrown", "[J", true)
  | 28 => ("FiveDiceModel", "chances", "[J", true)
  | 29 => ("FiveDiceModel", "isAsked", "[Z", true)
  | 30 => ("FiveDiceModel", "at", "[I", true)
  | _ => ("FiveDiceModel", "bestOne", "I", false)
def tyX8 : Nat → FieldType := fun k => match k with
  | 0 => .int
  | 1 => .int
  | 2 => .int
  | 3 => .int
  | 4 => .array .int
  | 5 => .array .int
  | 6 => .array .int
  | 7 => .boolean
  | 8 => .int
  | 9 => .array .int
  | 10 => .array .int
  | 11 => .array .int
  | 12 => .array .int
  | 13 => .array .int
  | 14 => .int
  | 15 => .int
  | 16 => .array .int
  | 17 => .boolean
  | 18 => .boolean
  | 19 => .int
  | 20 => .int
  | 21 => .long
  | 22 => .long
  | 23 => .long
  | 24 => .array .long
  | 25 => .array .long
  | 26 => .array .long
  | 27 => .array .long
  | 28 => .array .long
  | 29 => .array .boolean
  | 30 => .array .int
  | _ => .int
theorem nmX8 : ∀ a, a < 32 → ∀ b, b < 32 → a ≠ b → (TX8 a).2.1 ≠ (TX8 b).2.1 := by decide +kernel
theorem tyX8_ok : ∀ k, k < 32 → parseFieldDescriptor (TX8 k).2.2.1 = some (tyX8 k) := by decide +kernel
abbrev cX8_init : ByteArray := prog_10_method_1_code
def yX8_init : MethodName := ⟨RX8, "<init>", "()V"⟩
abbrev cX8_in : ByteArray := prog_10_method_2_code
def yX8_in : MethodName := ⟨RX8, "in", "(III)Z"⟩
abbrev cX8_placeOf : ByteArray := prog_10_method_3_code
def yX8_placeOf : MethodName := ⟨RX8, "placeOf", "([II)I"⟩
abbrev cX8_findHeaps : ByteArray := prog_10_method_4_code
def yX8_findHeaps : MethodName := ⟨RX8, "findHeaps", "()V"⟩
abbrev cX8_heapOf : ByteArray := prog_10_method_5_code
def yX8_heapOf : MethodName := ⟨RX8, "heapOf", "(I)I"⟩
abbrev cX8_pointsIn : ByteArray := prog_10_method_6_code
def yX8_pointsIn : MethodName := ⟨RX8, "pointsIn", "(II)I"⟩
abbrev cX8_dice : ByteArray := prog_10_method_7_code
def yX8_dice : MethodName := ⟨RX8, "dice", "(III)I"⟩
abbrev cX8_row : ByteArray := prog_10_method_8_code
def yX8_row : MethodName := ⟨RX8, "row", "(III)I"⟩
abbrev cX8_open : ByteArray := prog_10_method_9_code
def yX8_open : MethodName := ⟨RX8, "open", "(I)I"⟩
abbrev cX8_power : ByteArray := prog_10_method_10_code
def yX8_power : MethodName := ⟨RX8, "power", "(JI)J"⟩
abbrev cX8_unitOf : ByteArray := prog_10_method_11_code
def yX8_unitOf : MethodName := ⟨RX8, "unitOf", "(I)J"⟩
abbrev cX8_isLarge : ByteArray := prog_10_method_12_code
def yX8_isLarge : MethodName := ⟨RX8, "isLarge", "()Z"⟩
abbrev cX8_findTurn : ByteArray := prog_10_method_13_code
def yX8_findTurn : MethodName := ⟨RX8, "findTurn", "()V"⟩
abbrev cX8_findThrown : ByteArray := prog_10_method_14_code
def yX8_findThrown : MethodName := ⟨RX8, "findThrown", "(I)V"⟩
abbrev cX8_isPart : ByteArray := prog_10_method_15_code
def yX8_isPart : MethodName := ⟨RX8, "isPart", "(II)Z"⟩
abbrev cX8_bestRowOf : ByteArray := prog_10_method_16_code
def yX8_bestRowOf : MethodName := ⟨RX8, "bestRowOf", "(II)J"⟩
abbrev cX8_findWorths : ByteArray := prog_10_method_17_code
def yX8_findWorths : MethodName := ⟨RX8, "findWorths", "(I)V"⟩
abbrev cX8_begin : ByteArray := prog_10_method_18_code
def yX8_begin : MethodName := ⟨RX8, "begin", "()I"⟩
abbrev cX8_end : ByteArray := prog_10_method_19_code
def yX8_end : MethodName := ⟨RX8, "end", "()I"⟩
abbrev cX8_isOver : ByteArray := prog_10_method_20_code
def yX8_isOver : MethodName := ⟨RX8, "isOver", "()Z"⟩
abbrev cX8_unitHere : ByteArray := prog_10_method_21_code
def yX8_unitHere : MethodName := ⟨RX8, "unitHere", "()J"⟩
abbrev cX8_holdWorth : ByteArray := prog_10_method_22_code
def yX8_holdWorth : MethodName := ⟨RX8, "holdWorth", "(I)J"⟩
abbrev cX8_worthHere : ByteArray := prog_10_method_23_code
def yX8_worthHere : MethodName := ⟨RX8, "worthHere", "()J"⟩
abbrev cX8_stand : ByteArray := prog_10_method_24_code
def yX8_stand : MethodName := ⟨RX8, "stand", "()J"⟩
abbrev cX8_mayFall : ByteArray := prog_10_method_25_code
def yX8_mayFall : MethodName := ⟨RX8, "mayFall", "()Z"⟩
abbrev cX8_came : ByteArray := prog_10_method_26_code
def yX8_came : MethodName := ⟨RX8, "came", "(I)I"⟩
abbrev cX8_fall : ByteArray := prog_10_method_27_code
def yX8_fall : MethodName := ⟨RX8, "fall", "(I)I"⟩
abbrev cX8_draw : ByteArray := prog_10_method_28_code
def yX8_draw : MethodName := ⟨RX8, "draw", "(I)I"⟩
abbrev cX8_mayHold : ByteArray := prog_10_method_29_code
def yX8_mayHold : MethodName := ⟨RX8, "mayHold", "()Z"⟩
abbrev cX8_heldOf : ByteArray := prog_10_method_30_code
def yX8_heldOf : MethodName := ⟨RX8, "heldOf", "(I)I"⟩
abbrev cX8_hold : ByteArray := prog_10_method_31_code
def yX8_hold : MethodName := ⟨RX8, "hold", "(I)I"⟩
abbrev cX8_fill : ByteArray := prog_10_method_32_code
def yX8_fill : MethodName := ⟨RX8, "fill", "(I)I"⟩
abbrev cX8_unit : ByteArray := prog_10_method_33_code
def yX8_unit : MethodName := ⟨RX8, "unit", "()J"⟩
abbrev cX8_worth : ByteArray := prog_10_method_34_code
def yX8_worth : MethodName := ⟨RX8, "worth", "()J"⟩
abbrev cX8_worthOf : ByteArray := prog_10_method_35_code
def yX8_worthOf : MethodName := ⟨RX8, "worthOf", "(I)J"⟩
abbrev cX8_bestHold : ByteArray := prog_10_method_36_code
def yX8_bestHold : MethodName := ⟨RX8, "bestHold", "()I"⟩
abbrev cX8_isBetter : ByteArray := prog_10_method_37_code
def yX8_isBetter : MethodName := ⟨RX8, "isBetter", "(II)Z"⟩
abbrev cX8_bestRow : ByteArray := prog_10_method_38_code
def yX8_bestRow : MethodName := ⟨RX8, "bestRow", "()I"⟩
abbrev cX8_wants : ByteArray := prog_10_method_39_code
def yX8_wants : MethodName := ⟨RX8, "wants", "(II)I"⟩
abbrev cX8_findChanceTurn : ByteArray := prog_10_method_40_code
def yX8_findChanceTurn : MethodName := ⟨RX8, "findChanceTurn", "(II)V"⟩
abbrev cX8_ask : ByteArray := prog_10_method_41_code
def yX8_ask : MethodName := ⟨RX8, "ask", "(II)V"⟩
abbrev cX8_chance : ByteArray := prog_10_method_42_code
def yX8_chance : MethodName := ⟨RX8, "chance", "(I)J"⟩
abbrev cX8_chanceOf : ByteArray := prog_10_method_43_code
def yX8_chanceOf : MethodName := ⟨RX8, "chanceOf", "(III)J"⟩
abbrev cX8_luck : ByteArray := prog_10_method_44_code
def yX8_luck : MethodName := ⟨RX8, "luck", "()J"⟩
abbrev cX8_slip : ByteArray := prog_10_method_45_code
def yX8_slip : MethodName := ⟨RX8, "slip", "()J"⟩
abbrev cX8_points : ByteArray := prog_10_method_46_code
def yX8_points : MethodName := ⟨RX8, "points", "(II)I"⟩
abbrev cX8_ways : ByteArray := prog_10_method_47_code
def yX8_ways : MethodName := ⟨RX8, "ways", "(I)I"⟩
abbrev cX8_filled : ByteArray := prog_10_method_48_code
def yX8_filled : MethodName := ⟨RX8, "filled", "(I)I"⟩
abbrev cX8_count : ByteArray := prog_10_method_49_code
def yX8_count : MethodName := ⟨RX8, "count", "(I)I"⟩
def RJ6 : String := "java/lang/Integer"
def TJ6 : u_T := fun k => match k with
  | _ => ("", "", "", false)
def tyJ6 : Nat → FieldType := fun k => match k with
  | _ => .int
theorem nmJ6 : ∀ a, a < 0 → ∀ b, b < 0 → a ≠ b → (TJ6 a).2.1 ≠ (TJ6 b).2.1 := by decide +kernel
theorem tyJ6_ok : ∀ k, k < 0 → parseFieldDescriptor (TJ6 k).2.2.1 = some (tyJ6 k) := by decide +kernel
abbrev cJ6_bitCount_0f7a4 : ByteArray := prog_11_method_49_code
def yJ6_bitCount_0f7a4 : MethodName := ⟨RJ6, "bitCount", "(I)I"⟩
def RJ9 : String := "java/lang/Math"
def TJ9 : u_T := fun k => match k with
  | _ => ("", "", "", false)
def tyJ9 : Nat → FieldType := fun k => match k with
  | _ => .int
theorem nmJ9 : ∀ a, a < 0 → ∀ b, b < 0 → a ≠ b → (TJ9 a).2.1 ≠ (TJ9 b).2.1 := by decide +kernel
theorem tyJ9_ok : ∀ k, k < 0 → parseFieldDescriptor (TJ9 k).2.2.1 = some (tyJ9 k) := by decide +kernel
abbrev cJ9_max_7cf53 : ByteArray := prog_12_method_65_code
def yJ9_max_7cf53 : MethodName := ⟨RJ9, "max", "(II)I"⟩
abbrev cJ9_max_f86c9 : ByteArray := prog_12_method_66_code
def yJ9_max_f86c9 : MethodName := ⟨RJ9, "max", "(JJ)J"⟩
abbrev cJ9_min_7cf53 : ByteArray := prog_12_method_69_code
def yJ9_min_7cf53 : MethodName := ⟨RJ9, "min", "(II)I"⟩
def RJ10 : String := "java/lang/System"
def TJ10 : u_T := fun k => match k with
  | _ => ("", "", "", false)
def tyJ10 : Nat → FieldType := fun k => match k with
  | _ => .int
theorem nmJ10 : ∀ a, a < 0 → ∀ b, b < 0 → a ≠ b → (TJ10 a).2.1 ≠ (TJ10 b).2.1 := by decide +kernel
theorem tyJ10_ok : ∀ k, k < 0 → parseFieldDescriptor (TJ10 k).2.2.1 = some (tyJ10 k) := by decide +kernel
def RJ7 : String := "java/util/Arrays"
def TJ7 : u_T := fun k => match k with
  | _ => ("", "", "", false)
def tyJ7 : Nat → FieldType := fun k => match k with
  | _ => .int
theorem nmJ7 : ∀ a, a < 0 → ∀ b, b < 0 → a ≠ b → (TJ7 a).2.1 ≠ (TJ7 b).2.1 := by decide +kernel
theorem tyJ7_ok : ∀ k, k < 0 → parseFieldDescriptor (TJ7 k).2.2.1 = some (tyJ7 k) := by decide +kernel
abbrev cJ7_rangeCheck_23922 : ByteArray := prog_14_method_30_code
def yJ7_rangeCheck_23922 : MethodName := ⟨RJ7, "rangeCheck", "(III)V"⟩
abbrev cJ7_fill_bad5a : ByteArray := prog_14_method_102_code
def yJ7_fill_bad5a : MethodName := ⟨RJ7, "fill", "([JIIJ)V"⟩
abbrev cJ7_fill_53178 : ByteArray := prog_14_method_103_code
def yJ7_fill_53178 : MethodName := ⟨RJ7, "fill", "([II)V"⟩
def RL : String := "FiveDiceLaw"
abbrev cL_law : ByteArray := code
def yL_law : MethodName := ⟨RL, "law", "([I)Z"⟩
abbrev vwCl : List vw_C := [(RX0, TX0, 8), (RX1, TX1, 6), (RX2, TX2, 8), (RX3, TX3, 4), (RX4, TX4, 1), (RX5, TX5, 3), (RX6, TX6, 3), (RX7, TX7, 18), (RX8, TX8, 32)]
