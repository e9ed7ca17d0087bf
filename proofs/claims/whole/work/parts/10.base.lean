/-! THE ABSTRACT HEAP: cells under small numbers (ids); 'ad' says at which address an id lies. A reference inside a cell, a local or on the stack names an id. -/
abbrev uu : Value := .retAddr 0
def trV (ad : Nat → Nat) (v : Value) : Value := match v with
  | .ref a => .ref (ad a)
  | v => v
def trA (ad : Nat → Nat) (a : vp_A) : vp_A := match a with
  | (n, .inr (.inr (.inr (.inr f)))) => (n, .inr (.inr (.inr (.inr (fun j => (f j).map ad)))))
  | a => a
abbrev AE : Type := (Nat × vp_A) ⊕ (Nat × List Value)
abbrev AH : Type := Nat → AE
def trE (dA : Nat → ClassId) (ad : Nat → Nat) (e : AE) : va_E := match e with
  | .inl x => .inl (dA x.1, trA ad x.2)
  | .inr x => .inr (x.1, x.2.map (trV ad))
abbrev aI (n : Nat) (f : Nat → Int32) : AE := .inl (0, n, .inl f)
abbrev aJ (n : Nat) (f : Nat → Int64) : AE := .inl (1, n, .inr (.inl f))
abbrev aZ (n : Nat) (f : Nat → Int32) : AE := .inl (2, n, .inl f)
abbrev aR (n : Nat) (f : Nat → Option Nat) : AE := .inl (3, n, .inr (.inr (.inr (.inr f))))
abbrev aG (n : Nat) (f : Nat → Option Nat) : AE := .inl (4, n, .inr (.inr (.inr (.inr f))))
abbrev ob (ci : Nat) (fs : List Value) : AE := .inr (ci, fs)
def wl (dA : Nat → ClassId) (ad : Nat → Nat) (hp : AH) (n : Nat) : va_W := (List.range n).map (fun i => (ad i, trE dA ad (hp i)))
theorem wl_len {dA : Nat → ClassId} {ad : Nat → Nat} {hp : AH} {n : Nat} : (wl dA ad hp n).length = n := by simp [wl]
theorem wl_get {dA : Nat → ClassId} {ad : Nat → Nat} {hp : AH} {n i : Nat} (h : i < n) : (wl dA ad hp n)[i]? = some (ad i, trE dA ad (hp i)) := by
  simp [wl, h]
theorem wl_none {dA : Nat → ClassId} {ad : Nat → Nat} {hp : AH} {n i : Nat} (h : n ≤ i) : (wl dA ad hp n)[i]? = none := by
  simp [wl, h]
theorem wl_set {dA : Nat → ClassId} {ad : Nat → Nat} {hp : AH} {n i : Nat} (h : i < n) (e : AE) : (wl dA ad hp n).set i (ad i, trE dA ad e) = wl dA ad (va_up hp i e) n := by
  apply List.ext_getElem?
  intro j
  by_cases hj : j < n
  · rw [wl_get hj, List.getElem?_set, wl_len, wl_get hj]
    by_cases e1 : i = j
    · subst e1
      simp [h, va_up]
    · simp [e1, va_up, Ne.symm e1]
  · rw [wl_none (Nat.le_of_not_lt hj), List.getElem?_set, wl_len, wl_none (Nat.le_of_not_lt hj)]
    by_cases e1 : i = j
    · subst e1
      simp [hj]
    · simp [e1]
/-- a value, a cell that names no id from n on (but those beyond a million, which never are made) -/
def wfv (n : Nat) (v : Value) : Prop := match v with
  | .ref a => a < n ∨ 1000000 ≤ a
  | _ => True
def wfE (n : Nat) (e : AE) : Prop := match e with
  | .inl (_, (_, .inr (.inr (.inr (.inr f))))) => ∀ j a, f j = some a → a < n
  | .inl _ => True
  | .inr (_, fs) => ∀ v ∈ fs, wfv n v
def wfH (n : Nat) (hp : AH) : Prop := ∀ i, i < n → wfE n (hp i)
def agr (n n' : Nat) (ad ad' : Nat → Nat) : Prop := ∀ i, i < n ∨ n' ≤ i → ad' i = ad i
theorem agr.rf {n n' : Nat} {ad : Nat → Nat} : agr n n' ad ad := fun _ _ => rfl
theorem agr.tr {n n1 n2 : Nat} {a b c : Nat → Nat} (h1 : agr n n1 a b) (h2 : agr n1 n2 b c) (hn : n ≤ n1) (hm : n1 ≤ n2) : agr n n2 a c := fun i hi => by
  rcases hi with hi | hi
  · exact (h2 i (Or.inl (Nat.lt_of_lt_of_le hi hn))).trans (h1 i (Or.inl hi))
  · exact (h2 i (Or.inr hi)).trans (h1 i (Or.inr (Nat.le_trans hm hi)))
theorem agr.up {n q : Nat} {ad : Nat → Nat} : agr n (n + 1) ad (va_up ad n q) := fun i hi => by
  unfold va_up
  rw [if_neg (by omega)]
theorem agr.eq {n : Nat} {ad ad' : Nat → Nat} (h : agr n n ad ad') : ad' = ad := funext fun i => h i (by omega)
theorem trV_agr {n n' : Nat} {ad ad' : Nat → Nat} (h : agr n n' ad ad') (hn : n' ≤ 1000000) {v : Value} (hv : wfv n v) : trV ad' v = trV ad v := by
  cases v <;> first | rfl | (simp only [trV]; rw [h _ (hv.imp id (fun q => Nat.le_trans hn q))])
theorem trE_agr {n n' : Nat} {dA : Nat → ClassId} {ad ad' : Nat → Nat} (h : agr n n' ad ad') (hn : n' ≤ 1000000) {e : AE} (he : wfE n e) : trE dA ad' e = trE dA ad e := by
  rcases e with ⟨t, N, f | f | f | f | f⟩ | ⟨ci, fs⟩
  · rfl
  · rfl
  · rfl
  · rfl
  · have hf : (fun j => (f j).map ad') = (fun j => (f j).map ad) := funext fun j => by
      cases hj : f j with
      | none => rfl
      | some a => simp only [Option.map_some]; rw [h a (Or.inl (he j a hj))]
    show Sum.inl (dA t, (N, Sum.inr (Sum.inr (Sum.inr (Sum.inr (fun j => (f j).map ad')))))) = _
    rw [hf]
    rfl
  · show Sum.inr (ci, fs.map (trV ad')) = Sum.inr (ci, fs.map (trV ad))
    have hm : fs.map (trV ad') = fs.map (trV ad) := List.map_congr_left fun v hv => trV_agr h hn (he v hv)
    rw [hm]
theorem wl_agr {n n' : Nat} {dA : Nat → ClassId} {ad ad' : Nat → Nat} {hp hp' : AH} (h : agr n n' ad ad') (hn : n' ≤ 1000000) (hw : wfH n hp) (hh : ∀ i, i < n → hp' i = hp i) : wl dA ad' hp' n = wl dA ad hp n := by
  unfold wl
  apply List.map_congr_left
  intro i hi
  have hi' : i < n := List.mem_range.mp hi
  rw [h i (Or.inl hi'), hh i hi', trE_agr h hn (hw i hi')]
theorem wl_push {n q : Nat} {dA : Nat → ClassId} {ad : Nat → Nat} {hp : AH} {e : AE} (hn : n < 1000000) (hw : wfH n hp) : wl dA ad hp n ++ [(q, trE dA (va_up ad n q) e)] = wl dA (va_up ad n q) (va_up hp n e) (n + 1) := by
  have h1 : wl dA (va_up ad n q) (va_up hp n e) n = wl dA ad hp n := wl_agr agr.up hn hw (fun i hi => va_up_ne _ _ (Nat.ne_of_lt hi))
  rw [← h1]
  unfold wl
  rw [List.range_succ, List.map_append]
  simp [va_up]
/-! locals by their places; uu: nothing is known -/
def lvl (ad : Nat → Nat) (vs : List Value) : List (Nat × Value) := (List.range vs.length).filterMap (fun i => if vs.getD i uu = uu then none else some (i, trV ad (vs.getD i uu)))
theorem lvl_mem {ad : Nat → Nat} {vs : List Value} {i : Nat} {w : Value} : (i, w) ∈ lvl ad vs ↔ ∃ v, vs[i]? = some v ∧ v ≠ uu ∧ w = trV ad v := by
  unfold lvl
  rw [List.mem_filterMap]
  constructor
  · rintro ⟨j, hj, h⟩
    have hj' : j < vs.length := List.mem_range.mp hj
    by_cases c : vs.getD j uu = uu
    · rw [if_pos c] at h
      cases h
    · rw [if_neg c] at h
      cases h
      have e : vs[i]? = some (vs.getD i uu) := by simp [List.getD_eq_getElem?_getD, hj']
      exact ⟨_, e, c, rfl⟩
  · rintro ⟨v, h1, h2, rfl⟩
    have hi : i < vs.length := (List.getElem?_eq_some_iff.mp h1).1
    have e : vs.getD i uu = v := by simp [List.getD_eq_getElem?_getD, h1]
    exact ⟨i, List.mem_range.mpr hi, by rw [e, if_neg h2]⟩
abbrev LV (ad : Nat → Nat) (ls : Array Slot) (nL : Nat) (vs : List Value) : Prop := lv_has ls nL (lvl ad vs)
theorem LV_at {ad : Nat → Nat} {ls : Array Slot} {nL : Nat} {vs : List Value} (h : LV ad ls nL vs) {i : Nat} {v : Value} (hv : vs[i]? = some v) (hu : v ≠ uu) : ls[i]? = some (.val (trV ad v)) := h.2.2 (i, trV ad v) (lvl_mem.mpr ⟨v, hv, hu, rfl⟩)
theorem LV_agr {n n' : Nat} {ad ad' : Nat → Nat} {ls : Array Slot} {nL : Nat} {vs : List Value} (h : LV ad ls nL vs) (hg : agr n n' ad ad') (hn : n' ≤ 1000000) (hw : ∀ v ∈ vs, wfv n v) : LV ad' ls nL vs := ⟨h.1, h.2.1, fun q hq => by
  obtain ⟨i, w⟩ := q
  obtain ⟨v, h1, h2, rfl⟩ := lvl_mem.mp hq
  rw [trV_agr hg hn (hw v (List.mem_of_getElem? h1))]
  exact LV_at h h1 h2⟩
def stk (a : Value) : Value := match a with
  | .long _ => uu
  | .double _ => uu
  | a => a
def mdf : List Value → Nat → List Value
  | [], _ => []
  | a :: vs, 0 => stk a :: vs
  | a :: vs, k + 1 => a :: mdf vs k
def kl (vs : List Value) (i : Nat) : List Value := match i with
  | 0 => vs
  | k + 1 => mdf vs k
def st1 (vs : List Value) (i : Nat) (v : Value) : List Value := (kl vs i).set i v
def st2 (vs : List Value) (i : Nat) (v : Value) : List Value := ((kl vs i).set i v).set (i + 1) uu
theorem trV_cat (ad : Nat → Nat) (v : Value) : (trV ad v).category = v.category := by cases v <;> rfl
theorem stk_ne {a v : Value} (h : stk a = v) (hu : v ≠ uu) : a = v ∧ ¬ v.category = 2 := by
  subst h
  cases a with
  | long x => exact absurd rfl hu
  | double x => exact absurd rfl hu
  | int x => exact ⟨rfl, by show ¬ 1 = 2; decide⟩
  | float x => exact ⟨rfl, by show ¬ 1 = 2; decide⟩
  | null => exact ⟨rfl, by show ¬ 1 = 2; decide⟩
  | ref x => exact ⟨rfl, by show ¬ 1 = 2; decide⟩
  | retAddr x => exact ⟨rfl, by show ¬ 1 = 2; decide⟩
theorem mdf_get : ∀ {vs : List Value} {k j : Nat} {v : Value}, (mdf vs k)[j]? = some v → v ≠ uu → vs[j]? = some v ∧ ¬ (j = k ∧ v.category = 2)
  | [], k, j, v, h, _ => by simp [mdf] at h
  | a :: vs, 0, 0, v, h, hu => by
    have h1 : stk a = v := by simpa [mdf] using h
    obtain ⟨e, hc⟩ := stk_ne h1 hu
    exact ⟨by simp [e], fun q => hc q.2⟩
  | a :: vs, 0, j + 1, v, h, hu => by
    have h1 : vs[j]? = some v := by simpa [mdf] using h
    exact ⟨by simpa using h1, fun q => by omega⟩
  | a :: vs, k + 1, 0, v, h, hu => by
    have h1 : a = v := by simpa [mdf] using h
    exact ⟨by simp [h1], fun q => by omega⟩
  | a :: vs, k + 1, j + 1, v, h, hu => by
    have h1 : (mdf vs k)[j]? = some v := by simpa [mdf] using h
    obtain ⟨g1, g2⟩ := mdf_get h1 hu
    exact ⟨by simpa using g1, fun q => g2 ⟨by omega, q.2⟩⟩
theorem kl_get {vs : List Value} {i j : Nat} {v : Value} (h : (kl vs i)[j]? = some v) (hu : v ≠ uu) : vs[j]? = some v ∧ ¬ (j + 1 = i ∧ v.category = 2) := by
  cases i with
  | zero => exact ⟨h, fun q => by omega⟩
  | succ k =>
    obtain ⟨g1, g2⟩ := mdf_get (show (mdf vs k)[j]? = some v from h) hu
    exact ⟨g1, fun q => g2 ⟨by omega, q.2⟩⟩
theorem LV_st1 {ad : Nat → Nat} {ls' : Array Slot} {nL : Nat} {vs : List Value} {i : Nat} {v : Value} (h : lv_has ls' nL ((i, trV ad v) :: (lvl ad vs).filter (fun q => !(q.1 == i) && !(q.1 + 1 == i && q.2.category == 2)))) : LV ad ls' nL (st1 vs i v) := ⟨h.1, h.2.1, fun q hq => by
  obtain ⟨j, w⟩ := q
  obtain ⟨v', h1, h2, rfl⟩ := lvl_mem.mp hq
  refine h.2.2 _ ?_
  unfold st1 at h1
  rw [List.getElem?_set] at h1
  by_cases e : i = j
  · subst e
    by_cases l : i < (kl vs i).length
    · simp [l] at h1
      subst h1
      exact List.mem_cons_self
    · simp [l] at h1
  · simp only [e, if_false] at h1
    obtain ⟨g1, g2⟩ := kl_get h1 h2
    refine List.mem_cons_of_mem _ (List.mem_filter.mpr ⟨lvl_mem.mpr ⟨v', g1, h2, rfl⟩, ?_⟩)
    have e' : ¬ j = i := fun q => e q.symm
    simp only [trV_cat]
    simp [e']
    exact Decidable.not_and_iff_or_not.mp g2⟩
theorem LV_st2 {ad : Nat → Nat} {ls' : Array Slot} {nL : Nat} {vs : List Value} {i : Nat} {v : Value} (h : lv_has ls' nL ((i, trV ad v) :: (lvl ad vs).filter (fun q => !(q.1 == i) && (!(q.1 == i + 1) && !(q.1 + 1 == i && q.2.category == 2))))) : LV ad ls' nL (st2 vs i v) := ⟨h.1, h.2.1, fun q hq => by
  obtain ⟨j, w⟩ := q
  obtain ⟨v', h1, h2, rfl⟩ := lvl_mem.mp hq
  refine h.2.2 _ ?_
  unfold st2 at h1
  rw [List.getElem?_set] at h1
  by_cases e0 : i + 1 = j
  · subst e0
    by_cases l : i + 1 < ((kl vs i).set i v).length
    · simp only [l, if_true] at h1
      exact absurd (Option.some.inj h1).symm h2
    · simp only [l, if_true, if_false] at h1
      cases h1
  simp only [e0, if_false] at h1
  rw [List.getElem?_set] at h1
  by_cases e : i = j
  · subst e
    by_cases l : i < (kl vs i).length
    · simp [l] at h1
      subst h1
      exact List.mem_cons_self
    · simp [l] at h1
  · simp only [e, if_false] at h1
    obtain ⟨g1, g2⟩ := kl_get h1 h2
    refine List.mem_cons_of_mem _ (List.mem_filter.mpr ⟨lvl_mem.mpr ⟨v', g1, h2, rfl⟩, ?_⟩)
    have e' : ¬ j = i := fun q => e q.symm
    have e0' : ¬ j = i + 1 := fun q => e0 q.symm
    simp only [trV_cat]
    simp [e', e0']
    exact Decidable.not_and_iff_or_not.mp g2⟩
