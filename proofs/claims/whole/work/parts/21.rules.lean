/-! Rules, an instruction each: those that leave the heap alone. -/
theorem mm_rv_cat (ad : Nat → Nat) (v : Value) : (mm_rv ad v).category = v.category := by cases v <;> rfl
def mm_as (ad : Nat → Nat) (lo : List (Option Value)) : List (Nat × Value) := lo.zipIdx.filterMap fun q => q.1.map fun v => (q.2, mm_rv ad v)
theorem mm_as_iff {ad : Nat → Nat} {lo : List (Option Value)} {i : Nat} {w : Value} : (i, w) ∈ mm_as ad lo ↔ ∃ v, lo[i]? = some (some v) ∧ w = mm_rv ad v := by
  simp only [mm_as, List.mem_filterMap, Option.map_eq_some_iff, Prod.mk.injEq, Prod.exists]
  constructor
  · rintro ⟨o, j, hm, v, rfl, rfl, rfl⟩
    exact ⟨v, List.mem_zipIdx_iff_getElem?.mp hm, rfl⟩
  · rintro ⟨v, hv, rfl⟩
    exact ⟨some v, i, List.mem_zipIdx_iff_getElem?.mpr hv, v, rfl, rfl, rfl⟩
theorem mm_as_mem {ad : Nat → Nat} {lo : List (Option Value)} {i : Nat} {v : Value} (h : lo[i]? = some (some v)) : (i, mm_rv ad v) ∈ mm_as ad lo := mm_as_iff.mpr ⟨v, h, rfl⟩
theorem mm_L.has {ad : Nat → Nat} {nL : Nat} {lo : List (Option Value)} {ls : Array Slot} (L : mm_L ad nL lo ls) : lv_has ls nL (mm_as ad lo) := by
  refine ⟨L.1, L.2.1, fun q hq => ?_⟩
  obtain ⟨i, w⟩ := q
  obtain ⟨v, hv, rfl⟩ := mm_as_iff.mp hq
  exact L.2.2 i v hv
/-- a store at i cuts no long in two -/
def mm_ok1 (lo : List (Option Value)) (i : Nat) : Bool := match i with
  | 0 => true
  | j + 1 => match lo[j]? with
    | some (some v) => v.category == 1
    | _ => true
theorem mm_ok1_use {lo : List (Option Value)} {i j : Nat} {v : Value} (h : mm_ok1 lo i = true) (hj : j + 1 = i) (hv : lo[j]? = some (some v)) : v.category = 1 := by
  subst hj
  simp only [mm_ok1, hv] at h
  simpa using h
theorem mm_L.store1 {ad : Nat → Nat} {nL i : Nat} {lo : List (Option Value)} {ls : Array Slot} {v : Value} (hp : mm_ok1 lo i = true) (h : lv_has ls nL ((i, mm_rv ad v) :: (mm_as ad lo).filter (fun q => !(q.1 == i) && !(q.1 + 1 == i && q.2.category == 2)))) : mm_L ad nL (lo.set i (some v)) ls := by
  refine ⟨h.1, h.2.1, fun j w hw => ?_⟩
  by_cases hij : i = j
  · subst hij
    rw [List.getElem?_set] at hw
    simp only [if_pos] at hw
    split at hw
    · cases hw
      exact h.2.2 _ List.mem_cons_self
    · cases hw
  · rw [List.getElem?_set_ne hij] at hw
    refine h.2.2 (j, mm_rv ad w) (List.mem_cons_of_mem _ (List.mem_filter.mpr ⟨mm_as_mem hw, ?_⟩))
    have h1 : (j == i) = false := by simp [Ne.symm hij]
    by_cases h2 : j + 1 = i
    · have := mm_ok1_use hp h2 hw
      simp [h1, mm_rv_cat, this]
    · simp [h1, h2]
theorem mm_L.store2 {ad : Nat → Nat} {nL i : Nat} {lo : List (Option Value)} {ls : Array Slot} {v : Value} (hp : mm_ok1 lo i = true) (h : lv_has ls nL ((i, mm_rv ad v) :: (mm_as ad lo).filter (fun q => !(q.1 == i) && (!(q.1 == i + 1) && !(q.1 + 1 == i && q.2.category == 2))))) : mm_L ad nL ((lo.set i (some v)).set (i + 1) none) ls := by
  refine ⟨h.1, h.2.1, fun j w hw => ?_⟩
  by_cases hj1 : i + 1 = j
  · subst hj1
    rw [List.getElem?_set] at hw
    simp only [if_pos] at hw
    split at hw <;> cases hw
  · rw [List.getElem?_set_ne hj1] at hw
    by_cases hij : i = j
    · subst hij
      rw [List.getElem?_set] at hw
      simp only [if_pos] at hw
      split at hw
      · cases hw
        exact h.2.2 _ List.mem_cons_self
      · cases hw
    · rw [List.getElem?_set_ne hij] at hw
      refine h.2.2 (j, mm_rv ad w) (List.mem_cons_of_mem _ (List.mem_filter.mpr ⟨mm_as_mem hw, ?_⟩))
      have h1 : (j == i) = false := by simp [Ne.symm hij]
      have h0 : (j == i + 1) = false := by simp [Ne.symm hj1]
      by_cases h2 : j + 1 = i
      · have := mm_ok1_use hp h2 hw
        simp [h1, h0, mm_rv_cat, this]
      · simp [h1, h0, h2]
/-- a local that is not read any more -/
theorem mt_forget {M : mm_M} {own : String} {cc : ByteArray} {nx : Nat} {h : Nat → mm_E} {kc ks pc : Nat} {lo : List (Option Value)} {st : List Value} (i : Nat) (k : mm_T M own cc nx h kc ks pc (lo.set i none) st) : mm_T M own cc nx h kc ks pc lo st := by
  intro p e s m args below meth c H locs ad ad0 ls C A B L
  refine k p e s m args below meth c H locs ad ad0 ls C A B ⟨L.1, L.2.1, fun j v hv => L.2.2 j v ?_⟩
  by_cases hij : i = j
  · subst hij
    rw [List.getElem?_set] at hv
    simp only [if_pos] at hv
    split at hv <;> cases hv
  · rwa [List.getElem?_set_ne hij] at hv
theorem mt_iconst {M : mm_M} {own : String} {cc : ByteArray} {nx : Nat} {h : Nat → mm_E} {kc ks pc : Nat} {lo : List (Option Value)} {st : List Value} {n : Int} {v : Int32} (hd : decode cc pc = .ok (.iconst n, 1)) (hv : Int32.ofInt n = v) (k : mm_T M own cc nx h kc ks (pc + 1) lo (.int v :: st)) : mm_T M own cc nx h kc ks pc lo (st) := by
  intro p e s m args below meth c H locs ad ad0 ls C A B L
  exact lv_iconst C.1 C.2.1 hd hv (k p e s m args below meth c H locs ad ad0 ls C A B L)
theorem mt_bipush {M : mm_M} {own : String} {cc : ByteArray} {nx : Nat} {h : Nat → mm_E} {kc ks pc : Nat} {lo : List (Option Value)} {st : List Value} {n : Int} {v : Int32} (hd : decode cc pc = .ok (.bipush n, 2)) (hv : (Int8.ofInt n).toInt32 = v) (k : mm_T M own cc nx h kc ks (pc + 2) lo (.int v :: st)) : mm_T M own cc nx h kc ks pc lo (st) := by
  intro p e s m args below meth c H locs ad ad0 ls C A B L
  exact lv_bipush C.1 C.2.1 hd hv (k p e s m args below meth c H locs ad ad0 ls C A B L)
theorem mt_sipush {M : mm_M} {own : String} {cc : ByteArray} {nx : Nat} {h : Nat → mm_E} {kc ks pc : Nat} {lo : List (Option Value)} {st : List Value} {n : Int} {v : Int32} (hd : decode cc pc = .ok (.sipush n, 3)) (hv : (Int16.ofInt n).toInt32 = v) (k : mm_T M own cc nx h kc ks (pc + 3) lo (.int v :: st)) : mm_T M own cc nx h kc ks pc lo (st) := by
  intro p e s m args below meth c H locs ad ad0 ls C A B L
  exact lv_sipush C.1 C.2.1 hd hv (k p e s m args below meth c H locs ad ad0 ls C A B L)
theorem mt_lconst {M : mm_M} {own : String} {cc : ByteArray} {nx : Nat} {h : Nat → mm_E} {kc ks pc : Nat} {lo : List (Option Value)} {st : List Value} {n : Fin 2} {v : Int64} (hd : decode cc pc = .ok (.lconst n, 1)) (hv : Int64.ofNat (n : Nat) = v) (k : mm_T M own cc nx h kc ks (pc + 1) lo (.long v :: st)) : mm_T M own cc nx h kc ks pc lo (st) := by
  intro p e s m args below meth c H locs ad ad0 ls C A B L
  exact lv_lconst C.1 C.2.1 hd hv (k p e s m args below meth c H locs ad ad0 ls C A B L)
theorem mt_iadd {M : mm_M} {own : String} {cc : ByteArray} {nx : Nat} {h : Nat → mm_E} {kc ks pc : Nat} {lo : List (Option Value)} {st : List Value} {x y : Int32} (hd : decode cc pc = .ok (.iadd, 1))  (k : mm_T M own cc nx h kc ks (pc + 1) lo (.int (x + y) :: st)) : mm_T M own cc nx h kc ks pc lo (.int y :: .int x :: st) := by
  intro p e s m args below meth c H locs ad ad0 ls C A B L
  exact lv_iadd C.1 C.2.1 hd (k p e s m args below meth c H locs ad ad0 ls C A B L)
theorem mt_isub {M : mm_M} {own : String} {cc : ByteArray} {nx : Nat} {h : Nat → mm_E} {kc ks pc : Nat} {lo : List (Option Value)} {st : List Value} {x y : Int32} (hd : decode cc pc = .ok (.isub, 1))  (k : mm_T M own cc nx h kc ks (pc + 1) lo (.int (x - y) :: st)) : mm_T M own cc nx h kc ks pc lo (.int y :: .int x :: st) := by
  intro p e s m args below meth c H locs ad ad0 ls C A B L
  exact lv_isub C.1 C.2.1 hd (k p e s m args below meth c H locs ad ad0 ls C A B L)
theorem mt_imul {M : mm_M} {own : String} {cc : ByteArray} {nx : Nat} {h : Nat → mm_E} {kc ks pc : Nat} {lo : List (Option Value)} {st : List Value} {x y : Int32} (hd : decode cc pc = .ok (.imul, 1))  (k : mm_T M own cc nx h kc ks (pc + 1) lo (.int (x * y) :: st)) : mm_T M own cc nx h kc ks pc lo (.int y :: .int x :: st) := by
  intro p e s m args below meth c H locs ad ad0 ls C A B L
  exact lv_imul C.1 C.2.1 hd (k p e s m args below meth c H locs ad ad0 ls C A B L)
theorem mt_iand {M : mm_M} {own : String} {cc : ByteArray} {nx : Nat} {h : Nat → mm_E} {kc ks pc : Nat} {lo : List (Option Value)} {st : List Value} {x y : Int32} (hd : decode cc pc = .ok (.iand, 1))  (k : mm_T M own cc nx h kc ks (pc + 1) lo (.int (x &&& y) :: st)) : mm_T M own cc nx h kc ks pc lo (.int y :: .int x :: st) := by
  intro p e s m args below meth c H locs ad ad0 ls C A B L
  exact lv_iand C.1 C.2.1 hd (k p e s m args below meth c H locs ad ad0 ls C A B L)
theorem mt_ior {M : mm_M} {own : String} {cc : ByteArray} {nx : Nat} {h : Nat → mm_E} {kc ks pc : Nat} {lo : List (Option Value)} {st : List Value} {x y : Int32} (hd : decode cc pc = .ok (.ior, 1))  (k : mm_T M own cc nx h kc ks (pc + 1) lo (.int (x ||| y) :: st)) : mm_T M own cc nx h kc ks pc lo (.int y :: .int x :: st) := by
  intro p e s m args below meth c H locs ad ad0 ls C A B L
  exact lv_ior C.1 C.2.1 hd (k p e s m args below meth c H locs ad ad0 ls C A B L)
theorem mt_ixor {M : mm_M} {own : String} {cc : ByteArray} {nx : Nat} {h : Nat → mm_E} {kc ks pc : Nat} {lo : List (Option Value)} {st : List Value} {x y : Int32} (hd : decode cc pc = .ok (.ixor, 1))  (k : mm_T M own cc nx h kc ks (pc + 1) lo (.int (x ^^^ y) :: st)) : mm_T M own cc nx h kc ks pc lo (.int y :: .int x :: st) := by
  intro p e s m args below meth c H locs ad ad0 ls C A B L
  exact lv_ixor C.1 C.2.1 hd (k p e s m args below meth c H locs ad ad0 ls C A B L)
theorem mt_idiv {M : mm_M} {own : String} {cc : ByteArray} {nx : Nat} {h : Nat → mm_E} {kc ks pc : Nat} {lo : List (Option Value)} {st : List Value} {x y : Int32} (hd : decode cc pc = .ok (.idiv, 1)) (hne : ¬ y = 0) (k : mm_T M own cc nx h kc ks (pc + 1) lo (.int (x / y) :: st)) : mm_T M own cc nx h kc ks pc lo (.int y :: .int x :: st) := by
  intro p e s m args below meth c H locs ad ad0 ls C A B L
  exact lv_idiv C.1 C.2.1 hd hne (k p e s m args below meth c H locs ad ad0 ls C A B L)
theorem mt_irem {M : mm_M} {own : String} {cc : ByteArray} {nx : Nat} {h : Nat → mm_E} {kc ks pc : Nat} {lo : List (Option Value)} {st : List Value} {x y : Int32} (hd : decode cc pc = .ok (.irem, 1)) (hne : ¬ y = 0) (k : mm_T M own cc nx h kc ks (pc + 1) lo (.int (x - x / y * y) :: st)) : mm_T M own cc nx h kc ks pc lo (.int y :: .int x :: st) := by
  intro p e s m args below meth c H locs ad ad0 ls C A B L
  exact lv_irem C.1 C.2.1 hd hne (k p e s m args below meth c H locs ad ad0 ls C A B L)
theorem mt_ineg {M : mm_M} {own : String} {cc : ByteArray} {nx : Nat} {h : Nat → mm_E} {kc ks pc : Nat} {lo : List (Option Value)} {st : List Value} {x : Int32} (hd : decode cc pc = .ok (.ineg, 1))  (k : mm_T M own cc nx h kc ks (pc + 1) lo (.int (-x) :: st)) : mm_T M own cc nx h kc ks pc lo (.int x :: st) := by
  intro p e s m args below meth c H locs ad ad0 ls C A B L
  exact lv_ineg C.1 C.2.1 hd (k p e s m args below meth c H locs ad ad0 ls C A B L)
theorem mt_ladd {M : mm_M} {own : String} {cc : ByteArray} {nx : Nat} {h : Nat → mm_E} {kc ks pc : Nat} {lo : List (Option Value)} {st : List Value} {x y : Int64} (hd : decode cc pc = .ok (.ladd, 1))  (k : mm_T M own cc nx h kc ks (pc + 1) lo (.long (x + y) :: st)) : mm_T M own cc nx h kc ks pc lo (.long y :: .long x :: st) := by
  intro p e s m args below meth c H locs ad ad0 ls C A B L
  exact lv_ladd C.1 C.2.1 hd (k p e s m args below meth c H locs ad ad0 ls C A B L)
theorem mt_lsub {M : mm_M} {own : String} {cc : ByteArray} {nx : Nat} {h : Nat → mm_E} {kc ks pc : Nat} {lo : List (Option Value)} {st : List Value} {x y : Int64} (hd : decode cc pc = .ok (.lsub, 1))  (k : mm_T M own cc nx h kc ks (pc + 1) lo (.long (x - y) :: st)) : mm_T M own cc nx h kc ks pc lo (.long y :: .long x :: st) := by
  intro p e s m args below meth c H locs ad ad0 ls C A B L
  exact lv_lsub C.1 C.2.1 hd (k p e s m args below meth c H locs ad ad0 ls C A B L)
theorem mt_lmul {M : mm_M} {own : String} {cc : ByteArray} {nx : Nat} {h : Nat → mm_E} {kc ks pc : Nat} {lo : List (Option Value)} {st : List Value} {x y : Int64} (hd : decode cc pc = .ok (.lmul, 1))  (k : mm_T M own cc nx h kc ks (pc + 1) lo (.long (x * y) :: st)) : mm_T M own cc nx h kc ks pc lo (.long y :: .long x :: st) := by
  intro p e s m args below meth c H locs ad ad0 ls C A B L
  exact lv_lmul C.1 C.2.1 hd (k p e s m args below meth c H locs ad ad0 ls C A B L)
theorem mt_land {M : mm_M} {own : String} {cc : ByteArray} {nx : Nat} {h : Nat → mm_E} {kc ks pc : Nat} {lo : List (Option Value)} {st : List Value} {x y : Int64} (hd : decode cc pc = .ok (.land, 1))  (k : mm_T M own cc nx h kc ks (pc + 1) lo (.long (x &&& y) :: st)) : mm_T M own cc nx h kc ks pc lo (.long y :: .long x :: st) := by
  intro p e s m args below meth c H locs ad ad0 ls C A B L
  exact lv_land C.1 C.2.1 hd (k p e s m args below meth c H locs ad ad0 ls C A B L)
theorem mt_lor {M : mm_M} {own : String} {cc : ByteArray} {nx : Nat} {h : Nat → mm_E} {kc ks pc : Nat} {lo : List (Option Value)} {st : List Value} {x y : Int64} (hd : decode cc pc = .ok (.lor, 1))  (k : mm_T M own cc nx h kc ks (pc + 1) lo (.long (x ||| y) :: st)) : mm_T M own cc nx h kc ks pc lo (.long y :: .long x :: st) := by
  intro p e s m args below meth c H locs ad ad0 ls C A B L
  exact lv_lor C.1 C.2.1 hd (k p e s m args below meth c H locs ad ad0 ls C A B L)
theorem mt_ldiv {M : mm_M} {own : String} {cc : ByteArray} {nx : Nat} {h : Nat → mm_E} {kc ks pc : Nat} {lo : List (Option Value)} {st : List Value} {x y : Int64} (hd : decode cc pc = .ok (.ldiv, 1)) (hne : ¬ y = 0) (k : mm_T M own cc nx h kc ks (pc + 1) lo (.long (x / y) :: st)) : mm_T M own cc nx h kc ks pc lo (.long y :: .long x :: st) := by
  intro p e s m args below meth c H locs ad ad0 ls C A B L
  exact lv_ldiv C.1 C.2.1 hd hne (k p e s m args below meth c H locs ad ad0 ls C A B L)
theorem mt_lrem {M : mm_M} {own : String} {cc : ByteArray} {nx : Nat} {h : Nat → mm_E} {kc ks pc : Nat} {lo : List (Option Value)} {st : List Value} {x y : Int64} (hd : decode cc pc = .ok (.lrem, 1)) (hne : ¬ y = 0) (k : mm_T M own cc nx h kc ks (pc + 1) lo (.long (x - x / y * y) :: st)) : mm_T M own cc nx h kc ks pc lo (.long y :: .long x :: st) := by
  intro p e s m args below meth c H locs ad ad0 ls C A B L
  exact lv_lrem C.1 C.2.1 hd hne (k p e s m args below meth c H locs ad ad0 ls C A B L)
theorem mt_ishl {M : mm_M} {own : String} {cc : ByteArray} {nx : Nat} {h : Nat → mm_E} {kc ks pc : Nat} {lo : List (Option Value)} {st : List Value} {x y : Int32} (hd : decode cc pc = .ok (.ishl, 1))  (k : mm_T M own cc nx h kc ks (pc + 1) lo (.int (x <<< (y &&& 31)) :: st)) : mm_T M own cc nx h kc ks pc lo (.int y :: .int x :: st) := by
  intro p e s m args below meth c H locs ad ad0 ls C A B L
  exact lv_ishl C.1 C.2.1 hd (k p e s m args below meth c H locs ad ad0 ls C A B L)
theorem mt_ishr {M : mm_M} {own : String} {cc : ByteArray} {nx : Nat} {h : Nat → mm_E} {kc ks pc : Nat} {lo : List (Option Value)} {st : List Value} {x y : Int32} (hd : decode cc pc = .ok (.ishr, 1))  (k : mm_T M own cc nx h kc ks (pc + 1) lo (.int (x >>> (y &&& 31)) :: st)) : mm_T M own cc nx h kc ks pc lo (.int y :: .int x :: st) := by
  intro p e s m args below meth c H locs ad ad0 ls C A B L
  exact lv_ishr C.1 C.2.1 hd (k p e s m args below meth c H locs ad ad0 ls C A B L)
theorem mt_i2l {M : mm_M} {own : String} {cc : ByteArray} {nx : Nat} {h : Nat → mm_E} {kc ks pc : Nat} {lo : List (Option Value)} {st : List Value} {x : Int32} {v : Int64} (hd : decode cc pc = .ok (.i2l, 1)) (hv : x.toInt64 = v) (k : mm_T M own cc nx h kc ks (pc + 1) lo (.long v :: st)) : mm_T M own cc nx h kc ks pc lo (.int x :: st) := by
  intro p e s m args below meth c H locs ad ad0 ls C A B L
  exact lv_i2l C.1 C.2.1 hd hv (k p e s m args below meth c H locs ad ad0 ls C A B L)
theorem mt_l2i {M : mm_M} {own : String} {cc : ByteArray} {nx : Nat} {h : Nat → mm_E} {kc ks pc : Nat} {lo : List (Option Value)} {st : List Value} {x : Int64} {v : Int32} (hd : decode cc pc = .ok (.l2i, 1)) (hv : x.toInt32 = v) (k : mm_T M own cc nx h kc ks (pc + 1) lo (.int v :: st)) : mm_T M own cc nx h kc ks pc lo (.long x :: st) := by
  intro p e s m args below meth c H locs ad ad0 ls C A B L
  exact lv_l2i C.1 C.2.1 hd hv (k p e s m args below meth c H locs ad ad0 ls C A B L)
theorem mt_i2b {M : mm_M} {own : String} {cc : ByteArray} {nx : Nat} {h : Nat → mm_E} {kc ks pc : Nat} {lo : List (Option Value)} {st : List Value} {x : Int32} {v : Int32} (hd : decode cc pc = .ok (.i2b, 1)) (hv : x.toInt8.toInt32 = v) (k : mm_T M own cc nx h kc ks (pc + 1) lo (.int v :: st)) : mm_T M own cc nx h kc ks pc lo (.int x :: st) := by
  intro p e s m args below meth c H locs ad ad0 ls C A B L
  exact lv_i2b C.1 C.2.1 hd hv (k p e s m args below meth c H locs ad ad0 ls C A B L)
theorem mt_iushr {M : mm_M} {own : String} {cc : ByteArray} {nx : Nat} {h : Nat → mm_E} {kc ks pc : Nat} {lo : List (Option Value)} {st : List Value} {x y v : Int32} (hd : decode cc pc = .ok (.iushr, 1)) (hv : (x.toUInt32 >>> (y.toUInt32 &&& Int32.toUInt32 31)).toInt32 = v) (k : mm_T M own cc nx h kc ks (pc + 1) lo (.int v :: st)) : mm_T M own cc nx h kc ks pc lo (.int y :: .int x :: st) := by
  intro p e s m args below meth c H locs ad ad0 ls C A B L
  exact lv_iushr C.1 C.2.1 hd hv (k p e s m args below meth c H locs ad ad0 ls C A B L)
theorem mt_lushr {M : mm_M} {own : String} {cc : ByteArray} {nx : Nat} {h : Nat → mm_E} {kc ks pc : Nat} {lo : List (Option Value)} {st : List Value} {x v : Int64} {y : Int32} (hd : decode cc pc = .ok (.lushr, 1)) (hv : (x.toUInt64 >>> (y.toInt64.toUInt64 &&& Int64.toUInt64 63)).toInt64 = v) (k : mm_T M own cc nx h kc ks (pc + 1) lo (.long v :: st)) : mm_T M own cc nx h kc ks pc lo (.int y :: .long x :: st) := by
  intro p e s m args below meth c H locs ad ad0 ls C A B L
  exact lv_lushr C.1 C.2.1 hd hv (k p e s m args below meth c H locs ad ad0 ls C A B L)
theorem mt_lshl {M : mm_M} {own : String} {cc : ByteArray} {nx : Nat} {h : Nat → mm_E} {kc ks pc : Nat} {lo : List (Option Value)} {st : List Value} {x v : Int64} {y : Int32} (hd : decode cc pc = .ok (.lshl, 1)) (hv : x <<< (y.toInt64 &&& 63) = v) (k : mm_T M own cc nx h kc ks (pc + 1) lo (.long v :: st)) : mm_T M own cc nx h kc ks pc lo (.int y :: .long x :: st) := by
  intro p e s m args below meth c H locs ad ad0 ls C A B L
  exact lv_lshl C.1 C.2.1 hd hv (k p e s m args below meth c H locs ad ad0 ls C A B L)
theorem mt_lshr {M : mm_M} {own : String} {cc : ByteArray} {nx : Nat} {h : Nat → mm_E} {kc ks pc : Nat} {lo : List (Option Value)} {st : List Value} {x v : Int64} {y : Int32} (hd : decode cc pc = .ok (.lshr, 1)) (hv : x >>> (y.toInt64 &&& 63) = v) (k : mm_T M own cc nx h kc ks (pc + 1) lo (.long v :: st)) : mm_T M own cc nx h kc ks pc lo (.int y :: .long x :: st) := by
  intro p e s m args below meth c H locs ad ad0 ls C A B L
  exact lv_lshr C.1 C.2.1 hd hv (k p e s m args below meth c H locs ad ad0 ls C A B L)
theorem mt_null {M : mm_M} {own : String} {cc : ByteArray} {nx : Nat} {h : Nat → mm_E} {kc ks pc : Nat} {lo : List (Option Value)} {st : List Value} (hd : decode cc pc = .ok (.aconst_null, 1))  (k : mm_T M own cc nx h kc ks (pc + 1) lo (.null :: st)) : mm_T M own cc nx h kc ks pc lo st := by
  intro p e s m args below meth c H locs ad ad0 ls C A B L
  exact lv_null C.1 C.2.1 hd (k p e s m args below meth c H locs ad ad0 ls C A B L)
theorem mt_iload {M : mm_M} {own : String} {cc : ByteArray} {nx : Nat} {h : Nat → mm_E} {kc ks pc : Nat} {lo : List (Option Value)} {st : List Value} {i : Nat} {x : Int32} (hd : decode cc pc = .ok (.iload i, 2)) (hl : lo[i]? = some (some (.int x))) (k : mm_T M own cc nx h kc ks (pc + 2) lo (.int x :: st)) : mm_T M own cc nx h kc ks pc lo st := by
  intro p e s m args below meth c H locs ad ad0 ls C A B L
  exact lv_iload C.1 C.2.1 hd (L.2.2 i _ hl) (k p e s m args below meth c H locs ad ad0 ls C A B L)
theorem mt_iload_n {M : mm_M} {own : String} {cc : ByteArray} {nx : Nat} {h : Nat → mm_E} {kc ks pc : Nat} {lo : List (Option Value)} {st : List Value} {i : Fin 4} {x : Int32} (hd : decode cc pc = .ok (.iload_n i, 1)) (hl : lo[(i : Nat)]? = some (some (.int x))) (k : mm_T M own cc nx h kc ks (pc + 1) lo (.int x :: st)) : mm_T M own cc nx h kc ks pc lo st := by
  intro p e s m args below meth c H locs ad ad0 ls C A B L
  exact lv_iload_n C.1 C.2.1 hd rfl (L.2.2 i _ hl) (k p e s m args below meth c H locs ad ad0 ls C A B L)
theorem mt_lload {M : mm_M} {own : String} {cc : ByteArray} {nx : Nat} {h : Nat → mm_E} {kc ks pc : Nat} {lo : List (Option Value)} {st : List Value} {i : Nat} {x : Int64} (hd : decode cc pc = .ok (.lload i, 2)) (hl : lo[i]? = some (some (.long x))) (k : mm_T M own cc nx h kc ks (pc + 2) lo (.long x :: st)) : mm_T M own cc nx h kc ks pc lo st := by
  intro p e s m args below meth c H locs ad ad0 ls C A B L
  exact lv_lload C.1 C.2.1 hd (L.2.2 i _ hl) (k p e s m args below meth c H locs ad ad0 ls C A B L)
theorem mt_lload_n {M : mm_M} {own : String} {cc : ByteArray} {nx : Nat} {h : Nat → mm_E} {kc ks pc : Nat} {lo : List (Option Value)} {st : List Value} {i : Fin 4} {x : Int64} (hd : decode cc pc = .ok (.lload_n i, 1)) (hl : lo[(i : Nat)]? = some (some (.long x))) (k : mm_T M own cc nx h kc ks (pc + 1) lo (.long x :: st)) : mm_T M own cc nx h kc ks pc lo st := by
  intro p e s m args below meth c H locs ad ad0 ls C A B L
  exact lv_lload_n C.1 C.2.1 hd rfl (L.2.2 i _ hl) (k p e s m args below meth c H locs ad ad0 ls C A B L)
theorem mt_aload {M : mm_M} {own : String} {cc : ByteArray} {nx : Nat} {h : Nat → mm_E} {kc ks pc : Nat} {lo : List (Option Value)} {st : List Value} {i : Nat} {x : Nat} (hd : decode cc pc = .ok (.aload i, 2)) (hl : lo[i]? = some (some (.ref x))) (k : mm_T M own cc nx h kc ks (pc + 2) lo (.ref x :: st)) : mm_T M own cc nx h kc ks pc lo st := by
  intro p e s m args below meth c H locs ad ad0 ls C A B L
  exact lv_aload C.1 C.2.1 hd (L.2.2 i _ hl) (k p e s m args below meth c H locs ad ad0 ls C A B L)
theorem mt_aload_n {M : mm_M} {own : String} {cc : ByteArray} {nx : Nat} {h : Nat → mm_E} {kc ks pc : Nat} {lo : List (Option Value)} {st : List Value} {i : Fin 4} {x : Nat} (hd : decode cc pc = .ok (.aload_n i, 1)) (hl : lo[(i : Nat)]? = some (some (.ref x))) (k : mm_T M own cc nx h kc ks (pc + 1) lo (.ref x :: st)) : mm_T M own cc nx h kc ks pc lo st := by
  intro p e s m args below meth c H locs ad ad0 ls C A B L
  exact lv_aload_n C.1 C.2.1 hd rfl (L.2.2 i _ hl) (k p e s m args below meth c H locs ad ad0 ls C A B L)
theorem mt_istore {M : mm_M} {own : String} {cc : ByteArray} {nx : Nat} {h : Nat → mm_E} {kc ks pc : Nat} {lo : List (Option Value)} {st : List Value} {i : Nat} {x : Int32} (hd : decode cc pc = .ok (.istore i, 2)) (hn : (i : Nat) < mm_nL M) (hp : mm_ok1 lo i = true) (k : mm_T M own cc nx h kc ks (pc + 2) (lo.set i (some (.int x))) st) : mm_T M own cc nx h kc ks pc lo (.int x :: st) := by
  intro p e s m args below meth c H locs ad ad0 ls C A B L
  exact lv_istore C.1 C.2.1 hd L.has hn rfl (fun ls' hl' => k p e s m args below meth c H locs ad ad0 ls' C A B (mm_L.store1 (v := .int x) hp hl'))
theorem mt_istore_n {M : mm_M} {own : String} {cc : ByteArray} {nx : Nat} {h : Nat → mm_E} {kc ks pc : Nat} {lo : List (Option Value)} {st : List Value} {i : Fin 4} {x : Int32} (hd : decode cc pc = .ok (.istore_n i, 1)) (hn : (i : Nat) < mm_nL M) (hp : mm_ok1 lo i = true) (k : mm_T M own cc nx h kc ks (pc + 1) (lo.set i (some (.int x))) st) : mm_T M own cc nx h kc ks pc lo (.int x :: st) := by
  intro p e s m args below meth c H locs ad ad0 ls C A B L
  exact lv_istore_n C.1 C.2.1 hd rfl L.has hn rfl (fun ls' hl' => k p e s m args below meth c H locs ad ad0 ls' C A B (mm_L.store1 (v := .int x) hp hl'))
theorem mt_astore {M : mm_M} {own : String} {cc : ByteArray} {nx : Nat} {h : Nat → mm_E} {kc ks pc : Nat} {lo : List (Option Value)} {st : List Value} {i : Nat} {x : Nat} (hd : decode cc pc = .ok (.astore i, 2)) (hn : (i : Nat) < mm_nL M) (hp : mm_ok1 lo i = true) (k : mm_T M own cc nx h kc ks (pc + 2) (lo.set i (some (.ref x))) st) : mm_T M own cc nx h kc ks pc lo (.ref x :: st) := by
  intro p e s m args below meth c H locs ad ad0 ls C A B L
  exact lv_astore C.1 C.2.1 hd L.has hn rfl (fun ls' hl' => k p e s m args below meth c H locs ad ad0 ls' C A B (mm_L.store1 (v := .ref x) hp hl'))
theorem mt_astore_n {M : mm_M} {own : String} {cc : ByteArray} {nx : Nat} {h : Nat → mm_E} {kc ks pc : Nat} {lo : List (Option Value)} {st : List Value} {i : Fin 4} {x : Nat} (hd : decode cc pc = .ok (.astore_n i, 1)) (hn : (i : Nat) < mm_nL M) (hp : mm_ok1 lo i = true) (k : mm_T M own cc nx h kc ks (pc + 1) (lo.set i (some (.ref x))) st) : mm_T M own cc nx h kc ks pc lo (.ref x :: st) := by
  intro p e s m args below meth c H locs ad ad0 ls C A B L
  exact lv_astore_n C.1 C.2.1 hd rfl L.has hn rfl (fun ls' hl' => k p e s m args below meth c H locs ad ad0 ls' C A B (mm_L.store1 (v := .ref x) hp hl'))
theorem mt_lstore {M : mm_M} {own : String} {cc : ByteArray} {nx : Nat} {h : Nat → mm_E} {kc ks pc : Nat} {lo : List (Option Value)} {st : List Value} {i : Nat} {x : Int64} (hd : decode cc pc = .ok (.lstore i, 2)) (hn : (i : Nat) + 1 < mm_nL M) (hp : mm_ok1 lo i = true) (k : mm_T M own cc nx h kc ks (pc + 2) ((lo.set i (some (.long x))).set (i + 1) none) st) : mm_T M own cc nx h kc ks pc lo (.long x :: st) := by
  intro p e s m args below meth c H locs ad ad0 ls C A B L
  exact lv_lstore C.1 C.2.1 hd L.has hn rfl (fun ls' hl' => k p e s m args below meth c H locs ad ad0 ls' C A B (mm_L.store2 (v := .long x) hp hl'))
theorem mt_lstore_n {M : mm_M} {own : String} {cc : ByteArray} {nx : Nat} {h : Nat → mm_E} {kc ks pc : Nat} {lo : List (Option Value)} {st : List Value} {i : Fin 4} {x : Int64} (hd : decode cc pc = .ok (.lstore_n i, 1)) (hn : (i : Nat) + 1 < mm_nL M) (hp : mm_ok1 lo i = true) (k : mm_T M own cc nx h kc ks (pc + 1) ((lo.set i (some (.long x))).set (i + 1) none) st) : mm_T M own cc nx h kc ks pc lo (.long x :: st) := by
  intro p e s m args below meth c H locs ad ad0 ls C A B L
  exact lv_lstore_n C.1 C.2.1 hd rfl L.has hn rfl (fun ls' hl' => k p e s m args below meth c H locs ad ad0 ls' C A B (mm_L.store2 (v := .long x) hp hl'))
theorem mt_iinc {M : mm_M} {own : String} {cc : ByteArray} {nx : Nat} {h : Nat → mm_E} {kc ks pc : Nat} {lo : List (Option Value)} {st : List Value} {i : Nat} {n : Int} {x c9 : Int32} (hd : decode cc pc = .ok (.iinc i n, 3)) (hl : lo[i]? = some (some (.int x))) (hv : Int32.ofInt n = c9) (hn : i < mm_nL M) (hp : mm_ok1 lo i = true) (k : mm_T M own cc nx h kc ks (pc + 3) (lo.set i (some (.int (x + c9)))) st) : mm_T M own cc nx h kc ks pc lo st := by
  intro p e s m args below meth c H locs ad ad0 ls C A B L
  obtain ⟨k0, hk0⟩ := List.getElem?_of_mem (mm_as_mem (ad := ad) hl)
  exact lv_iinc C.1 C.2.1 hd L.has hk0 (by rw [hv]) hn rfl (fun ls' hl' => k p e s m args below meth c H locs ad ad0 ls' C A B (mm_L.store1 (v := .int (x + c9)) hp hl'))
theorem mt_dup {M : mm_M} {own : String} {cc : ByteArray} {nx : Nat} {h : Nat → mm_E} {kc ks pc : Nat} {lo : List (Option Value)} {st : List Value} {v : Value} (hd : decode cc pc = .ok (.dup, 1)) (hc : v.category = 1) (k : mm_T M own cc nx h kc ks (pc + 1) lo (v :: v :: st)) : mm_T M own cc nx h kc ks pc lo (v :: st) := by
  intro p e s m args below meth c H locs ad ad0 ls C A B L
  exact lv_dup C.1 C.2.1 hd (by rw [mm_rv_cat]; exact hc) (k p e s m args below meth c H locs ad ad0 ls C A B L)
theorem mt_pop {M : mm_M} {own : String} {cc : ByteArray} {nx : Nat} {h : Nat → mm_E} {kc ks pc : Nat} {lo : List (Option Value)} {st : List Value} {v : Value} (hd : decode cc pc = .ok (.pop, 1)) (hc : v.category = 1) (k : mm_T M own cc nx h kc ks (pc + 1) lo st) : mm_T M own cc nx h kc ks pc lo (v :: st) := by
  intro p e s m args below meth c H locs ad ad0 ls C A B L
  exact lv_pop C.1 C.2.1 hd (by rw [mm_rv_cat]; exact hc) (k p e s m args below meth c H locs ad ad0 ls C A B L)
theorem mt_dup_x1 {M : mm_M} {own : String} {cc : ByteArray} {nx : Nat} {h : Nat → mm_E} {kc ks pc : Nat} {lo : List (Option Value)} {st : List Value} {v w : Value} (hd : decode cc pc = .ok (.dup_x1, 1)) (hc : v.category = 1) (hc2 : w.category = 1) (k : mm_T M own cc nx h kc ks (pc + 1) lo (v :: w :: v :: st)) : mm_T M own cc nx h kc ks pc lo (v :: w :: st) := by
  intro p e s m args below meth c H locs ad ad0 ls C A B L
  exact lv_dup_x1 C.1 C.2.1 hd (by rw [mm_rv_cat]; exact hc) (by rw [mm_rv_cat]; exact hc2) (k p e s m args below meth c H locs ad ad0 ls C A B L)
theorem mt_dup2 {M : mm_M} {own : String} {cc : ByteArray} {nx : Nat} {h : Nat → mm_E} {kc ks pc : Nat} {lo : List (Option Value)} {st : List Value} {v w : Value} (hd : decode cc pc = .ok (.dup2, 1)) (hc : v.category = 1) (hc2 : w.category = 1) (k : mm_T M own cc nx h kc ks (pc + 1) lo (v :: w :: v :: w :: st)) : mm_T M own cc nx h kc ks pc lo (v :: w :: st) := by
  intro p e s m args below meth c H locs ad ad0 ls C A B L
  exact lv_dup2_11 C.1 C.2.1 hd (by rw [mm_rv_cat]; exact hc) (by rw [mm_rv_cat]; exact hc2) (k p e s m args below meth c H locs ad ad0 ls C A B L)
theorem mt_if_eq {M : mm_M} {own : String} {cc : ByteArray} {nx : Nat} {h : Nat → mm_E} {kc ks pc : Nat} {lo : List (Option Value)} {st : List Value} {x : Int32} {off : Int} {tgt : Nat} (hd : decode cc pc = .ok (.ifCond .eq off, 3)) (ht : (pc : Int) + off = (tgt : Int)) (kt : x = 0 → mm_T M own cc nx h kc ks tgt lo st) (kf : ¬ x = 0 → mm_T M own cc nx h kc ks (pc + 3) lo st) : mm_T M own cc nx h kc ks pc lo (.int x :: st) := by
  intro p e s m args below meth c H locs ad ad0 ls C A B L
  exact lv_if_eq C.1 C.2.1 hd ht (fun z => kt z p e s m args below meth c H locs ad ad0 ls C A B L) (fun z => kf z p e s m args below meth c H locs ad ad0 ls C A B L)
theorem mt_if_ne {M : mm_M} {own : String} {cc : ByteArray} {nx : Nat} {h : Nat → mm_E} {kc ks pc : Nat} {lo : List (Option Value)} {st : List Value} {x : Int32} {off : Int} {tgt : Nat} (hd : decode cc pc = .ok (.ifCond .ne off, 3)) (ht : (pc : Int) + off = (tgt : Int)) (kt : ¬ x = 0 → mm_T M own cc nx h kc ks tgt lo st) (kf : x = 0 → mm_T M own cc nx h kc ks (pc + 3) lo st) : mm_T M own cc nx h kc ks pc lo (.int x :: st) := by
  intro p e s m args below meth c H locs ad ad0 ls C A B L
  exact lv_if_ne C.1 C.2.1 hd ht (fun z => kt z p e s m args below meth c H locs ad ad0 ls C A B L) (fun z => kf z p e s m args below meth c H locs ad ad0 ls C A B L)
theorem mt_if_lt {M : mm_M} {own : String} {cc : ByteArray} {nx : Nat} {h : Nat → mm_E} {kc ks pc : Nat} {lo : List (Option Value)} {st : List Value} {x : Int32} {off : Int} {tgt : Nat} (hd : decode cc pc = .ok (.ifCond .lt off, 3)) (ht : (pc : Int) + off = (tgt : Int)) (kt : x < 0 → mm_T M own cc nx h kc ks tgt lo st) (kf : ¬ x < 0 → mm_T M own cc nx h kc ks (pc + 3) lo st) : mm_T M own cc nx h kc ks pc lo (.int x :: st) := by
  intro p e s m args below meth c H locs ad ad0 ls C A B L
  exact lv_if_lt C.1 C.2.1 hd ht (fun z => kt z p e s m args below meth c H locs ad ad0 ls C A B L) (fun z => kf z p e s m args below meth c H locs ad ad0 ls C A B L)
theorem mt_if_ge {M : mm_M} {own : String} {cc : ByteArray} {nx : Nat} {h : Nat → mm_E} {kc ks pc : Nat} {lo : List (Option Value)} {st : List Value} {x : Int32} {off : Int} {tgt : Nat} (hd : decode cc pc = .ok (.ifCond .ge off, 3)) (ht : (pc : Int) + off = (tgt : Int)) (kt : 0 ≤ x → mm_T M own cc nx h kc ks tgt lo st) (kf : ¬ 0 ≤ x → mm_T M own cc nx h kc ks (pc + 3) lo st) : mm_T M own cc nx h kc ks pc lo (.int x :: st) := by
  intro p e s m args below meth c H locs ad ad0 ls C A B L
  exact lv_if_ge C.1 C.2.1 hd ht (fun z => kt z p e s m args below meth c H locs ad ad0 ls C A B L) (fun z => kf z p e s m args below meth c H locs ad ad0 ls C A B L)
theorem mt_if_gt {M : mm_M} {own : String} {cc : ByteArray} {nx : Nat} {h : Nat → mm_E} {kc ks pc : Nat} {lo : List (Option Value)} {st : List Value} {x : Int32} {off : Int} {tgt : Nat} (hd : decode cc pc = .ok (.ifCond .gt off, 3)) (ht : (pc : Int) + off = (tgt : Int)) (kt : 0 < x → mm_T M own cc nx h kc ks tgt lo st) (kf : ¬ 0 < x → mm_T M own cc nx h kc ks (pc + 3) lo st) : mm_T M own cc nx h kc ks pc lo (.int x :: st) := by
  intro p e s m args below meth c H locs ad ad0 ls C A B L
  exact lv_if_gt C.1 C.2.1 hd ht (fun z => kt z p e s m args below meth c H locs ad ad0 ls C A B L) (fun z => kf z p e s m args below meth c H locs ad ad0 ls C A B L)
theorem mt_if_le {M : mm_M} {own : String} {cc : ByteArray} {nx : Nat} {h : Nat → mm_E} {kc ks pc : Nat} {lo : List (Option Value)} {st : List Value} {x : Int32} {off : Int} {tgt : Nat} (hd : decode cc pc = .ok (.ifCond .le off, 3)) (ht : (pc : Int) + off = (tgt : Int)) (kt : x ≤ 0 → mm_T M own cc nx h kc ks tgt lo st) (kf : ¬ x ≤ 0 → mm_T M own cc nx h kc ks (pc + 3) lo st) : mm_T M own cc nx h kc ks pc lo (.int x :: st) := by
  intro p e s m args below meth c H locs ad ad0 ls C A B L
  exact lv_if_le C.1 C.2.1 hd ht (fun z => kt z p e s m args below meth c H locs ad ad0 ls C A B L) (fun z => kf z p e s m args below meth c H locs ad ad0 ls C A B L)
theorem mt_icmp_eq {M : mm_M} {own : String} {cc : ByteArray} {nx : Nat} {h : Nat → mm_E} {kc ks pc : Nat} {lo : List (Option Value)} {st : List Value} {x y : Int32} {off : Int} {tgt : Nat} (hd : decode cc pc = .ok (.if_icmp .eq off, 3)) (ht : (pc : Int) + off = (tgt : Int)) (kt : x = y → mm_T M own cc nx h kc ks tgt lo st) (kf : ¬ x = y → mm_T M own cc nx h kc ks (pc + 3) lo st) : mm_T M own cc nx h kc ks pc lo (.int y :: .int x :: st) := by
  intro p e s m args below meth c H locs ad ad0 ls C A B L
  exact lv_icmp_eq C.1 C.2.1 hd ht (fun z => kt z p e s m args below meth c H locs ad ad0 ls C A B L) (fun z => kf z p e s m args below meth c H locs ad ad0 ls C A B L)
theorem mt_icmp_ne {M : mm_M} {own : String} {cc : ByteArray} {nx : Nat} {h : Nat → mm_E} {kc ks pc : Nat} {lo : List (Option Value)} {st : List Value} {x y : Int32} {off : Int} {tgt : Nat} (hd : decode cc pc = .ok (.if_icmp .ne off, 3)) (ht : (pc : Int) + off = (tgt : Int)) (kt : ¬ x = y → mm_T M own cc nx h kc ks tgt lo st) (kf : x = y → mm_T M own cc nx h kc ks (pc + 3) lo st) : mm_T M own cc nx h kc ks pc lo (.int y :: .int x :: st) := by
  intro p e s m args below meth c H locs ad ad0 ls C A B L
  exact lv_icmp_ne C.1 C.2.1 hd ht (fun z => kt z p e s m args below meth c H locs ad ad0 ls C A B L) (fun z => kf z p e s m args below meth c H locs ad ad0 ls C A B L)
theorem mt_icmp_lt {M : mm_M} {own : String} {cc : ByteArray} {nx : Nat} {h : Nat → mm_E} {kc ks pc : Nat} {lo : List (Option Value)} {st : List Value} {x y : Int32} {off : Int} {tgt : Nat} (hd : decode cc pc = .ok (.if_icmp .lt off, 3)) (ht : (pc : Int) + off = (tgt : Int)) (kt : x < y → mm_T M own cc nx h kc ks tgt lo st) (kf : ¬ x < y → mm_T M own cc nx h kc ks (pc + 3) lo st) : mm_T M own cc nx h kc ks pc lo (.int y :: .int x :: st) := by
  intro p e s m args below meth c H locs ad ad0 ls C A B L
  exact lv_icmp_lt C.1 C.2.1 hd ht (fun z => kt z p e s m args below meth c H locs ad ad0 ls C A B L) (fun z => kf z p e s m args below meth c H locs ad ad0 ls C A B L)
theorem mt_icmp_ge {M : mm_M} {own : String} {cc : ByteArray} {nx : Nat} {h : Nat → mm_E} {kc ks pc : Nat} {lo : List (Option Value)} {st : List Value} {x y : Int32} {off : Int} {tgt : Nat} (hd : decode cc pc = .ok (.if_icmp .ge off, 3)) (ht : (pc : Int) + off = (tgt : Int)) (kt : y ≤ x → mm_T M own cc nx h kc ks tgt lo st) (kf : ¬ y ≤ x → mm_T M own cc nx h kc ks (pc + 3) lo st) : mm_T M own cc nx h kc ks pc lo (.int y :: .int x :: st) := by
  intro p e s m args below meth c H locs ad ad0 ls C A B L
  exact lv_icmp_ge C.1 C.2.1 hd ht (fun z => kt z p e s m args below meth c H locs ad ad0 ls C A B L) (fun z => kf z p e s m args below meth c H locs ad ad0 ls C A B L)
theorem mt_icmp_gt {M : mm_M} {own : String} {cc : ByteArray} {nx : Nat} {h : Nat → mm_E} {kc ks pc : Nat} {lo : List (Option Value)} {st : List Value} {x y : Int32} {off : Int} {tgt : Nat} (hd : decode cc pc = .ok (.if_icmp .gt off, 3)) (ht : (pc : Int) + off = (tgt : Int)) (kt : y < x → mm_T M own cc nx h kc ks tgt lo st) (kf : ¬ y < x → mm_T M own cc nx h kc ks (pc + 3) lo st) : mm_T M own cc nx h kc ks pc lo (.int y :: .int x :: st) := by
  intro p e s m args below meth c H locs ad ad0 ls C A B L
  exact lv_icmp_gt C.1 C.2.1 hd ht (fun z => kt z p e s m args below meth c H locs ad ad0 ls C A B L) (fun z => kf z p e s m args below meth c H locs ad ad0 ls C A B L)
theorem mt_icmp_le {M : mm_M} {own : String} {cc : ByteArray} {nx : Nat} {h : Nat → mm_E} {kc ks pc : Nat} {lo : List (Option Value)} {st : List Value} {x y : Int32} {off : Int} {tgt : Nat} (hd : decode cc pc = .ok (.if_icmp .le off, 3)) (ht : (pc : Int) + off = (tgt : Int)) (kt : x ≤ y → mm_T M own cc nx h kc ks tgt lo st) (kf : ¬ x ≤ y → mm_T M own cc nx h kc ks (pc + 3) lo st) : mm_T M own cc nx h kc ks pc lo (.int y :: .int x :: st) := by
  intro p e s m args below meth c H locs ad ad0 ls C A B L
  exact lv_icmp_le C.1 C.2.1 hd ht (fun z => kt z p e s m args below meth c H locs ad ad0 ls C A B L) (fun z => kf z p e s m args below meth c H locs ad ad0 ls C A B L)
theorem mt_goto {M : mm_M} {own : String} {cc : ByteArray} {nx : Nat} {h : Nat → mm_E} {kc ks pc : Nat} {lo : List (Option Value)} {st : List Value} {off : Int} {tgt : Nat} (hd : decode cc pc = .ok (.goto off, 3)) (ht : (pc : Int) + off = (tgt : Int)) (k : mm_T M own cc nx h kc ks tgt lo st) : mm_T M own cc nx h kc ks pc lo st := by
  intro p e s m args below meth c H locs ad ad0 ls C A B L
  exact lv_goto C.1 C.2.1 hd ht (k p e s m args below meth c H locs ad ad0 ls C A B L)
theorem mt_tableOut {M : mm_M} {own : String} {cc : ByteArray} {nx : Nat} {h : Nat → mm_E} {kc ks pc : Nat} {lo : List (Option Value)} {st : List Value} {dflt lw hi : Int} {offs : Array Int} {len : Nat} {x : Int32} {tgt : Nat} (hd : decode cc pc = .ok (.tableswitch dflt lw hi offs, len)) (hx : x.toInt < lw ∨ hi < x.toInt) (ht : (pc : Int) + dflt = (tgt : Int)) (k : mm_T M own cc nx h kc ks tgt lo st) : mm_T M own cc nx h kc ks pc lo (.int x :: st) := by
  intro p e s m args below meth c H locs ad ad0 ls C A B L
  exact lv_tableOut C.1 C.2.1 hd hx ht (k p e s m args below meth c H locs ad ad0 ls C A B L)
theorem mt_tableIn {M : mm_M} {own : String} {cc : ByteArray} {nx : Nat} {h : Nat → mm_E} {kc ks pc : Nat} {lo : List (Option Value)} {st : List Value} {dflt lw hi : Int} {offs : Array Int} {len : Nat} {x : Int32} {off : Int} {tgt : Nat} (hd : decode cc pc = .ok (.tableswitch dflt lw hi offs, len)) (h1 : ¬ x.toInt < lw) (h2 : ¬ hi < x.toInt) (ho : offs[(x.toInt - lw).toNat]? = some off) (ht : (pc : Int) + off = (tgt : Int)) (k : mm_T M own cc nx h kc ks tgt lo st) : mm_T M own cc nx h kc ks pc lo (.int x :: st) := by
  intro p e s m args below meth c H locs ad ad0 ls C A B L
  exact lv_tableIn C.1 C.2.1 hd h1 h2 ho ht (k p e s m args below meth c H locs ad ad0 ls C A B L)
theorem mt_lcmp {M : mm_M} {own : String} {cc : ByteArray} {nx : Nat} {h : Nat → mm_E} {kc ks pc : Nat} {lo : List (Option Value)} {st : List Value} {x y : Int64} (hd : decode cc pc = .ok (.lcmp, 1)) (k : mm_T M own cc nx h kc ks (pc + 1) lo (.int (lg_cmp x y) :: st)) : mm_T M own cc nx h kc ks pc lo (.long y :: .long x :: st) := by
  intro p e s m args below meth c H locs ad ad0 ls C A B L
  exact W.lcmp C.1 C.2.1 hd (k p e s m args below meth c H locs ad ad0 ls C A B L)
theorem mt_ldc {M : mm_M} {own : String} {cc : ByteArray} {nx : Nat} {h : Nat → mm_E} {kc ks pc : Nat} {lo : List (Option Value)} {st : List Value} {index : Nat} {v : Int32} (hc : Cond.constant own index v ∈ mm_ws) (hd : decode cc pc = .ok (.ldc index, 2)) (k : mm_T M own cc nx h kc ks (pc + 2) lo (.int v :: st)) : mm_T M own cc nx h kc ks pc lo st := by
  intro p e s m args below meth c H locs ad ad0 ls C A B L
  exact lv_ldc C.1 C.2.1 C.2.2.2.2.1 (C.2.2.2.2.2.1 _ hc) hd (k p e s m args below meth c H locs ad ad0 ls C A B L)
theorem mt_ldcw {M : mm_M} {own : String} {cc : ByteArray} {nx : Nat} {h : Nat → mm_E} {kc ks pc : Nat} {lo : List (Option Value)} {st : List Value} {index : Nat} {v : Int32} (hc : Cond.constant own index v ∈ mm_ws) (hd : decode cc pc = .ok (.ldc_w index, 3)) (k : mm_T M own cc nx h kc ks (pc + 3) lo (.int v :: st)) : mm_T M own cc nx h kc ks pc lo st := by
  intro p e s m args below meth c H locs ad ad0 ls C A B L
  exact lv_ldcw C.1 C.2.1 C.2.2.2.2.1 (C.2.2.2.2.2.1 _ hc) hd (k p e s m args below meth c H locs ad ad0 ls C A B L)
theorem mt_ldc2 {M : mm_M} {own : String} {cc : ByteArray} {nx : Nat} {h : Nat → mm_E} {kc ks pc : Nat} {lo : List (Option Value)} {st : List Value} {index : Nat} {v : Int64} (hc : Cond.constantLong own index v ∈ mm_ws) (hd : decode cc pc = .ok (.ldc2_w index, 3)) (k : mm_T M own cc nx h kc ks (pc + 3) lo (.long v :: st)) : mm_T M own cc nx h kc ks pc lo st := by
  intro p e s m args below meth c H locs ad ad0 ls C A B L
  exact lv_ldc2 C.1 C.2.1 C.2.2.2.2.1 (C.2.2.2.2.2.1 _ hc) hd (k p e s m args below meth c H locs ad ad0 ls C A B L)
