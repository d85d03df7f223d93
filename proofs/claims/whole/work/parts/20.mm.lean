/-! A small logic over the machine: one world of cells by number, one judgement for a frame, one for a method. -/
/-- a cell by its number: an array (kind, length, contents) or an object (class, fields); a reference is a number -/
abbrev mm_E : Type := (Nat × vp_A) ⊕ (Nat × List Value)
/-- how a method ends: a value, or an exception (0: no such element, 1: bad argument) -/
abbrev mm_O : Type := Option Value ⊕ Nat
def mm_rv (ad : Nat → Nat) : Value → Value
  | .ref i => .ref (ad i)
  | v => v
def mm_ra (ad : Nat → Nat) : vp_A → vp_A
  | (n, .inr (.inr (.inr (.inr f)))) => (n, .inr (.inr (.inr (.inr (fun j => (f j).map ad)))))
  | a => a
def mm_re (ad : Nat → Nat) (cA : Nat → ClassId) : mm_E → va_E
  | .inl (k, a) => .inl (cA k, mm_ra ad a)
  | .inr (ci, fs) => .inr (ci, fs.map (mm_rv ad))
def mm_w (ad : Nat → Nat) (cA : Nat → ClassId) (nx : Nat) (h : Nat → mm_E) : va_W := (List.range nx).map fun i => (ad i, mm_re ad cA (h i))
def hset (h : Nat → mm_E) (i : Nat) (e : mm_E) : Nat → mm_E := fun j => if j = i then e else h j
theorem hset_eq (h : Nat → mm_E) (i : Nat) (e : mm_E) : hset h i e i = e := by simp [hset]
theorem hset_ne {h : Nat → mm_E} {i j : Nat} {e : mm_E} (hn : j ≠ i) : hset h i e j = h j := by simp [hset, hn]
theorem hset_hset (h : Nat → mm_E) (i : Nat) (e f : mm_E) : hset (hset h i e) i f = hset h i f := by
  funext j
  simp only [hset]
  split <;> rfl
theorem hset_self {h : Nat → mm_E} {i : Nat} {e : mm_E} (he : h i = e) : hset h i e = h := by
  funext j
  simp only [hset]
  split
  · next q => rw [q, he]
  · rfl
theorem hset_swap (h : Nat → mm_E) {i j : Nat} (hn : i ≠ j) (e f : mm_E) : hset (hset h i e) j f = hset (hset h j f) i e := by
  funext q
  simp only [hset]
  split
  · next q1 => rw [if_neg (fun q2 => hn (q2.symm.trans q1))]
  · rfl
theorem mm_w_get {ad : Nat → Nat} {cA : Nat → ClassId} {nx : Nat} {h : Nat → mm_E} {i : Nat} (hi : i < nx) : (mm_w ad cA nx h)[i]? = some (ad i, mm_re ad cA (h i)) := by
  simp [mm_w, hi]
theorem mm_w_set {ad : Nat → Nat} {cA : Nat → ClassId} {nx : Nat} {h : Nat → mm_E} {i : Nat} (e : mm_E) : (mm_w ad cA nx h).set i (ad i, mm_re ad cA e) = mm_w ad cA nx (hset h i e) := by
  apply List.ext_getElem?
  intro j
  rw [List.getElem?_set]
  by_cases hij : i = j
  · subst hij
    by_cases hi : i < nx
    · rw [mm_w_get (h := hset h i e) hi, hset_eq]
      simp [mm_w, hi]
    · simp [mm_w, hi]
  · rw [if_neg hij]
    by_cases hj : j < nx
    · rw [mm_w_get hj, mm_w_get hj, hset_ne (Ne.symm hij)]
    · simp [mm_w, hj]
/-- what is fixed: classes and slots, array classes, the state at the law's start, the addresses of what lies outside -/
abbrev mm_G : Type := va_G × (Nat → ClassId) × State × (Nat → Nat)
abbrev mm_D (G : mm_G) : va_G := G.1
abbrev mm_cA (G : mm_G) : Nat → ClassId := G.2.1
abbrev mm_s0 (G : mm_G) : State := G.2.2.1
abbrev mm_xa (G : mm_G) : Nat → Nat := G.2.2.2
def mm_ty (cA : Nat → ClassId) : List (ClassId × FieldType) := [(cA 0, .int), (cA 1, .byte), (cA 2, .long), (cA 3, .object "CryptBank$State"), (cA 4, .object "CryptBank$Page")]
/-- the addresses that are ours: those made since the law's start -/
def mm_fr (G : mm_G) : Nat → Prop := fun q => (mm_s0 G).heap.size ≤ q
/-- text constants: class, entry, text, its number -/
def mm_sr : List (String × Nat × String × Nat) := [("CryptBank", 377, "an argument is none such", 0),
  ("CryptBank$County", 60, "slab", 1),
  ("CryptBank$County", 73, "soul", 2),
  ("CryptBank$County", 78, "kin", 3),
  ("CryptBank$Law", 95, "least", 4),
  ("CryptBank$Law", 104, "most", 5),
  ("CryptBank$Law", 116, "amount", 6),
  ("CryptBank$Law", 118, "nights", 7),
  ("CryptBank$Law", 120, "kind", 8),
  ("CryptBank$Law", 122, "kin", 3),
  ("CryptBank$Law", 124, "standing", 9),
  ("CryptBank$Law", 126, "left", 10),
  ("CryptBank$Law", 128, "night", 11),
  ("CryptBank$Law", 130, "soul", 2),
  ("CryptBank$Work", 59, "lend", 12),
  ("CryptBank$Work", 73, "pay", 13),
  ("CryptBank$Work", 75, "earn", 14),
  ("CryptBank$Work", 77, "seal", 15),
  ("CryptBank$Work", 79, "open", 16),
  ("CryptBank$Work", 81, "night", 11),
  ("CryptBank$Work", 83, "again", 17),
  ("CryptBank", 370, "there is none such", 18),
  ("CryptBankModel", 179, "slab", 1),
  ("CryptBankModel", 184, "soul", 2),
  ("CryptBankModel", 185, "kin", 3),
  ("CryptBankModel", 254, "least", 4),
  ("CryptBankModel", 259, "most", 5),
  ("CryptBankModel", 238, "standing", 9),
  ("CryptBankModel", 244, "amount", 6),
  ("CryptBankModel", 246, "nights", 7),
  ("CryptBankModel", 248, "kind", 8),
  ("CryptBankModel", 250, "left", 10),
  ("CryptBankModel", 252, "night", 11),
  ("CryptBankModel", 278, "lend", 12),
  ("CryptBankModel", 280, "pay", 13),
  ("CryptBankModel", 282, "earn", 14),
  ("CryptBankModel", 284, "seal", 15),
  ("CryptBankModel", 286, "open", 16),
  ("CryptBankModel", 288, "again", 17)]
/-- the texts, by their numbers -/
def mm_tx : List String := ["an argument is none such", "slab", "soul", "kin", "least", "most", "amount", "nights", "kind", "standing", "left", "night", "lend", "pay", "earn", "seal", "open", "again", "there is none such"]
def mm_tl : List Nat := [24, 4, 4, 3, 5, 4, 6, 6, 4, 8, 4, 5, 4, 3, 4, 4, 4, 5, 18]
def mm_tb : List (List Int32) := [[97, 110, 32, 97, 114, 103, 117, 109, 101, 110, 116, 32, 105, 115, 32, 110, 111, 110, 101, 32, 115, 117, 99, 104],
  [115, 108, 97, 98],
  [115, 111, 117, 108],
  [107, 105, 110],
  [108, 101, 97, 115, 116],
  [109, 111, 115, 116],
  [97, 109, 111, 117, 110, 116],
  [110, 105, 103, 104, 116, 115],
  [107, 105, 110, 100],
  [115, 116, 97, 110, 100, 105, 110, 103],
  [108, 101, 102, 116],
  [110, 105, 103, 104, 116],
  [108, 101, 110, 100],
  [112, 97, 121],
  [101, 97, 114, 110],
  [115, 101, 97, 108],
  [111, 112, 101, 110],
  [97, 103, 97, 105, 110],
  [116, 104, 101, 114, 101, 32, 105, 115, 32, 110, 111, 110, 101, 32, 115, 117, 99, 104]]
/-- what holds of the tables and of what lies outside, at the law's start -/
def mm_St (G : mm_G) : Prop := va_K (mm_D G) vwCl (mm_ty (mm_cA G)) (mm_s0 G) ∧
  vk_S 19 mm_tl mm_tb (fun j => mm_xa G (1000000 + j)) (fun j => mm_xa G (1001000 + j)) (mm_fr G) (mm_s0 G) (mm_s0 G).heap ∧
  (va_Z "CryptBank$Law" "UNTOLD" "[I" (.ref (mm_xa G 1002000)) (mm_fr G) (mm_s0 G) (mm_s0 G).heap ∧ va_T .int (mm_xa G 1002000) 9 (fun j => .int (([1000, 1000, 1001, 2002, 10, 2003, 2000, 1, 2000] : List Int32).getD j 0)) (mm_fr G) (mm_s0 G) (mm_s0 G).heap) ∧
  va_Z "java/lang/String" "COMPACT_STRINGS" "Z" (.int 1) (mm_fr G) (mm_s0 G) (mm_s0 G).heap ∧
  (va_Z "jdk/internal/util/Preconditions" "SIOOBE_FORMATTER" "Ljava/util/function/BiFunction;" .null (mm_fr G) (mm_s0 G) (mm_s0 G).heap ∨ va_Z "jdk/internal/util/Preconditions" "SIOOBE_FORMATTER" "Ljava/util/function/BiFunction;" (.ref (mm_xa G 1003000)) (mm_fr G) (mm_s0 G) (mm_s0 G).heap) ∧
  vx_Zq Bundle.tN "UNASSIGNED_STACK" Bundle.steD (mm_fr G) (mm_s0 G) (mm_s0 G).heap ∧ vx_Zq Bundle.tN "SUPPRESSED_SENTINEL" Bundle.listD (mm_fr G) (mm_s0 G) (mm_s0 G).heap
/-- words of the exceptions that no head of a method may bear -/
def mm_xw : List Cond := [.castable "java/util/NoSuchElementException" "java/util/NoSuchElementException", .castable "java/lang/IllegalArgumentException" "java/lang/IllegalArgumentException", .declares (Bundle.initS "java/lang/RuntimeException"), .declares (Bundle.initS "java/lang/Exception"), .declares (Bundle.initS "java/lang/Throwable")]
/-- what is asked at a method's start alone -/
def mm_Y (G : mm_G) (U : State) : Prop := (∀ w ∈ mm_nw, va_Nw w U) ∧ (∀ q ∈ mm_sr, vk_R q.1 q.2.1 q.2.2.1 (mm_xa G (1000000 + q.2.2.2)) U) ∧ ∀ w ∈ mm_xw, va_Nw w U
theorem mm_xw_warm {s U : State} (hW : s.WarmedH U.vm) : ∀ w ∈ mm_xw, va_Nw w s → va_Nw w U := by
  intro w hw h
  have hc : ∀ a b, va_Nw (.castable a b) s → va_Nw (.castable a b) U := fun a b hz => va_tabs rfl (rfl : (s.setVm U.vm).vm = U.vm) (by rw [Cond.castable_setVm hW.alike]; exact hz)
  simp only [mm_xw, List.mem_cons, List.not_mem_nil, or_false] at hw
  rcases hw with rfl | rfl | rfl | rfl | rfl
  · exact hc _ _ h
  · exact hc _ _ h
  · exact va_Nw.warmD hW h
  · exact va_Nw.warmD hW h
  · exact va_Nw.warmD hW h
/-- a state of the machine whose heap is the world -/
def mm_Wd (G : mm_G) (ad : Nat → Nat) (nx : Nat) (h : Nat → mm_E) (U : State) : Prop :=
  mm_St G ∧ (mm_s0 G).vm.Alike U.vm ∧ (mm_s0 G).heap.size ≤ U.heap.size ∧ (∀ q, q < (mm_s0 G).heap.size → U.heap[q]? = (mm_s0 G).heap[q]?) ∧
    va_P (mm_D G) vwCl (mm_w ad (mm_cA G) nx h) U.heap ∧ va_D (mm_fr G) (mm_w ad (mm_cA G) nx h) ∧ ∀ j, 1000000 ≤ j → ad j = mm_xa G j
theorem mm_nw_ok : ∀ w ∈ mm_nw, (∃ a i x h, w = .methodLinkNest a i x h) ∨ ∃ a i b n d h, w = .fieldLinkNest a i b n d h := by
  intro w hw
  have h : mm_nw.all (fun w => match w with
    | .methodLinkNest .. => true
    | .fieldLinkNest .. => true
    | _ => false) = true := by decide +kernel
  have h1 := List.all_eq_true.mp h w hw
  cases w <;> first | exact Or.inl ⟨_, _, _, _, rfl⟩ | exact Or.inr ⟨_, _, _, _, _, _, rfl⟩ | cases h1
theorem mm_Y.warm {G : mm_G} {s U : State} (hW : s.WarmedH U.vm) (h : mm_Y G s) : mm_Y G U := by
  refine ⟨fun w hw => ?_, fun q hq => (h.2.1 q hq).warm hW, fun w hw => mm_xw_warm hW w hw (h.2.2 w hw)⟩
  rcases mm_nw_ok w hw with ⟨a, i, x, b, rfl⟩ | ⟨a, i, b, n, d, z, rfl⟩
  · exact va_Nw.warmM hW (h.1 _ hw)
  · exact va_Nw.warmF hW (h.1 _ hw)
def mm_exc (k : Nat) : String := if k = 0 then "java/util/NoSuchElementException" else "java/lang/IllegalArgumentException"
abbrev mm_P : Type := mm_O → Nat → (Nat → mm_E) → Prop
/-- a method's own: what is fixed, the launch, its name, locals, answer, depth, cells and slots, its promise, the numbers at its start -/
abbrev mm_M : Type := mm_G × Launch × MethodName × Nat × Option FieldType × Nat × Nat × Nat × mm_P × Nat
abbrev mm_mG (M : mm_M) : mm_G := M.1
abbrev mm_ml (M : mm_M) : Launch := M.2.1
abbrev mm_my (M : mm_M) : MethodName := M.2.2.1
abbrev mm_nL (M : mm_M) : Nat := M.2.2.2.1
abbrev mm_rt (M : mm_M) : Option FieldType := M.2.2.2.2.1
abbrev mm_d (M : mm_M) : Nat := M.2.2.2.2.2.1
abbrev mm_mc (M : mm_M) : Nat := M.2.2.2.2.2.2.1
abbrev mm_ms (M : mm_M) : Nat := M.2.2.2.2.2.2.2.1
abbrev mm_po (M : mm_M) : mm_P := M.2.2.2.2.2.2.2.2.1
abbrev mm_n0 (M : mm_M) : Nat := M.2.2.2.2.2.2.2.2.2
abbrev mm_rm (d mc ms : Nat) : Room := { frames := d, cells := mc, slots := ms, locals := 40 * d }
/-- the numbers that were there keep their addresses; where none is new, all do -/
def mm_ext (n0 nx : Nat) (ad0 ad : Nat → Nat) : Prop := n0 ≤ nx ∧ (∀ i, i < n0 → ad i = ad0 i) ∧ (nx = n0 → ad = ad0)
def mm_Qc (G : mm_G) (n0 : Nat) (Po : mm_P) (ad0 : Nat → Nat) : Array Value → State → Outcome → State → Prop := fun _ st o t =>
  st.heap.size ≤ t.heap.size ∧ ∃ (v : Option Value) (nx : Nat) (h : Nat → mm_E) (ad : Nat → Nat), o = .returned (v.map (mm_rv ad)) ∧ Po (.inl v) nx h ∧ mm_ext n0 nx ad0 ad ∧ mm_Wd G ad nx h t
def mm_XC (G : mm_G) (n0 : Nat) (Po : mm_P) (ad0 : Nat → Nat) : String → State → State → Prop := fun E st t =>
  st.heap.size ≤ t.heap.size ∧ ∃ (k : Nat) (nx : Nat) (h : Nat → mm_E) (ad : Nat → Nat), E = mm_exc k ∧ Po (.inr k) nx h ∧ mm_ext n0 nx ad0 ad ∧ mm_Wd G ad nx h t
/-- A METHOD'S CONTRACT -/
def mm_Con (G : mm_G) (l : Launch) (y : MethodName) (cc : ByteArray) (nL : Nat) (rt : Option FieldType) (d mc ms : Nat) (av : List Value) (nx : Nat) (h : Nat → mm_E) (Po : mm_P) : Prop :=
  ∀ ad : Nat → Nat, vx_Met l y (.code y cc nL rt :: mm_ws) (mm_rm d mc ms) (va_Pc (av.map (mm_rv ad)) (fun U => mm_Wd G ad nx h U ∧ mm_Y G U)) (mm_Qc G nx Po ad) (mm_XC G nx Po ad) mc ms (mm_fr G)
def mm_C (M : mm_M) (own : String) (cc : ByteArray) (p : Program) (s : State) (m : MethodId) (args : Array Value) (meth : Method) (c : Code) : Prop :=
  p.tables.exec = Jvm.exec ∧ c.code = cc ∧ c.maxLocals = mm_nL M ∧ meth.sig.returnType = mm_rt M ∧ s.vm.findClass own = some m.cls ∧ (∀ w ∈ mm_ws, w.before args s = true) ∧ meth.locks = false ∧ (∀ x ∈ c.exceptionTable.toList, False) ∧ meth.name = (mm_my M).name
def mm_H (G : mm_G) (ad : Nat → Nat) (nx : Nat) (h : Nat → mm_E) (s : State) (H : Heap) (locs : List Loc) : Prop :=
  mm_St G ∧ (mm_s0 G).vm.Alike s.vm ∧ (mm_s0 G).heap.size ≤ s.heap.size ∧ (∀ q, q < (mm_s0 G).heap.size → s.heap[q]? = (mm_s0 G).heap[q]?) ∧
    va_P (mm_D G) vwCl (mm_w ad (mm_cA G) nx h) H ∧ va_D (mm_fr G) (mm_w ad (mm_cA G) nx h) ∧ va_S (mm_fr G) s.heap H locs ∧ (∀ j, 1000000 ≤ j → ad j = mm_xa G j) ∧ mm_Y G s
def mm_L (ad : Nat → Nat) (nL : Nat) (lo : List (Option Value)) (ls : Array Slot) : Prop :=
  ls.size = nL ∧ lv_wf ls ∧ ∀ (i : Nat) (v : Value), lo[i]? = some (some v) → ls[i]? = some (.val (mm_rv ad v))
/-- THE FRAME: at pc, with locals lo and operands st, in the world h of nx cells, kc cells of ks slots made, the method ends as it promises -/
def mm_T (M : mm_M) (own : String) (cc : ByteArray) (nx : Nat) (h : Nat → mm_E) (kc ks pc : Nat) (lo : List (Option Value)) (st : List Value) : Prop :=
  ∀ (p : Program) (e : Env) (s : State) (m : MethodId) (args : Array Value) (below : List Frame) (meth : Method) (c : Code) (H : Heap) (locs : List Loc) (ad ad0 : Nat → Nat) (ls : Array Slot),
    mm_C M own cc p s m args meth c → mm_ext (mm_n0 M) nx ad0 ad → mm_H (mm_mG M) ad nx h s H locs → mm_L ad (mm_nL M) lo ls →
    W p (mm_ml M) e (mm_rm (mm_d M) (mm_mc M) (mm_ms M)) s m args below meth c H locs kc ks (vx_MQ below (mm_Qc (mm_mG M) (mm_n0 M) (mm_po M) ad0) (mm_XC (mm_mG M) (mm_n0 M) (mm_po M) ad0) args s (mm_mc M) (mm_ms M) (mm_fr (mm_mG M))) (F0 m pc ls (st.map (mm_rv ad)))
/-- what stands in the heap behind a frame is the world of a state with that heap -/
theorem mm_H.wd {G : mm_G} {ad : Nat → Nat} {nx : Nat} {h : Nat → mm_E} {s : State} {H : Heap} {locs : List Loc} (B : mm_H G ad nx h s H locs) {t : State} (ht : t.heap = H) (hvm : s.vm.Alike t.vm) : mm_Wd G ad nx h t := by
  obtain ⟨b1, b2, b3, b4, b5, b6, b7, b8, b9⟩ := B
  refine ⟨b1, b2.trans hvm, by rw [ht]; exact Nat.le_trans b3 b7.1, fun q hq => ?_, by rw [ht]; exact b5, b6, b8⟩
  rw [ht, b7.2.1 q (Nat.lt_of_lt_of_le hq b3) (fun z => absurd hq (Nat.not_lt.mpr z))]
  exact b4 q hq
theorem mm_H.K {G : mm_G} {ad : Nat → Nat} {nx : Nat} {h : Nat → mm_E} {s : State} {H : Heap} {locs : List Loc} (B : mm_H G ad nx h s H locs) : va_K (mm_D G) vwCl (mm_ty (mm_cA G)) s := va_K.moved B.2.1 B.1.1
/-- FROM THE FRAME AT ITS START TO THE CONTRACT -/
theorem mm_con {G : mm_G} {l : Launch} {y : MethodName} {cc : ByteArray} {nL : Nat} {rt : Option FieldType} {d mc ms : Nat} {av : List Value} {nx : Nat} {h : Nat → mm_E} {Po : mm_P} (hy : plainName y.cls = true) (lo : List (Option Value)) (hn : (lg_sl av).length ≤ nL) (hlo : ∀ ad : Nat → Nat, ∀ (i : Nat) (v : Value), lo[i]? = some (some v) → (i, mm_rv ad v) ∈ lv_args 0 (av.map (mm_rv ad))) (hn2 : ∀ ad : Nat → Nat, (lg_sl (av.map (mm_rv ad))).length = (lg_sl av).length)
    (k : mm_T (G, l, y, nL, rt, d, mc, ms, Po, nx) y.cls cc nx h 0 0 0 lo []) : mm_Con G l y cc nL rt d mc ms av nx h Po := by
  intro ad
  refine vx_ofW (cc := cc) (maxL := nL) (ret := rt) hy rfl ?_
  intro p e s m args below meth c s₁ B hml htb hv
  obtain ⟨rfl, ⟨w1, w2, w3, w4, w5, w6, w7⟩, w8⟩ := hv
  have hts := atoms_spec (ws := .code y cc nL rt :: mm_ws) B.pre
  have hl := lv_entry (av.map (mm_rv ad)) (n := nL) (by rw [hn2]; exact hn)
  rw [lg_entry_eq]
  exact k p e s m _ below meth c s.heap [] ad ad _ ⟨B.exec, B.bytes, hml, B.returns, findClass_of_methodNamed B.named, fun w hw => hts w (List.mem_cons_of_mem _ hw), B.notSynchronized, htb, (name_of_methodNamed B.named B.method).1⟩
    ⟨Nat.le_refl _, fun _ _ => rfl, fun _ => rfl⟩ ⟨w1, w2, w3, w4, w5, w6, va_S.rf, w7, w8⟩ ⟨hl.1, hl.2.1, fun i v hv => hl.2.2 (i, mm_rv ad v) (hlo ad i v hv)⟩
