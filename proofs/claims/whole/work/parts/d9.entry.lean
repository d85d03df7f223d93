/-! The law at its entry: what is fixed. -/
section ENT
variable {args : Array Value} {s : State}
theorem tb_at (hts : ∀ w ∈ lw_tbl, w.before args s = true) {i : Nat} {w : Cond} (h : tables_1[i]? = some w) : w.before args s = true := hts w (List.mem_append_right _ (List.mem_of_getElem? h))
theorem fl_at (hfl : ∀ w ∈ FL, w.before args s = true) {i : Nat} {w : Cond} (h : FL[i]? = some w) : w.before args s = true := hfl w (List.mem_of_getElem? h)
theorem st_A {ty : FieldType} (h : (Cond.arrayClass ty).before args s = true) : ∃ cA, ArrOfT s cA ty ∧ s.vm.findClass ("[" ++ ty.toString) = some cA := by
  obtain ⟨c, k, comp, h1, h2, h3⟩ := Cond.arrayClass_spec (args := args) (first := s) (o := none) (s := s) (idx := []) h
  exact ⟨c, fun n z => ⟨fun k h => (by cases h), k, h2, comp, h3⟩, h1⟩
theorem st_O {C : String} (h : (Cond.arrayOver (.object C)).before args s = true) : ∃ cA, ArrOfT s cA (.object C) ∧ va_RA s cA (.object C) := by
  obtain ⟨comp, c, k, h1, -, h2, h3, h4⟩ := Cond.arrayOver_spec (args := args) (first := s) (o := none) (s := s) (idx := []) h
  exact ⟨c, fun n z => ⟨fun k h => (by cases h), k, h2, comp, h3⟩, k, comp, h2, h3, h1, h4⟩
/-- classes and rows -/
theorem st_K (hts : ∀ w ∈ lw_tbl, w.before args s = true) : ∃ (D : va_G) (cA : Nat → ClassId), va_K D vwCl (mm_ty cA) s := by
  have hws : ∀ w ∈ mm_ws, w.before args s = true := fun w hw => hts w (List.mem_filter.mp hw).1
  obtain ⟨c0, i0, k0⟩ := u_known hws in_X0 (tb_at hts tb_n0)
  obtain ⟨c1, i1, k1⟩ := u_known hws in_X1 (tb_at hts tb_n1)
  obtain ⟨c2, i2, k2⟩ := u_known hws in_X2 (tb_at hts tb_n2)
  obtain ⟨c3, i3, k3⟩ := u_known hws in_X3 (tb_at hts tb_n3)
  obtain ⟨c4, i4, k4⟩ := u_known hws in_X4 (tb_at hts tb_n4)
  obtain ⟨c5, i5, k5⟩ := u_known hws in_X5 (tb_at hts tb_n5)
  obtain ⟨c6, i6, k6⟩ := u_known hws in_X6 (tb_at hts tb_n6)
  obtain ⟨c7, i7, k7⟩ := u_known hws in_X7 (tb_at hts tb_n7)
  obtain ⟨c8, i8, k8⟩ := u_known hws in_X8 (tb_at hts tb_n8)
  obtain ⟨c9, i9, k9⟩ := u_known hws in_X9 (tb_at hts tb_n9)
  obtain ⟨c10, i10, k10⟩ := u_known hws in_X10 (tb_at hts tb_n10)
  obtain ⟨c11, i11, k11⟩ := u_known hws in_X11 (tb_at hts tb_n11)
  obtain ⟨a0, f0, g0⟩ := st_A (hws _ ac_int)
  obtain ⟨a1, f1, g1⟩ := st_A (hws _ ac_byte)
  obtain ⟨a2, f2, g2⟩ := st_A (hws _ ac_long)
  obtain ⟨a3, f3, g3⟩ := st_O (tb_at hts tb_a3)
  obtain ⟨a4, f4, g4⟩ := st_O (tb_at hts tb_a4)
  refine ⟨(fun k => [c0, c1, c2, c3, c4, c5, c6, c7, c8, c9, c10, c11].getD k 0, fun k => [i0, i1, i2, i3, i4, i5, i6, i7, i8, i9, i10, i11].getD k (fun _ => 0)), fun k => [a0, a1, a2, a3, a4].getD k 0, ?_, ?_⟩
  · intro k q hq
    match k, hq with
    | 0, hq => cases hq; exact k0
    | 1, hq => cases hq; exact k1
    | 2, hq => cases hq; exact k2
    | 3, hq => cases hq; exact k3
    | 4, hq => cases hq; exact k4
    | 5, hq => cases hq; exact k5
    | 6, hq => cases hq; exact k6
    | 7, hq => cases hq; exact k7
    | 8, hq => cases hq; exact k8
    | 9, hq => cases hq; exact k9
    | 10, hq => cases hq; exact k10
    | 11, hq => cases hq; exact k11
    | k + 12, hq => exact absurd (List.getElem?_eq_some_iff.mp hq).1 (by show ¬ k + 12 < 12; omega)
  · intro k q hq
    match k, hq with
    | 0, hq => cases hq; exact ⟨f0, g0⟩
    | 1, hq => cases hq; exact ⟨f1, g1⟩
    | 2, hq => cases hq; exact ⟨f2, g2⟩
    | 3, hq => cases hq; exact ⟨f3, g3⟩
    | 4, hq => cases hq; exact ⟨f4, g4⟩
    | k + 5, hq => exact absurd (List.getElem?_eq_some_iff.mp hq).1 (by show ¬ k + 5 < 5; omega)
/-- the texts -/
theorem st_S (hfl : ∀ w ∈ FL, w.before args s = true) {A : Nat → Prop} (hA : ∀ a : Nat, a < s.heap.size → ¬ A a) : ∃ adK adV : Nat → Nat, vk_S 19 mm_tl mm_tb adK adV A s s.heap ∧ ∀ i : Nat, i < 19 → (tmS i).eval args s none [] s = some (.ref (adK i)) := by
  have h0 : ∀ i : Nat, ∃ q : Nat × Nat, i < 19 → (tmS i).eval args s none [] s = some (.ref q.1) ∧ va_O "java/lang/String" q.1 A s s.heap ∧ va_OF "java/lang/String" "coder" "B" (.int 0) q.1 A s s.heap ∧ va_OF "java/lang/String" "value" "[B" (.ref q.2) q.1 A s s.heap ∧ va_T .byte q.2 (mm_tl.getD i 0) (fun j => .int ((mm_tb.getD i []).getD j 0)) A s s.heap := by
    intro i
    by_cases hi : i < 19
    · obtain ⟨w1, w2, w3, w4⟩ := fl_s i hi
      obtain ⟨a, c, cA, kA, q1, q2, q3, q4, q5, q6, -⟩ := Cond.exactly_spec (args := args) (first := s) (o := none) (s := s) (idx := []) (t := tmS i) (cls := "java/lang/String") (fl_at hfl w1)
      obtain ⟨t, ht, hT⟩ := va_Tof (f := fun j => .int ((mm_tb.getD i []).getD j 0)) (A := A) (Nat.lt_trans (tl_lt i hi) (by decide)) (fl_at hfl w3) (va_eqt (fl_at hfl w4)) (fun j hj => va_eqt (fl_at hfl (fl_b i hi j hj))) hA
      exact ⟨(a, t), fun _ => ⟨q1, ⟨cA, q3, q5, by rw [q6]; exact q2, hA a (Array.getElem?_eq_some_iff.mp q3).1⟩, vk_OFof q1 (va_eqt (fl_at hfl w2)) hA, vk_OFof q1 ht hA, hT⟩⟩
    · exact ⟨(0, 0), fun h => absurd h hi⟩
  obtain ⟨ad, had⟩ := Classical.axiomOfChoice h0
  refine ⟨fun i => (ad i).1, fun i => (ad i).2, ⟨fun i hi => (had i hi).2, fun i j hi hj e => ?_⟩, fun i hi => (had i hi).1⟩
  dsimp only at e
  obtain ⟨-, -, -, ⟨cf, kf, fi, f, cell, x1, x2, x3, x4, x5, x6⟩, hTi⟩ := had i hi
  obtain ⟨-, -, -, ⟨cf', kf', fi', f', cell', y1, y2, y3, y4, y5, y6⟩, hTj⟩ := had j hj
  have ef := Option.some.inj (x1.symm.trans y1)
  simp only [Prod.mk.injEq] at ef
  obtain ⟨-, -, -, rfl⟩ := ef
  rw [e] at x3
  cases Option.some.inj (x3.symm.trans y3)
  have ev := Option.some.inj (x5.symm.trans y5)
  have ev2 : (ad i).2 = (ad j).2 := by injection ev
  rw [ev2] at hTi
  obtain ⟨d, p1, p2, p3, p4, p5, p6, p7⟩ := hTi
  obtain ⟨d', r1, r2, r3, r4, r5, r6, r7⟩ := hTj
  cases Option.some.inj (p1.symm.trans r1)
  have li := tl_lt i hi
  have lj := tl_lt j hj
  have el : mm_tl.getD i 0 = mm_tl.getD j 0 := (nI_eq (by omega) (by omega)).mp (p5.symm.trans r5)
  refine tx_ne i hi j hj el (fun q hq => ?_)
  have eb := Option.some.inj ((p6 q hq).symm.trans (r6 q (by rw [← el]; exact hq)))
  injection eb
/-- all that is fixed -/
theorem st_all {b L : Nat} {xs : Nat → Int32} (hL : L ≤ 4608) (hts : ∀ w ∈ lw_tbl, w.before args s = true) (hgv : (Jvm.Cond.and given_1 narrow_1).before args s = true) (hX : va_X b L xs s s.heap) (hb : b < s.heap.size) : ∃ (D : va_G) (cA : Nat → ClassId) (xa : Nat → Nat), xa 1004000 = b ∧ mm_St (D, cA, s, xa) ∧ mm_Y (D, cA, s, xa) s ∧ SCX (D, cA, s, xa) L xs := by
  have hfl : ∀ w ∈ FL, w.before args s = true := flat_of_before _ hgv
  have hA : ∀ a : Nat, a < s.heap.size → ¬ (fun q : Nat => s.heap.size ≤ q) a := fun a h z => absurd h (Nat.not_lt.mpr z)
  obtain ⟨D, cA, hK⟩ := st_K hts
  obtain ⟨adK, adV, hS, hev⟩ := st_S hfl hA
  obtain ⟨tU, hUe, hUT⟩ := va_Tof (f := fun j => .int (([1000, 1000, 1001, 2002, 10, 2003, 2000, 1, 2000] : List Int32).getD j 0)) (A := fun q : Nat => s.heap.size ≤ q) (by decide) (fl_at hfl fl_u.1) (va_eqt (fl_at hfl fl_u.2.1)) (fun j hj => va_eqt (fl_at hfl (fl_u.2.2 j hj))) hA
  have hUZ := va_Zref (tb_at hts tb_lu) (tb_at hts tb_iu) hUe hA
  have hCS := va_Zof (tb_at hts tb_lc) (tb_at hts tb_ic) (va_eqt (fl_at hfl fl_cs)) hA
  obtain ⟨tS, hSO⟩ : ∃ tS, va_Z "jdk/internal/util/Preconditions" "SIOOBE_FORMATTER" "Ljava/util/function/BiFunction;" .null (fun q : Nat => s.heap.size ≤ q) s s.heap ∨ va_Z "jdk/internal/util/Preconditions" "SIOOBE_FORMATTER" "Ljava/util/function/BiFunction;" (.ref tS) (fun q : Nat => s.heap.size ≤ q) s s.heap := by
    rcases va_Zqof (tb_at hts tb_lo) (tb_at hts tb_io) (fl_at hfl fl_so) hA with hz | ⟨t, hz⟩
    · exact ⟨0, Or.inl hz⟩
    · exact ⟨t, Or.inr hz⟩
  have hUS := vx_Zqof (tb_at hts tb_l1) (tb_at hts tb_it) (fl_at hfl fl_us) hA
  have hSS := vx_Zqof (tb_at hts tb_l2) (tb_at hts tb_it) (fl_at hfl fl_ss) hA
  obtain ⟨xa, hxK, hxV, hxU, hxS, hxB⟩ : ∃ xa : Nat → Nat, (∀ i, i < 19 → xa (1000000 + i) = adK i) ∧ (∀ i, i < 19 → xa (1001000 + i) = adV i) ∧ xa 1002000 = tU ∧ xa 1003000 = tS ∧ xa 1004000 = b := by
    refine ⟨fun j => if j < 1001000 then adK (j - 1000000) else if j < 1002000 then adV (j - 1001000) else if j < 1003000 then tU else if j < 1004000 then tS else b, fun i hi => ?_, fun i hi => ?_, rfl, rfl, rfl⟩
    · dsimp only
      rw [if_pos (by omega), Nat.add_sub_cancel_left]
    · dsimp only
      rw [if_neg (by omega), if_pos (by omega), Nat.add_sub_cancel_left]
  refine ⟨D, cA, xa, hxB, ⟨hK, ⟨fun i hi => ?_, fun i j hi hj e => ?_⟩, ⟨?_, ?_⟩, hCS, ?_, hUS, hSS⟩, ⟨fun w hw => ?_, fun q hq => ?_, fun w hw => ?_⟩, SCX_of hxB hX hb hL⟩
  · have z := hS.1 i hi
    rw [← hxK i hi, ← hxV i hi] at z
    exact z
  · exact hS.2 i j hi hj ((hxK i hi).symm.trans (e.trans (hxK j hj)))
  · show va_Z "CryptBank$Law" "UNTOLD" "[I" (.ref (xa 1002000)) _ s s.heap
    rw [hxU]
    exact hUZ
  · show va_T .int (xa 1002000) 9 _ _ s s.heap
    rw [hxU]
    exact hUT
  · rcases hSO with hz | hz
    · exact Or.inl hz
    · refine Or.inr ?_
      show va_Z "jdk/internal/util/Preconditions" "SIOOBE_FORMATTER" "Ljava/util/function/BiFunction;" (.ref (xa 1003000)) _ s s.heap
      rw [hxS]
      exact hz
  · have h1 := List.all_eq_true.mp nw_tab w hw
    rw [nw_in] at hw
    obtain ⟨i, -, hi⟩ := List.mem_filterMap.mp hw
    exact va_Nw.of h1 (tb_at hts hi)
  · have h1 : (Cond.stringRef q.1 q.2.1 q.2.2.1).before args s = true := by
      have hm : Cond.stringRef q.1 q.2.1 q.2.2.1 ∈ mm_sr.map (fun q => Cond.stringRef q.1 q.2.1 q.2.2.1) := List.mem_map_of_mem hq
      rw [sr_in] at hm
      obtain ⟨i, -, hi⟩ := List.mem_filterMap.mp hm
      exact tb_at hts hi
    obtain ⟨i, hi, he⟩ := List.getElem_of_mem hq
    have hi39 : i < 39 := hi
    have hq' : mm_sr.getD i ("", 0, "", 0) = q := by
      rw [List.getD_eq_getElem?_getD, List.getElem?_eq_getElem hi, he]
      rfl
    have hlt := sr_lt i hi39
    have hfe := fl_e i hi39
    rw [hq'] at hlt hfe
    refine vk_R.of h1 ?_
    show (Term.string q.1 q.2.1).eval args s none [] s = some (.ref (xa (1000000 + q.2.2.2)))
    rw [hxK _ hlt]
    rcases hfe with e | e
    · have z := hev _ hlt
      unfold tmS at z
      rw [← e] at z
      exact z
    · exact va_eqR (fl_at hfl e) (hev _ hlt)
  · have h1 := List.all_eq_true.mp xw_tab w hw
    rw [xw_in] at hw
    obtain ⟨i, -, hi⟩ := List.mem_filterMap.mp hw
    exact va_Nw.of h1 (tb_at hts hi)
end ENT
/-- a smaller room -/
theorem st_room {p : Program} {l : Launch} {e : Env} {R R' : Room} {s : State} {m : MethodId} {args : Array Value} {below : List Frame} {meth : Method} {c : Code} {T : State} {locs : List Loc} {cells slots : Nat} (X : Stand p l e R s m args below meth c T locs cells slots) (hf : R'.frames ≤ R.frames) (hl : R'.locals ≤ R.locals) (hc : R'.cells ≤ R.cells) (hs : R'.slots ≤ R.slots) : Stand p l e R' s m args below meth c T locs cells slots := by
  refine ⟨X.admits, X.cas, X.clock, X.frames, ?_, X.hears, X.method, X.code, X.here, X.tail, X.warmed, X.limits, X.bytes, X.same⟩
  have h := X.room
  simp only [State.hasRoom, Bool.and_eq_true, decide_eq_true_eq] at h ⊢
  obtain ⟨⟨⟨⟨h1, h2, h3, h4, h5, h6⟩, h7⟩, h8⟩, h9⟩ := h
  exact ⟨⟨⟨⟨by omega, by omega, by omega, by omega, by omega, h6⟩, by omega⟩, by omega⟩, h9⟩
/-- what was there is as it was -/
theorem st_same {s t : State} {L : List Loc} {k n : Nat} (hL : ∀ z ∈ L, s.heap.size ≤ z.base) (h : s.sameButNew t L k n) : s.sameButNew t [] k n := by
  obtain ⟨h1, h2, h3, h4, h5, h6⟩ := h
  refine ⟨h1, h2, h3, h4, h5, fun a c hc => ?_⟩
  obtain ⟨c', g1, g2, g3, g4⟩ := h6 a c hc
  refine ⟨c', g1, g2, g3, fun i _ => g4 i (fun hm => ?_)⟩
  have := hL _ hm
  have ha := (Array.getElem?_eq_some_iff.mp hc).1
  exact absurd ha (Nat.not_lt.mpr this)
