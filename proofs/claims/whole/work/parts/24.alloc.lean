/-! Rules: what is made, what lies outside, Math, a throw. -/
/-- a value that names none but the first nx cells, or what lies outside -/
def mm_vw (nx : Nat) (v : Value) : Prop := ∀ ad ad' : Nat → Nat, (∀ j, j < nx → ad' j = ad j) → (∀ j, 1000000 ≤ j → ad' j = ad j) → mm_rv ad' v = mm_rv ad v
def mm_ew (nx : Nat) (e : mm_E) : Prop := ∀ (ad ad' : Nat → Nat) (cA : Nat → ClassId), (∀ j, j < nx → ad' j = ad j) → (∀ j, 1000000 ≤ j → ad' j = ad j) → mm_re ad' cA e = mm_re ad cA e
def mm_wf (nx : Nat) (h : Nat → mm_E) : Prop := ∀ i, i < nx → mm_ew nx (h i)
theorem mm_vw_int (nx : Nat) (x : Int32) : mm_vw nx (.int x) := fun _ _ _ _ => rfl
theorem mm_vw_long (nx : Nat) (x : Int64) : mm_vw nx (.long x) := fun _ _ _ _ => rfl
theorem mm_vw_null (nx : Nat) : mm_vw nx .null := fun _ _ _ _ => rfl
theorem mm_vw_ref {nx i : Nat} (h : i < nx) : mm_vw nx (.ref i) := fun ad ad' h1 _ => by simp [mm_rv, h1 i h]
theorem mm_vw_mono {nx ny : Nat} {v : Value} (h : nx ≤ ny) (hv : mm_vw nx v) : mm_vw ny v := fun ad ad' h1 h2 => hv ad ad' (fun j hj => h1 j (Nat.lt_of_lt_of_le hj h)) h2
theorem mm_ew_mono {nx ny : Nat} {e : mm_E} (h : nx ≤ ny) (hv : mm_ew nx e) : mm_ew ny e := fun ad ad' cA h1 h2 => hv ad ad' cA (fun j hj => h1 j (Nat.lt_of_lt_of_le hj h)) h2
theorem mm_ew_obj {nx ci : Nat} {fs : List Value} (h : ∀ v ∈ fs, mm_vw nx v) : mm_ew nx (.inr (ci, fs)) := by
  intro ad ad' cA h1 h2
  simp only [mm_re]
  congr 2
  exact List.map_congr_left fun v hv => h v hv ad ad' h1 h2
theorem mm_ew_i {nx k n : Nat} {f : Nat → Int32} : mm_ew nx (.inl (k, n, .inl f)) := fun _ _ _ _ _ => rfl
theorem mm_ew_l {nx k n : Nat} {f : Nat → Int64} : mm_ew nx (.inl (k, n, .inr (.inl f))) := fun _ _ _ _ _ => rfl
theorem mm_ew_q {nx k n : Nat} {f : Nat → Option Nat} (h : ∀ j r, f j = some r → r < nx) : mm_ew nx (.inl (k, n, .inr (.inr (.inr (.inr f))))) := by
  intro ad ad' cA h1 h2
  simp only [mm_re, mm_ra]
  have e1 : (fun j => (f j).map ad') = fun j => (f j).map ad := by
    funext j
    cases hj : f j with
    | none => rfl
    | some r => simp [h1 r (h j r hj)]
  rw [e1]
theorem mm_wf_set {nx i : Nat} {h : Nat → mm_E} {e : mm_E} (hw : mm_wf nx h) (he : mm_ew nx e) : mm_wf nx (hset h i e) := by
  intro j hj
  by_cases hji : j = i
  · subst hji; rw [hset_eq]; exact he
  · rw [hset_ne hji]; exact hw j hj
theorem mm_wf_push {nx : Nat} {h : Nat → mm_E} {e : mm_E} (hw : mm_wf nx h) (he : mm_ew (nx + 1) e) : mm_wf (nx + 1) (hset h nx e) := by
  intro j hj
  by_cases hji : j = nx
  · subst hji; rw [hset_eq]; exact he
  · rw [hset_ne hji]; exact mm_ew_mono (Nat.le_succ nx) (hw j (by omega))
def mm_adn (ad : Nat → Nat) (nx q : Nat) : Nat → Nat := fun j => if j = nx then q else ad j
theorem mm_adn_lt {ad : Nat → Nat} {nx q : Nat} : ∀ j, j < nx → mm_adn ad nx q j = ad j := fun j hj => by simp [mm_adn, Nat.ne_of_lt hj]
theorem mm_adn_ext {ad : Nat → Nat} {nx q : Nat} (hl : nx < 1000000) : ∀ j, 1000000 ≤ j → mm_adn ad nx q j = ad j := fun j hj => by
  have : j ≠ nx := by omega
  simp [mm_adn, this]
theorem mm_w_push {ad : Nat → Nat} {cA : Nat → ClassId} {nx q : Nat} {h : Nat → mm_E} {e : mm_E} (hl : nx < 1000000) (hw : mm_wf nx h) : mm_w (mm_adn ad nx q) cA (nx + 1) (hset h nx e) = mm_w ad cA nx h ++ [(q, mm_re (mm_adn ad nx q) cA e)] := by
  unfold mm_w
  rw [List.range_succ, List.map_append]
  congr 1
  · refine List.map_congr_left fun i hi => ?_
    have hi : i < nx := List.mem_range.mp hi
    rw [hset_ne (Nat.ne_of_lt hi), mm_adn_lt i hi, hw i hi ad (mm_adn ad nx q) cA mm_adn_lt (mm_adn_ext hl)]
  · simp [hset_eq, mm_adn]
theorem mm_L.re {ad ad' : Nat → Nat} {nL nx : Nat} {lo : List (Option Value)} {ls : Array Slot} (L : mm_L ad nL lo ls) (h1 : ∀ j, j < nx → ad' j = ad j) (h2 : ∀ j, 1000000 ≤ j → ad' j = ad j) (hlo : ∀ v, some v ∈ lo → mm_vw nx v) : mm_L ad' nL lo ls :=
  ⟨L.1, L.2.1, fun i v hv => by rw [hlo v (List.mem_of_getElem? hv) ad ad' h1 h2]; exact L.2.2 i v hv⟩
theorem mm_st_re {ad ad' : Nat → Nat} {nx : Nat} {st : List Value} (h1 : ∀ j, j < nx → ad' j = ad j) (h2 : ∀ j, 1000000 ≤ j → ad' j = ad j) (hst : ∀ v ∈ st, mm_vw nx v) : st.map (mm_rv ad') = st.map (mm_rv ad) := List.map_congr_left fun v hv => hst v hv ad ad' h1 h2
section MMA
variable {M : mm_M} {own : String} {cc : ByteArray} {nx : Nat} {h : Nat → mm_E} {kc ks pc : Nat} {lo : List (Option Value)} {st : List Value}
theorem mm_H.push {G : mm_G} {ad : Nat → Nat} {s : State} {H H1 : Heap} {locs locs1 : List Loc} {q : Nat} {e : mm_E} (B : mm_H G ad nx h s H locs) (hl : nx < 1000000) (hw : mm_wf nx h) (hP : va_P (mm_D G) vwCl (mm_w ad (mm_cA G) nx h ++ [(q, mm_re (mm_adn ad nx q) (mm_cA G) e)]) H1) (hD : va_D (mm_fr G) (mm_w ad (mm_cA G) nx h ++ [(q, mm_re (mm_adn ad nx q) (mm_cA G) e)])) (hS : va_S (mm_fr G) s.heap H1 locs1) : mm_H G (mm_adn ad nx q) (nx + 1) (hset h nx e) s H1 locs1 := by
  rw [← mm_w_push hl hw] at hP hD
  obtain ⟨b1, b2, b3, b4, b5, b6, b7, b8, b9⟩ := B
  exact ⟨b1, b2, b3, b4, hP, hD, hS, fun j hj => by rw [mm_adn_ext hl j hj]; exact b8 j hj, b9⟩
theorem mm_ext.push {n0 q : Nat} {ad0 ad : Nat → Nat} (A : mm_ext n0 nx ad0 ad) : mm_ext n0 (nx + 1) ad0 (mm_adn ad nx q) := by
  obtain ⟨a1, a2, a3⟩ := A
  exact ⟨by omega, fun i hi => by rw [mm_adn_lt i (by omega)]; exact a2 i hi, fun hn => absurd hn (by omega)⟩
theorem mm_H.A {G : mm_G} {ad : Nat → Nat} {s : State} {H : Heap} {locs : List Loc} (B : mm_H G ad nx h s H locs) : ∀ q, s.heap.size ≤ q → mm_fr G q := fun _ hq => Nat.le_trans B.2.2.1 hq
/-- what 'new' asks of the tables -/
def mm_nf (own : String) (index ci N : Nat) (fs : List Value) : Prop := ∃ (C : String) (T : u_T) (ty : Nat → FieldType), vwCl[ci]? = some (C, T, N) ∧ Cond.classLink own index C ∈ mm_ws ∧ Cond.instantiable C N ∈ mm_ws ∧ Cond.initialized C ∈ mm_ws ∧ (∀ w ∈ u_ws C T N, w ∈ mm_ws) ∧ (∀ k, k < N → parseFieldDescriptor (T k).2.2.1 = some (ty k)) ∧ (∀ j, j < N → defaultValue (ty j) = vp_V fs j) ∧ ∀ f, fs.map (mm_rv f) = fs
theorem mt_new {index ci N : Nat} {fs : List Value} (hg : mm_nf own index ci N fs) (hd : decode cc pc = .ok (.new index, 3)) (hl : nx < 1000000) (hw : mm_wf nx h) (hst : ∀ v ∈ st, mm_vw nx v) (hlo : ∀ v, some v ∈ lo → mm_vw nx v) (hc : kc + 1 ≤ mm_mc M) (hs : ks + N ≤ mm_ms M) (kk : mm_T M own cc (nx + 1) (hset h nx (.inr (ci, fs))) (kc + 1) (ks + N) (pc + 3) lo (.ref nx :: st)) : mm_T M own cc nx h kc ks pc lo st := by
  intro p e s m args below meth c H locs ad ad0 ls C A B L
  obtain ⟨Cn, T, ty, hvw, h1, h2, h3, hin, hty, hfs, hnr⟩ := hg
  refine va_new C.1 C.2.1 (Ts := mm_ws) C.ts hin ty hty C.own (C.ts _ h1) (C.ts _ h2) (C.ts _ h3) B.K B.2.2.2.2.1 B.2.2.2.2.2.1 B.2.2.2.2.2.2.1 B.A hvw hfs hc hs hd (fun q H1 hP hD hS => ?_)
  have e1 : mm_re (mm_adn ad nx q) (mm_cA (mm_mG M)) (.inr (ci, fs)) = .inr (ci, fs) := by simp only [mm_re, hnr]
  rw [← e1] at hP hD
  have := kk p e s m args below meth c H1 locs (mm_adn ad nx q) ad0 ls C A.push (B.push hl hw hP hD hS) (L.re mm_adn_lt (mm_adn_ext hl) hlo)
  rw [List.map_cons, mm_st_re mm_adn_lt (mm_adn_ext hl) hst] at this
  simpa [mm_rv, mm_adn] using this
theorem mt_newai {n : Int32} {N : Nat} (hac : Cond.arrayClass .int ∈ mm_ws) (hd : decode cc pc = .ok (.newarray .int, 2)) (hn : ¬ n < 0) (hN : n.toNatClampNeg = N) (hb : N * 4 ≤ 536870912) (hl : nx < 1000000) (hw : mm_wf nx h) (hst : ∀ v ∈ st, mm_vw nx v) (hlo : ∀ v, some v ∈ lo → mm_vw nx v) (hc : kc + 1 ≤ mm_mc M) (hs : ks + N ≤ mm_ms M) (kk : mm_T M own cc (nx + 1) (hset h nx (.inl (0, N, .inl (fun _ => 0)))) (kc + 1) (ks + N) (pc + 2) lo (.ref nx :: st)) : mm_T M own cc nx h kc ks pc lo (.int n :: st) := by
  intro p e s m args below meth c H locs ad ad0 ls C A B L
  refine va_newa (atype := .int) C.1 C.2.1 (C.ts _ hac) rfl B.K B.2.2.2.2.1 B.2.2.2.2.2.1 B.2.2.2.2.2.2.1 B.A (a0 := (N, .inl (fun _ => 0))) (fun _ => rfl) hn hN hb hc hs hd (fun q cA H1 hK hP hD hS => ?_)
  have h1 : s.vm.findClass ("[" ++ FieldType.int.toString) = some cA := (hK.2 5 (cA, .int) rfl).2
  have h2 : s.vm.findClass ("[" ++ FieldType.int.toString) = some (mm_cA (mm_mG M) 0) := (B.K.2 0 _ rfl).2
  cases Option.some.inj (h1.symm.trans h2)
  have := kk p e s m args below meth c H1 locs (mm_adn ad nx q) ad0 ls C A.push (B.push (e := .inl (0, N, .inl (fun _ => 0))) hl hw hP hD hS) (L.re mm_adn_lt (mm_adn_ext hl) hlo)
  rw [List.map_cons, mm_st_re mm_adn_lt (mm_adn_ext hl) hst] at this
  simpa [mm_rv, mm_adn] using this
theorem mt_newab {n : Int32} {N : Nat} (hac : Cond.arrayClass .byte ∈ mm_ws) (hd : decode cc pc = .ok (.newarray .byte, 2)) (hn : ¬ n < 0) (hN : n.toNatClampNeg = N) (hb : N * 1 ≤ 536870912) (hl : nx < 1000000) (hw : mm_wf nx h) (hst : ∀ v ∈ st, mm_vw nx v) (hlo : ∀ v, some v ∈ lo → mm_vw nx v) (hc : kc + 1 ≤ mm_mc M) (hs : ks + N ≤ mm_ms M) (kk : mm_T M own cc (nx + 1) (hset h nx (.inl (1, N, .inl (fun _ => 0)))) (kc + 1) (ks + N) (pc + 2) lo (.ref nx :: st)) : mm_T M own cc nx h kc ks pc lo (.int n :: st) := by
  intro p e s m args below meth c H locs ad ad0 ls C A B L
  refine va_newa (atype := .byte) C.1 C.2.1 (C.ts _ hac) rfl B.K B.2.2.2.2.1 B.2.2.2.2.2.1 B.2.2.2.2.2.2.1 B.A (a0 := (N, .inl (fun _ => 0))) (fun _ => rfl) hn hN hb hc hs hd (fun q cA H1 hK hP hD hS => ?_)
  have h1 : s.vm.findClass ("[" ++ FieldType.byte.toString) = some cA := (hK.2 5 (cA, .byte) rfl).2
  have h2 : s.vm.findClass ("[" ++ FieldType.byte.toString) = some (mm_cA (mm_mG M) 1) := (B.K.2 1 _ rfl).2
  cases Option.some.inj (h1.symm.trans h2)
  have := kk p e s m args below meth c H1 locs (mm_adn ad nx q) ad0 ls C A.push (B.push (e := .inl (1, N, .inl (fun _ => 0))) hl hw hP hD hS) (L.re mm_adn_lt (mm_adn_ext hl) hlo)
  rw [List.map_cons, mm_st_re mm_adn_lt (mm_adn_ext hl) hst] at this
  simpa [mm_rv, mm_adn] using this
theorem mt_newal {n : Int32} {N : Nat} (hac : Cond.arrayClass .long ∈ mm_ws) (hd : decode cc pc = .ok (.newarray .long, 2)) (hn : ¬ n < 0) (hN : n.toNatClampNeg = N) (hb : N * 8 ≤ 536870912) (hl : nx < 1000000) (hw : mm_wf nx h) (hst : ∀ v ∈ st, mm_vw nx v) (hlo : ∀ v, some v ∈ lo → mm_vw nx v) (hc : kc + 1 ≤ mm_mc M) (hs : ks + N ≤ mm_ms M) (kk : mm_T M own cc (nx + 1) (hset h nx (.inl (2, N, .inr (.inl (fun _ => 0))))) (kc + 1) (ks + N) (pc + 2) lo (.ref nx :: st)) : mm_T M own cc nx h kc ks pc lo (.int n :: st) := by
  intro p e s m args below meth c H locs ad ad0 ls C A B L
  refine va_newa (atype := .long) C.1 C.2.1 (C.ts _ hac) rfl B.K B.2.2.2.2.1 B.2.2.2.2.2.1 B.2.2.2.2.2.2.1 B.A (a0 := (N, .inr (.inl (fun _ => 0)))) (fun _ => rfl) hn hN hb hc hs hd (fun q cA H1 hK hP hD hS => ?_)
  have h1 : s.vm.findClass ("[" ++ FieldType.long.toString) = some cA := (hK.2 5 (cA, .long) rfl).2
  have h2 : s.vm.findClass ("[" ++ FieldType.long.toString) = some (mm_cA (mm_mG M) 2) := (B.K.2 2 _ rfl).2
  cases Option.some.inj (h1.symm.trans h2)
  have := kk p e s m args below meth c H1 locs (mm_adn ad nx q) ad0 ls C A.push (B.push (e := .inl (2, N, .inr (.inl (fun _ => 0)))) hl hw hP hD hS) (L.re mm_adn_lt (mm_adn_ext hl) hlo)
  rw [List.map_cons, mm_st_re mm_adn_lt (mm_adn_ext hl) hst] at this
  simpa [mm_rv, mm_adn] using this
end MMA
