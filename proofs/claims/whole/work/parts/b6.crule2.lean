/-! Constructors: rules of several rows. -/
theorem hw1 {h : Nat → mm_E} {i j : Nat} (hn : i ≠ j) (a b c : mm_E) : hset (hset (hset h i a) j b) i c = hset (hset h j b) i c := by
  funext q
  by_cases h1 : q = i
  · subst h1
    rw [hset_eq, hset_eq]
  · rw [hset_ne h1, hset_ne h1]
    by_cases h2 : q = j
    · subst h2
      rw [hset_eq, hset_eq]
    · rw [hset_ne h2, hset_ne h1, hset_ne h2]
theorem mm_ew_set {nx ny ci k j : Nat} {fs : List Value} (h : mm_ew nx (.inr (ci, fs))) (hn : nx ≤ ny) (hj : j < ny) : mm_ew ny (.inr (ci, fs.set k (.ref j))) := by
  intro ad ad' cA h1 h2
  have e := h ad ad' cA (fun q hq => h1 q (Nat.lt_of_lt_of_le hq hn)) h2
  simp only [mm_re, Sum.inr.injEq, Prod.mk.injEq, true_and] at e ⊢
  rw [List.map_set, List.map_set, e, show mm_rv ad' (.ref j) = mm_rv ad (.ref j) by simp [mm_rv, h1 j hj]]
theorem mm_wf_at {nx i : Nat} {h : Nat → mm_E} {e : mm_E} (hw : mm_wf nx h) (hi : i < nx) (he : h i = e) : mm_ew nx e := by
  rw [← he]
  exact hw i hi
/-- the frame of a constructor at cell i: nothing but the cells from nx on and i -/
def FRi (nx i : Nat) (h m : Nat → mm_E) : Prop := ∀ j, j < nx → j ≠ i → m j = h j
section CRV
variable {M : mm_M} {own : String} {cc : ByteArray} {nx : Nat} {h : Nat → mm_E} {kc ks pc : Nat} {lo : List (Option Value)}
theorem mt_mkI {n : Int32} {index ci k i N : Nat} {fs : List Value} (hd1 : decode cc pc = .ok (.newarray .int, 2)) (hd2 : decode cc (pc + 2) = .ok (.putfield index, 3)) (hg : mm_pf own index ci k (.array .int) true) (hin : (mm_my M).name = "<init>") (hn : ¬ n < 0) (hN : n.toNatClampNeg = N) (hb : N ≤ 10000) (hk : k < fs.length) (hc : kc + 1 ≤ mm_mc M) (hs : ks + N ≤ mm_ms M) (hi : i < nx) (hl : nx < 1000000) (hw : mm_wf nx (hset h i (.inr (ci, fs)))) (hlo : ∀ v, some v ∈ lo → mm_vw nx v) (kk : mm_wf (nx + 1) (hset (hset h nx (.inl (0, N, .inl (fun _ => 0)))) i (.inr (ci, fs.set k (.ref nx)))) → mm_T M own cc (nx + 1) (hset (hset h nx (.inl (0, N, .inl (fun _ => 0)))) i (.inr (ci, fs.set k (.ref nx)))) (kc + 1) (ks + N) (pc + 5) lo []) : mm_T M own cc nx (hset h i (.inr (ci, fs))) kc ks pc lo [.int n, .ref i] := by
  refine mt_newai ac_int hd1 hn hN (by omega) hl hw (fun v hv => by rcases List.mem_singleton.mp hv with rfl; exact mm_vw_ref hi) hlo hc hs ?_
  refine mt_putr hg hin (fun _ => rfl) (fun _ => rfl) hd2 (by omega) (by rw [hset_ne (by omega), hset_eq]) hk ?_
  have hE := mm_wf_at hw hi (hset_eq _ _ _)
  have hw2 := mm_wf_set (i := i) (mm_wf_push (e := .inl (0, N, .inl (fun _ => 0))) hw mm_ew_i) (mm_ew_set (k := k) (j := nx) hE (Nat.le_succ nx) (Nat.lt_succ_self nx))
  rw [hw1 (by omega)] at hw2 ⊢
  exact kk hw2
theorem mt_mkB {n : Int32} {index ci k i N : Nat} {fs : List Value} (hd1 : decode cc pc = .ok (.newarray .byte, 2)) (hd2 : decode cc (pc + 2) = .ok (.putfield index, 3)) (hg : mm_pf own index ci k (.array .byte) true) (hin : (mm_my M).name = "<init>") (hn : ¬ n < 0) (hN : n.toNatClampNeg = N) (hb : N ≤ 10000) (hk : k < fs.length) (hc : kc + 1 ≤ mm_mc M) (hs : ks + N ≤ mm_ms M) (hi : i < nx) (hl : nx < 1000000) (hw : mm_wf nx (hset h i (.inr (ci, fs)))) (hlo : ∀ v, some v ∈ lo → mm_vw nx v) (kk : mm_wf (nx + 1) (hset (hset h nx (.inl (1, N, .inl (fun _ => 0)))) i (.inr (ci, fs.set k (.ref nx)))) → mm_T M own cc (nx + 1) (hset (hset h nx (.inl (1, N, .inl (fun _ => 0)))) i (.inr (ci, fs.set k (.ref nx)))) (kc + 1) (ks + N) (pc + 5) lo []) : mm_T M own cc nx (hset h i (.inr (ci, fs))) kc ks pc lo [.int n, .ref i] := by
  refine mt_newab ac_byte hd1 hn hN (by omega) hl hw (fun v hv => by rcases List.mem_singleton.mp hv with rfl; exact mm_vw_ref hi) hlo hc hs ?_
  refine mt_putr hg hin (fun _ => rfl) (fun _ => rfl) hd2 (by omega) (by rw [hset_ne (by omega), hset_eq]) hk ?_
  have hE := mm_wf_at hw hi (hset_eq _ _ _)
  have hw2 := mm_wf_set (i := i) (mm_wf_push (e := .inl (1, N, .inl (fun _ => 0))) hw mm_ew_i) (mm_ew_set (k := k) (j := nx) hE (Nat.le_succ nx) (Nat.lt_succ_self nx))
  rw [hw1 (by omega)] at hw2 ⊢
  exact kk hw2
theorem mt_mkL {n : Int32} {index ci k i N : Nat} {fs : List Value} (hd1 : decode cc pc = .ok (.newarray .long, 2)) (hd2 : decode cc (pc + 2) = .ok (.putfield index, 3)) (hg : mm_pf own index ci k (.array .long) true) (hin : (mm_my M).name = "<init>") (hn : ¬ n < 0) (hN : n.toNatClampNeg = N) (hb : N ≤ 10000) (hk : k < fs.length) (hc : kc + 1 ≤ mm_mc M) (hs : ks + N ≤ mm_ms M) (hi : i < nx) (hl : nx < 1000000) (hw : mm_wf nx (hset h i (.inr (ci, fs)))) (hlo : ∀ v, some v ∈ lo → mm_vw nx v) (kk : mm_wf (nx + 1) (hset (hset h nx (.inl (2, N, .inr (.inl (fun _ => 0))))) i (.inr (ci, fs.set k (.ref nx)))) → mm_T M own cc (nx + 1) (hset (hset h nx (.inl (2, N, .inr (.inl (fun _ => 0))))) i (.inr (ci, fs.set k (.ref nx)))) (kc + 1) (ks + N) (pc + 5) lo []) : mm_T M own cc nx (hset h i (.inr (ci, fs))) kc ks pc lo [.int n, .ref i] := by
  refine mt_newal ac_long hd1 hn hN (by omega) hl hw (fun v hv => by rcases List.mem_singleton.mp hv with rfl; exact mm_vw_ref hi) hlo hc hs ?_
  refine mt_putr hg hin (fun _ => rfl) (fun _ => rfl) hd2 (by omega) (by rw [hset_ne (by omega), hset_eq]) hk ?_
  have hE := mm_wf_at hw hi (hset_eq _ _ _)
  have hw2 := mm_wf_set (i := i) (mm_wf_push (e := .inl (2, N, .inr (.inl (fun _ => 0)))) hw mm_ew_l) (mm_ew_set (k := k) (j := nx) hE (Nat.le_succ nx) (Nat.lt_succ_self nx))
  rw [hw1 (by omega)] at hw2 ⊢
  exact kk hw2
/-- new C(), put into a field -/
theorem mt_mkO {i0 i1 i2 ci k i cj N nL d mc ms : Nat} {fs gs : List Value} {cl : String} {y : MethodName} {ck : ByteArray} {Po : mm_P} (hd0 : decode cc pc = .ok (.new i0, 3)) (hd1 : decode cc (pc + 3) = .ok (.dup, 1)) (hd2 : decode cc (pc + 3 + 1) = .ok (.invokespecial i1, 3)) (hd3 : decode cc (pc + 3 + 1 + 3) = .ok (.putfield i2, 3)) (hnf : mm_nf own i0 cj N gs) (hgs : ∀ v ∈ gs, mm_vw nx v) (hM : mm_Con (mm_mG M) (mm_ml M) y ck nL none d mc ms [.ref nx] (nx + 1) (hset h nx (.inr (cj, gs))) Po) (hca : mm_cal y ck nL none 0) (hy : y.name = "<init>") (hin1 : Cond.instanceMethod y ∈ mm_ws) (hl1 : Cond.methodLink own i1 y ∈ mm_ws ∨ ∃ host, Cond.methodLinkNest own i1 y host ∈ mm_nw) (hg : mm_pf own i2 ci k (.object cl) true) (hin : (mm_my M).name = "<init>") (hdep : d + 1 ≤ mm_d M) (hc : kc + 1 + mc ≤ mm_mc M) (hs : ks + N + ms ≤ mm_ms M) (hno : ∀ x n k, ¬ Po (.inr x) n k) (hk : k < fs.length) (hi : i < nx) (hl : nx < 1000000) (hw : mm_wf nx h) (hlo : ∀ v, some v ∈ lo → mm_vw nx v)
    (kr : ∀ v nx' m, Po (.inl v) nx' m → v = none ∧ nx < nx' ∧ m i = .inr (ci, fs) ∧ mm_wf nx' m ∧ (mm_wf nx' (hset m i (.inr (ci, fs.set k (.ref nx)))) → mm_T M own cc nx' (hset m i (.inr (ci, fs.set k (.ref nx)))) (kc + 1 + mc) (ks + N + ms) (pc + 3 + 1 + 3 + 3) lo [])) : mm_T M own cc nx h kc ks pc lo [.ref i] := by
  have hst1 : ∀ v ∈ ([.ref i] : List Value), mm_vw nx v := fun v hv => by rcases List.mem_singleton.mp hv with rfl; exact mm_vw_ref hi
  refine mt_new hnf hd0 hl hw hst1 hlo (by omega) (by omega) ?_
  refine mt_dup hd1 rfl ?_
  have hlo2 : ∀ v, some v ∈ lo → mm_vw (nx + 1) v := fun v hv => mm_vw_mono (Nat.le_succ nx) (hlo v hv)
  have hst2 : ∀ v ∈ ([.ref nx, .ref i] : List Value), mm_vw (nx + 1) v := fun v hv => by
    rcases List.mem_cons.mp hv with rfl | hv
    · exact mm_vw_ref (Nat.lt_succ_self nx)
    · exact mm_vw_mono (Nat.le_succ nx) (hst1 v hv)
  have kr2 : ∀ v nx' m, Po (.inl v) nx' m → mm_T M own cc nx' m (kc + 1 + mc) (ks + N + ms) (pc + 3 + 1 + 3) lo (v.toList ++ [.ref nx, .ref i]) := by
    intro v nx' m hp
    obtain ⟨rfl, hn, hm, hwm, kk⟩ := kr v nx' m hp
    refine mt_putr hg hin (fun _ => rfl) (fun _ => rfl) hd3 (by omega) hm hk ?_
    exact kk (mm_wf_set hwm (mm_ew_set (mm_wf_at hwm (by omega) hm) (Nat.le_refl _) hn))
  rcases hl1 with hl1 | ⟨host, hl1⟩
  · exact mt_callI (av := []) hM hca hy hin1 hl1 hd2 hdep ⟨hc, hs⟩ rfl rfl (Nat.le_of_ble_eq_true rfl) hno hlo2 hst2 kr2
  · exact mt_callIN (av := []) hM hca hy hin1 hl1 hd2 hdep ⟨hc, hs⟩ rfl rfl (Nat.le_of_ble_eq_true rfl) hno hlo2 hst2 kr2
end CRV
