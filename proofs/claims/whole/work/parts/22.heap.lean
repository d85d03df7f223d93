/-! Rules: fields, arrays, ends, calls. -/
theorem mm_C.ts {M : mm_M} {own : String} {cc : ByteArray} {p : Program} {s : State} {m : MethodId} {args : Array Value} {meth : Method} {c : Code} (C : mm_C M own cc p s m args meth c) : ∀ w ∈ mm_ws, w.before args s = true := C.2.2.2.2.2.1
theorem mm_C.own {M : mm_M} {own : String} {cc : ByteArray} {p : Program} {s : State} {m : MethodId} {args : Array Value} {meth : Method} {c : Code} (C : mm_C M own cc p s m args meth c) : s.vm.findClass own = some m.cls := C.2.2.2.2.1
section MMH
variable {M : mm_M} {own : String} {cc : ByteArray} {nx : Nat} {h : Nat → mm_E} {kc ks pc : Nat} {lo : List (Option Value)} {st : List Value}
theorem mt_get {index ci k i : Nat} {fs : List Value} {v : Value} (hg : mm_gf own index ci k) (hd : decode cc pc = .ok (.getfield index, 3)) (hi : i < nx) (hh : h i = .inr (ci, fs)) (hv : fs[k]? = some v) (kk : mm_T M own cc nx h kc ks (pc + 3) lo (v :: st)) : mm_T M own cc nx h kc ks pc lo (.ref i :: st) := by
  intro p e s m args below meth c H locs ad ad0 ls C A B L
  obtain ⟨Cn, T, N, hc, hk, hin, hl⟩ := hg
  have he : (mm_w ad (mm_cA (mm_mG M)) nx h)[i]? = some (ad i, .inr (ci, fs.map (mm_rv ad))) := by rw [mm_w_get hi, hh]; rfl
  rcases hl with hl | ⟨host, hl⟩
  · exact va_get C.1 C.2.1 (Ts := mm_ws) C.ts hin C.own B.K B.2.2.2.2.1 i he hc k hk (C.ts _ hl) (fun _ z => z) (by rw [List.getElem?_map, hv]; rfl) hd (kk p e s m args below meth c H locs ad ad0 ls C A B L)
  · exact va_getN C.1 C.2.1 (Ts := mm_ws) C.ts hin C.own B.K B.2.2.2.2.1 i he hc k hk (va_Nw.use rfl (B.2.2.2.2.2.2.2.2.1 _ hl)) (fun _ z => z) (by rw [List.getElem?_map, hv]; rfl) hd (kk p e s m args below meth c H locs ad ad0 ls C A B L)
theorem mm_H.put {G : mm_G} {ad : Nat → Nat} {s : State} {H H1 : Heap} {locs locs1 : List Loc} {i : Nat} {e : mm_E} (B : mm_H G ad nx h s H locs) (hP : va_P (mm_D G) vwCl ((mm_w ad (mm_cA G) nx h).set i (ad i, mm_re ad (mm_cA G) e)) H1) (hD : va_D (mm_fr G) ((mm_w ad (mm_cA G) nx h).set i (ad i, mm_re ad (mm_cA G) e))) (hS : va_S (mm_fr G) s.heap H1 locs1) : mm_H G ad nx (hset h i e) s H1 locs1 := by
  rw [mm_w_set] at hP hD
  obtain ⟨b1, b2, b3, b4, b5, b6, b7, b8, b9⟩ := B
  exact ⟨b1, b2, b3, b4, hP, hD, hS, b8, b9⟩
theorem mt_puti {index ci k i : Nat} {fs : List Value} {x : Int32} (hg : mm_pf own index ci k .int false) (hd : decode cc pc = .ok (.putfield index, 3)) (hi : i < nx) (hh : h i = .inr (ci, fs)) (hl : k < fs.length) (kk : mm_T M own cc nx (hset h i (.inr (ci, fs.set k (.int x)))) kc ks (pc + 3) lo st) : mm_T M own cc nx h kc ks pc lo (.int x :: .ref i :: st) := by
  intro p e s m args below meth c H locs ad ad0 ls C A B L
  obtain ⟨Cn, T, N, ty0, hc, hk, hin, hl2, hty, hnm, hf, hpd, -⟩ := hg
  have he : (mm_w ad (mm_cA (mm_mG M)) nx h)[i]? = some (ad i, .inr (ci, fs.map (mm_rv ad))) := by rw [mm_w_get hi, hh]; rfl
  refine va_put C.1 C.2.1 (Ts := mm_ws) C.ts hin ty0 hty hnm C.own B.K B.2.2.2.2.1 B.2.2.2.2.2.1 B.2.2.2.2.2.2.1 i he hc k hk (C.ts _ hl2) (fun _ z => z) hf hpd rfl rfl (by rw [List.length_map]; exact hl) hd (fun H1 locs1 hP hD hS => ?_)
  rw [← List.map_set] at hP hD
  exact kk p e s m args below meth c H1 locs1 ad ad0 ls C A (B.put (e := .inr (ci, fs.set k (.int x))) hP hD hS) L
theorem mt_putr {index ci k i j : Nat} {fs : List Value} {ty : FieldType} (hg : mm_pf own index ci k ty true) (hin2 : (mm_my M).name = "<init>") (hn : ∀ a, narrow ty (.ref a) = .ref a) (hfit : ∀ a, fits ty (.ref a) = true) (hd : decode cc pc = .ok (.putfield index, 3)) (hi : i < nx) (hh : h i = .inr (ci, fs)) (hl : k < fs.length) (kk : mm_T M own cc nx (hset h i (.inr (ci, fs.set k (.ref j)))) kc ks (pc + 3) lo st) : mm_T M own cc nx h kc ks pc lo (.ref j :: .ref i :: st) := by
  intro p e s m args below meth c H locs ad ad0 ls C A B L
  obtain ⟨Cn, T, N, ty0, hc, hk, hin, hl2, hty, hnm, hf, hpd, how⟩ := hg
  have he : (mm_w ad (mm_cA (mm_mG M)) nx h)[i]? = some (ad i, .inr (ci, fs.map (mm_rv ad))) := by rw [mm_w_get hi, hh]; rfl
  refine va_putF C.1 C.2.1 (Ts := mm_ws) C.ts hin ty0 hty hnm C.own B.K B.2.2.2.2.1 B.2.2.2.2.2.1 B.2.2.2.2.2.2.1 i he hc k hk (C.ts _ hl2) (fun _ z => z) hf (C.2.2.2.2.2.2.2.2.trans hin2) (how rfl) hpd (hn _) (hfit _) (by rw [List.length_map]; exact hl) hd (fun H1 locs1 hP hD hS => ?_)
  rw [← List.map_set] at hP hD
  exact kk p e s m args below meth c H1 locs1 ad ad0 ls C A (B.put (e := .inr (ci, fs.set k (.ref j))) hP hD hS) L
/-! arrays -/
theorem mt_iald {i n : Nat} {f : Nat → Int32} {j : Int32} (hd : decode cc pc = .ok (.iaload, 1)) (hi : i < nx) (hh : h i = .inl (0, n, .inl f)) (hin : vp_in j n) (kk : mm_T M own cc nx h kc ks (pc + 1) lo (.int (f j.toNatClampNeg) :: st)) : mm_T M own cc nx h kc ks pc lo (.int j :: .ref i :: st) := by
  intro p e s m args below meth c H locs ad ad0 ls C A B L
  exact va_iald C.1 C.2.1 B.K B.2.2.2.2.1 i 0 (cA := mm_cA (mm_mG M) 0) (n := n) (f := f) (by rw [mm_w_get hi, hh]; rfl) rfl hin hd (kk p e s m args below meth c H locs ad ad0 ls C A B L)
theorem mt_bald {i n : Nat} {f : Nat → Int32} {j : Int32} (hd : decode cc pc = .ok (.baload, 1)) (hi : i < nx) (hh : h i = .inl (1, n, .inl f)) (hin : vp_in j n) (kk : mm_T M own cc nx h kc ks (pc + 1) lo (.int (f j.toNatClampNeg) :: st)) : mm_T M own cc nx h kc ks pc lo (.int j :: .ref i :: st) := by
  intro p e s m args below meth c H locs ad ad0 ls C A B L
  exact va_bald C.1 C.2.1 B.K B.2.2.2.2.1 i 1 (cA := mm_cA (mm_mG M) 1) (n := n) (f := f) (by rw [mm_w_get hi, hh]; rfl) rfl hin hd (kk p e s m args below meth c H locs ad ad0 ls C A B L)
theorem mt_lald {i n : Nat} {f : Nat → Int64} {j : Int32} (hd : decode cc pc = .ok (.laload, 1)) (hi : i < nx) (hh : h i = .inl (2, n, .inr (.inl f))) (hin : vp_in j n) (kk : mm_T M own cc nx h kc ks (pc + 1) lo (.long (f j.toNatClampNeg) :: st)) : mm_T M own cc nx h kc ks pc lo (.int j :: .ref i :: st) := by
  intro p e s m args below meth c H locs ad ad0 ls C A B L
  exact va_lald C.1 C.2.1 B.K B.2.2.2.2.1 i 2 (cA := mm_cA (mm_mG M) 2) (n := n) (f := f) (by rw [mm_w_get hi, hh]; rfl) rfl hin hd (kk p e s m args below meth c H locs ad ad0 ls C A B L)
theorem mt_aald {i n q g : Nat} {cl : String} {f : Nat → Option Nat} {j : Int32} (hq : (mm_ty (fun z => z))[q]? = some (q, .object cl)) (hd : decode cc pc = .ok (.aaload, 1)) (hi : i < nx) (hh : h i = .inl (q, n, .inr (.inr (.inr (.inr f))))) (hin : vp_in j n) (hf : f j.toNatClampNeg = some g) (kk : mm_T M own cc nx h kc ks (pc + 1) lo (.ref g :: st)) : mm_T M own cc nx h kc ks pc lo (.int j :: .ref i :: st) := by
  intro p e s m args below meth c H locs ad ad0 ls C A B L
  have ht : (mm_ty (mm_cA (mm_mG M)))[q]? = some (mm_cA (mm_mG M) q, .object cl) := by
    rcases (show q = 0 ∨ q = 1 ∨ q = 2 ∨ q = 3 ∨ q = 4 by
      have := (List.getElem?_eq_some_iff.mp hq).1
      simp only [mm_ty, List.length_cons, List.length_nil] at this
      omega) with rfl | rfl | rfl | rfl | rfl <;> simp only [mm_ty, List.getElem?_cons_zero, List.getElem?_cons_succ, Option.some.injEq, Prod.mk.injEq, true_and] at hq <;> first | (cases hq; done) | (subst hq; rfl) | (cases hq; rfl)
  refine va_aldq C.1 C.2.1 B.K B.2.2.2.2.1 i q (cA := mm_cA (mm_mG M) q) (C := cl) (n := n) (f := fun z => (f z).map ad) (by rw [mm_w_get hi, hh]; rfl) ht hin hd ?_
  have e1 : va_rf ((f j.toNatClampNeg).map ad) = .ref (ad g) := by rw [hf]; rfl
  show W _ _ _ _ _ _ _ _ _ _ _ _ _ _ _ (F0 m (pc + 1) ls (va_rf ((f j.toNatClampNeg).map ad) :: st.map (mm_rv ad)))
  rw [e1]
  exact kk p e s m args below meth c H locs ad ad0 ls C A B L
theorem mt_iast {i n : Nat} {f : Nat → Int32} {j x : Int32} (hd : decode cc pc = .ok (.iastore, 1)) (hi : i < nx) (hh : h i = .inl (0, n, .inl f)) (hin : vp_in j n) (kk : mm_T M own cc nx (hset h i (.inl (0, n, .inl (upd f j.toNatClampNeg x)))) kc ks (pc + 1) lo st) : mm_T M own cc nx h kc ks pc lo (.int x :: .int j :: .ref i :: st) := by
  intro p e s m args below meth c H locs ad ad0 ls C A B L
  refine va_iast C.1 C.2.1 B.K B.2.2.2.2.1 B.2.2.2.2.2.1 B.2.2.2.2.2.2.1 i 0 (cA := mm_cA (mm_mG M) 0) (n := n) (f := f) (by rw [mm_w_get hi, hh]; rfl) rfl hin hd (fun H1 locs1 hP hD hS => ?_)
  exact kk p e s m args below meth c H1 locs1 ad ad0 ls C A (B.put (e := .inl (0, n, .inl (upd f j.toNatClampNeg x))) hP hD hS) L
theorem mt_bast {i n : Nat} {f : Nat → Int32} {j x : Int32} (hd : decode cc pc = .ok (.bastore, 1)) (hi : i < nx) (hh : h i = .inl (1, n, .inl f)) (hin : vp_in j n) (kk : mm_T M own cc nx (hset h i (.inl (1, n, .inl (upd f j.toNatClampNeg (vp_nar .byte x))))) kc ks (pc + 1) lo st) : mm_T M own cc nx h kc ks pc lo (.int x :: .int j :: .ref i :: st) := by
  intro p e s m args below meth c H locs ad ad0 ls C A B L
  refine va_bast C.1 C.2.1 B.K B.2.2.2.2.1 B.2.2.2.2.2.1 B.2.2.2.2.2.2.1 i 1 (cA := mm_cA (mm_mG M) 1) (n := n) (f := f) (by rw [mm_w_get hi, hh]; rfl) rfl hin hd (fun H1 locs1 hP hD hS => ?_)
  exact kk p e s m args below meth c H1 locs1 ad ad0 ls C A (B.put (e := .inl (1, n, .inl (upd f j.toNatClampNeg (vp_nar .byte x)))) hP hD hS) L
theorem mt_last {i n : Nat} {f : Nat → Int64} {j : Int32} {x : Int64} (hd : decode cc pc = .ok (.lastore, 1)) (hi : i < nx) (hh : h i = .inl (2, n, .inr (.inl f))) (hin : vp_in j n) (kk : mm_T M own cc nx (hset h i (.inl (2, n, .inr (.inl (vp_updL f j.toNatClampNeg x))))) kc ks (pc + 1) lo st) : mm_T M own cc nx h kc ks pc lo (.long x :: .int j :: .ref i :: st) := by
  intro p e s m args below meth c H locs ad ad0 ls C A B L
  refine va_last C.1 C.2.1 B.K B.2.2.2.2.1 B.2.2.2.2.2.1 B.2.2.2.2.2.2.1 i 2 (cA := mm_cA (mm_mG M) 2) (n := n) (f := f) (by rw [mm_w_get hi, hh]; rfl) rfl hin hd (fun H1 locs1 hP hD hS => ?_)
  exact kk p e s m args below meth c H1 locs1 ad ad0 ls C A (B.put (e := .inl (2, n, .inr (.inl (vp_updL f j.toNatClampNeg x)))) hP hD hS) L
theorem mm_ty_at (cA : Nat → ClassId) {q : Nat} (hq : q < 5) : ∃ ty, (mm_ty cA)[q]? = some (cA q, ty) := by
  rcases (show q = 0 ∨ q = 1 ∨ q = 2 ∨ q = 3 ∨ q = 4 by omega) with rfl | rfl | rfl | rfl | rfl <;> exact ⟨_, rfl⟩
theorem mt_alen {i q n : Nat} {x : (Nat → Int32) ⊕ (Nat → Int64) ⊕ (Nat → UInt32) ⊕ (Nat → UInt64) ⊕ (Nat → Option Nat)} (hd : decode cc pc = .ok (.arraylength, 1)) (hi : i < nx) (hh : h i = .inl (q, n, x)) (hq : q < 5) (kk : mm_T M own cc nx h kc ks (pc + 1) lo (.int (nI n) :: st)) : mm_T M own cc nx h kc ks pc lo (.ref i :: st) := by
  intro p e s m args below meth c H locs ad ad0 ls C A B L
  obtain ⟨ty, hty⟩ := mm_ty_at (mm_cA (mm_mG M)) hq
  have e1 : (mm_ra ad (n, x)).1 = n := by rcases x with x | x | x | x | x <;> rfl
  exact va_alen C.1 C.2.1 B.K B.2.2.2.2.1 i q (cA := mm_cA (mm_mG M) q) (x := mm_ra ad (n, x)) (by rw [mm_w_get hi, hh]; rfl) hty (by rw [e1]; rfl) hd (kk p e s m args below meth c H locs ad ad0 ls C A B L)
/-! ends -/
theorem mm_fin {o : Option Value} {s : State} {args : Array Value} {ad ad0 : Nat → Nat} {H : Heap} {locs : List Loc} (hpo : mm_po M (.inl o) nx h) (A : mm_ext (mm_n0 M) nx ad0 ad) (B : mm_H (mm_mG M) ad nx h s H locs) {t : State} (ht : t.heap = H) (hW : s.WarmedH t.vm) : mm_Qc (mm_mG M) (mm_n0 M) (mm_po M) ad0 args s (.returned (o.map (mm_rv ad))) t :=
  ⟨by rw [ht]; exact B.2.2.2.2.2.2.1.1, o, nx, h, ad, rfl, hpo, A, B.wd ht hW.alike⟩
theorem mt_iret {x : Int32} (hr : mm_rt M = some .int) (hd : decode cc pc = .ok (.ireturn, 1)) (hc : kc ≤ mm_mc M) (hs : ks ≤ mm_ms M) (hpo : mm_po M (.inl (some (.int x))) nx h) : mm_T M own cc nx h kc ks pc lo [.int x] := by
  intro p e s m args below meth c H locs ad ad0 ls C A B L
  refine vx_ret (W.widen hc hs ?_)
  exact W.iret C.1 C.2.1 (C.2.2.2.1.trans hr) (fun t ht hW => mm_fin (o := some (.int x)) hpo A B ht hW) B.2.2.2.2.2.2.1.2.2 hd C.2.2.2.2.2.2.1
theorem mt_zret {x : Int32} (hr : mm_rt M = some .boolean) (hx : x = 0 ∨ x = 1) (hd : decode cc pc = .ok (.ireturn, 1)) (hc : kc ≤ mm_mc M) (hs : ks ≤ mm_ms M) (hpo : mm_po M (.inl (some (.int x))) nx h) : mm_T M own cc nx h kc ks pc lo [.int x] := by
  intro p e s m args below meth c H locs ad ad0 ls C A B L
  refine vx_ret (W.widen hc hs ?_)
  exact W.zret (ty := .boolean) C.1 C.2.1 (C.2.2.2.1.trans hr) (by rcases hx with rfl | rfl <;> rfl) (fun t ht hW => mm_fin (o := some (.int x)) hpo A B ht hW) B.2.2.2.2.2.2.1.2.2 hd C.2.2.2.2.2.2.1
theorem mt_tret {x : Int32} {ty : FieldType} (hr : mm_rt M = some ty) (hx : narrow ty (.int x) = .int x) (hd : decode cc pc = .ok (.ireturn, 1)) (hc : kc ≤ mm_mc M) (hs : ks ≤ mm_ms M) (hpo : mm_po M (.inl (some (.int x))) nx h) : mm_T M own cc nx h kc ks pc lo [.int x] := by
  intro p e s m args below meth c H locs ad ad0 ls C A B L
  refine vx_ret (W.widen hc hs ?_)
  exact W.zret (ty := ty) C.1 C.2.1 (C.2.2.2.1.trans hr) hx (fun t ht hW => mm_fin (o := some (.int x)) hpo A B ht hW) B.2.2.2.2.2.2.1.2.2 hd C.2.2.2.2.2.2.1
theorem mt_lret {x : Int64} (hr : mm_rt M = some .long) (hd : decode cc pc = .ok (.lreturn, 1)) (hc : kc ≤ mm_mc M) (hs : ks ≤ mm_ms M) (hpo : mm_po M (.inl (some (.long x))) nx h) : mm_T M own cc nx h kc ks pc lo [.long x] := by
  intro p e s m args below meth c H locs ad ad0 ls C A B L
  refine vx_ret (W.widen hc hs ?_)
  exact W.lret C.1 C.2.1 (C.2.2.2.1.trans hr) (fun t ht hW => mm_fin (o := some (.long x)) hpo A B ht hW) B.2.2.2.2.2.2.1.2.2 hd C.2.2.2.2.2.2.1
theorem mt_vret (hr : mm_rt M = none) (hd : decode cc pc = .ok (.return_, 1)) (hc : kc ≤ mm_mc M) (hs : ks ≤ mm_ms M) (hpo : mm_po M (.inl none) nx h) : mm_T M own cc nx h kc ks pc lo [] := by
  intro p e s m args below meth c H locs ad ad0 ls C A B L
  refine vx_ret (W.widen hc hs ?_)
  exact W.vret C.1 C.2.1 (C.2.2.2.1.trans hr) (fun t ht hW => mm_fin (o := none) hpo A B ht hW) B.2.2.2.2.2.2.1.2.2 hd C.2.2.2.2.2.2.1
end MMH
