/-! Rules in the forms that the walks use. -/
/-- a method that comes back with v, nothing made, the world h -/
def mm_ret (v : Option Value) (nx : Nat) (h : Nat → mm_E) : mm_P := fun o n k => o = .inl v ∧ n = nx ∧ k = h
/-- a method that throws x -/
def mm_thr (x : Nat) (nx : Nat) (h : Nat → mm_E) : mm_P := fun o n k => o = .inr x ∧ n = nx ∧ k = h
/-- the locals at a method's start -/
def mm_sl : List Value → List (Option Value)
  | [] => []
  | v :: r => if v.category = 2 then some v :: none :: mm_sl r else some v :: mm_sl r
theorem mm_sl_args (ad : Nat → Nat) : ∀ (av : List Value) (k i : Nat) (v : Value), (mm_sl av)[i]? = some (some v) → (k + i, mm_rv ad v) ∈ lv_args k (av.map (mm_rv ad))
  | [], k, i, v, h => by simp [mm_sl] at h
  | w :: r, k, i, v, h => by
    simp only [mm_sl] at h
    simp only [List.map_cons, lv_args, mm_rv_cat]
    by_cases hw : w.category = 2
    · rw [if_pos hw] at h
      rw [if_pos hw]
      rcases i with _ | _ | i
      · simp only [List.getElem?_cons_zero, Option.some.injEq] at h
        subst h
        exact List.mem_cons_self
      · simp at h
      · simp only [List.getElem?_cons_succ] at h
        have := mm_sl_args ad r (k + 2) i v h
        rw [show k + (i + 1 + 1) = k + 2 + i by omega]
        exact List.mem_cons_of_mem _ this
    · rw [if_neg hw] at h
      rw [if_neg hw]
      rcases i with _ | i
      · simp only [List.getElem?_cons_zero, Option.some.injEq] at h
        subst h
        exact List.mem_cons_self
      · simp only [List.getElem?_cons_succ] at h
        have := mm_sl_args ad r (k + 1) i v h
        rw [show k + (i + 1) = k + 1 + i by omega]
        exact List.mem_cons_of_mem _ this
theorem mm_sl_len : ∀ av : List Value, (lg_sl av).length = (mm_sl av).length
  | [] => rfl
  | v :: r => by
    have ih := mm_sl_len r
    by_cases hv : v.category = 2
    · simp only [lg_sl, List.flatMap_cons, mm_sl, if_pos hv, List.length_append, List.length_cons, List.length_nil] at ih ⊢
      omega
    · simp only [lg_sl, List.flatMap_cons, mm_sl, if_neg hv, List.length_append, List.length_cons, List.length_nil] at ih ⊢
      omega
theorem mm_sl_map (ad : Nat → Nat) : ∀ av : List Value, (mm_sl (av.map (mm_rv ad))).length = (mm_sl av).length
  | [] => rfl
  | v :: r => by
    have ih := mm_sl_map ad r
    by_cases hv : v.category = 2
    · simp only [List.map_cons, mm_sl, mm_rv_cat, if_pos hv, List.length_cons, ih]
    · simp only [List.map_cons, mm_sl, mm_rv_cat, if_neg hv, List.length_cons, ih]
theorem mm_start {G : mm_G} {l : Launch} {y : MethodName} {cc : ByteArray} {nL : Nat} {rt : Option FieldType} {d mc ms : Nat} {av : List Value} {nx : Nat} {h : Nat → mm_E} {Po : mm_P} {lo : List (Option Value)} {own : String} (hy : plainName own = true) (ho : y.cls = own) (hlo : mm_sl av ++ List.replicate (nL - (mm_sl av).length) none = lo) (hn : (mm_sl av).length ≤ nL)
    (k : mm_T (G, l, y, nL, rt, d, mc, ms, Po, nx) own cc nx h 0 0 0 lo []) : mm_Con G l y cc nL rt d mc ms av nx h Po := by
  subst ho
  refine mm_con hy lo (by rw [mm_sl_len]; exact hn) (fun ad i v hv => ?_) (fun ad => by rw [mm_sl_len, mm_sl_len, mm_sl_map]) k
  subst hlo
  have h1 : (mm_sl av)[i]? = some (some v) := by
    by_cases hi : i < (mm_sl av).length
    · rwa [List.getElem?_append_left hi] at hv
    · rw [List.getElem?_append_right (by omega), List.getElem?_replicate] at hv
      split at hv <;> cases hv
  have := mm_sl_args ad av 0 i v h1
  rwa [Nat.zero_add] at this
theorem pn_X0 : plainName RX0 = true := by decide +kernel
theorem pn_X1 : plainName RX1 = true := by decide +kernel
theorem pn_X2 : plainName RX2 = true := by decide +kernel
theorem pn_X3 : plainName RX3 = true := by decide +kernel
theorem pn_X4 : plainName RX4 = true := by decide +kernel
theorem pn_X5 : plainName RX5 = true := by decide +kernel
theorem pn_X6 : plainName RX6 = true := by decide +kernel
theorem pn_X7 : plainName RX7 = true := by decide +kernel
theorem pn_X8 : plainName RX8 = true := by decide +kernel
theorem pn_X9 : plainName RX9 = true := by decide +kernel
theorem pn_X10 : plainName RX10 = true := by decide +kernel
theorem pn_X11 : plainName RX11 = true := by decide +kernel
theorem pn_Jx145de : plainName RJx145de = true := by decide +kernel
theorem pn_Jx9f9b0 : plainName RJx9f9b0 = true := by decide +kernel
theorem pn_Jxb160c : plainName RJxb160c = true := by decide +kernel
theorem pn_J6 : plainName RJ6 = true := by decide +kernel
theorem pn_J0 : plainName RJ0 = true := by decide +kernel
theorem pn_J1 : plainName RJ1 = true := by decide +kernel
theorem pn_J2 : plainName RJ2 = true := by decide +kernel
theorem pn_J10 : plainName RJ10 = true := by decide +kernel
theorem pn_Jxfd54e : plainName RJxfd54e = true := by decide +kernel
theorem pn_Jx3cf43 : plainName RJx3cf43 = true := by decide +kernel
theorem pn_J3 : plainName RJ3 = true := by decide +kernel
theorem pn_L : plainName RL = true := by decide +kernel
section MMF
variable {M : mm_M} {own : String} {cc : ByteArray} {nx : Nat} {h : Nat → mm_E} {kc ks pc : Nat} {lo : List (Option Value)} {st : List Value}
theorem mt_puti2 {index ci k i : Nat} {fs : List Value} {x : Int32} (hg : mm_pf own index ci k .int false) (hd : decode cc pc = .ok (.putfield index, 3)) (hi : i < nx) (hl : k < fs.length) (kk : mm_T M own cc nx (hset h i (.inr (ci, fs.set k (.int x)))) kc ks (pc + 3) lo st) : mm_T M own cc nx (hset h i (.inr (ci, fs))) kc ks pc lo (.int x :: .ref i :: st) := by
  refine mt_puti hg hd hi (hset_eq _ _ _) hl ?_
  rw [hset_hset]
  exact kk
theorem mt_iast2 {i n : Nat} {f : Nat → Int32} {j x : Int32} (hd : decode cc pc = .ok (.iastore, 1)) (hi : i < nx) (hin : vp_in j n) (kk : mm_T M own cc nx (hset h i (.inl (0, n, .inl (upd f j.toNatClampNeg x)))) kc ks (pc + 1) lo st) : mm_T M own cc nx (hset h i (.inl (0, n, .inl f))) kc ks pc lo (.int x :: .int j :: .ref i :: st) := by
  refine mt_iast hd hi (hset_eq _ _ _) hin ?_
  rw [hset_hset]
  exact kk
theorem mt_bast2 {i n : Nat} {f : Nat → Int32} {j x : Int32} (hd : decode cc pc = .ok (.bastore, 1)) (hi : i < nx) (hin : vp_in j n) (kk : mm_T M own cc nx (hset h i (.inl (1, n, .inl (upd f j.toNatClampNeg (vp_nar .byte x))))) kc ks (pc + 1) lo st) : mm_T M own cc nx (hset h i (.inl (1, n, .inl f))) kc ks pc lo (.int x :: .int j :: .ref i :: st) := by
  refine mt_bast hd hi (hset_eq _ _ _) hin ?_
  rw [hset_hset]
  exact kk
theorem mt_last2 {i n : Nat} {f : Nat → Int64} {j : Int32} {x : Int64} (hd : decode cc pc = .ok (.lastore, 1)) (hi : i < nx) (hin : vp_in j n) (kk : mm_T M own cc nx (hset h i (.inl (2, n, .inr (.inl (vp_updL f j.toNatClampNeg x))))) kc ks (pc + 1) lo st) : mm_T M own cc nx (hset h i (.inl (2, n, .inr (.inl f)))) kc ks pc lo (.long x :: .int j :: .ref i :: st) := by
  refine mt_last hd hi (hset_eq _ _ _) hin ?_
  rw [hset_hset]
  exact kk
theorem mt_mmin {index : Nat} {x y : Int32} (hl : Cond.methodLink own index yJ9_min_7cf53 ∈ mm_ws) (hd : decode cc pc = .ok (.invokestatic index, 3)) (hdep : 1 ≤ mm_d M) (hroom : kc ≤ mm_mc M ∧ ks ≤ mm_ms M) (hst : (st.map fun v => v.category).sum ≤ 8) (kk : mm_T M own cc nx h kc ks (pc + 3) lo (.int (if y < x then y else x) :: st)) : mm_T M own cc nx h kc ks pc lo (.int y :: .int x :: st) := by
  intro p e s m args below meth c H locs ad ad0 ls C A B L
  have e0 : ((st.map (mm_rv ad)).map fun v => v.category).sum ≤ 8 := by rw [List.map_map, show ((fun v : Value => v.category) ∘ mm_rv ad) = (fun v => v.category) from funext (mm_rv_cat ad)]; exact hst
  have e1 : Cond.code Lib.Math.min.name Lib.Math.min.code 2 (some .int) ∈ mm_ws := cal_J9_min_7cf53.1
  exact va_mmin C.1 C.2.1 (C.2.2.1.trans L.1.symm) C.own (C.ts _ hl) (C.ts _ sta_J9_min_7cf53) (C.ts _ cal_J9_min_7cf53.2.1) (C.ts _ e1) hdep (by show _ ≤ 40 * mm_d M; omega) hroom.1 hroom.2 hd (kk p e s m args below meth c H locs ad ad0 ls C A B L)
theorem mt_mmax {index : Nat} {x y : Int32} (hl : Cond.methodLink own index yJ9_max_7cf53 ∈ mm_ws) (hd : decode cc pc = .ok (.invokestatic index, 3)) (hdep : 1 ≤ mm_d M) (hroom : kc ≤ mm_mc M ∧ ks ≤ mm_ms M) (hst : (st.map fun v => v.category).sum ≤ 8) (kk : mm_T M own cc nx h kc ks (pc + 3) lo (.int (if x < y then y else x) :: st)) : mm_T M own cc nx h kc ks pc lo (.int y :: .int x :: st) := by
  intro p e s m args below meth c H locs ad ad0 ls C A B L
  have e0 : ((st.map (mm_rv ad)).map fun v => v.category).sum ≤ 8 := by rw [List.map_map, show ((fun v : Value => v.category) ∘ mm_rv ad) = (fun v => v.category) from funext (mm_rv_cat ad)]; exact hst
  have e1 : Cond.code Lib.Math.max.name Lib.Math.max.code 2 (some .int) ∈ mm_ws := cal_J9_max_7cf53.1
  exact va_mmax C.1 C.2.1 (C.2.2.1.trans L.1.symm) C.own (C.ts _ hl) (C.ts _ sta_J9_max_7cf53) (C.ts _ cal_J9_max_7cf53.2.1) (C.ts _ e1) hdep (by show _ ≤ 40 * mm_d M; omega) hroom.1 hroom.2 hd (kk p e s m args below meth c H locs ad ad0 ls C A B L)
theorem mt_cV {y : MethodName} {ck : ByteArray} {nL d n index ci i : Nat} {rt : Option FieldType} {av stk : List Value} {v : Option Value} {h' : Nat → mm_E} {fs : List Value} (hM : mm_Con (mm_mG M) (mm_ml M) y ck nL rt d 0 0 (.ref i :: av) nx h (mm_ret v nx h')) (hc : mm_cal y ck nL rt n) (hv : mm_vir y ci) (hl : Cond.methodLink own index y ∈ mm_ws) (hd : decode cc pc = .ok (.invokevirtual index, 3)) (hi : i < nx) (hh : h i = .inr (ci, fs)) (hdep : d + 1 ≤ mm_d M) (hroom : kc ≤ mm_mc M ∧ ks ≤ mm_ms M) (hn : av.length = n) (hs : av.reverse ++ .ref i :: st = stk) (hst : (st.map fun v => v.category).sum ≤ 8) (kk : mm_T M own cc nx h' kc ks (pc + 3) lo (v.toList ++ st)) : mm_T M own cc nx h kc ks pc lo stk := by
  subst hs
  refine mt_callV hc hv hl hd hi hh hdep (mc := 0) (ms := 0) hroom hn hst hM ?_ ?_
  · rintro w n k ⟨e1, rfl, rfl⟩
    cases e1
    exact ⟨rfl, kk⟩
  · rintro x n k ⟨e1, -⟩
    cases e1
theorem mt_cS {y : MethodName} {ck : ByteArray} {nL d n index : Nat} {rt : Option FieldType} {av stk : List Value} {v : Option Value} {h' : Nat → mm_E} (hM : mm_Con (mm_mG M) (mm_ml M) y ck nL rt d 0 0 av nx h (mm_ret v nx h')) (hc : mm_cal y ck nL rt n) (hv : Cond.static y ∈ mm_ws) (hl : Cond.methodLink own index y ∈ mm_ws) (hd : decode cc pc = .ok (.invokestatic index, 3)) (hdep : d + 1 ≤ mm_d M) (hroom : kc ≤ mm_mc M ∧ ks ≤ mm_ms M) (hn : av.length = n) (hs : av.reverse ++ st = stk) (hst : (st.map fun v => v.category).sum ≤ 8) (kk : mm_T M own cc nx h' kc ks (pc + 3) lo (v.toList ++ st)) : mm_T M own cc nx h kc ks pc lo stk := by
  subst hs
  refine mt_callS hc hv hl hd hdep (mc := 0) (ms := 0) hroom hn hst hM ?_ ?_
  · rintro w n k ⟨e1, rfl, rfl⟩
    cases e1
    exact ⟨rfl, kk⟩
  · rintro x n k ⟨e1, -⟩
    cases e1
theorem mt_cN {y : MethodName} {ck : ByteArray} {nL d n index : Nat} {rt : Option FieldType} {av stk : List Value} {v : Option Value} {h' : Nat → mm_E} {host : String} (hM : mm_Con (mm_mG M) (mm_ml M) y ck nL rt d 0 0 av nx h (mm_ret v nx h')) (hc : mm_cal y ck nL rt n) (hv : Cond.static y ∈ mm_ws) (hl : Cond.methodLinkNest own index y host ∈ mm_nw) (hd : decode cc pc = .ok (.invokestatic index, 3)) (hdep : d + 1 ≤ mm_d M) (hroom : kc ≤ mm_mc M ∧ ks ≤ mm_ms M) (hn : av.length = n) (hs : av.reverse ++ st = stk) (hst : (st.map fun v => v.category).sum ≤ 8) (kk : mm_T M own cc nx h' kc ks (pc + 3) lo (v.toList ++ st)) : mm_T M own cc nx h kc ks pc lo stk := by
  subst hs
  refine mt_callSN hc hv hl hd hdep (mc := 0) (ms := 0) hroom hn hst hM ?_ ?_
  · rintro x n k ⟨e1, -⟩
    cases e1
  · rintro w n k ⟨e1, rfl, rfl⟩
    cases e1
    exact ⟨rfl, kk⟩
theorem mt_aV {y : MethodName} {ck : ByteArray} {nL d mc ms n index ci i : Nat} {rt : Option FieldType} {av stk : List Value} {Po : mm_P} {fs : List Value} (hM : mm_Con (mm_mG M) (mm_ml M) y ck nL rt d mc ms (.ref i :: av) nx h Po) (hc : mm_cal y ck nL rt n) (hv : mm_vir y ci) (hl : Cond.methodLink own index y ∈ mm_ws) (hd : decode cc pc = .ok (.invokevirtual index, 3)) (hi : i < nx) (hh : h i = .inr (ci, fs)) (hdep : d + 1 ≤ mm_d M) (hroom : kc + mc ≤ mm_mc M ∧ ks + ms ≤ mm_ms M) (hn : av.length = n) (hs : av.reverse ++ .ref i :: st = stk) (hst : (st.map fun v => v.category).sum ≤ 8) (kx : ∀ x nx' h', Po (.inr x) nx' h' → mm_po M (.inr x) nx' h') (kr : ∀ v nx' h', Po (.inl v) nx' h' → nx' = nx ∧ mm_T M own cc nx h' (kc + mc) (ks + ms) (pc + 3) lo (v.toList ++ st)) : mm_T M own cc nx h kc ks pc lo stk := by
  subst hs
  exact mt_callV hc hv hl hd hi hh hdep hroom hn hst hM kr kx
theorem mt_aS {y : MethodName} {ck : ByteArray} {nL d mc ms n index : Nat} {rt : Option FieldType} {av stk : List Value} {Po : mm_P} (hM : mm_Con (mm_mG M) (mm_ml M) y ck nL rt d mc ms av nx h Po) (hc : mm_cal y ck nL rt n) (hv : Cond.static y ∈ mm_ws) (hl : Cond.methodLink own index y ∈ mm_ws) (hd : decode cc pc = .ok (.invokestatic index, 3)) (hdep : d + 1 ≤ mm_d M) (hroom : kc + mc ≤ mm_mc M ∧ ks + ms ≤ mm_ms M) (hn : av.length = n) (hs : av.reverse ++ st = stk) (hst : (st.map fun v => v.category).sum ≤ 8) (kx : ∀ x nx' h', Po (.inr x) nx' h' → mm_po M (.inr x) nx' h') (kr : ∀ v nx' h', Po (.inl v) nx' h' → nx' = nx ∧ mm_T M own cc nx h' (kc + mc) (ks + ms) (pc + 3) lo (v.toList ++ st)) : mm_T M own cc nx h kc ks pc lo stk := by
  subst hs
  exact mt_callS hc hv hl hd hdep hroom hn hst hM kr kx
/-- a nest mate's private method that never throws, with a promise in cases -/
theorem mt_aVN {y : MethodName} {ck : ByteArray} {nL d mc ms n index ci i : Nat} {rt : Option FieldType} {av stk : List Value} {Po : mm_P} {fs : List Value} {host : String} (hM : mm_Con (mm_mG M) (mm_ml M) y ck nL rt d mc ms (.ref i :: av) nx h Po) (hc : mm_cal y ck nL rt n) (hv : mm_vir y ci) (hl : Cond.methodLinkNest own index y host ∈ mm_nw) (hd : decode cc pc = .ok (.invokevirtual index, 3)) (hi : i < nx) (hh : h i = .inr (ci, fs)) (hdep : d + 1 ≤ mm_d M) (hroom : kc + mc ≤ mm_mc M ∧ ks + ms ≤ mm_ms M) (hn : av.length = n) (hs : av.reverse ++ .ref i :: st = stk) (hst : (st.map fun v => v.category).sum ≤ 8) (kx : ∀ x nx' h', Po (.inr x) nx' h' → False) (kr : ∀ v nx' h', Po (.inl v) nx' h' → nx' = nx ∧ mm_T M own cc nx h' (kc + mc) (ks + ms) (pc + 3) lo (v.toList ++ st)) : mm_T M own cc nx h kc ks pc lo stk := by
  subst hs
  exact mt_callVN hc hv hl hd hi hh hdep hroom hn hst hM kx kr
end MMF
