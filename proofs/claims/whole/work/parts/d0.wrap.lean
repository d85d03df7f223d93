/-! Methods with an exception table of their own: the frame, the contract, the rules. -/
def mm_CW (M : mm_M) (own : String) (cc : ByteArray) (hh : List (Nat × Nat × Nat × Nat)) (p : Program) (s : State) (m : MethodId) (args : Array Value) (meth : Method) (c : Code) : Prop :=
  p.tables.exec = Jvm.exec ∧ c.code = cc ∧ c.maxLocals = mm_nL M ∧ meth.sig.returnType = mm_rt M ∧ s.vm.findClass own = some m.cls ∧ (∀ w ∈ mm_ws, w.before args s = true) ∧ meth.locks = false ∧ c.exceptionTable.toList.map (fun h => (h.startPc, h.endPc, h.handlerPc, h.catchType)) = hh
/-- the frame of such a method -/
def mm_TW (M : mm_M) (own : String) (cc : ByteArray) (hh : List (Nat × Nat × Nat × Nat)) (nx : Nat) (h : Nat → mm_E) (kc ks pc : Nat) (lo : List (Option Value)) (st : List Value) : Prop :=
  ∀ (p : Program) (e : Env) (s : State) (m : MethodId) (args : Array Value) (below : List Frame) (meth : Method) (c : Code) (H : Heap) (locs : List Loc) (ad ad0 : Nat → Nat) (ls : Array Slot),
    mm_CW M own cc hh p s m args meth c → mm_ext (mm_n0 M) nx ad0 ad → mm_H (mm_mG M) ad nx h s H locs → mm_L ad (mm_nL M) lo ls →
    W p (mm_ml M) e (mm_rm (mm_d M) (mm_mc M) (mm_ms M)) s m args below meth c H locs kc ks (vx_MQ below (mm_Qc (mm_mG M) (mm_n0 M) (mm_po M) ad0) (mm_XC (mm_mG M) (mm_n0 M) (mm_po M) ad0) args s (mm_mc M) (mm_ms M) (mm_fr (mm_mG M))) (F0 m pc ls (st.map (mm_rv ad)))
def mm_ConW (G : mm_G) (l : Launch) (y : MethodName) (cc : ByteArray) (nL : Nat) (rt : Option FieldType) (hh : List (Nat × Nat × Nat × Nat)) (d mc ms : Nat) (av : List Value) (nx : Nat) (h : Nat → mm_E) (Po : mm_P) : Prop :=
  ∀ ad : Nat → Nat, vx_Met l y (.codeWith y cc nL rt hh :: mm_ws) (mm_rm d mc ms) (va_Pc (av.map (mm_rv ad)) (fun U => mm_Wd G ad nx h U ∧ mm_Y G U)) (mm_Qc G nx Po ad) (mm_XC G nx Po ad) mc ms (mm_fr G)
theorem mm_startW {G : mm_G} {l : Launch} {y : MethodName} {cc : ByteArray} {nL : Nat} {rt : Option FieldType} {hh : List (Nat × Nat × Nat × Nat)} {d mc ms : Nat} {av : List Value} {nx : Nat} {h : Nat → mm_E} {Po : mm_P} {lo : List (Option Value)} {own : String} (hy : plainName own = true) (ho : y.cls = own) (hlo : mm_sl av ++ List.replicate (nL - (mm_sl av).length) none = lo) (hn : (mm_sl av).length ≤ nL)
    (k : mm_TW (G, l, y, nL, rt, d, mc, ms, Po, nx) own cc hh nx h 0 0 0 lo []) : mm_ConW G l y cc nL rt hh d mc ms av nx h Po := by
  subst ho
  have hlo2 : ∀ ad : Nat → Nat, ∀ (i : Nat) (v : Value), lo[i]? = some (some v) → (i, mm_rv ad v) ∈ lv_args 0 (av.map (mm_rv ad)) := by
    intro ad i v hv
    subst hlo
    have h1 : (mm_sl av)[i]? = some (some v) := by
      by_cases hi : i < (mm_sl av).length
      · rwa [List.getElem?_append_left hi] at hv
      · rw [List.getElem?_append_right (by omega), List.getElem?_replicate] at hv
        split at hv <;> cases hv
    have := mm_sl_args ad av 0 i v h1
    rwa [Nat.zero_add] at this
  intro ad
  refine vx_ofWH (cc := cc) (maxL := nL) (ret := rt) (hh := hh) hy rfl ?_
  intro p e s m args below meth c s₁ B hml hv
  obtain ⟨rfl, ⟨w1, w2, w3, w4, w5, w6, w7⟩, w8⟩ := hv
  have hts := atoms_spec (ws := .codeWith y cc nL rt hh :: mm_ws) B.pre
  obtain ⟨m9, meth9, c9, hn9, hm9, hc9, -, -, ht9, -⟩ := Cond.codeWith_spec (hts _ List.mem_cons_self)
  have htb : c.exceptionTable.toList.map (fun h => (h.startPc, h.endPc, h.handlerPc, h.catchType)) = hh := by
    cases Option.some.inj (hn9.symm.trans B.named)
    cases Option.some.inj (hm9.symm.trans B.method)
    have hcc : meth.code = some c := (Stand.of_body B).code
    cases Option.some.inj (hc9.symm.trans hcc)
    exact ht9
  have hl := lv_entry (av.map (mm_rv ad)) (n := nL) (by rw [mm_sl_len, mm_sl_map]; exact hn)
  rw [lg_entry_eq]
  exact k p e s m _ below meth c s.heap [] ad ad _ ⟨B.exec, B.bytes, hml, B.returns, findClass_of_methodNamed B.named, fun w hw => hts w (List.mem_cons_of_mem _ hw), B.notSynchronized, htb⟩
    ⟨Nat.le_refl _, fun _ _ => rfl, fun _ => rfl⟩ ⟨w1, w2, w3, w4, w5, w6, va_S.rf, w7, w8⟩ ⟨hl.1, hl.2.1, fun i v hv => hl.2.2 (i, mm_rv ad v) (hlo2 ad i v hv)⟩
section MWR
variable {M : mm_M} {own : String} {cc : ByteArray} {hh : List (Nat × Nat × Nat × Nat)} {nx : Nat} {h : Nat → mm_E} {kc ks pc : Nat} {lo : List (Option Value)} {st : List Value}
theorem mw_aload {i : Nat} {x : Nat} (hd : decode cc pc = .ok (.aload i, 2)) (hl : lo[i]? = some (some (.ref x))) (k : mm_TW M own cc hh nx h kc ks (pc + 2) lo (.ref x :: st)) : mm_TW M own cc hh nx h kc ks pc lo st := by
  intro p e s m args below meth c H locs ad ad0 ls C A B L
  exact lv_aload C.1 C.2.1 hd (L.2.2 i _ hl) (k p e s m args below meth c H locs ad ad0 ls C A B L)
theorem mw_aload_n {i : Fin 4} {x : Nat} (hd : decode cc pc = .ok (.aload_n i, 1)) (hl : lo[(i : Nat)]? = some (some (.ref x))) (k : mm_TW M own cc hh nx h kc ks (pc + 1) lo (.ref x :: st)) : mm_TW M own cc hh nx h kc ks pc lo st := by
  intro p e s m args below meth c H locs ad ad0 ls C A B L
  exact lv_aload_n C.1 C.2.1 hd rfl (L.2.2 i _ hl) (k p e s m args below meth c H locs ad ad0 ls C A B L)
theorem mw_iload {i : Nat} {x : Int32} (hd : decode cc pc = .ok (.iload i, 2)) (hl : lo[i]? = some (some (.int x))) (k : mm_TW M own cc hh nx h kc ks (pc + 2) lo (.int x :: st)) : mm_TW M own cc hh nx h kc ks pc lo st := by
  intro p e s m args below meth c H locs ad ad0 ls C A B L
  exact lv_iload C.1 C.2.1 hd (L.2.2 i _ hl) (k p e s m args below meth c H locs ad ad0 ls C A B L)
theorem mw_iload_n {i : Fin 4} {x : Int32} (hd : decode cc pc = .ok (.iload_n i, 1)) (hl : lo[(i : Nat)]? = some (some (.int x))) (k : mm_TW M own cc hh nx h kc ks (pc + 1) lo (.int x :: st)) : mm_TW M own cc hh nx h kc ks pc lo st := by
  intro p e s m args below meth c H locs ad ad0 ls C A B L
  exact lv_iload_n C.1 C.2.1 hd rfl (L.2.2 i _ hl) (k p e s m args below meth c H locs ad ad0 ls C A B L)
theorem mw_iconst {n : Int} {v : Int32} (hd : decode cc pc = .ok (.iconst n, 1)) (hv : Int32.ofInt n = v) (k : mm_TW M own cc hh nx h kc ks (pc + 1) lo (.int v :: st)) : mm_TW M own cc hh nx h kc ks pc lo st := by
  intro p e s m args below meth c H locs ad ad0 ls C A B L
  exact lv_iconst C.1 C.2.1 hd hv (k p e s m args below meth c H locs ad ad0 ls C A B L)
theorem mw_lconst {n : Fin 2} {v : Int64} (hd : decode cc pc = .ok (.lconst n, 1)) (hv : Int64.ofNat (n : Nat) = v) (k : mm_TW M own cc hh nx h kc ks (pc + 1) lo (.long v :: st)) : mm_TW M own cc hh nx h kc ks pc lo st := by
  intro p e s m args below meth c H locs ad ad0 ls C A B L
  exact lv_lconst C.1 C.2.1 hd hv (k p e s m args below meth c H locs ad ad0 ls C A B L)
theorem mw_i2l {x : Int32} (hd : decode cc pc = .ok (.i2l, 1)) (k : mm_TW M own cc hh nx h kc ks (pc + 1) lo (.long x.toInt64 :: st)) : mm_TW M own cc hh nx h kc ks pc lo (.int x :: st) := by
  intro p e s m args below meth c H locs ad ad0 ls C A B L
  exact lv_i2l C.1 C.2.1 hd rfl (k p e s m args below meth c H locs ad ad0 ls C A B L)
theorem mw_goto {off : Int} {tgt : Nat} (hd : decode cc pc = .ok (.goto off, 3)) (ht : (pc : Int) + off = (tgt : Int)) (k : mm_TW M own cc hh nx h kc ks tgt lo st) : mm_TW M own cc hh nx h kc ks pc lo st := by
  intro p e s m args below meth c H locs ad ad0 ls C A B L
  exact lv_goto C.1 C.2.1 hd ht (k p e s m args below meth c H locs ad ad0 ls C A B L)
theorem mw_if_eq {x : Int32} {off : Int} {tgt : Nat} (hd : decode cc pc = .ok (.ifCond .eq off, 3)) (ht : (pc : Int) + off = (tgt : Int)) (kt : x = 0 → mm_TW M own cc hh nx h kc ks tgt lo st) (kf : ¬ x = 0 → mm_TW M own cc hh nx h kc ks (pc + 3) lo st) : mm_TW M own cc hh nx h kc ks pc lo (.int x :: st) := by
  intro p e s m args below meth c H locs ad ad0 ls C A B L
  exact lv_if_eq C.1 C.2.1 hd ht (fun z => kt z p e s m args below meth c H locs ad ad0 ls C A B L) (fun z => kf z p e s m args below meth c H locs ad ad0 ls C A B L)
theorem mw_last {i n : Nat} {f : Nat → Int64} {j : Int32} {x : Int64} (hd : decode cc pc = .ok (.lastore, 1)) (hi : i < nx) (hh0 : h i = .inl (2, n, .inr (.inl f))) (hin : vp_in j n) (kk : mm_TW M own cc hh nx (hset h i (.inl (2, n, .inr (.inl (vp_updL f j.toNatClampNeg x))))) kc ks (pc + 1) lo st) : mm_TW M own cc hh nx h kc ks pc lo (.long x :: .int j :: .ref i :: st) := by
  intro p e s m args below meth c H locs ad ad0 ls C A B L
  refine va_last C.1 C.2.1 B.K B.2.2.2.2.1 B.2.2.2.2.2.1 B.2.2.2.2.2.2.1 i 2 (cA := mm_cA (mm_mG M) 2) (n := n) (f := f) (by rw [mm_w_get hi, hh0]; rfl) rfl hin hd (fun H1 locs1 hP hD hS => ?_)
  exact kk p e s m args below meth c H1 locs1 ad ad0 ls C A (B.put (e := .inl (2, n, .inr (.inl (vp_updL f j.toNatClampNeg x)))) hP hD hS) L
theorem mw_iret {x : Int32} (hr : mm_rt M = some .int) (hd : decode cc pc = .ok (.ireturn, 1)) (hc : kc ≤ mm_mc M) (hs : ks ≤ mm_ms M) (hpo : mm_po M (.inl (some (.int x))) nx h) : mm_TW M own cc hh nx h kc ks pc lo [.int x] := by
  intro p e s m args below meth c H locs ad ad0 ls C A B L
  refine vx_ret (W.widen hc hs ?_)
  exact W.iret C.1 C.2.1 (C.2.2.2.1.trans hr) (fun t ht hW => mm_fin (o := some (.int x)) hpo A B ht hW) B.2.2.2.2.2.2.1.2.2 hd C.2.2.2.2.2.2.1
/-- a handler that drops the exception and returns k -/
def mw_hd (nL : Nat) (cc : ByteArray) (hp : Nat) (k : Int32) : Prop := ∃ (t w : Nat) (n : Int), t < nL ∧ ((w = 1 ∧ ∃ f : Fin 4, (f : Nat) = t ∧ decode cc hp = .ok (.astore_n f, 1)) ∨ (w = 2 ∧ decode cc hp = .ok (.astore t, 2))) ∧ decode cc (hp + w) = .ok (.iconst n, 1) ∧ Int32.ofInt n = k ∧ decode cc (hp + w + 1) = .ok (.ireturn, 1)
/-- the table's row that takes the exception x thrown at pc; its handler returns k -/
def mw_ct (nL : Nat) (own : String) (cc : ByteArray) (hh : List (Nat × Nat × Nat × Nat)) (pc x : Nat) (k : Int32) : Prop := (x = 0 ∨ x = 1) ∧ ∃ (pre : List (Nat × Nat × Nat × Nat)) (a b hp ct : Nat) (suf : List (Nat × Nat × Nat × Nat)), hh = pre ++ (a, b, hp, ct) :: suf ∧ a ≤ pc ∧ pc < b ∧ ct ≠ 0 ∧ Cond.classLink own ct (mm_exc x) ∈ mm_ws ∧ (∀ z ∈ pre, z.2.2.2 ≠ 0 ∧ x = 1 ∧ Cond.classLink own z.2.2.2 (mm_exc 0) ∈ mm_ws) ∧ mw_hd nL cc hp k
theorem mw_call {y : MethodName} {ck : ByteArray} {nL d mc ms n index ci i : Nat} {rt : Option FieldType} {av stk : List Value} {Po : mm_P} {fs : List Value} (hM : mm_Con (mm_mG M) (mm_ml M) y ck nL rt d mc ms (.ref i :: av) nx h Po) (hc : mm_cal y ck nL rt n) (hv : mm_vir y ci) (hl : Cond.methodLink own index y ∈ mm_ws) (hd : decode cc pc = .ok (.invokevirtual index, 3)) (hi : i < nx) (hh0 : h i = .inr (ci, fs)) (hdep : d + 1 ≤ mm_d M) (hroom : kc + mc ≤ mm_mc M ∧ ks + ms ≤ mm_ms M) (hn : av.length = n) (hs : av.reverse ++ .ref i :: st = stk) (hst : (st.map fun v => v.category).sum ≤ 8) (hrt : mm_rt M = some .int)
    (hnc : va_Nc (mm_exc 1) (mm_exc 0) (mm_s0 (mm_mG M)))
    (kx : ∀ x nx' h', Po (.inr x) nx' h' → ∃ k, mw_ct (mm_nL M) own cc hh pc x k ∧ mm_po M (.inl (some (.int k))) nx' h')
    (kr : ∀ v nx' h', Po (.inl v) nx' h' → nx' = nx ∧ mm_TW M own cc hh nx h' (kc + mc) (ks + ms) (pc + 3) lo (v.toList ++ st)) : mm_TW M own cc hh nx h kc ks pc lo stk := by
  subst hs
  intro p e s m args below meth c H locs ad ad0 ls C A B L
  obtain ⟨v1, v2, T0, N0, v3⟩ := hv
  have he : (mm_w ad (mm_cA (mm_mG M)) nx h)[i]? = some (ad i, .inr (ci, fs.map (mm_rv ad))) := by rw [mm_w_get hi, hh0]; rfl
  have hcb : CallB (mm_rm (mm_d M) (mm_mc M) (mm_ms M)) s args own index y ck nL rt (.code y ck nL rt :: mm_ws) (mm_rm d mc ms) mc ms n := by
    obtain ⟨h1, h2, h3, h4, h5⟩ := hc
    exact callB_of n C.2.2.2.2.2.1 (mm_good h1 rfl) rfl rfl rfl (C.2.2.2.2.2.1 _ h2) (C.2.2.2.2.2.1 _ hl) ⟨h3.1, h3.2, h4⟩ ⟨hdep, by show 8 + (nL + 11) + 40 * d ≤ 40 * mm_d M; omega⟩
  have hr : vx_Run p (mm_ml M) e (mm_rm (mm_d M) (mm_mc M) (mm_ms M)) s m args below meth c H locs kc ks mc ms (F0 m pc ls ((av.reverse ++ .ref i :: st).map (mm_rv ad))) (st.map (mm_rv ad)) (mm_Qc (mm_mG M) nx Po ad (Value.ref (ad i) :: av.map (mm_rv ad)).toArray) (mm_XC (mm_mG M) nx Po ad) (mm_fr (mm_mG M)) :=
    vx_runV (S := ⟨C.1, C.2.1, C.2.2.1, C.2.2.2.2.1, C.2.2.2.2.2.1⟩) (C := y.cls) (hM ad) ⟨hcb, C.2.2.2.2.2.1 _ v1, C.2.2.2.2.2.1 _ v2⟩ ⟨mm_wd_blind, va_recv B.K B.2.2.2.2.1 v3 he, fun U hU hW => ⟨rfl, B.wd hU hW.alike, B.2.2.2.2.2.2.2.2.warm hW⟩⟩ rfl (by rw [List.length_map]; exact hn) L.1 (by rw [List.map_append, List.map_reverse]; rfl) (lv_room (by rw [List.map_map]; exact (show (st.map ((fun v => v.category) ∘ mm_rv ad)).sum ≤ 8 by rw [show ((fun v : Value => v.category) ∘ mm_rv ad) = (fun v => v.category) from funext (mm_rv_cat ad)]; exact hst))) hd hroom
  obtain ⟨b1, b2, b3, b4, b5, b6, b7, b8, b9⟩ := B
  have keep : ∀ {st₀ t T' : State} {L2 : List Loc}, st₀.heap = H → T'.heap = t.heap → (∀ q, q < (mm_s0 (mm_mG M)).heap.size → t.heap[q]? = (mm_s0 (mm_mG M)).heap[q]?) → st₀.heap.size ≤ t.heap.size → (∀ z ∈ L2, mm_fr (mm_mG M) z.base) → va_S (mm_fr (mm_mG M)) s.heap T'.heap (locs ++ L2) := by
    intro st₀ t T' L2 h0 e1 hlow hsz hL
    refine ⟨by rw [e1]; exact Nat.le_trans b7.1 (by rw [← h0]; exact hsz), fun q h1 h2 => ?_, fun z hz => ?_⟩
    · have hq : q < (mm_s0 (mm_mG M)).heap.size := Nat.not_le.mp h2
      rw [e1, hlow q hq, b4 q hq]
    · rcases List.mem_append.mp hz with hz | hz
      · exact b7.2.2 z hz
      · exact hL z hz
  intro T hT X
  rcases hr T hT X with ⟨v0, st₀, t, T', L2, h0, X', hL, e1, e2, ⟨hsz, v, nx', h', ad', ho, hpo, hext, hwd⟩, stp⟩ | ⟨q, st₀, t, T', L2, E, ce, h0, X', hL, e1, e2, ⟨hsz, x, nx', h', ad', hE, hpo, hext, hwd⟩, hce, hcv, hcl, stp⟩
  · obtain ⟨hnx, kT⟩ := kr v nx' h' hpo
    subst hnx
    have had : ad' = ad := hext.2.2 rfl
    subst had
    cases ho
    obtain ⟨w1, w2, w3, w4, w5, w6, w7⟩ := hwd
    obtain ⟨t2, a1, c1⟩ := kT p e s m args below meth c T'.heap (locs ++ L2) ad' ad0 ls C A ⟨b1, b2, b3, b4, by rw [e1]; exact w5, w6, keep h0 e1 w4 hsz hL, b8, b9⟩ L T' rfl X'
    refine ⟨t2, stp t2 ?_, c1⟩
    have e3 : (v.toList ++ st).map (mm_rv ad') = (v.map (mm_rv ad')).toList ++ st.map (mm_rv ad') := by cases v <;> rfl
    rw [e3] at a1
    exact a1
  · obtain ⟨w1, w2, w3, w4, w5, w6, w7⟩ := hwd
    obtain ⟨k, ⟨hx01, pre', a, b, hp, ct, suf', hsp, ha, hb, hct, hlk, hpre, t9, w9, n9, ht9, hst9, hd2, hk9, hd3⟩, hpk⟩ := kx x nx' h' hpo
    have A' : mm_ext (mm_n0 M) nx' ad0 ad' := by
      obtain ⟨a1, a2, a3⟩ := A
      obtain ⟨c1, c2, c3⟩ := hext
      refine ⟨Nat.le_trans a1 c1, fun i hi => (c2 i (Nat.lt_of_lt_of_le hi a1)).trans (a2 i hi), fun hn => ?_⟩
      have e5 : nx' = nx := Nat.le_antisymm (by omega) c1
      have e6 : nx = mm_n0 M := by omega
      rw [c3 e5, a3 e6]
    have hcell : T'.heap[q]? = some ce := by rw [e1]; exact hce
    have B' : mm_H (mm_mG M) ad' nx' h' s T'.heap (locs ++ L2) := ⟨b1, b2, b3, b4, by rw [e1]; exact w5, w6, keep h0 e1 w4 hsz hL, w7, b9⟩
    have hls : lv_has ls (mm_nL M) [] := ⟨L.1, L.2.1, fun q hq => absurd hq List.not_mem_nil⟩
    have hend : ∀ (ls' : Array Slot), W p (mm_ml M) e (mm_rm (mm_d M) (mm_mc M) (mm_ms M)) s m args below meth c T'.heap (locs ++ L2) (kc + mc) (ks + ms) (vx_MQ below (mm_Qc (mm_mG M) (mm_n0 M) (mm_po M) ad0) (mm_XC (mm_mG M) (mm_n0 M) (mm_po M) ad0) args s (mm_mc M) (mm_ms M) (mm_fr (mm_mG M))) (F0 m (hp + w9) ls' []) := by
      intro ls'
      refine lv_iconst C.1 C.2.1 hd2 hk9 ?_
      refine vx_ret (W.widen hroom.1 hroom.2 ?_)
      exact W.iret C.1 C.2.1 (C.2.2.2.1.trans hrt) (fun t ht hW => mm_fin (o := some (.int k)) hpk A' B' ht hW) B'.2.2.2.2.2.2.1.2.2 hd3 C.2.2.2.2.2.2.1
    have hwalk : W p (mm_ml M) e (mm_rm (mm_d M) (mm_mc M) (mm_ms M)) s m args below meth c T'.heap (locs ++ L2) (kc + mc) (ks + ms) (vx_MQ below (mm_Qc (mm_mG M) (mm_n0 M) (mm_po M) ad0) (mm_XC (mm_mG M) (mm_n0 M) (mm_po M) ad0) args s (mm_mc M) (mm_ms M) (mm_fr (mm_mG M))) (F0 m hp ls [.ref q]) := by
      rcases hst9 with ⟨hw1, f, hf, hdd⟩ | ⟨hw2, hdd⟩
      · subst hw1
        exact lv_astore_n C.1 C.2.1 hdd hf hls ht9 rfl (fun ls' _ => hend ls')
      · subst hw2
        exact lv_astore C.1 C.2.1 hdd hls ht9 rfl (fun ls' _ => hend ls')
    obtain ⟨pre, suf0, hpe, hpm, hsm⟩ := List.map_eq_append_iff.mp (C.2.2.2.2.2.2.2.trans hsp)
    obtain ⟨row, suf, hsf, hrow, -⟩ := List.map_eq_cons_iff.mp hsm
    rw [hsf] at hpe
    simp only [Prod.mk.injEq] at hrow
    obtain ⟨r1, r2, r3, r4⟩ := hrow
    have hxw : (Cond.castable (mm_exc x) (mm_exc x)).before args s = true := by
      rcases hx01 with rfl | rfl
      · exact va_Nw.use rfl (b9.2.2 _ List.mem_cons_self)
      · exact va_Nw.use rfl (b9.2.2 _ (List.mem_cons_of_mem _ List.mem_cons_self))
    have hpass : ∀ z ∈ pre, covers z pc = false ∨ (z.catchType ≠ 0 ∧ ∃ nm : String, (Cond.classLink own z.catchType nm).before args s = true ∧ va_Nc E nm s) := by
      intro z hz
      have hz' : (z.startPc, z.endPc, z.handlerPc, z.catchType) ∈ pre' := by rw [← hpm]; exact List.mem_map_of_mem hz
      obtain ⟨z1, z2, z3⟩ := hpre _ hz'
      refine Or.inr ⟨z1, mm_exc 0, C.2.2.2.2.2.1 _ z3, ?_⟩
      rw [hE, z2]
      exact hnc.moved b2
    obtain ⟨t2, a1, c1⟩ := vx_catch (p := p) (l := mm_ml M) (e := e) (R := mm_rm (mm_d M) (mm_mc M) (mm_ms M)) (s := s) (m := m) (args := args) (below := below) (meth := meth) (c := c) (H := T'.heap) (locs := locs ++ L2) (cells := kc + mc) (slots := ks + ms) (ls := ls) (rest := st.map (mm_rv ad)) (pc := pc) (E := E) (ce := ce) (q := q) (own := own) (name := mm_exc x) C.2.2.2.2.1 pre row suf hpe
      hpass (by show (decide (row.startPc ≤ pc) && decide (pc < row.endPc)) = true; rw [r1, r2]; simp [ha, hb]) (by rw [r4]; exact hct) (by rw [r4]; exact C.2.2.2.2.2.1 _ hlk) (by rw [hE]; exact hxw) hcell hcv hcl (by rw [r3]; exact hwalk) T' rfl X'
    exact ⟨t2, stp.trans a1, c1⟩
end MWR
/-! the law calls such a method -/
def mm_calW (y : MethodName) (cc : ByteArray) (nL : Nat) (rt : Option FieldType) (hh : List (Nat × Nat × Nat × Nat)) (n : Nat) : Prop :=
  Cond.codeWith y cc nL rt hh ∈ mm_ws ∧ Cond.initialized y.cls ∈ mm_ws ∧ (y.cls ≠ "java/lang/invoke/MethodHandle" ∧ y.cls ≠ "java/lang/invoke/VarHandle") ∧ (parseMethodDescriptor y.desc).map (fun d => d.parameters.length) = some n ∧ nL + 19 ≤ 40
section MTW
variable {M : mm_M} {own : String} {cc : ByteArray} {nx : Nat} {h : Nat → mm_E} {kc ks pc : Nat} {lo : List (Option Value)} {st : List Value}
theorem mt_aSW {y : MethodName} {ck : ByteArray} {nL d mc ms n index : Nat} {rt : Option FieldType} {hh : List (Nat × Nat × Nat × Nat)} {av stk : List Value} {Po : mm_P} (hM : mm_ConW (mm_mG M) (mm_ml M) y ck nL rt hh d mc ms av nx h Po) (hc : mm_calW y ck nL rt hh n) (hv : Cond.static y ∈ mm_ws) (hl : Cond.methodLink own index y ∈ mm_ws) (hd : decode cc pc = .ok (.invokestatic index, 3)) (hdep : d + 1 ≤ mm_d M) (hroom : kc + mc ≤ mm_mc M ∧ ks + ms ≤ mm_ms M) (hn : av.length = n) (hs : av.reverse ++ st = stk) (hst : (st.map fun v => v.category).sum ≤ 8) (kx : ∀ x nx' h', Po (.inr x) nx' h' → mm_po M (.inr x) nx' h') (kr : ∀ v nx' h', Po (.inl v) nx' h' → nx' = nx ∧ mm_T M own cc nx h' (kc + mc) (ks + ms) (pc + 3) lo (v.toList ++ st)) : mm_T M own cc nx h kc ks pc lo stk := by
  subst hs
  intro p e s m args below meth c H locs ad ad0 ls C A B L
  obtain ⟨h1, h2, h3, h4, h5⟩ := hc
  refine mm_after (Po := Po) (mc := mc) (ms := ms) (av := (av.map (mm_rv ad)).toArray) C A B L ?_ hroom kr kx
  refine vx_runSX (S := ⟨C.1, C.2.1, C.2.2.1, C.own, C.ts⟩) (hM ad) (hh := hh) (bytes := ck) (maxL := nL) (ret := rt) (n := n) (index := index) ⟨⟨rfl, rfl, hdep, by show 8 + (nL + 11) + 40 * d ≤ 40 * mm_d M; omega, pay_in C.ts (mm_good h1 rfl), List.mem_cons_self⟩, C.ts _ h1, C.ts _ h2, h3, fun sig hsig => ?_, C.ts _ hl, C.ts _ hv⟩ ⟨mm_wd_blind, fun U hU hW => ⟨rfl, B.wd hU hW.alike, B.2.2.2.2.2.2.2.2.warm hW⟩⟩ rfl (by rw [List.length_map]; exact hn) L.1 (by rw [List.map_append, List.map_reverse]) (lv_room (by rw [List.map_map]; exact (show (st.map ((fun v => v.category) ∘ mm_rv ad)).sum ≤ 8 by rw [show ((fun v : Value => v.category) ∘ mm_rv ad) = (fun v => v.category) from funext (mm_rv_cat ad)]; exact hst))) hd hroom
  rw [hsig] at h4
  exact (Option.some.inj h4).symm
end MTW
