/-! Constructors: the rules. -/
theorem oi_ins : Cond.instanceMethod objectInit ∈ mm_ws := mm_in 31 (by decide +kernel) rfl
theorem oi_cod : Cond.code objectInit object_method_1_code 1 none ∈ mm_ws := mm_in 32 (by decide +kernel) rfl
theorem ac_int : Cond.arrayClass .int ∈ mm_ws := mm_in 101 (by decide +kernel) rfl
theorem ac_byte : Cond.arrayClass .byte ∈ mm_ws := mm_in 63 (by decide +kernel) rfl
theorem ac_long : Cond.arrayClass .long ∈ mm_ws := mm_in 1511 (by decide +kernel) rfl
theorem ol_X10 : Cond.methodLink RX10 1 objectInit ∈ mm_ws := mm_in 30 (by decide +kernel) rfl
theorem ol_X7 : Cond.methodLink RX7 3 objectInit ∈ mm_ws := mm_in 38 (by decide +kernel) rfl
theorem ol_X1 : Cond.methodLink RX1 3 objectInit ∈ mm_ws := mm_in 69 (by decide +kernel) rfl
theorem ol_X2 : Cond.methodLink RX2 3 objectInit ∈ mm_ws := mm_in 107 (by decide +kernel) rfl
theorem ol_X0 : Cond.methodLink RX0 3 objectInit ∈ mm_ws := mm_in 141 (by decide +kernel) rfl
theorem ol_X9 : Cond.methodLink RX9 3 objectInit ∈ mm_ws := mm_in 162 (by decide +kernel) rfl
theorem ol_X4 : Cond.methodLink RX4 3 objectInit ∈ mm_ws := mm_in 193 (by decide +kernel) rfl
theorem ol_X3 : Cond.methodLink RX3 3 objectInit ∈ mm_ws := mm_in 208 (by decide +kernel) rfl
theorem ol_X6 : Cond.methodLink RX6 5 objectInit ∈ mm_ws := mm_in 214 (by decide +kernel) rfl
theorem ol_X5 : Cond.methodLink RX5 3 objectInit ∈ mm_ws := mm_in 240 (by decide +kernel) rfl
theorem ol_X8 : Cond.methodLink RX8 1 objectInit ∈ mm_ws := mm_in 265 (by decide +kernel) rfl
theorem ol_X11 : Cond.methodLink RX11 11 objectInit ∈ mm_ws := mm_in 1344 (by decide +kernel) rfl
theorem ii_X10 : Cond.instanceMethod yX10_init ∈ mm_ws := mm_in 28 (by decide +kernel) rfl
theorem ii_X7 : Cond.instanceMethod yX7_init ∈ mm_ws := mm_in 36 (by decide +kernel) rfl
theorem ii_X1 : Cond.instanceMethod yX1_init ∈ mm_ws := mm_in 67 (by decide +kernel) rfl
theorem ii_X2 : Cond.instanceMethod yX2_init ∈ mm_ws := mm_in 105 (by decide +kernel) rfl
theorem ii_X0 : Cond.instanceMethod yX0_init ∈ mm_ws := mm_in 139 (by decide +kernel) rfl
theorem ii_X9 : Cond.instanceMethod yX9_init ∈ mm_ws := mm_in 160 (by decide +kernel) rfl
theorem ii_X4 : Cond.instanceMethod yX4_init ∈ mm_ws := mm_in 191 (by decide +kernel) rfl
theorem ii_X3 : Cond.instanceMethod yX3_init ∈ mm_ws := mm_in 206 (by decide +kernel) rfl
theorem ii_X6 : Cond.instanceMethod yX6_init ∈ mm_ws := mm_in 212 (by decide +kernel) rfl
theorem ii_X5 : Cond.instanceMethod yX5_init ∈ mm_ws := mm_in 238 (by decide +kernel) rfl
theorem ii_X8 : Cond.instanceMethod yX8_init ∈ mm_ws := mm_in 263 (by decide +kernel) rfl
theorem ii_X11 : Cond.instanceMethod yX11_init ∈ mm_ws := mm_in 1342 (by decide +kernel) rfl
theorem nf_X10_7 : mm_nf RX10 7 7 7 [.null, .int 0, .int 0, .int 0, .int 0, .int 0, .int 0] := ⟨RX7, TX7, tyX7, rfl, mm_in 33 (by decide +kernel) rfl, mm_in 34 (by decide +kernel) rfl, cal_X7_init.2.1, in_X7, tyX7_ok, by decide +kernel, fun f => rfl⟩
theorem nf_X10_16 : mm_nf RX10 16 1 7 [.int 0, .int 0, .null, .null, .null, .null, .null] := ⟨RX1, TX1, tyX1, rfl, mm_in 64 (by decide +kernel) rfl, mm_in 65 (by decide +kernel) rfl, cal_X1_init.2.1, in_X1, tyX1_ok, by decide +kernel, fun f => rfl⟩
theorem nf_X10_26 : mm_nf RX10 26 2 4 [.null, .null, .null, .int 0] := ⟨RX2, TX2, tyX2, rfl, mm_in 102 (by decide +kernel) rfl, mm_in 103 (by decide +kernel) rfl, cal_X2_init.2.1, in_X2, tyX2_ok, by decide +kernel, fun f => rfl⟩
theorem nf_X10_36 : mm_nf RX10 36 0 4 [.int 0, .null, .null, .null] := ⟨RX0, TX0, tyX0, rfl, mm_in 136 (by decide +kernel) rfl, mm_in 137 (by decide +kernel) rfl, cal_X0_init.2.1, in_X0, tyX0_ok, by decide +kernel, fun f => rfl⟩
theorem nf_X10_46 : mm_nf RX10 46 9 7 [.null, .int 0, .int 0, .int 0, .int 0, .int 0, .int 0] := ⟨RX9, TX9, tyX9, rfl, mm_in 157 (by decide +kernel) rfl, mm_in 158 (by decide +kernel) rfl, cal_X9_init.2.1, in_X9, tyX9_ok, by decide +kernel, fun f => rfl⟩
theorem nf_X10_53 : mm_nf RX10 53 4 2 [.null, .null] := ⟨RX4, TX4, tyX4, rfl, mm_in 188 (by decide +kernel) rfl, mm_in 189 (by decide +kernel) rfl, cal_X4_init.2.1, in_X4, tyX4_ok, by decide +kernel, fun f => rfl⟩
theorem nf_X10_62 : mm_nf RX10 62 3 3 [.null, .null, .int 0] := ⟨RX3, TX3, tyX3, rfl, mm_in 203 (by decide +kernel) rfl, mm_in 204 (by decide +kernel) rfl, cal_X3_init.2.1, in_X3, tyX3_ok, by decide +kernel, fun f => rfl⟩
theorem nf_X3_9 : mm_nf RX3 9 6 1 [.null] := ⟨RX6, TX6, tyX6, rfl, mm_in 209 (by decide +kernel) rfl, mm_in 210 (by decide +kernel) rfl, cal_X6_init.2.1, in_X6, tyX6_ok, by decide +kernel, fun f => rfl⟩
theorem nf_X10_73 : mm_nf RX10 73 6 1 [.null] := ⟨RX6, TX6, tyX6, rfl, mm_in 233 (by decide +kernel) rfl, mm_in 210 (by decide +kernel) rfl, cal_X6_init.2.1, in_X6, tyX6_ok, by decide +kernel, fun f => rfl⟩
theorem nf_X10_80 : mm_nf RX10 80 5 6 [.null, .null, .null, .null, .int 0, .int 0] := ⟨RX5, TX5, tyX5, rfl, mm_in 235 (by decide +kernel) rfl, mm_in 236 (by decide +kernel) rfl, cal_X5_init.2.1, in_X5, tyX5_ok, by decide +kernel, fun f => rfl⟩
theorem nf_X10_87 : mm_nf RX10 87 8 1 [.int 0] := ⟨RX8, TX8, tyX8, rfl, mm_in 260 (by decide +kernel) rfl, mm_in 261 (by decide +kernel) rfl, cal_X8_init.2.1, in_X8, tyX8_ok, by decide +kernel, fun f => rfl⟩
theorem nf_L_8 : mm_nf RL 8 10 19 [.null, .null, .null, .null, .null, .null, .null, .null, .null, .null, .null, .null, .null, .null, .null, .int 0, .int 0, .int 0, .int 0] := ⟨RX10, TX10, tyX10, rfl, mm_in 25 (by decide +kernel) rfl, mm_in 26 (by decide +kernel) rfl, cal_X10_init.2.1, in_X10, tyX10_ok, by decide +kernel, fun f => rfl⟩
theorem nf_L_118 : mm_nf RL 118 11 51 [.int 0, .null, .int 0, .int 0, .int 0, .int 0, .int 0, .int 0, .int 0, .null, .null, .null, .null, .null, .null, .null, .int 0, .int 0, .int 0, .int 0, .null, .null, .null, .null, .null, .int 0, .int 0, .null, .null, .null, .int 0, .int 0, .int 0, .int 0, .int 0, .int 0, .null, .null, .null, .null, .null, .int 0, .null, .null, .null, .int 0, .int 0, .null, .int 0, .null, .int 0] := ⟨RX11, TX11, tyX11, rfl, mm_in 1339 (by decide +kernel) rfl, mm_in 1340 (by decide +kernel) rfl, cal_X11_init.2.1, in_X11, tyX11_ok, by decide +kernel, fun f => rfl⟩
section CRU
variable {M : mm_M} {own : String} {cc : ByteArray} {nx : Nat} {h : Nat → mm_E} {kc ks pc : Nat} {lo : List (Option Value)} {st : List Value}
theorem mt_objI {index i : Nat} (hl : Cond.methodLink own index objectInit ∈ mm_ws) (hd : decode cc pc = .ok (.invokespecial index, 3)) (hdep : 1 ≤ mm_d M) (hst : (st.map fun v => v.category).sum ≤ 8) (kk : mm_T M own cc nx h kc ks (pc + 3) lo st) : mm_T M own cc nx h kc ks pc lo (.ref i :: st) := by
  intro p e s m args below meth c H locs ad ad0 ls C A B L
  refine W.objInit C.1 C.2.1 C.own (C.ts _ hl) (C.ts _ oi_ins) (C.ts _ oi_cod) rfl (by rw [C.2.2.1]; exact L.1) rfl hd ?_ ?_ ?_
  · exact hdep
  · show 2 * 0 + _ + _ ≤ 40 * mm_d M
    have e0 : ((st.map (mm_rv ad)).map fun v => v.category).sum ≤ 8 := by rw [List.map_map, show ((fun v : Value => v.category) ∘ mm_rv ad) = (fun v => v.category) from funext (mm_rv_cat ad)]; exact hst
    omega
  · exact kk p e s m args below meth c H locs ad ad0 ls C A B L
/-- what comes behind a call that never throws, and makes cells -/
theorem mm_afterX {s : State} {args : Array Value} {m : MethodId} {p : Program} {e : Env} {below : List Frame} {meth : Method} {c : Code} {H : Heap} {locs : List Loc} {ad ad0 : Nat → Nat} {ls : Array Slot} {mc ms : Nat} {st0 : List Value} {Po : mm_P} {av : Array Value}
    (C : mm_C M own cc p s m args meth c) (A : mm_ext (mm_n0 M) nx ad0 ad) (B : mm_H (mm_mG M) ad nx h s H locs) (L : mm_L ad (mm_nL M) lo ls)
    (hr : va_Run p (mm_ml M) e (mm_rm (mm_d M) (mm_mc M) (mm_ms M)) s m args below meth c H locs kc ks mc ms (F0 m pc ls st0) (st.map (mm_rv ad)) (mm_Qc (mm_mG M) nx Po ad av) (mm_fr (mm_mG M)))
    (hlo : ∀ v, some v ∈ lo → mm_vw nx v) (hst : ∀ v ∈ st, mm_vw nx v)
    (kr : ∀ v nx' h', Po (.inl v) nx' h' → mm_T M own cc nx' h' (kc + mc) (ks + ms) (pc + 3) lo (v.toList ++ st)) :
    W p (mm_ml M) e (mm_rm (mm_d M) (mm_mc M) (mm_ms M)) s m args below meth c H locs kc ks (vx_MQ below (mm_Qc (mm_mG M) (mm_n0 M) (mm_po M) ad0) (mm_XC (mm_mG M) (mm_n0 M) (mm_po M) ad0) args s (mm_mc M) (mm_ms M) (mm_fr (mm_mG M))) (F0 m pc ls st0) := by
  obtain ⟨b1, b2, b3, b4, b5, b6, b7, b8, b9⟩ := B
  intro T hT X
  obtain ⟨v0, st₀, t, T', L2, h0, X', hL, e1, e2, ⟨hsz, v, nx', h', ad', ho, hpo, hext, hwd⟩, stp⟩ := hr T hT X
  cases ho
  obtain ⟨w1, w2, w3, w4, w5, w6, w7⟩ := hwd
  have hlt : ∀ j, j < nx → ad' j = ad j := hext.2.1
  have hge : ∀ j, 1000000 ≤ j → ad' j = ad j := fun j hj => (w7 j hj).trans (b8 j hj).symm
  have hS : va_S (mm_fr (mm_mG M)) s.heap T'.heap (locs ++ L2) := by
    refine ⟨by rw [e1]; exact Nat.le_trans b7.1 (by rw [← h0]; exact hsz), fun q h1 h2 => ?_, fun z hz => ?_⟩
    · have hq : q < (mm_s0 (mm_mG M)).heap.size := Nat.not_le.mp h2
      rw [e1, w4 q hq, b4 q hq]
    · rcases List.mem_append.mp hz with hz | hz
      · exact b7.2.2 z hz
      · exact hL z hz
  have A' : mm_ext (mm_n0 M) nx' ad0 ad' := by
    obtain ⟨a1, a2, a3⟩ := A
    obtain ⟨c1, c2, c3⟩ := hext
    refine ⟨Nat.le_trans a1 c1, fun i hi => (c2 i (Nat.lt_of_lt_of_le hi a1)).trans (a2 i hi), fun hn => ?_⟩
    have e5 : nx' = nx := Nat.le_antisymm (by omega) c1
    have e6 : nx = mm_n0 M := by omega
    rw [c3 e5, a3 e6]
  obtain ⟨t2, a1, c1⟩ := kr v nx' h' hpo p e s m args below meth c T'.heap (locs ++ L2) ad' ad0 ls C A' ⟨b1, b2, b3, b4, by rw [e1]; exact w5, w6, hS, w7, b9⟩ (L.re hlt hge hlo) T' rfl X'
  refine ⟨t2, stp t2 ?_, c1⟩
  have e3 : (v.toList ++ st).map (mm_rv ad') = (v.map (mm_rv ad')).toList ++ st.map (mm_rv ad) := by
    rw [List.map_append, mm_st_re hlt hge hst]
    cases v <;> rfl
  rw [e3] at a1
  exact a1
theorem mt_callI {y : MethodName} {ck : ByteArray} {nL d mc ms n index i : Nat} {av stk : List Value} {Po : mm_P} (hM : mm_Con (mm_mG M) (mm_ml M) y ck nL none d mc ms (.ref i :: av) nx h Po) (hc : mm_cal y ck nL none n) (hy : y.name = "<init>") (hi : Cond.instanceMethod y ∈ mm_ws) (hl : Cond.methodLink own index y ∈ mm_ws) (hd : decode cc pc = .ok (.invokespecial index, 3)) (hdep : d + 1 ≤ mm_d M) (hroom : kc + mc ≤ mm_mc M ∧ ks + ms ≤ mm_ms M) (hn : av.length = n) (hs : av.reverse ++ .ref i :: st = stk) (hst : (st.map fun v => v.category).sum ≤ 8) (hno : ∀ x n k, ¬ Po (.inr x) n k) (hlo : ∀ v, some v ∈ lo → mm_vw nx v) (hsw : ∀ v ∈ st, mm_vw nx v)
    (kr : ∀ v nx' h', Po (.inl v) nx' h' → mm_T M own cc nx' h' (kc + mc) (ks + ms) (pc + 3) lo (v.toList ++ st)) : mm_T M own cc nx h kc ks pc lo stk := by
  subst hs
  intro p e s m args below meth c H locs ad ad0 ls C A B L
  refine mm_afterX (Po := Po) (mc := mc) (ms := ms) (av := (Value.ref (ad i) :: av.map (mm_rv ad)).toArray) C A B L ?_ hlo hsw kr
  refine va_runI (S := ⟨C.1, C.2.1, C.2.2.1, C.own, C.ts⟩) (mm_met (hM ad) (fun E st t ⟨_, x, n, k, _, _, hx, _⟩ => hno x n k hx)) ⟨mm_callB C hc hl hdep, hy, C.ts _ hi⟩ ⟨mm_wd_blind, fun U hU hW => ⟨rfl, B.wd hU hW.alike, B.2.2.2.2.2.2.2.2.warm hW⟩⟩ rfl (by rw [List.length_map]; exact hn) L.1 (by rw [List.map_append, List.map_reverse]; rfl) (lv_room (by rw [List.map_map]; exact (show (st.map ((fun v => v.category) ∘ mm_rv ad)).sum ≤ 8 by rw [show ((fun v : Value => v.category) ∘ mm_rv ad) = (fun v => v.category) from funext (mm_rv_cat ad)]; exact hst))) hd hroom
theorem mt_callIN {y : MethodName} {ck : ByteArray} {nL d mc ms n index i : Nat} {av stk : List Value} {Po : mm_P} {host : String} (hM : mm_Con (mm_mG M) (mm_ml M) y ck nL none d mc ms (.ref i :: av) nx h Po) (hc : mm_cal y ck nL none n) (hy : y.name = "<init>") (hi : Cond.instanceMethod y ∈ mm_ws) (hl : Cond.methodLinkNest own index y host ∈ mm_nw) (hd : decode cc pc = .ok (.invokespecial index, 3)) (hdep : d + 1 ≤ mm_d M) (hroom : kc + mc ≤ mm_mc M ∧ ks + ms ≤ mm_ms M) (hn : av.length = n) (hs : av.reverse ++ .ref i :: st = stk) (hst : (st.map fun v => v.category).sum ≤ 8) (hno : ∀ x n k, ¬ Po (.inr x) n k) (hlo : ∀ v, some v ∈ lo → mm_vw nx v) (hsw : ∀ v ∈ st, mm_vw nx v)
    (kr : ∀ v nx' h', Po (.inl v) nx' h' → mm_T M own cc nx' h' (kc + mc) (ks + ms) (pc + 3) lo (v.toList ++ st)) : mm_T M own cc nx h kc ks pc lo stk := by
  subst hs
  intro p e s m args below meth c H locs ad ad0 ls C A B L
  obtain ⟨h1, h2, h3, h4, h5⟩ := hc
  refine mm_afterX (Po := Po) (mc := mc) (ms := ms) (av := (Value.ref (ad i) :: av.map (mm_rv ad)).toArray) C A B L ?_ hlo hsw kr
  refine va_runIN (S := ⟨C.1, C.2.1, C.2.2.1, C.own, C.ts⟩) (mm_met (hM ad) (fun E st t ⟨_, x, n, k, _, _, hx, _⟩ => hno x n k hx)) (host := host) ⟨va_cnB n C.ts (mm_good h1 rfl) rfl rfl rfl (B.2.2.2.2.2.2.2.2.1 _ hl) (C.ts _ h2) ⟨h3.1, h3.2, h4⟩ ⟨hdep, by show 8 + (nL + 11) + 40 * d ≤ 40 * mm_d M; omega⟩, hy, C.ts _ hi⟩ ⟨mm_wd_blind, fun U hU hW => ⟨rfl, B.wd hU hW.alike, B.2.2.2.2.2.2.2.2.warm hW⟩⟩ rfl (by rw [List.length_map]; exact hn) L.1 (by rw [List.map_append, List.map_reverse]; rfl) (lv_room (by rw [List.map_map]; exact (show (st.map ((fun v => v.category) ∘ mm_rv ad)).sum ≤ 8 by rw [show ((fun v : Value => v.category) ∘ mm_rv ad) = (fun v => v.category) from funext (mm_rv_cat ad)]; exact hst))) hd hroom
/-- rows of objects -/
theorem mt_newq {n : Int32} {N index q : Nat} {cl : String} (hq : (mm_ty (fun z => z))[q]? = some (q, .object cl)) (hcl : Cond.classLink own index cl ∈ mm_ws) (hao : va_AO cl (mm_s0 (mm_mG M))) (hd : decode cc pc = .ok (.anewarray index, 3)) (hn : ¬ n < 0) (hN : n.toNatClampNeg = N) (hb : N * 4 ≤ 536870912) (hl : nx < 1000000) (hw : mm_wf nx h) (hst : ∀ v ∈ st, mm_vw nx v) (hlo : ∀ v, some v ∈ lo → mm_vw nx v) (hc : kc + 1 ≤ mm_mc M) (hs : ks + N ≤ mm_ms M) (kk : mm_T M own cc (nx + 1) (hset h nx (.inl (q, N, .inr (.inr (.inr (.inr (fun _ => none))))))) (kc + 1) (ks + N) (pc + 3) lo (.ref nx :: st)) : mm_T M own cc nx h kc ks pc lo (.int n :: st) := by
  intro p e s m args below meth c H locs ad ad0 ls C A B L
  refine va_newq C.1 C.2.1 C.own (C.ts _ hcl) (va_AO.moved B.2.1 hao) B.K B.2.2.2.2.1 B.2.2.2.2.2.1 B.2.2.2.2.2.2.1 B.A hn hN hb hc hs hd (fun a cA H1 hK hP hD hS => ?_)
  have h1 : s.vm.findClass ("[" ++ (FieldType.object cl).toString) = some cA := by
    obtain ⟨-, -, -, -, -, z9⟩ := (hK.2 5 (cA, .object cl) rfl).2
    exact z9
  have hq5 : q < 5 := by
    have := (List.getElem?_eq_some_iff.mp hq).1
    exact this
  have hqt : (mm_ty (mm_cA (mm_mG M)))[q]? = some (mm_cA (mm_mG M) q, .object cl) := by
    rcases (show q = 0 ∨ q = 1 ∨ q = 2 ∨ q = 3 ∨ q = 4 by omega) with rfl | rfl | rfl | rfl | rfl <;> (cases hq; try rfl)
  have h2 : s.vm.findClass ("[" ++ (FieldType.object cl).toString) = some (mm_cA (mm_mG M) q) := by
    obtain ⟨-, -, -, -, -, z9⟩ := (B.K.2 q _ hqt).2
    exact z9
  cases Option.some.inj (h1.symm.trans h2)
  have := kk p e s m args below meth c H1 locs (mm_adn ad nx a) ad0 ls C A.push (B.push (e := .inl (q, N, .inr (.inr (.inr (.inr (fun _ => none)))))) hl hw hP hD hS) (L.re mm_adn_lt (mm_adn_ext hl) hlo)
  rw [List.map_cons, mm_st_re mm_adn_lt (mm_adn_ext hl) hst] at this
  simpa [mm_rv, mm_adn] using this
theorem mt_astq {i n q ci v : Nat} {cl : String} {T : u_T} {N : Nat} {f : Nat → Option Nat} {fs : List Value} {j : Int32} (hq : (mm_ty (fun z => z))[q]? = some (q, .object cl)) (hci : vwCl[ci]? = some (cl, T, N)) (hd : decode cc pc = .ok (.aastore, 1)) (hi : i < nx) (hh : h i = .inl (q, n, .inr (.inr (.inr (.inr f))))) (hv : v < nx) (hhv : h v = .inr (ci, fs)) (hin : vp_in j n) (kk : mm_T M own cc nx (hset h i (.inl (q, n, .inr (.inr (.inr (.inr (va_up f j.toNatClampNeg (some v)))))))) kc ks (pc + 1) lo st) : mm_T M own cc nx h kc ks pc lo (.ref v :: .int j :: .ref i :: st) := by
  intro p e s m args below meth c H locs ad ad0 ls C A B L
  have hq5 : q < 5 := (List.getElem?_eq_some_iff.mp hq).1
  have hqt : (mm_ty (mm_cA (mm_mG M)))[q]? = some (mm_cA (mm_mG M) q, .object cl) := by
    rcases (show q = 0 ∨ q = 1 ∨ q = 2 ∨ q = 3 ∨ q = 4 by omega) with rfl | rfl | rfl | rfl | rfl <;> (cases hq; try rfl)
  have he : (mm_w ad (mm_cA (mm_mG M)) nx h)[i]? = some (ad i, mm_re ad (mm_cA (mm_mG M)) (.inl (q, n, .inr (.inr (.inr (.inr f)))))) := by rw [mm_w_get hi, hh]
  have he2 : (mm_w ad (mm_cA (mm_mG M)) nx h)[v]? = some (ad v, .inr (ci, fs.map (mm_rv ad))) := by rw [mm_w_get hv, hhv]; rfl
  refine va_astq C.1 C.2.1 B.K B.2.2.2.2.1 B.2.2.2.2.2.1 B.2.2.2.2.2.2.1 i q v ci he hqt he2 hci hin hd (fun H1 locs1 hP hD hS => ?_)
  have e9 : (Sum.inl (mm_cA (mm_mG M) q, n, Sum.inr (Sum.inr (Sum.inr (Sum.inr (va_up (fun j => (f j).map ad) j.toNatClampNeg (some (ad v))))))) : va_E) = mm_re ad (mm_cA (mm_mG M)) (.inl (q, n, .inr (.inr (.inr (.inr (va_up f j.toNatClampNeg (some v))))))) := by
    have e8 : va_up (fun j => (f j).map ad) j.toNatClampNeg (some (ad v)) = fun z => (va_up f j.toNatClampNeg (some v) z).map ad := by
      funext z
      by_cases hz : z = j.toNatClampNeg
      · rw [hz, va_up_self, va_up_self]
        rfl
      · rw [va_up_ne _ _ hz, va_up_ne _ _ hz]
    rw [e8]
    rfl
  rw [e9] at hP hD
  exact kk p e s m args below meth c H1 locs1 ad ad0 ls C A (B.put (e := .inl (q, n, .inr (.inr (.inr (.inr (va_up f j.toNatClampNeg (some v))))))) hP hD hS) L
end CRU
