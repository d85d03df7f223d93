/-! Rules: calls. -/
theorem mm_ws_good : ∀ w ∈ mm_ws, (w.onTables && w.keeps) = true ∨ ∃ ty, w = .arrayClass ty := fun w hw => good_of_word (List.mem_filter.mp hw).2
theorem mm_good {w : Cond} {ws : List Cond} (h0 : w ∈ mm_ws) (h : ws = w :: mm_ws) : GoodIn mm_ws ws := by
  subst h
  intro z hz
  rcases List.mem_cons.mp hz with rfl | hz
  · exact ⟨h0, mm_ws_good _ h0⟩
  · exact ⟨hz, mm_ws_good _ hz⟩
theorem mm_wd_blind {G : mm_G} {ad : Nat → Nat} {av : List Value} {nx : Nat} {h : Nat → mm_E} : FrameBlind (va_Pc av (fun U => mm_Wd G ad nx h U ∧ mm_Y G U)) := by
  intro a U g mk hq
  obtain ⟨q0, ⟨w1, w2, w3, w4, w5, w6, w7⟩, w8⟩ := hq
  exact ⟨q0, ⟨w1, w2, w3, w4, w5, w6, w7⟩, mm_Y.warm (s := U) (U := U.calling g mk a) (State.WarmedH.refl U) w8⟩
section MMC
variable {M : mm_M} {own : String} {cc : ByteArray} {nx : Nat} {h : Nat → mm_E} {kc ks pc : Nat} {lo : List (Option Value)} {st : List Value}
theorem mm_callB {s : State} {args : Array Value} {m : MethodId} {p : Program} {meth : Method} {c : Code} {y : MethodName} {ck : ByteArray} {nL d mc ms n index : Nat} {rt : Option FieldType} (C : mm_C M own cc p s m args meth c) (hc : mm_cal y ck nL rt n) (hl : Cond.methodLink own index y ∈ mm_ws) (hdep : d + 1 ≤ mm_d M) :
    CallB (mm_rm (mm_d M) (mm_mc M) (mm_ms M)) s args own index y ck nL rt (.code y ck nL rt :: mm_ws) (mm_rm d mc ms) mc ms n := by
  obtain ⟨h1, h2, h3, h4, h5⟩ := hc
  exact callB_of n C.ts (mm_good h1 rfl) rfl rfl rfl (C.ts _ h2) (C.ts _ hl) ⟨h3.1, h3.2, h4⟩ ⟨hdep, by show 8 + (nL + 11) + 40 * d ≤ 40 * mm_d M; omega⟩
/-- what comes behind a call that came back, or threw -/
theorem mm_after {s : State} {args : Array Value} {m : MethodId} {p : Program} {e : Env} {below : List Frame} {meth : Method} {c : Code} {H : Heap} {locs : List Loc} {ad ad0 : Nat → Nat} {ls : Array Slot} {mc ms : Nat} {st0 : List Value} {Po : mm_P} {av : Array Value}
    (C : mm_C M own cc p s m args meth c) (A : mm_ext (mm_n0 M) nx ad0 ad) (B : mm_H (mm_mG M) ad nx h s H locs) (L : mm_L ad (mm_nL M) lo ls)
    (hr : vx_Run p (mm_ml M) e (mm_rm (mm_d M) (mm_mc M) (mm_ms M)) s m args below meth c H locs kc ks mc ms (F0 m pc ls st0) (st.map (mm_rv ad)) (mm_Qc (mm_mG M) nx Po ad av) (mm_XC (mm_mG M) nx Po ad) (mm_fr (mm_mG M)))
    (hroom : kc + mc ≤ mm_mc M ∧ ks + ms ≤ mm_ms M)
    (kr : ∀ v nx' h', Po (.inl v) nx' h' → nx' = nx ∧ mm_T M own cc nx h' (kc + mc) (ks + ms) (pc + 3) lo (v.toList ++ st))
    (kx : ∀ x nx' h', Po (.inr x) nx' h' → mm_po M (.inr x) nx' h') :
    W p (mm_ml M) e (mm_rm (mm_d M) (mm_mc M) (mm_ms M)) s m args below meth c H locs kc ks (vx_MQ below (mm_Qc (mm_mG M) (mm_n0 M) (mm_po M) ad0) (mm_XC (mm_mG M) (mm_n0 M) (mm_po M) ad0) args s (mm_mc M) (mm_ms M) (mm_fr (mm_mG M))) (F0 m pc ls st0) := by
  obtain ⟨b1, b2, b3, b4, b5, b6, b7, b8, b9⟩ := B
  have keep : ∀ {st₀ t T' : State} {L2 : List Loc}, st₀.heap = H → T'.heap = t.heap → (∀ q, q < (mm_s0 (mm_mG M)).heap.size → t.heap[q]? = (mm_s0 (mm_mG M)).heap[q]?) → st₀.heap.size ≤ t.heap.size → (∀ z ∈ L2, mm_fr (mm_mG M) z.base) → va_S (mm_fr (mm_mG M)) s.heap T'.heap (locs ++ L2) := by
    intro st₀ t T' L2 h0 e1 hlow hsz hL
    refine ⟨by rw [e1]; exact Nat.le_trans b7.1 (by rw [← h0]; exact hsz), fun q h1 h2 => ?_, fun z hz => ?_⟩
    · have hq : q < (mm_s0 (mm_mG M)).heap.size := Nat.not_le.mp h2
      rw [e1, hlow q hq, b4 q hq]
    · rcases List.mem_append.mp hz with hz | hz
      · exact b7.2.2 z hz
      · exact hL z hz
  intro T hT X
  rcases hr T hT X with ⟨v0, st₀, t, T', L2, h0, X', hL, e1, e2, ⟨hsz, v, nx', h', ad', ho, hpo, hext, hwd⟩, stp⟩ | ⟨q, st₀, t, T', L2, E, ce, h0, X', hL, e1, e2, ⟨hsz, x, nx', h', ad', hE, hpo, hext, hwd⟩, hce, hcv, hcl, stp⟩
  · obtain ⟨hnx, kT⟩ := kr v nx' h' hpo
    subst hnx
    have had : ad' = ad := hext.2.2 rfl
    subst had
    cases ho
    obtain ⟨w1, w2, w3, w4, w5, w6, w7⟩ := hwd
    obtain ⟨t2, a1, c1⟩ := kT p e s m args below meth c T'.heap (locs ++ L2) ad' ad0 ls C A ⟨b1, b2, b3, b4, by rw [e1]; exact w5, w6, keep h0 e1 w4 hsz hL, b8, b9⟩ L T' rfl X'
    refine ⟨t2, stp t2 ?_, c1⟩
    have e3 : (v.toList ++ st).map (mm_rv ad') = (v.map (mm_rv ad')).toList ++ st.map (mm_rv ad') := by cases v <;> rfl
    rw [e3] at a1
    exact a1
  · obtain ⟨w1, w2, w3, w4, w5, w6, w7⟩ := hwd
    have hS := keep (T' := T') h0 e1 w4 hsz hL
    have A' : mm_ext (mm_n0 M) nx' ad0 ad' := by
      obtain ⟨a1, a2, a3⟩ := A
      obtain ⟨c1, c2, c3⟩ := hext
      refine ⟨Nat.le_trans a1 c1, fun i hi => (c2 i (Nat.lt_of_lt_of_le hi a1)).trans (a2 i hi), fun hn => ?_⟩
      have e5 : nx' = nx := Nat.le_antisymm (by omega) c1
      have e6 : nx = mm_n0 M := by omega
      rw [c3 e5, a3 e6]
    have hcell : T'.heap[q]? = some ce := by rw [e1]; exact hce
    obtain ⟨t2, a1, c1⟩ := vx_out (p := p) (l := mm_ml M) (e := e) (R := mm_rm (mm_d M) (mm_mc M) (mm_ms M)) (s := s) (m := m) (args := args) (below := below) (meth := meth) (c := c) (H := T'.heap) (locs := locs ++ L2) (cells := kc + mc) (slots := ks + ms) (ls := ls) (rest := st.map (mm_rv ad)) (pc := pc) (E := E) (ce := ce) (q := q) (mc := mm_mc M) (ms := mm_ms M) (free := mm_fr (mm_mG M)) (Qc := mm_Qc (mm_mG M) (mm_n0 M) (mm_po M) ad0) (XC := mm_XC (mm_mG M) (mm_n0 M) (mm_po M) ad0) (fun z hz => (C.2.2.2.2.2.2.2.1 z hz).elim) C.2.2.2.2.2.2.1 hcell hcv hcl
      (fun t9 ht9 hvm => ⟨by rw [ht9]; exact hS.1, x, nx', h', ad', hE, kx x nx' h' hpo, A', w1, b2.trans hvm, by rw [ht9, e1]; exact w3, fun z hz => by rw [ht9, e1]; exact w4 z hz, by rw [ht9, e1]; exact w5, w6, w7⟩) hS.2.2 hroom.1 hroom.2 T' rfl X'
    exact ⟨t2, stp.trans a1, c1⟩
theorem mt_callV {y : MethodName} {ck : ByteArray} {nL d mc ms n index ci i : Nat} {rt : Option FieldType} {av : List Value} {Po : mm_P} {fs : List Value} (hc : mm_cal y ck nL rt n) (hv : mm_vir y ci) (hl : Cond.methodLink own index y ∈ mm_ws) (hd : decode cc pc = .ok (.invokevirtual index, 3)) (hi : i < nx) (hh : h i = .inr (ci, fs)) (hdep : d + 1 ≤ mm_d M) (hroom : kc + mc ≤ mm_mc M ∧ ks + ms ≤ mm_ms M) (hn : av.length = n) (hst : (st.map fun v => v.category).sum ≤ 8)
    (hM : mm_Con (mm_mG M) (mm_ml M) y ck nL rt d mc ms (.ref i :: av) nx h Po)
    (kr : ∀ v nx' h', Po (.inl v) nx' h' → nx' = nx ∧ mm_T M own cc nx h' (kc + mc) (ks + ms) (pc + 3) lo (v.toList ++ st))
    (kx : ∀ x nx' h', Po (.inr x) nx' h' → mm_po M (.inr x) nx' h') : mm_T M own cc nx h kc ks pc lo (av.reverse ++ .ref i :: st) := by
  intro p e s m args below meth c H locs ad ad0 ls C A B L
  obtain ⟨v1, v2, T, N, v3⟩ := hv
  have he : (mm_w ad (mm_cA (mm_mG M)) nx h)[i]? = some (ad i, .inr (ci, fs.map (mm_rv ad))) := by rw [mm_w_get hi, hh]; rfl
  refine mm_after (Po := Po) (mc := mc) (ms := ms) (av := (Value.ref (ad i) :: av.map (mm_rv ad)).toArray) C A B L ?_ hroom kr kx
  refine vx_runV (S := ⟨C.1, C.2.1, C.2.2.1, C.own, C.ts⟩) (C := y.cls) (hM ad) ⟨mm_callB C hc hl hdep, C.ts _ v1, C.ts _ v2⟩ ⟨mm_wd_blind, va_recv B.K B.2.2.2.2.1 v3 he, fun U hU hW => ⟨rfl, B.wd hU hW.alike, B.2.2.2.2.2.2.2.2.warm hW⟩⟩ rfl (by rw [List.length_map]; exact hn) L.1 (by rw [List.map_append, List.map_reverse]; rfl) (lv_room (by rw [List.map_map]; exact (show (st.map ((fun v => v.category) ∘ mm_rv ad)).sum ≤ 8 by rw [show ((fun v : Value => v.category) ∘ mm_rv ad) = (fun v => v.category) from funext (mm_rv_cat ad)]; exact hst))) hd hroom
theorem mt_callS {y : MethodName} {ck : ByteArray} {nL d mc ms n index : Nat} {rt : Option FieldType} {av : List Value} {Po : mm_P} (hc : mm_cal y ck nL rt n) (hs : Cond.static y ∈ mm_ws) (hl : Cond.methodLink own index y ∈ mm_ws) (hd : decode cc pc = .ok (.invokestatic index, 3)) (hdep : d + 1 ≤ mm_d M) (hroom : kc + mc ≤ mm_mc M ∧ ks + ms ≤ mm_ms M) (hn : av.length = n) (hst : (st.map fun v => v.category).sum ≤ 8)
    (hM : mm_Con (mm_mG M) (mm_ml M) y ck nL rt d mc ms av nx h Po)
    (kr : ∀ v nx' h', Po (.inl v) nx' h' → nx' = nx ∧ mm_T M own cc nx h' (kc + mc) (ks + ms) (pc + 3) lo (v.toList ++ st))
    (kx : ∀ x nx' h', Po (.inr x) nx' h' → mm_po M (.inr x) nx' h') : mm_T M own cc nx h kc ks pc lo (av.reverse ++ st) := by
  intro p e s m args below meth c H locs ad ad0 ls C A B L
  refine mm_after (Po := Po) (mc := mc) (ms := ms) (av := (av.map (mm_rv ad)).toArray) C A B L ?_ hroom kr kx
  refine vx_runS (S := ⟨C.1, C.2.1, C.2.2.1, C.own, C.ts⟩) (hM ad) ⟨mm_callB C hc hl hdep, C.ts _ hs⟩ ⟨mm_wd_blind, fun U hU hW => ⟨rfl, B.wd hU hW.alike, B.2.2.2.2.2.2.2.2.warm hW⟩⟩ rfl (by rw [List.length_map]; exact hn) L.1 (by rw [List.map_append, List.map_reverse]) (lv_room (by rw [List.map_map]; exact (show (st.map ((fun v => v.category) ∘ mm_rv ad)).sum ≤ 8 by rw [show ((fun v : Value => v.category) ∘ mm_rv ad) = (fun v => v.category) from funext (mm_rv_cat ad)]; exact hst))) hd hroom
/-- a contract that never throws, as the kit has it -/
theorem mm_met {l : Launch} {y : MethodName} {ws : List Cond} {rm : Room} {Pc : Array Value → State → Prop} {Qc : Array Value → State → Outcome → State → Prop} {XC : String → State → State → Prop} {mc ms : Nat} {free : Addr → Prop} (hM : vx_Met l y ws rm Pc Qc XC mc ms free) (hno : ∀ E st t, ¬ XC E st t) : Met l y ws rm Pc Qc mc ms free := by
  intro p e h1 h2 h3 s m args below h4 h5 h6 h7
  obtain ⟨n, o, a1, a2, a3, a4⟩ := hM p e h1 h2 h3 s m args below h4 h5 h6 h7
  refine ⟨n, o, a1, a2, a3, ?_⟩
  rcases a4 with a4 | ⟨q, -, E, ce, L, hx, -⟩
  · exact a4
  · exact (hno _ _ _ hx).elim
/-- a run of a call that never throws, as one that may -/
theorem mm_run {p : Program} {l : Launch} {e : Env} {R : Room} {s : State} {m : MethodId} {args : Array Value} {below : List Frame} {meth : Method} {c : Code} {H : Heap} {locs : List Loc} {cells slots mc ms : Nat} {g : JFrame} {rest : List Value} {Qa : State → Outcome → State → Prop} {XC : String → State → State → Prop} {free : Addr → Prop} (h : va_Run p l e R s m args below meth c H locs cells slots mc ms g rest Qa free) : vx_Run p l e R s m args below meth c H locs cells slots mc ms g rest Qa XC free := fun T hT X => Or.inl (h T hT X)
theorem mt_callSN {y : MethodName} {ck : ByteArray} {nL d mc ms n index : Nat} {rt : Option FieldType} {av : List Value} {Po : mm_P} {host : String} (hc : mm_cal y ck nL rt n) (hs : Cond.static y ∈ mm_ws) (hl : Cond.methodLinkNest own index y host ∈ mm_nw) (hd : decode cc pc = .ok (.invokestatic index, 3)) (hdep : d + 1 ≤ mm_d M) (hroom : kc + mc ≤ mm_mc M ∧ ks + ms ≤ mm_ms M) (hn : av.length = n) (hst : (st.map fun v => v.category).sum ≤ 8)
    (hM : mm_Con (mm_mG M) (mm_ml M) y ck nL rt d mc ms av nx h Po) (hno : ∀ x n k, ¬ Po (.inr x) n k)
    (kr : ∀ v nx' h', Po (.inl v) nx' h' → nx' = nx ∧ mm_T M own cc nx h' (kc + mc) (ks + ms) (pc + 3) lo (v.toList ++ st)) : mm_T M own cc nx h kc ks pc lo (av.reverse ++ st) := by
  intro p e s m args below meth c H locs ad ad0 ls C A B L
  obtain ⟨h1, h2, h3, h4, h5⟩ := hc
  refine mm_after (Po := Po) (mc := mc) (ms := ms) (av := (av.map (mm_rv ad)).toArray) C A B L (mm_run ?_) hroom kr (fun x n k hx => (hno x n k hx).elim)
  refine va_runSN (S := ⟨C.1, C.2.1, C.2.2.1, C.own, C.ts⟩) (mm_met (hM ad) (fun E st t ⟨_, x, n, k, _, _, hx, _⟩ => hno x n k hx)) (host := host) ⟨va_cnB n C.ts (mm_good h1 rfl) rfl rfl rfl (B.2.2.2.2.2.2.2.2.1 _ hl) (C.ts _ h2) ⟨h3.1, h3.2, h4⟩ ⟨hdep, by show 8 + (nL + 11) + 40 * d ≤ 40 * mm_d M; omega⟩, C.ts _ hs, trivial⟩ ⟨mm_wd_blind, fun U hU hW => ⟨rfl, B.wd hU hW.alike, B.2.2.2.2.2.2.2.2.warm hW⟩⟩ rfl (by rw [List.length_map]; exact hn) L.1 (by rw [List.map_append, List.map_reverse]) (lv_room (by rw [List.map_map]; exact (show (st.map ((fun v => v.category) ∘ mm_rv ad)).sum ≤ 8 by rw [show ((fun v : Value => v.category) ∘ mm_rv ad) = (fun v => v.category) from funext (mm_rv_cat ad)]; exact hst))) hd hroom
theorem mt_callVN {y : MethodName} {ck : ByteArray} {nL d mc ms n index ci i : Nat} {rt : Option FieldType} {av : List Value} {Po : mm_P} {fs : List Value} {host : String} (hc : mm_cal y ck nL rt n) (hv : mm_vir y ci) (hl : Cond.methodLinkNest own index y host ∈ mm_nw) (hd : decode cc pc = .ok (.invokevirtual index, 3)) (hi : i < nx) (hh : h i = .inr (ci, fs)) (hdep : d + 1 ≤ mm_d M) (hroom : kc + mc ≤ mm_mc M ∧ ks + ms ≤ mm_ms M) (hn : av.length = n) (hst : (st.map fun v => v.category).sum ≤ 8)
    (hM : mm_Con (mm_mG M) (mm_ml M) y ck nL rt d mc ms (.ref i :: av) nx h Po) (hno : ∀ x n k, ¬ Po (.inr x) n k)
    (kr : ∀ v nx' h', Po (.inl v) nx' h' → nx' = nx ∧ mm_T M own cc nx h' (kc + mc) (ks + ms) (pc + 3) lo (v.toList ++ st)) : mm_T M own cc nx h kc ks pc lo (av.reverse ++ .ref i :: st) := by
  intro p e s m args below meth c H locs ad ad0 ls C A B L
  obtain ⟨v1, v2, T, N, v3⟩ := hv
  obtain ⟨h1, h2, h3, h4, h5⟩ := hc
  have he : (mm_w ad (mm_cA (mm_mG M)) nx h)[i]? = some (ad i, .inr (ci, fs.map (mm_rv ad))) := by rw [mm_w_get hi, hh]; rfl
  refine mm_after (Po := Po) (mc := mc) (ms := ms) (av := (Value.ref (ad i) :: av.map (mm_rv ad)).toArray) C A B L (mm_run ?_) hroom kr (fun x n k hx => (hno x n k hx).elim)
  refine va_runVN (S := ⟨C.1, C.2.1, C.2.2.1, C.own, C.ts⟩) (C := y.cls) (mm_met (hM ad) (fun E st t ⟨_, x, n, k, _, _, hx, _⟩ => hno x n k hx)) (host := host) ⟨va_cnB n C.ts (mm_good h1 rfl) rfl rfl rfl (B.2.2.2.2.2.2.2.2.1 _ hl) (C.ts _ h2) ⟨h3.1, h3.2, h4⟩ ⟨hdep, by show 8 + (nL + 11) + 40 * d ≤ 40 * mm_d M; omega⟩, C.ts _ v1, C.ts _ v2⟩ ⟨mm_wd_blind, va_recv B.K B.2.2.2.2.1 v3 he, fun U hU hW => ⟨rfl, B.wd hU hW.alike, B.2.2.2.2.2.2.2.2.warm hW⟩⟩ rfl (by rw [List.length_map]; exact hn) L.1 (by rw [List.map_append, List.map_reverse]; rfl) (lv_room (by rw [List.map_map]; exact (show (st.map ((fun v => v.category) ∘ mm_rv ad)).sum ≤ 8 by rw [show ((fun v : Value => v.category) ∘ mm_rv ad) = (fun v => v.category) from funext (mm_rv_cat ad)]; exact hst))) hd hroom
end MMC
