/-! Rules: throw. -/
section THROW
variable {M : mm_M} {own : String} {cc : ByteArray} {nx : Nat} {h : Nat → mm_E} {kc ks pc : Nat} {lo : List (Option Value)} {st : List Value}
theorem mt_throw {ik is ic x j : Nat} {text : String} {names : List String} (hl : (mm_ml M).stackTraces = false) (hcls : Bundle.fit (mm_exc x) = true) (hnames : ∀ n ∈ names, Bundle.fit n = true)
    (hk : Cond.classLink own ik (mm_exc x) ∈ mm_ws) (hini : Cond.initialized (mm_exc x) ∈ mm_ws) (hsr : (own, is, text, j) ∈ mm_sr)
    (hw1 : ∀ w ∈ (vx_atS own ic (mm_exc x) names).filter goodWord, w ∈ mm_ws) (hw2 : ∀ w ∈ (vx_atS own ic (mm_exc x) names).filter (fun w => !goodWord w), w ∈ mm_xw)
    (hgood : ∀ w ∈ Cond.classLink own ik (mm_exc x) :: Cond.initialized (mm_exc x) :: vx_atS own ic (mm_exc x) names, vx_ot w = true)
    (d0 : decode cc pc = .ok (.new ik, 3)) (d3 : decode cc (pc + 3) = .ok (.dup, 1)) (d4 : decode cc (pc + 4) = .ok (.ldc_w is, 3)) (d7 : decode cc (pc + 7) = .ok (.invokespecial ic, 3)) (d10 : decode cc (pc + 10) = .ok (.athrow, 1))
    (hdep : names.length + 4 ≤ mm_d M) (hst : (st.map fun v => v.category).sum ≤ 8) (hc : kc + 1 ≤ mm_mc M) (hs : ks + 6 ≤ mm_ms M) (hpo : mm_po M (.inr x) nx h) : mm_T M own cc nx h kc ks pc lo st := by
  intro p e s m args below meth c H locs ad ad0 ls C A B L
  have e0 : ((st.map (mm_rv ad)).map fun v => v.category).sum ≤ 8 := by rw [List.map_map, show ((fun v : Value => v.category) ∘ mm_rv ad) = (fun v => v.category) from funext (mm_rv_cat ad)]; exact hst
  obtain ⟨b1, b2, b3, b4, b5, b6, b7, b8, b9⟩ := id B
  have hxw : ∀ w ∈ mm_xw, w.before args s = true := by
    intro w hw
    have hz := b9.2.2 w hw
    simp only [mm_xw, List.mem_cons, List.not_mem_nil, or_false] at hw
    rcases hw with rfl | rfl | rfl | rfl | rfl <;> exact va_Nw.use rfl hz
  refine vx_throwSW (names := names) (A := mm_fr (mm_mG M)) C.1 C.2.1 hl C.own hcls hnames (C.ts _ hk) (C.ts _ hini) (b9.2.1 _ hsr) (vx_hat (fun w hw => C.ts w (hw1 w hw)) hw2 hxw) hgood ((b1.2.2.2.2.2.1.moved b2).kept B.low) ((b1.2.2.2.2.2.2.moved b2).kept B.low) b7 (L.1.trans C.2.2.1.symm) d0 d3 d4 d7 d10 (fun x hx => (C.2.2.2.2.2.2.2.1 x hx).elim) (by show _ < mm_d M; omega) (by show _ ≤ 40 * mm_d M; omega) hc hs C.2.2.2.2.2.2.1 (fun t hvm hsz hq => ?_) b7.2.2 hc hs
  refine ⟨Nat.le_trans b7.1 hsz, x, nx, h, ad, rfl, hpo, A, b1, b2.trans hvm, Nat.le_trans b3 (Nat.le_trans b7.1 hsz), fun q hq2 => ?_, b5.kept (fun k q hk2 => hq q.1 ?_), b6, b8⟩
  · rw [hq q (Nat.lt_of_lt_of_le hq2 (Nat.le_trans b3 b7.1)), b7.2.1 q (Nat.lt_of_lt_of_le hq2 b3) (fun z => absurd hq2 (Nat.not_lt.mpr z))]
    exact b4 q hq2
  · exact (b5 k q hk2).lt
end THROW
def xNames : List String := ["java/lang/RuntimeException", "java/lang/Exception"]
theorem x0_w1 : ∀ w ∈ (vx_atS RX10 372 (mm_exc 0) xNames).filter goodWord, w ∈ mm_ws := by decide +kernel
theorem x0_w2 : ∀ w ∈ (vx_atS RX10 372 (mm_exc 0) xNames).filter (fun w => !goodWord w), w ∈ mm_xw := by decide +kernel
theorem x0_g : ∀ w ∈ Cond.classLink RX10 368 (mm_exc 0) :: Cond.initialized (mm_exc 0) :: vx_atS RX10 372 (mm_exc 0) xNames, vx_ot w = true := by decide +kernel
theorem x0_k : Cond.classLink RX10 368 (mm_exc 0) ∈ mm_ws := by decide +kernel
theorem x0_i : Cond.initialized (mm_exc 0) ∈ mm_ws := by decide +kernel
theorem x1_w1 : ∀ w ∈ (vx_atS RX10 379 (mm_exc 1) xNames).filter goodWord, w ∈ mm_ws := by decide +kernel
theorem x1_w2 : ∀ w ∈ (vx_atS RX10 379 (mm_exc 1) xNames).filter (fun w => !goodWord w), w ∈ mm_xw := by decide +kernel
theorem x1_g : ∀ w ∈ Cond.classLink RX10 375 (mm_exc 1) :: Cond.initialized (mm_exc 1) :: vx_atS RX10 379 (mm_exc 1) xNames, vx_ot w = true := by decide +kernel
theorem x1_k : Cond.classLink RX10 375 (mm_exc 1) ∈ mm_ws := by decide +kernel
theorem x1_i : Cond.initialized (mm_exc 1) ∈ mm_ws := by decide +kernel
