/-! Rules: throw. -/
section THROW
variable {M : mm_M} {own : String} {cc : ByteArray} {nx : Nat} {h : Nat → mm_E} {kc ks pc : Nat} {lo : List (Option Value)} {st : List Value}
theorem mt_throw {ik is ic ix x j : Nat} {text up : String} {names : List String} {rx : ByteArray} (x0 : decode rx 0 = .ok (.aload_n 0, 1)) (x1 : decode rx 1 = .ok (.aload_n 1, 1)) (x2 : decode rx 2 = .ok (.invokespecial ix, 3)) (x5 : decode rx 5 = .ok (.return_, 1)) (hup : Bundle.fit up = true) (hl : (mm_ml M).stackTraces = false) (hcls : Bundle.fit (mm_exc x) = true) (hnames : ∀ n ∈ names, Bundle.fit n = true)
    (hk : Cond.classLink own ik (mm_exc x) ∈ mm_ws) (hini : Cond.initialized (mm_exc x) ∈ mm_ws) (hsr : (own, is, text, j) ∈ mm_sr)
    (hw1 : ∀ w ∈ ((vx_LX own ic (mm_exc x) ix rx up names).filter vx_no).filter goodWord, w ∈ mm_ws) (hw2 : ∀ w ∈ ((vx_LX own ic (mm_exc x) ix rx up names).filter vx_no).filter (fun w => !goodWord w), w ∈ mm_xw)
    (hgood : ∀ w ∈ Cond.classLink own ik (mm_exc x) :: Cond.initialized (mm_exc x) :: (vx_LX own ic (mm_exc x) ix rx up names).filter vx_no, vx_ot w = true)
    (d0 : decode cc pc = .ok (.new ik, 3)) (d3 : decode cc (pc + 3) = .ok (.dup, 1)) (d4 : decode cc (pc + 4) = .ok (.ldc_w is, 3)) (d7 : decode cc (pc + 7) = .ok (.invokespecial ic, 3)) (d10 : decode cc (pc + 10) = .ok (.athrow, 1))
    (hdep : names.length + 5 ≤ mm_d M) (hst : (st.map fun v => v.category).sum ≤ 8) (hc : kc + 1 ≤ mm_mc M) (hs : ks + 6 ≤ mm_ms M) (hpo : mm_po M (.inr x) nx h) : mm_T M own cc nx h kc ks pc lo st := by
  intro p e s m args below meth c H locs ad ad0 ls C A B L
  have e0 : ((st.map (mm_rv ad)).map fun v => v.category).sum ≤ 8 := by rw [List.map_map, show ((fun v : Value => v.category) ∘ mm_rv ad) = (fun v => v.category) from funext (mm_rv_cat ad)]; exact hst
  obtain ⟨b1, b2, b3, b4, b5, b6, b7, b8, b9⟩ := id B
  have hxw : ∀ w ∈ mm_xw, w.before args s = true := by
    intro w hw
    have hz := b9.2.2 w hw
    simp only [mm_xw, List.mem_cons, List.not_mem_nil, or_false] at hw
    rcases hw with rfl | rfl | rfl | rfl | rfl <;> exact va_Nw.use rfl hz
  refine vx_throwXW (names := names) (up := up) (A := mm_fr (mm_mG M)) C.1 C.2.1 hl x0 x1 x2 x5 C.own hcls hup hnames (C.ts _ hk) (C.ts _ hini) (b9.2.1 _ hsr) (vx_hat (fun w hw => C.ts w (hw1 w hw)) hw2 hxw) hgood ((b1.2.2.2.2.2.1.moved b2).kept B.low) ((b1.2.2.2.2.2.2.moved b2).kept B.low) b7 (L.1.trans C.2.2.1.symm) d0 d3 d4 d7 d10 (fun x hx => (C.2.2.2.2.2.2.2.1 x hx).elim) (by show _ < mm_d M; omega) (by show _ ≤ 40 * mm_d M; omega) hc hs C.2.2.2.2.2.2.1 (fun t hvm hsz hq => ?_) b7.2.2 hc hs
  refine ⟨Nat.le_trans b7.1 hsz, x, nx, h, ad, rfl, hpo, A, b1, b2.trans hvm, Nat.le_trans b3 (Nat.le_trans b7.1 hsz), fun q hq2 => ?_, b5.kept (fun k q hk2 => hq q.1 ?_), b6, b8⟩
  · rw [hq q (Nat.lt_of_lt_of_le hq2 (Nat.le_trans b3 b7.1)), b7.2.1 q (Nat.lt_of_lt_of_le hq2 b3) (fun z => absurd hq2 (Nat.not_lt.mpr z))]
    exact b4 q hq2
  · exact (b5 k q hk2).lt
end THROW
def xB0 : ByteArray := .mk #[0x2a, 0x2b, 0xb7, 0x00, 0x0d, 0xb1]
def xB1 : ByteArray := .mk #[0x2a, 0x2b, 0xb7, 0x00, 0x07, 0xb1]
def xL0 : List Cond := (vx_LX RX10 372 (mm_exc 0) 13 xB0 "java/lang/RuntimeException" ["java/lang/Exception"]).filter vx_no
def xL1 : List Cond := (vx_LX RX10 379 (mm_exc 1) 7 xB1 "java/lang/RuntimeException" ["java/lang/Exception"]).filter vx_no
theorem x0_w1 : ∀ w ∈ xL0.filter goodWord, w ∈ mm_ws := by decide +kernel
theorem x0_w2 : ∀ w ∈ xL0.filter (fun w => !goodWord w), w ∈ mm_xw := by decide +kernel
theorem x0_g : ∀ w ∈ Cond.classLink RX10 368 (mm_exc 0) :: Cond.initialized (mm_exc 0) :: xL0, vx_ot w = true := by decide +kernel
theorem x0_k : Cond.classLink RX10 368 (mm_exc 0) ∈ mm_ws := by decide +kernel
theorem x0_i : Cond.initialized (mm_exc 0) ∈ mm_ws := by decide +kernel
theorem x1_w1 : ∀ w ∈ xL1.filter goodWord, w ∈ mm_ws := by decide +kernel
theorem x1_w2 : ∀ w ∈ xL1.filter (fun w => !goodWord w), w ∈ mm_xw := by decide +kernel
theorem x1_g : ∀ w ∈ Cond.classLink RX10 375 (mm_exc 1) :: Cond.initialized (mm_exc 1) :: xL1, vx_ot w = true := by decide +kernel
theorem x1_k : Cond.classLink RX10 375 (mm_exc 1) ∈ mm_ws := by decide +kernel
theorem x1_i : Cond.initialized (mm_exc 1) ∈ mm_ws := by decide +kernel
