/-! Rules: System.arraycopy. -/
theorem ac_link : Cond.methodLink RX10 393 arraycopyName ∈ mm_ws := mm_in 120 (by decide +kernel) rfl
theorem ac_nat : Cond.native arraycopyName ∈ mm_ws := mm_in 122 (by decide +kernel) rfl
theorem ac_sta : Cond.static arraycopyName ∈ mm_ws := mm_in 121 (by decide +kernel) rfl
theorem ac_ini : Cond.initialized "java/lang/System" ∈ mm_ws := mm_in 6 (by decide +kernel) rfl
section MMP
variable {M : mm_M} {own : String} {cc : ByteArray} {nx : Nat} {h : Nat → mm_E} {kc ks pc : Nat} {lo : List (Option Value)} {st : List Value}
theorem mt_acopy {index i j n0 n1 : Nat} {f g : Nat → Int32} {n : Int32} (hl : Cond.methodLink own index arraycopyName ∈ mm_ws) (hd : decode cc pc = .ok (.invokestatic index, 3)) (hi : i < nx) (hj : j < nx) (hh : h i = .inl (0, n0, .inl f)) (hh2 : h j = .inl (0, n1, .inl g)) (hn : ¬ n < 0) (h0 : n.toNatClampNeg ≤ n0) (h1 : n.toNatClampNeg ≤ n1) (hdep : 1 ≤ mm_d M) (hst : (st.map fun v => v.category).sum ≤ 8) (kk : mm_T M own cc nx (hset h j (.inl (0, n1, .inl (va_cpy f g 0 0 n.toNatClampNeg)))) kc ks (pc + 3) lo st) : mm_T M own cc nx h kc ks pc lo (.int n :: .int 0 :: .ref j :: .int 0 :: .ref i :: st) := by
  intro p e s m args below meth c H locs ad ad0 ls C A B L
  have e0 : ((st.map (mm_rv ad)).map fun v => v.category).sum ≤ 8 := by rw [List.map_map, show ((fun v : Value => v.category) ∘ mm_rv ad) = (fun v => v.category) from funext (mm_rv_cat ad)]; exact hst
  refine va_copyi C.1 C.2.1 (C.2.2.1.trans L.1.symm) C.own (C.ts _ hl) (C.ts _ ac_nat) (C.ts _ ac_sta) (C.ts _ ac_ini) B.K B.2.2.2.2.1 B.2.2.2.2.2.1 B.2.2.2.2.2.2.1 i j 0 0 (c0 := mm_cA (mm_mG M) 0) (c1 := mm_cA (mm_mG M) 0) (n0 := n0) (n1 := n1) (f := f) (g := g) (ty := .int) (by rw [mm_w_get hi, hh]; rfl) (by rw [mm_w_get hj, hh2]; rfl) rfl rfl rfl (by decide) (by decide) hn (by show 0 + _ ≤ n0; omega) (by show 0 + _ ≤ n1; omega) (fun _ _ => rfl) hdep (by show _ + (7 + 11) ≤ 40 * mm_d M; omega) hd (fun H1 locs1 hP hD hS => ?_)
  exact kk p e s m args below meth c H1 locs1 ad ad0 ls C A (B.put (e := .inl (0, n1, .inl (va_cpy f g 0 0 n.toNatClampNeg))) hP hD hS) L
end MMP
