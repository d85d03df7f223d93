/-! Law: becomeUntold, copyFrom; what is read always leaves one value. -/
def untF : Nat → Int32 := fun j => ([1000, 1000, 1001, 2002, 10, 2003, 2000, 1, 2000] : List Int32).getD j 0
def untL : List Nat := [1000, 1000, 1001, 2002, 10, 2003, 2000, 1, 2000]
section UNT
variable {M : mm_M} {own : String} {cc : ByteArray} {nx : Nat} {h : Nat → mm_E} {kc ks pc : Nat} {lo : List (Option Value)} {st : List Value}
theorem mt_acopyU {index j n1 : Nat} {g : Nat → Int32} (hl : Cond.methodLink own index arraycopyName ∈ mm_ws) (hd : decode cc pc = .ok (.invokestatic index, 3)) (hj : j < nx) (hh2 : h j = .inl (0, n1, .inl g)) (h1 : 9 ≤ n1) (hdep : 1 ≤ mm_d M) (hst : (st.map fun v => v.category).sum ≤ 8) (kk : mm_T M own cc nx (hset h j (.inl (0, n1, .inl (va_cpy untF g 0 0 9)))) kc ks (pc + 3) lo st) : mm_T M own cc nx h kc ks pc lo (.int (nI 9) :: .int 0 :: .ref j :: .int 0 :: .ref 1002000 :: st) := by
  intro p e s m args below meth c H locs ad ad0 ls C A B L
  have e0 : ((st.map (mm_rv ad)).map fun v => v.category).sum ≤ 8 := by rw [List.map_map, show ((fun v : Value => v.category) ∘ mm_rv ad) = (fun v => v.category) from funext (mm_rv_cat ad)]; exact hst
  obtain ⟨cell, hs1, hs2, hs3, hs4, -, hs6, hs7⟩ := (B.1.2.2.1.2.moved B.2.1).kept B.low
  have hx : ad 1002000 = mm_xa (mm_mG M) 1002000 := B.ext (by omega)
  have hD := B.2.2.2.2.2.1
  have hS := B.2.2.2.2.2.2.1
  have ha1 : (mm_w ad (mm_cA (mm_mG M)) nx h)[j]? = some (ad j, .inl (mm_cA (mm_mG M) 0, n1, .inl g)) := by rw [mm_w_get hj, hh2]; rfl
  have hcs : H[mm_xa (mm_mG M) 1002000]? = some cell := by rw [hS.2.1 _ (Array.getElem?_eq_some_iff.mp hs1).1 hs7]; exact hs1
  have hcd := B.2.2.2.2.1 j _ ha1
  obtain ⟨hv, k0, hk0, cm0, hkk0⟩ := hs2
  obtain ⟨-, k1, hk1, cm1, hkk1⟩ := (B.K.2 0 _ rfl).1 n1 (fun j => .int (g j))
  have hget : ∀ i, i < 9 → cell.slots[i]? = some (.int (untF i)) := hs6
  intro T hT X
  obtain ⟨vm', X', step⟩ := X.arraycopy C.1 C.own (C.ts _ hl) (C.ts _ ac_nat) (C.ts _ ac_sta) (C.ts _ ac_ini) (src := mm_xa (mm_mG M) 1002000) (dst := ad j) (cs := cell) (cd := vp_cell (mm_cA (mm_mG M) 0) (n1, .inl g)) (srcPos := 0) (destPos := 0) (n := nI 9) (by rw [hT]; exact hcs) (by rw [hT]; exact hcd) hv (fun _ q => by cases q) hs3 (fun q => by cases q) hk0 hk1 hkk0 hkk1 (by simp [refKind]) (by decide) (by decide) (by decide)
    (by rw [show (0 : Int32).toInt = 0 from rfl, show (nI 9).toInt = 9 from rfl]; omega)
    (by rw [show (0 : Int32).toInt = 0 from rfl, show (nI 9).toInt = 9 from rfl]; show ¬ _ > ((arrV (mm_cA (mm_mG M) 0) n1 (fun j => .int (g j))).slots.size : Int); rw [arrV_size]; omega)
    (fun vm₁ _ i hi => by
      have e : cell.slots.getD ((0 : Int32).toNatClampNeg + i) .null = .int (untF i) := by
        rw [show (0 : Int32).toNatClampNeg + i = i from Nat.zero_add i, Array.getD_eq_getD_getElem?, hget i hi]
        rfl
      rw [e]
      exact ⟨rfl, trivial⟩)
    (g := F0 m pc ls (.int (nI 9) :: .int 0 :: .ref (ad j) :: .int 0 :: .ref (mm_xa (mm_mG M) 1002000) :: st.map (mm_rv ad))) rfl (by rw [C.2.2.1, L.1]) (rest := st.map (mm_rv ad)) rfl (by rw [C.2.1]; exact hd) hdep (by show 2 * 0 + _ + (7 + 11) ≤ 40 * mm_d M; omega)
  have e1 : copied cell (vp_cell (mm_cA (mm_mG M) 0) (n1, .inl g)) 0 0 (nI 9) = vp_cell (mm_cA (mm_mG M) 0) (n1, .inl (va_cpy untF g 0 0 9)) := va_copiedX (fun z => .int z) cell (mm_cA (mm_mG M) 0) untF g hget (by decide)
  rw [e1] at X' step
  have hlt : ad j < H.size := (Array.getElem?_eq_some_iff.mp hcd).1
  have oq : ∀ q : Nat, q ≠ ad j → (H.setIfInBounds (ad j) (vp_cell (mm_cA (mm_mG M) 0) (n1, .inl (va_cpy untF g 0 0 9))))[q]? = H[q]? := fun q hq => by simp [Array.getElem?_setIfInBounds, Ne.symm hq]
  have hP2 := B.2.2.2.2.1.set hD ha1 (e := .inl (mm_cA (mm_mG M) 0, n1, .inl (va_cpy untF g 0 0 9))) (show (H.setIfInBounds (ad j) _)[ad j]? = some _ by simp [Array.getElem?_setIfInBounds, hlt]) oq
  obtain ⟨t, a1, b1⟩ := kk p e s m args below meth c _ _ ad ad0 ls C A (B.put (e := .inl (0, n1, .inl (va_cpy untF g 0 0 9))) hP2 (hD.set ha1) ⟨by simp; exact hS.1, fun q g1 g2 => by
      rw [oq q (fun e => g2 (by rw [e]; exact hD.2 j _ ha1))]
      exact hS.2.1 q g1 g2, fun q hq => by
      rcases List.mem_append.mp hq with h | h
      · exact hS.2.2 q h
      · obtain ⟨z, -, hz⟩ := List.mem_map.mp h
        rw [← hz]
        exact hD.2 j _ ha1⟩) L _ (by rw [← hT]; rfl) X'
  refine ⟨t, ?_, b1⟩
  have := step t a1
  show _
  simp only [List.map_cons, mm_rv]
  rw [hx]
  exact this
end UNT
