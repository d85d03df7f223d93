/-! The script: an external row of ints. -/
def SCX (G : mm_G) (L : Nat) (xs : Nat → Int32) : Prop := va_T .int (mm_xa G 1004000) L (fun j => .int (xs j)) (mm_fr G) (mm_s0 G) (mm_s0 G).heap
theorem SCX_of {G : mm_G} {b L : Nat} {xs : Nat → Int32} (hx : mm_xa G 1004000 = b) (hX : va_X b L xs (mm_s0 G) (mm_s0 G).heap) (hb : b < (mm_s0 G).heap.size) (hL : L ≤ 4608) : SCX G L xs := by
  obtain ⟨scr, h1, h2, h3, h4, h5⟩ := hX
  refine ⟨scr, by rw [hx]; exact h1, h2, h3, by omega, by rw [h4], h5, ?_⟩
  rw [hx]
  exact fun z => absurd hb (Nat.not_lt.mpr z)
section SCR
variable {M : mm_M} {own : String} {cc : ByteArray} {nx : Nat} {h : Nat → mm_E} {kc ks pc : Nat} {lo : List (Option Value)} {st : List Value}
theorem mt_slen {L : Nat} {xs : Nat → Int32} (hS : SCX (mm_mG M) L xs) (hd : decode cc pc = .ok (.arraylength, 1)) (kk : mm_T M own cc nx h kc ks (pc + 1) lo (.int (nI L) :: st)) : mm_T M own cc nx h kc ks pc lo (.ref 1004000 :: st) := by
  intro p e s m args below meth c H locs ad ad0 ls C A B L
  have := kk p e s m args below meth c H locs ad ad0 ls C A B L
  rw [List.map_cons] at this ⊢
  simp only [mm_rv] at this ⊢
  rw [B.ext (by omega)]
  exact va_tlen C.1 C.2.1 ((hS.moved B.2.1).kept B.low) B.2.2.2.2.2.2.1 rfl hd this
theorem mt_sald {L : Nat} {xs : Nat → Int32} {i : Int32} (hS : SCX (mm_mG M) L xs) (hin : vp_in i L) (hd : decode cc pc = .ok (.iaload, 1)) (kk : mm_T M own cc nx h kc ks (pc + 1) lo (.int (xs i.toNatClampNeg) :: st)) : mm_T M own cc nx h kc ks pc lo (.int i :: .ref 1004000 :: st) := by
  intro p e s m args below meth c H locs ad ad0 ls C A B L
  have := kk p e s m args below meth c H locs ad ad0 ls C A B L
  rw [List.map_cons] at this
  rw [List.map_cons, List.map_cons]
  simp only [mm_rv] at this ⊢
  rw [B.ext (by omega)]
  exact va_ti C.1 C.2.1 ((hS.moved B.2.1).kept B.low) B.2.2.2.2.2.2.1 hin rfl hd this
end SCR
