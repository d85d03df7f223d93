/-! What calls do to class and reference: nothing, a count, feed, undo, image, restore. -/
theorem PGR_congr {k : CS} {now past now' past' : Nat → Int32} {w w' : Int32} {pg : PGS} (h : PGR k now past w pg) (h1 : ∀ j, j < 91 → now' j = now j) (h2 : ∀ j, j < 1456 → past' j = past j) (h3 : w' = w) : PGR k now' past' w' pg := by
  obtain ⟨⟨a1, a2⟩, b, c, d⟩ := h
  refine ⟨⟨RR_congr a1 h1 a2.1.nl.1, a2⟩, h3.trans b, c, fun i hi => ?_⟩
  obtain ⟨d1, d2⟩ := d i hi
  exact ⟨RR_congr d1 (fun j hj => h2 _ (by omega)) d2.1.nl.1, d2⟩
section STP
variable {W W' : Nat → mm_E} {g g' : MG} {A A' : MA} {b : Nat → Int32} {sz sz' : Nat} {fp fp' : Int32} {ic : Nat} {rs ne ia : Int32} {k : CS} {cs : List Nat} {bk : BS} {pg : PGS} {im : Nat → PGS}
theorem MV.kp (h : MV W g A b sz fp ic rs ne ia k cs bk pg im) (hg : KPg g g') (hA : KPa A A') (h2 : g' 2 = nI sz') (h8 : g' 8 = fp') (hW : W' 213 = W 213) : MV W' g' A' b sz' fp' ic rs ne ia k cs bk pg im := by
  obtain ⟨m1, m2, m3, m4, m5, ⟨m6, m7, m8, m9⟩, m10, m11, m12, m13, m14, m15, F, m16⟩ := h
  obtain ⟨k18, k19, k26, k31, k32, k41, k50⟩ := hg
  obtain ⟨a189, a190, a194, a195, a196, a199, a200, a205, a207, a209, a214⟩ := hA
  exact ⟨by rw [a190]; exact m1, h2, h8, by rw [a189]; exact m4, by rw [a189]; exact m5, ⟨k18.trans m6, k19.trans m7, by rw [a194, a195, a196]; exact m8, by rw [a199, a200, k26]; exact m9⟩, k41.trans m10, by rw [a209]; exact m11, by rw [a205, a207, k31]; exact m12, k32.trans m13, k50.trans m14, by rw [a214]; exact m15, F, hW.trans m16⟩
/-- a refusal is counted -/
theorem MV.b1 {z : Int32} (h : MV W g A b sz fp ic rs ne ia k cs bk pg im) : MV W (upd g 0 z) (updR A 189 (upd (A 189) 1 (A 189 1 + 1))) b sz fp ic rs ne (ia + 1) k cs bk pg im := by
  obtain ⟨m1, m2, m3, m4, m5, ⟨m6, m7, m8, m9⟩, m10, m11, m12, m13, m14, m15, F, m16⟩ := h
  exact ⟨m1, m2, m3, m4, by rw [updR_eq, upd_eq, m5], ⟨m6, m7, m8, m9⟩, m10, m11, m12, m13, m14, m15, F, m16⟩
theorem MV.b0 {z : Int32} (h : MV W g A b sz fp ic rs ne ia k cs bk pg im) : MV W (upd g 0 z) (updR A 189 (upd (A 189) 0 (A 189 0 + 1))) b sz fp ic rs (ne + 1) ia k cs bk pg im := by
  obtain ⟨m1, m2, m3, m4, m5, ⟨m6, m7, m8, m9⟩, m10, m11, m12, m13, m14, m15, F, m16⟩ := h
  exact ⟨m1, m2, m3, by rw [updR_eq, upd_eq, m4], m5, ⟨m6, m7, m8, m9⟩, m10, m11, m12, m13, m14, m15, F, m16⟩
theorem MV.c0 (h : MV W g A b sz fp ic rs ne ia k cs bk pg im) {z : Int32} : MV W (upd g 0 z) A b sz fp ic rs ne ia k cs bk pg im := h
theorem MV.feed {xs : Nat → Int32} (h : MV W g A b sz fp ic rs ne ia k cs bk pg im) : MV W (upd (upd g 0 0) 2 (nI (sz + 20))) (updR A 190 (fdM (A 190) sz xs 20)) (fdB b sz xs 20) (sz + 20) fp ic rs ne ia k cs bk pg im := by
  obtain ⟨m1, m2, m3, m4, m5, ⟨m6, m7, m8, m9⟩, m10, m11, m12, m13, m14, m15, F, m16⟩ := h
  exact ⟨by rw [updR_eq]; exact fdB_TP m1, upd_eq _ _ _, m3, m4, m5, ⟨m6, m7, m8, m9⟩, m10, m11, m12, m13, m14, m15, F, m16⟩
theorem MV.undo (h : MV W g A b sz fp ic rs ne ia k cs bk pg im) (hw : 0 < pg.1) : MV W (upd (upd (upd g 0 0) 31 (nI (pg.1 - 1))) 32 0) (updR A 205 (tkF (A 205) (A 207) (91 * (pg.1 - 1)) 91)) b sz fp ic 0 ne ia k cs bk (pg.1 - 1, pg.2.2 (pg.1 - 1), pg.2.2) im := by
  obtain ⟨m1, m2, m3, m4, m5, ⟨m6, m7, m8, m9⟩, m10, m11, ⟨p1, p2, p3, p4⟩, m13, m14, m15, F, m16⟩ := h
  refine ⟨m1, m2, m3, m4, m5, ⟨m6, m7, m8, m9⟩, m10, m11, ⟨?_, rfl, by dsimp only; omega, fun i hi => p4 i (by dsimp only at hi; omega)⟩, rfl, m14, m15, F, m16⟩
  obtain ⟨d1, d2⟩ := p4 (pg.1 - 1) (by omega)
  rw [updR_eq]
  exact ⟨RR_congr d1 (fun j hj => if_pos hj) d2.1.nl.1, d2⟩
theorem imF_at {I now past : Nat → Int32} {q j : Nat} {w : Int32} : imF I now past q w j = if j = q + 91 + 1456 then w else if q + 91 ≤ j ∧ j < q + 91 + 1456 then past (j - (q + 91)) else if q ≤ j ∧ j < q + 91 then now (j - q) else I j := by
  unfold imF
  by_cases h : j = q + 91 + 1456
  · rw [if_pos h, h, upd_eq]
  · rw [if_neg h, upd_ne h]
    rfl
theorem MV.image (h : MV W g A b sz fp ic rs ne ia k cs bk pg im) (hi3 : ic < 3) : MV W (upd (upd g 0 0) 50 (nI (ic + 1))) (updR A 214 (imF (A 214) (A 205) (A 207) (1548 * ic) (g 31))) b sz fp (ic + 1) rs ne ia k cs bk pg (updG im ic pg) := by
  obtain ⟨m1, m2, m3, m4, m5, ⟨m6, m7, m8, m9⟩, m10, m11, m12, m13, m14, m15, F, m16⟩ := h
  refine ⟨m1, m2, m3, m4, m5, ⟨m6, m7, m8, m9⟩, m10, m11, m12, m13, upd_eq _ _ _, fun i hi => ?_, F, m16⟩
  rw [updR_eq]
  by_cases hq : i = ic
  · subst hq
    rw [show updG im i pg i = pg from if_pos rfl]
    refine PGR_congr m12 (fun j hj => ?_) (fun j hj => ?_) ?_
    · rw [imF_at, if_neg (by omega), if_neg (by omega), if_pos (by omega), show 1548 * i + j - 1548 * i = j by omega]
    · rw [imF_at, if_neg (by omega), if_pos (by omega), show 1548 * i + 91 + j - (1548 * i + 91) = j by omega]
    · rw [imF_at, if_pos rfl]
  · rw [show updG im ic pg i = im i from if_neg hq]
    refine PGR_congr (m15 i (by omega)) (fun j hj => ?_) (fun j hj => ?_) ?_
    · rw [imF_at, if_neg (by omega), if_neg (by omega), if_neg (by omega)]
    · rw [imF_at, if_neg (by omega), if_neg (by omega), if_neg (by omega)]
    · rw [imF_at, if_neg (by omega), if_neg (by omega), if_neg (by omega)]
theorem MV.restore (h : MV W g A b sz fp ic rs ne ia k cs bk pg im) (hi0 : 0 < ic) : MV W (upd (upd (upd (upd g 0 0) 50 (nI (ic - 1))) 31 (A 214 (1548 * (ic - 1) + 91 + 1456))) 32 0) (updR (updR A 205 (tkF (A 205) (A 214) (1548 * (ic - 1)) 91)) 207 (tkF (A 207) (A 214) (1548 * (ic - 1) + 91) 1456)) b sz fp (ic - 1) 0 ne ia k cs bk (im (ic - 1)) im := by
  obtain ⟨m1, m2, m3, m4, m5, ⟨m6, m7, m8, m9⟩, m10, m11, m12, m13, m14, m15, F, m16⟩ := h
  refine ⟨m1, m2, m3, m4, m5, ⟨m6, m7, m8, m9⟩, m10, m11, ?_, rfl, rfl, fun i hi => m15 i (by omega), F, m16⟩
  rw [updR_ne (by decide), updR_eq, updR_eq]
  exact PGR_congr (m15 (ic - 1) (by omega)) (fun j hj => if_pos hj) (fun j hj => if_pos hj) rfl
end STP
