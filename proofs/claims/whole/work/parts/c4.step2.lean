/-! What texts do to class and reference. -/
section STQ
variable {W W' : Nat → mm_E} {g g' : MG} {A A' : MA} {b : Nat → Int32} {sz : Nat} {fp : Int32} {ic : Nat} {rs ne ia : Int32} {k : CS} {cs : List Nat} {bk : BS} {pg : PGS} {im : Nat → PGS}
theorem MV.law {c : List Nat} (h : MV W g A b sz fp ic rs ne ia k cs bk pg im) (h2 : g' 2 = 0) (h8 : g' 8 = -1) (hg : KPg (upd g 26 (nI c.length)) g') (hM : MLW (A' 199) (A' 200) c) (hA : KPa (updR (updR A 199 (A' 199)) 200 (A' 200)) A') (hL : 0 < c.length) (hF : LWF c) (hC : CKs c) (hW : W' 213 = W 213) : MV W' g' A' b 0 (-1) ic rs ne ia k c bk pg im := by
  obtain ⟨m1, m2, m3, m4, m5, ⟨m6, m7, m8, m9⟩, m10, m11, m12, m13, m14, m15, F, m16⟩ := h
  obtain ⟨k18, k19, k26, k31, k32, k41, k50⟩ := hg
  obtain ⟨a189, a190, a194, a195, a196, a199, a200, a205, a207, a209, a214⟩ := hA
  have a189' : A' 189 = A 189 := a189
  have a190' : A' 190 = A 190 := a190
  have a194' : A' 194 = A 194 := a194
  have a195' : A' 195 = A 195 := a195
  have a196' : A' 196 = A 196 := a196
  have a205' : A' 205 = A 205 := a205
  have a207' : A' 207 = A 207 := a207
  have a209' : A' 209 = A 209 := a209
  have a214' : A' 214 = A 214 := a214
  have k31' : g' 31 = g 31 := k31
  exact ⟨by rw [a190']; exact m1, h2, h8, by rw [a189']; exact m4, by rw [a189']; exact m5, ⟨k18.trans m6, k19.trans m7, by rw [a194', a195', a196']; exact m8, Or.inr ⟨k26, hL, hF, hC, hM⟩⟩, k41.trans m10, by rw [a209']; exact m11, by rw [a205', a207', k31']; exact m12, k32.trans m13, k50.trans m14, by rw [a214']; exact m15, F, hW.trans m16⟩
theorem MBK_cpy {so : Nat} {c b0 : BS} {L : Nat → Int32} (h : MBK so c L) : MBK so (c.1, va_cpy c.2.1 b0.2.1 0 0 6, va_cpy c.2.2.1 b0.2.2.1 0 0 6, va_cpy c.2.2.2 b0.2.2.2 0 0 6) L := by
  refine ⟨h.1, fun i hi => ?_⟩
  have h6 : i < 6 := Nat.lt_of_lt_of_le hi h.1
  dsimp only
  rw [cpy_all h6, cpy_all h6, cpy_all h6]
  exact h.2 i hi
theorem MV.book {c : BS} (h : MV W g A b sz fp ic rs ne ia k cs bk pg im) (h2 : g' 2 = 0) (h8 : g' 8 = -1) (hg : KPg (upd g 41 (nI c.1)) g') (hM : MBK k.2.1 c (A' 209)) (hA : KPa (updR A 209 (A' 209)) A') (hW : W' 213 = W 213) : MV W' g' A' b 0 (-1) ic rs ne ia k cs (c.1, va_cpy c.2.1 bk.2.1 0 0 6, va_cpy c.2.2.1 bk.2.2.1 0 0 6, va_cpy c.2.2.2 bk.2.2.2 0 0 6) pg im := by
  obtain ⟨m1, m2, m3, m4, m5, ⟨m6, m7, m8, m9⟩, m10, m11, m12, m13, m14, m15, F, m16⟩ := h
  obtain ⟨k18, k19, k26, k31, k32, k41, k50⟩ := hg
  obtain ⟨a189, a190, a194, a195, a196, a199, a200, a205, a207, a209, a214⟩ := hA
  have a189' : A' 189 = A 189 := a189
  have a190' : A' 190 = A 190 := a190
  have a194' : A' 194 = A 194 := a194
  have a195' : A' 195 = A 195 := a195
  have a196' : A' 196 = A 196 := a196
  have a199' : A' 199 = A 199 := a199
  have a200' : A' 200 = A 200 := a200
  have a205' : A' 205 = A 205 := a205
  have a207' : A' 207 = A 207 := a207
  have a214' : A' 214 = A 214 := a214
  have k31' : g' 31 = g 31 := k31
  have k26' : g' 26 = g 26 := k26
  exact ⟨by rw [a190']; exact m1, h2, h8, by rw [a189']; exact m4, by rw [a189']; exact m5, ⟨k18.trans m6, k19.trans m7, by rw [a194', a195', a196']; exact m8, by rw [a199', a200', k26']; exact m9⟩, k41, MBK_cpy hM, by rw [a205', a207', k31']; exact m12, k32.trans m13, k50.trans m14, by rw [a214']; exact m15, F, hW.trans m16⟩
theorem MV.county {c k' : CS} (h : MV W g A b sz fp ic rs ne ia k cs bk pg im) (hAG : AG c k') (h2 : g' 2 = 0) (h8 : g' 8 = -1) (h18 : g' 18 = nI c.1) (h19 : g' 19 = nI c.2.1) (h26 : g' 26 = 0) (h31 : g' 31 = 0) (h32 : g' 32 = 0) (h41 : g' 41 = 0) (h50 : g' 50 = 0) (hM : MCN c (A' 194) (A' 195) (A' 196)) (hR : RR (A' 205) (begR c)) (a189 : A' 189 = A 189) (a190 : A' 190 = A 190) (hW : W' 213 = W 213) : MV W' g' A' b 0 (-1) 0 0 ne ia k' untL (0, bk.2) (0, begR k', fun _ _ => 0) im := by
  obtain ⟨m1, m2, m3, m4, m5, ⟨m6, m7, m8, m9⟩, m10, m11, m12, m13, m14, m15, F, m16⟩ := h
  have hM' := AG_MCN hAG hM
  exact ⟨by rw [a190]; exact m1, h2, h8, by rw [a189]; exact m4, by rw [a189]; exact m5, ⟨by rw [h18, hAG.1], by rw [h19, hAG.2.1], hM', Or.inl ⟨h26, rfl⟩⟩, h41, ⟨Nat.zero_le _, fun i hi => absurd hi (Nat.not_lt_zero i)⟩, ⟨⟨by dsimp only; rw [AG_beg hAG hM.1 hM.2.1]; exact hR, RJ_beg hM'⟩, h31, Nat.zero_le _, fun i hi => absurd hi (Nat.not_lt_zero i)⟩, h32, h50, fun i hi => absurd hi (Nat.not_lt_zero i), F, hW.trans m16⟩
theorem MV.work {f : Nat → Int32} {r : Nat} (h : MV W g A b sz fp ic rs ne ia k cs bk pg im) (hw : pg.1 < 16) (h2 : g' 2 = 0) (h8 : g' 8 = -1) (hg : KPg (upd (upd g 31 (nI (pg.1 + 1))) 32 (nI r)) g') (hR : RR (A' 205) f) (hJ : RJ 400 k f) (hA : KPa (updR (updR A 205 (A' 205)) 207 (kpF (A 207) (A 205) (91 * pg.1) 91)) A') (hW : W' 213 = W 213) : MV W' g' A' b 0 (-1) ic (nI r) ne ia k cs bk (pg.1 + 1, f, updR pg.2.2 pg.1 pg.2.1) im := by
  obtain ⟨m1, m2, m3, m4, m5, ⟨m6, m7, m8, m9⟩, m10, m11, ⟨p1, p2, p3, p4⟩, m13, m14, m15, F, m16⟩ := h
  obtain ⟨k18, k19, k26, k31, k32, k41, k50⟩ := hg
  obtain ⟨a189, a190, a194, a195, a196, a199, a200, a205, a207, a209, a214⟩ := hA
  have a189' : A' 189 = A 189 := a189
  have a190' : A' 190 = A 190 := a190
  have a194' : A' 194 = A 194 := a194
  have a195' : A' 195 = A 195 := a195
  have a196' : A' 196 = A 196 := a196
  have a199' : A' 199 = A 199 := a199
  have a200' : A' 200 = A 200 := a200
  have a207' : A' 207 = kpF (A 207) (A 205) (91 * pg.1) 91 := a207
  have a209' : A' 209 = A 209 := a209
  have a214' : A' 214 = A 214 := a214
  have k26' : g' 26 = g 26 := k26
  refine ⟨by rw [a190']; exact m1, h2, h8, by rw [a189']; exact m4, by rw [a189']; exact m5, ⟨k18.trans m6, k19.trans m7, by rw [a194', a195', a196']; exact m8, by rw [a199', a200', k26']; exact m9⟩, k41.trans m10, by rw [a209']; exact m11, ⟨⟨hR, hJ⟩, k31, by dsimp only; omega, fun i hi => ?_⟩, k32, k50.trans m14, by rw [a214']; exact m15, F, hW.trans m16⟩
  dsimp only at hi ⊢
  rw [a207']
  by_cases hq : i = pg.1
  · subst hq
    rw [show updR pg.2.2 pg.1 pg.2.1 pg.1 = pg.2.1 from if_pos rfl]
    refine ⟨RR_congr p1.1 (fun j hj => ?_) p1.2.1.nl.1, p1.2⟩
    unfold kpF
    rw [if_pos (by omega), show 91 * pg.1 + j - 91 * pg.1 = j by omega]
  · rw [show updR pg.2.2 pg.1 pg.2.1 i = pg.2.2 i from if_neg hq]
    obtain ⟨d1, d2⟩ := p4 i (by omega)
    refine ⟨RR_congr d1 (fun j hj => ?_) d2.1.nl.1, d2⟩
    unfold kpF
    rw [if_neg (by omega)]
end STQ
