/-! The class as a whole, between two calls. -/
abbrev imF3 : Nat → Option Nat := fun i => if i < 3 then some (71 + 36 * i) else none
abbrev imE : mm_E := .inl (4, 3, .inr (.inr (.inr (.inr imF3))))
/-- scratch, and what never changes -/
def RST (h : Nat → mm_E) : Prop := h 33 = ruE ∧ h 70 = imE ∧ h 179 = stE 180 ∧ (∃ f, h 180 = rwE f ∧ CN 84 f) ∧ SX h ∧ (∃ z, h 186 = wnE z) ∧ ∃ o, h 187 = iaE 10 o
def CW (h : Nat → mm_E) (b : Nat → Int32) (sz : Nat) (fp : Int32) (ic : Nat) (rs ne ia : Int32) (k : CS) (cs : List Nat) (bk : BS) (pg : PGS) (im : Nat → PGS) : Prop :=
  h 0 = cbE (nI ic) rs ne ia ∧ CO h k ∧ LA h cs ∧ LWF cs ∧ BO h bk ∧ PG h 34 pg ∧ RC pg.2.1 ∧ RST h ∧ (∃ en pl st fk, h 1 = tpE (nI sz) en pl st fk fp) ∧ h 2 = byE b ∧ (∃ K, CR h K) ∧ LX h ∧ (∃ K, BR h K) ∧ WX h ∧ (∀ i, i < 3 → PG h (71 + 36 * i) (im i)) ∧ ic ≤ 3 ∧ sz ≤ 600 ∧ BY b
section FRS
variable {h m : Nat → mm_E}
theorem CO_fe {k : CS} (hC : CO h k) (e : ∀ j, 3 ≤ j → j ≤ 8 → m j = h j) : CO m k := by
  obtain ⟨c1, c2, c3, c4, c5, c6, c7⟩ := hC
  exact ⟨(e 3 (by decide) (by decide)).trans c1, (e 4 (by decide) (by decide)).trans c2, (e 5 (by decide) (by decide)).trans c3, (e 6 (by decide) (by decide)).trans c4, (e 7 (by decide) (by decide)).trans c5, (e 8 (by decide) (by decide)).trans c6, c7⟩
theorem CR_fe {k : CS} (hC : CR h k) (e : ∀ j, 9 ≤ j → j ≤ 14 → m j = h j) : CR m k := by
  obtain ⟨c1, c2, c3, c4, c5, c6, c7⟩ := hC
  exact ⟨(e 9 (by decide) (by decide)).trans c1, (e 10 (by decide) (by decide)).trans c2, (e 11 (by decide) (by decide)).trans c3, (e 12 (by decide) (by decide)).trans c4, (e 13 (by decide) (by decide)).trans c5, (e 14 (by decide) (by decide)).trans c6, c7⟩
theorem LA_fe {cs : List Nat} (hL : LA h cs) (e : ∀ j, 15 ≤ j → j ≤ 18 → m j = h j) : LA m cs := by
  obtain ⟨l1, ⟨R, l2, l3⟩, ⟨F, l4⟩, S, l5⟩ := hL
  exact ⟨(e 15 (by decide) (by decide)).trans l1, ⟨R, (e 16 (by decide) (by decide)).trans l2, l3⟩, ⟨F, (e 17 (by decide) (by decide)).trans l4⟩, S, (e 18 (by decide) (by decide)).trans l5⟩
theorem LX_fe (hL : LX h) (e : ∀ j, 19 ≤ j → j ≤ 20 → m j = h j) : LX m := by
  obtain ⟨n, R, l1, l2⟩ := hL
  exact ⟨n, R, (e 19 (by decide) (by decide)).trans l1, (e 20 (by decide) (by decide)).trans l2⟩
theorem BO_fe {bk : BS} (hB : BO h bk) (e : ∀ j, 23 ≤ j → j ≤ 26 → m j = h j) : BO m bk := by
  obtain ⟨b1, b2, b3, b4, b5⟩ := hB
  exact ⟨(e 23 (by decide) (by decide)).trans b1, (e 24 (by decide) (by decide)).trans b2, (e 25 (by decide) (by decide)).trans b3, (e 26 (by decide) (by decide)).trans b4, b5⟩
theorem BR_fe {bk : BS} (hB : BR h bk) (e : ∀ j, 27 ≤ j → j ≤ 30 → m j = h j) : BR m bk := by
  obtain ⟨b1, b2, b3, b4, b5⟩ := hB
  exact ⟨(e 27 (by decide) (by decide)).trans b1, (e 28 (by decide) (by decide)).trans b2, (e 29 (by decide) (by decide)).trans b3, (e 30 (by decide) (by decide)).trans b4, b5⟩
theorem WX_fe (hB : WX h) (e : ∀ j, 31 ≤ j → j ≤ 32 → m j = h j) : WX m := by
  obtain ⟨a1, a2, a3, a4, a5, a6, R, b1, b2⟩ := hB
  exact ⟨a1, a2, a3, a4, a5, a6, R, (e 31 (by decide) (by decide)).trans b1, (e 32 (by decide) (by decide)).trans b2⟩
theorem PG_fe {b : Nat} {p : PGS} (hP : PG h b p) (e : ∀ j, b ≤ j → j < b + 36 → m j = h j) : PG m b p := by
  obtain ⟨p1, p2, p3, p4, p5, p6⟩ := hP
  refine ⟨(e _ (by omega) (by omega)).trans p1, (e _ (by omega) (by omega)).trans p2, (e _ (by omega) (by omega)).trans p3, (e _ (by omega) (by omega)).trans p4, fun i hi => ⟨(e _ (by omega) (by omega)).trans (p5 i hi).1, ?_⟩, p6⟩
  obtain ⟨g, g1, g2⟩ := (p5 i hi).2
  exact ⟨g, (e _ (by omega) (by omega)).trans g1, g2⟩
theorem RST_fe (hR : RST h) (e : ∀ j, j = 33 ∨ j = 70 ∨ 179 ≤ j → j < 188 → m j = h j) : RST m := by
  obtain ⟨r1, r2, r3, ⟨f, r4, r5⟩, ⟨⟨x, y, s1⟩, ⟨t1, s2⟩, ⟨t2, s3⟩, ⟨t3, s4⟩, t4, s5⟩, ⟨z, r6⟩, o, r7⟩ := hR
  exact ⟨(e 33 (by decide) (by decide)).trans r1, (e 70 (by decide) (by decide)).trans r2, (e 179 (by decide) (by decide)).trans r3, ⟨f, (e 180 (by decide) (by decide)).trans r4, r5⟩, ⟨⟨x, y, (e 181 (by decide) (by decide)).trans s1⟩, ⟨t1, (e 182 (by decide) (by decide)).trans s2⟩, ⟨t2, (e 183 (by decide) (by decide)).trans s3⟩, ⟨t3, (e 184 (by decide) (by decide)).trans s4⟩, t4, (e 185 (by decide) (by decide)).trans s5⟩, ⟨z, (e 186 (by decide) (by decide)).trans r6⟩, o, (e 187 (by decide) (by decide)).trans r7⟩
variable {b : Nat → Int32} {sz : Nat} {fp : Int32} {ic : Nat} {rs ne ia : Int32} {k : CS} {cs : List Nat} {bk : BS} {pg : PGS} {im : Nat → PGS}
theorem CW.q (hW : CW h b sz fp ic rs ne ia k cs bk pg im) : QW h (nI ic) rs ne ia k cs bk pg := by
  obtain ⟨w0, wC, wL, wF, wB, wP, wR, ⟨r1, r2, r3, r4, r5⟩, -⟩ := hW
  exact ⟨w0, wC, wL, wF, wB, r1, wP, wR, r3, r4, r5⟩
/-- a question leaves the class as it is -/
theorem CW.fq (hW : CW h b sz fp ic rs ne ia k cs bk pg im) (hF : FQ h m) : CW m b sz fp ic rs ne ia k cs bk pg im ∧ ∀ j, 188 ≤ j → m j = h j := by
  obtain ⟨q0, qC, qL, qF, qB, q33, qP, qR, q179, q180, qS⟩ := hW.q.of hF
  obtain ⟨-, -, -, -, -, -, -, ⟨-, r2, -⟩, ⟨en, pl, st, fk, wt⟩, wy, ⟨K, wCR⟩, wLX, ⟨K2, wBR⟩, wWX, wI, w1, w2, w3⟩ := hW
  have e : ∀ j, j ≠ 17 → j ≠ 18 → j ≠ 180 → j < 181 ∨ 187 < j → m j = h j := hF.1
  exact ⟨⟨q0, qC, qL, qF, qB, qP, qR, ⟨q33, (e 70 (by decide) (by decide) (by decide) (by decide)).trans r2, q179, q180, qS⟩, ⟨en, pl, st, fk, (e 1 (by decide) (by decide) (by decide) (by decide)).trans wt⟩, (e 2 (by decide) (by decide) (by decide) (by decide)).trans wy, ⟨K, CR_fe wCR fun j a b => e j (by omega) (by omega) (by omega) (by omega)⟩, LX_fe wLX fun j a b => e j (by omega) (by omega) (by omega) (by omega), ⟨K2, BR_fe wBR fun j a b => e j (by omega) (by omega) (by omega) (by omega)⟩, WX_fe wWX fun j a b => e j (by omega) (by omega) (by omega) (by omega), fun i hi => PG_fe (wI i hi) fun j a b => e j (by omega) (by omega) (by omega) (by omega), w1, w2, w3⟩, fun j hj => e j (by omega) (by omega) (by omega) (by omega)⟩
/-- another object 0 -/
theorem CW.c0 {ic' : Nat} {rs' ne' ia' : Int32} (hW : CW h b sz fp ic rs ne ia k cs bk pg im) (hi : ic' ≤ 3) : CW (hset h 0 (cbE (nI ic') rs' ne' ia')) b sz fp ic' rs' ne' ia' k cs bk pg im := by
  obtain ⟨-, wC, wL, wF, wB, wP, wR, wS, ⟨en, pl, st, fk, wt⟩, wy, ⟨K, wCR⟩, wLX, ⟨K2, wBR⟩, wWX, wI, w1, w2, w3⟩ := hW
  have e : ∀ j, j ≠ 0 → hset h 0 (cbE (nI ic') rs' ne' ia') j = h j := fun j hj => hset_ne hj
  exact ⟨hset_eq _ _ _, CO_fe wC fun j a b => e j (by omega), LA_fe wL fun j a b => e j (by omega), wF, BO_fe wB fun j a b => e j (by omega), PG_fe wP fun j a b => e j (by omega), wR, RST_fe wS fun j a b => e j (by omega), ⟨en, pl, st, fk, (e 1 (by decide)).trans wt⟩, (e 2 (by decide)).trans wy, ⟨K, CR_fe wCR fun j a b => e j (by omega)⟩, LX_fe wLX fun j a b => e j (by omega), ⟨K2, BR_fe wBR fun j a b => e j (by omega)⟩, WX_fe wWX fun j a b => e j (by omega), fun i hi => PG_fe (wI i hi) fun j a b => e j (by omega), hi, w2, w3⟩
/-- another tape -/
theorem CW.c1 {sz' : Nat} {b' : Nat → Int32} {en pl st fk fp' : Int32} (hW : CW h b sz fp ic rs ne ia k cs bk pg im) (h2 : m 2 = byE b') (h1 : m 1 = tpE (nI sz') en pl st fk fp') (e : ∀ j, j ≠ 1 → j ≠ 2 → m j = h j) (hz : sz' ≤ 600) (hb : BY b') : CW m b' sz' fp' ic rs ne ia k cs bk pg im := by
  obtain ⟨w0, wC, wL, wF, wB, wP, wR, wS, -, wy, ⟨K, wCR⟩, wLX, ⟨K2, wBR⟩, wWX, wI, w1, w2, w3⟩ := hW
  exact ⟨(e 0 (by decide) (by decide)).trans w0, CO_fe wC fun j a b => e j (by omega) (by omega), LA_fe wL fun j a b => e j (by omega) (by omega), wF, BO_fe wB fun j a b => e j (by omega) (by omega), PG_fe wP fun j a b => e j (by omega) (by omega), wR, RST_fe wS fun j a b => e j (by omega) (by omega), ⟨en, pl, st, fk, h1⟩, h2, ⟨K, CR_fe wCR fun j a b => e j (by omega) (by omega)⟩, LX_fe wLX fun j a b => e j (by omega) (by omega), ⟨K2, BR_fe wBR fun j a b => e j (by omega) (by omega)⟩, WX_fe wWX fun j a b => e j (by omega) (by omega), fun i hi => PG_fe (wI i hi) fun j a b => e j (by omega) (by omega), w1, hz, hb⟩
end FRS
