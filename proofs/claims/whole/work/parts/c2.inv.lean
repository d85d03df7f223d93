/-! Class and reference between two calls. -/
/-- a row of the reference that is a row of the class, with what rows keep to -/
def RP (k : CS) (T f : Nat → Int32) : Prop := RR T f ∧ RJ 400 k f
/-- a page of the reference: its row, the rows of the past, how many works -/
def PGR (k : CS) (now past : Nat → Int32) (w : Int32) (pg : PGS) : Prop := RP k now pg.2.1 ∧ w = nI pg.1 ∧ pg.1 ≤ 16 ∧ ∀ i, i < pg.1 → RP k (fun q => past (91 * i + q)) (pg.2.2 i)
/-- the reference beside the class -/
def MV (W : Nat → mm_E) (g : MG) (A : MA) (b : Nat → Int32) (sz : Nat) (fp : Int32) (ic : Nat) (rs ne ia : Int32) (k : CS) (cs : List Nat) (bk : BS) (pg : PGS) (im : Nat → PGS) : Prop :=
  TP (A 190) b ∧ g 2 = nI sz ∧ g 8 = fp ∧ A 189 0 = ne ∧ A 189 1 = ia ∧ MQs k cs g A ∧ g 41 = nI bk.1 ∧ MBK k.2.1 bk (A 209) ∧ PGR k (A 205) (A 207) (g 31) pg ∧ g 32 = rs ∧ g 50 = nI ic ∧ (∀ i, i < ic → PGR k (fun q => A 214 (1548 * i + q)) (fun q => A 214 (1548 * i + 91 + q)) (A 214 (1548 * i + 91 + 1456)) (im i)) ∧ ∃ F, W 213 = bkE F
theorem mos_self {m W : Nat → mm_E} {g : MG} {A : MA} (e : ∀ j, 188 ≤ j → m j = mos W g A j) : m = mos m g A := by
  funext j
  unfold mos
  by_cases h1 : j = 188
  · rw [if_pos h1, h1, e 188 (Nat.le_refl _), mos_o]
    rfl
  · rw [if_neg h1]
    by_cases h2 : mAr j = true
    · rw [if_pos h2, e j (by have := (mAr_lt h2).1; omega), mos_a h2]
    · rw [if_neg h2]
theorem CW_mos {h : Nat → mm_E} {g : MG} {A : MA} {b : Nat → Int32} {sz : Nat} {fp : Int32} {ic : Nat} {rs ne ia : Int32} {k : CS} {cs : List Nat} {bk : BS} {pg : PGS} {im : Nat → PGS} (hW : CW h b sz fp ic rs ne ia k cs bk pg im) {m : Nat → mm_E} (e : ∀ j, j < 188 → m j = h j) : CW m b sz fp ic rs ne ia k cs bk pg im := by
  obtain ⟨w0, wC, wL, wF, wB, wP, wR, wS, ⟨en, pl, st, fk, wt⟩, wy, ⟨K, wCR⟩, wLX, ⟨K2, wBR⟩, wWX, wI, w1, w2, w3⟩ := hW
  exact ⟨(e 0 (by decide)).trans w0, CO_fe wC fun j a b => e j (by omega), LA_fe wL fun j a b => e j (by omega), wF, BO_fe wB fun j a b => e j (by omega), PG_fe wP fun j a b => e j (by omega), wR, RST_fe wS fun j a b => e j (by omega), ⟨en, pl, st, fk, (e 1 (by decide)).trans wt⟩, (e 2 (by decide)).trans wy, ⟨K, CR_fe wCR fun j a b => e j (by omega)⟩, LX_fe wLX fun j a b => e j (by omega), ⟨K2, BR_fe wBR fun j a b => e j (by omega)⟩, WX_fe wWX fun j a b => e j (by omega), fun i hi => PG_fe (wI i hi) fun j a b => e j (by omega), w1, w2, w3⟩
theorem RN_beg {k : CS} (h1 : k.1 ≤ 8) (h2 : k.2.1 ≤ 6) : RN 400 (begR k) := by
  rw [begR_eq h2 h1]
  obtain ⟨z3, z2, z1, z0⟩ := begF_nlo h1 h2
  refine ⟨⟨0, z0, by decide⟩, fun i hi => ?_⟩
  rw [show nlo (begF k) = 0 by unfold nlo; rw [z3]; rfl] at hi
  exact absurd hi (Nat.not_lt_zero i)
theorem RJ_beg {k : CS} {S2 S3 K : Nat → Int32} (hM : MCN k S2 S3 K) : RJ 400 k (begR k) := ⟨beg_RI hM, RN_beg hM.1 hM.2.1⟩
theorem begR_00 : begR k00 = fun _ => 0 := rfl
/-- at the start -/
theorem MV_00 {W : Nat → mm_E} {f : Nat → Int32} (hf : ∀ j, j < 91 → f j = bgM (fun _ => 0) (fun _ => 0) 0 0 j) (h213 : W 213 = bkE (fun _ => 0)) : MV W (setG (upd (upd (upd (fun _ => 0) 8 (-1)) 16 0) 17 0) 0 0) (updR (setA (fun _ _ => 0)) 205 f) (fun _ => 0) 0 (-1) 0 0 0 0 k00 untL bk00 pg00 (fun _ => pg00) := by
  have e : ∀ i, i ≠ 205 → ∀ q, updR (setA (fun _ _ => 0)) 205 f i q = 0 := by
    intro i hi q
    rw [updR_ne hi]
    unfold setA
    by_cases h1 : i = 196
    · subst h1; rw [updR_eq]; unfold cpF; split <;> rfl
    rw [updR_ne h1]
    by_cases h2 : i = 195
    · subst h2; rw [updR_eq]; unfold cpF; split <;> rfl
    rw [updR_ne h2]
    by_cases h3 : i = 194
    · subst h3; rw [updR_eq]; unfold cpF; split <;> rfl
    rw [updR_ne h3]
  have hM : ∀ S2 S3 K : Nat → Int32, (∀ a, K a = 0) → MCN k00 S2 S3 K := fun S2 S3 K hK => MCN_0 rfl rfl (fun a _ => hK a)
  have hM1 := hM (updR (setA (fun _ _ => 0)) 205 f 194) (updR (setA (fun _ _ => 0)) 205 f 195) (updR (setA (fun _ _ => 0)) 205 f 196) (e 196 (by decide))
  refine ⟨fun i _ => by rw [e 190 (by decide)]; exact (by decide : (0 : Int32) = 0 &&& 255), rfl, rfl, e 189 (by decide) 0, e 189 (by decide) 1, ⟨rfl, rfl, hM1, Or.inl ⟨rfl, rfl⟩⟩, rfl, ⟨by decide, fun i hi => absurd hi (Nat.not_lt_zero i)⟩, ⟨⟨?_, ?_⟩, rfl, by decide, fun i hi => absurd hi (Nat.not_lt_zero i)⟩, rfl, rfl, fun i hi => absurd hi (Nat.not_lt_zero i), _, h213⟩
  · rw [updR_eq]
    have := beg_RR (k := k00) (hM (fun _ => 0) (fun _ => 0) (fun _ => 0) (fun _ => rfl)) (s := f) hf
    exact this
  · have := RJ_beg (k := k00) hM1
    exact this
