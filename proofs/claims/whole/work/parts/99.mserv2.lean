/-! Who is served: the first best way. -/
theorem lsA_none {V : VT} {A L : Nat → Nat} {line best : Nat} {R : Nat → Nat} : ∀ q, lsA V A L line best R q = none → ∀ p, p < q → ¬ okS V A L line best R p
  | 0, _, p, hp => absurd hp (Nat.not_lt_zero p)
  | q + 1, h, p, hp => by
    unfold lsA at h
    split at h
    · cases h
    · next hq =>
      split at h
      · cases h
      · next hc =>
        rcases Nat.lt_or_eq_of_le (Nat.le_of_lt_succ hp) with z | rfl
        · exact lsA_none q hq p z
        · exact hc
theorem lsA_some {V : VT} {A L : Nat → Nat} {line best : Nat} {R : Nat → Nat} {p : Nat} (h1 : okS V A L line best R p) (h2 : ∀ p', p' < p → ¬ okS V A L line best R p') : ∀ q, p < q → lsA V A L line best R q = some p
  | 0, hp => absurd hp (Nat.not_lt_zero p)
  | q + 1, hp => by
    rcases Nat.lt_or_eq_of_le (Nat.le_of_lt_succ hp) with z | rfl
    · unfold lsA
      rw [lsA_some h1 h2 q z]
    · have h0 : lsA V A L line best R p = none := by
        rcases hq : lsA V A L line best R p with _ | p'
        · rfl
        · exact absurd (lsA_ok p hq) (h2 p' (lsA_lt p hq))
      unfold lsA
      rw [h0]
      simp only
      rw [if_pos h1]
section GRD
variable {n sl : Nat} {A L : Nat → Nat}
def chS (n sl : Nat) (A L : Nat → Nat) (i : Nat) (R : Nat → Nat) : Option Nat := lsA (bsV n sl A L) A L i (bsV n sl A L i R) R sl
def rmG (n sl : Nat) (A L : Nat → Nat) (i : Nat) (R : Nat → Nat) : Nat → (Nat → Nat)
  | 0 => R
  | c + 1 => lsR (rmG n sl A L i R c) (A (i + c)) (chS n sl A L (i + c) (rmG n sl A L i R c))
def cgG (n sl : Nat) (A L : Nat → Nat) (i : Nat) (R : Nat → Nat) (c : Nat) : Option Nat := chS n sl A L (i + c) (rmG n sl A L i R c)
theorem rmG_sh {i : Nat} {R : Nat → Nat} : ∀ c, rmG n sl A L i R (c + 1) = rmG n sl A L (i + 1) (lsR R (A i) (chS n sl A L i R)) c
  | 0 => rfl
  | c + 1 => by
    show lsR (rmG n sl A L i R (c + 1)) (A (i + (c + 1))) (chS n sl A L (i + (c + 1)) (rmG n sl A L i R (c + 1))) = lsR (rmG n sl A L (i + 1) (lsR R (A i) (chS n sl A L i R)) c) (A (i + 1 + c)) (chS n sl A L (i + 1 + c) (rmG n sl A L (i + 1) (lsR R (A i) (chS n sl A L i R)) c))
    rw [rmG_sh c, show i + (c + 1) = i + 1 + c by omega]
theorem cgG_sh {i : Nat} {R : Nat → Nat} (c : Nat) : cgG n sl A L i R (c + 1) = cgG n sl A L (i + 1) (lsR R (A i) (chS n sl A L i R)) c := by
  unfold cgG
  rw [rmG_sh c, show i + (c + 1) = i + 1 + c by omega]
theorem ch_none {i : Nat} {R : Nat → Nat} (hi : i < n) (h : chS n sl A L i R = none) : bsV n sl A L i R = bsV n sl A L (i + 1) R := by
  have hno := lsA_none sl h
  have hs := bs_s (sl := sl) (A := A) (L := L) (R := R) hi
  obtain ⟨g1, -⟩ := mxF_ge (F := fun p => if (L p).testBit i = true ∧ A i ≤ R p then 1000 + A i + bsV n sl A L (i + 1) (updN R p (R p - A i)) else 0) (b := bsV n sl A L (i + 1) R) sl
  rcases mxF_at (F := fun p => if (L p).testBit i = true ∧ A i ≤ R p then 1000 + A i + bsV n sl A L (i + 1) (updN R p (R p - A i)) else 0) (b := bsV n sl A L (i + 1) R) sl with z | ⟨p, z1, z2⟩
  · rw [hs, z]
  · rw [← hs] at g1 z2
    by_cases hc : (L p).testBit i = true ∧ A i ≤ R p
    · rw [if_pos hc] at z2
      exact absurd ⟨hc.1, hc.2, z2.symm⟩ (hno p z1)
    · rw [if_neg hc] at z2
      omega
theorem sl_rm {R : Nat → Nat} : ∀ i, i ≤ n → (slS (bsV n sl A L) A L sl R i).1 = bsV n sl A L i (rmG n sl A L 0 R i) ∧ (slS (bsV n sl A L) A L sl R i).2.2 = rmG n sl A L 0 R i
  | 0, _ => ⟨rfl, rfl⟩
  | i + 1, hi => by
    obtain ⟨h1, h2⟩ := sl_rm (R := R) i (by omega)
    have e : rmG n sl A L 0 R (i + 1) = lsR (rmG n sl A L 0 R i) (A i) (chS n sl A L i (rmG n sl A L 0 R i)) := by
      show lsR (rmG n sl A L 0 R i) (A (0 + i)) (chS n sl A L (0 + i) (rmG n sl A L 0 R i)) = _
      rw [Nat.zero_add]
    have hc : lsA (bsV n sl A L) A L i (slS (bsV n sl A L) A L sl R i).1 (slS (bsV n sl A L) A L sl R i).2.2 sl = chS n sl A L i (rmG n sl A L 0 R i) := by rw [h1, h2]; rfl
    rw [e]
    unfold slS
    rw [hc]
    rcases hx : chS n sl A L i (rmG n sl A L 0 R i) with _ | p
    · simp only [lsR]
      rw [h1, h2]
      exact ⟨ch_none (by omega) hx, rfl⟩
    · simp only [lsR]
      rw [h1, h2]
      have ok := lsA_ok sl hx
      refine ⟨?_, rfl⟩
      have := ok.2.2
      omega
theorem sl_cg {R : Nat → Nat} {i : Nat} (hi : i < n) : (slS (bsV n sl A L) A L sl R (i + 1)).2.1 = cgG n sl A L 0 R i := by
  obtain ⟨h1, h2⟩ := sl_rm (n := n) (sl := sl) (A := A) (L := L) (R := R) i (by omega)
  have hc : lsA (bsV n sl A L) A L i (slS (bsV n sl A L) A L sl R i).1 (slS (bsV n sl A L) A L sl R i).2.2 sl = cgG n sl A L 0 R i := by
    rw [h1, h2]
    unfold cgG chS
    rw [Nat.zero_add]
  show (match lsA (bsV n sl A L) A L i (slS (bsV n sl A L) A L sl R i).1 (slS (bsV n sl A L) A L sl R i).2.2 sl with
    | some p => ((slS (bsV n sl A L) A L sl R i).1 - (1000 + A i), some p, updN (slS (bsV n sl A L) A L sl R i).2.2 p ((slS (bsV n sl A L) A L sl R i).2.2 p - A i))
    | none => ((slS (bsV n sl A L) A L sl R i).1, none, (slS (bsV n sl A L) A L sl R i).2.2)).2.1 = _
  rw [hc]
  rcases cgG n sl A L 0 R i with _ | p <;> rfl
theorem bs_b (hA : ∀ i, i < n → A i ≤ 60) : ∀ q i R, n - i = q → ∃ x y, bsV n sl A L i R = 1000 * x + y ∧ x ≤ q ∧ y ≤ 60 * q
  | 0, i, R, hq => ⟨0, 0, bs_n (by omega), Nat.le_refl 0, Nat.le_refl 0⟩
  | q + 1, i, R, hq => by
    have hi : i < n := by omega
    have ih := fun R => bs_b hA q (i + 1) R (by omega)
    have ha := hA i hi
    rw [bs_s hi]
    rcases mxF_at (F := fun p => if (L p).testBit i = true ∧ A i ≤ R p then 1000 + A i + bsV n sl A L (i + 1) (updN R p (R p - A i)) else 0) (b := bsV n sl A L (i + 1) R) sl with z | ⟨p, z1, z2⟩
    · rw [z]
      obtain ⟨x, y, h1, h2, h3⟩ := ih R
      exact ⟨x, y, h1, by omega, by omega⟩
    · rw [z2]
      by_cases hc : (L p).testBit i = true ∧ A i ≤ R p
      · rw [if_pos hc]
        obtain ⟨x, y, h1, h2, h3⟩ := ih (updN R p (R p - A i))
        exact ⟨x + 1, y + A i, by rw [h1]; omega, by omega, by omega⟩
      · rw [if_neg hc]
        exact ⟨0, 0, rfl, Nat.zero_le _, Nat.zero_le _⟩
/-- what a try leaves: the best so far (one more than its value), and its slabs -/
def TRp (n sl : Nat) (A L : Nat → Nat) (i cur : Nat) (R : Nat → Nat) (by' : Nat → Int32) (M : Nat) (bb : Nat → Int32) (M' : Nat) (bb' : Nat → Int32) : Prop :=
  (M < cur + bsV n sl A L i R + 1 ∧ M' = cur + bsV n sl A L i R + 1 ∧ (∀ j, j < i → bb' j = by' j) ∧ ∀ c, i + c < n → bb' (i + c) = oI (cgG n sl A L i R c)) ∨ (cur + bsV n sl A L i R + 1 ≤ M ∧ M' = M ∧ ∀ j, j < n → bb' j = bb j)
abbrev vpS (n sl : Nat) (A L : Nat → Nat) (i cur : Nat) (R : Nat → Nat) (p : Nat) : Nat := cur + (1000 + A i) + bsV n sl A L (i + 1) (updN R p (R p - A i))
abbrev okP (A L : Nat → Nat) (i : Nat) (R : Nat → Nat) (p : Nat) : Prop := (L p).testBit i = true ∧ A i ≤ R p
/-- the same behind the first q slabs -/
def TRl (n sl : Nat) (A L : Nat → Nat) (i cur : Nat) (R : Nat → Nat) (by' : Nat → Int32) (M : Nat) (bb : Nat → Int32) (q : Nat) (M' : Nat) (bb' : Nat → Int32) : Prop :=
  ((∀ p, p < q → okP A L i R p → vpS n sl A L i cur R p + 1 ≤ M) ∧ M' = M ∧ ∀ j, j < n → bb' j = bb j) ∨
  ∃ p, p < q ∧ okP A L i R p ∧ M < vpS n sl A L i cur R p + 1 ∧ M' = vpS n sl A L i cur R p + 1 ∧ (∀ p', p' < q → okP A L i R p' → vpS n sl A L i cur R p' ≤ vpS n sl A L i cur R p) ∧ (∀ p', p' < p → okP A L i R p' → vpS n sl A L i cur R p' < vpS n sl A L i cur R p) ∧ (∀ j, j < i → bb' j = by' j) ∧ bb' i = nI p ∧ ∀ c, i + 1 + c < n → bb' (i + 1 + c) = oI (cgG n sl A L (i + 1) (updN R p (R p - A i)) c)
theorem TRl_0 {i cur M : Nat} {R : Nat → Nat} {by' bb : Nat → Int32} : TRl n sl A L i cur R by' M bb 0 M bb := Or.inl ⟨fun p hp => absurd hp (Nat.not_lt_zero p), rfl, fun _ _ => rfl⟩
theorem TRl_no {i cur M M' q : Nat} {R : Nat → Nat} {by' bb bb' : Nat → Int32} (h : TRl n sl A L i cur R by' M bb q M' bb') (hq : ¬ okP A L i R q) : TRl n sl A L i cur R by' M bb (q + 1) M' bb' := by
  rcases h with ⟨h1, h2, h3⟩ | ⟨p, h1, h2, h3, h4, h5, h6, h7⟩
  · refine Or.inl ⟨fun p hp ho => ?_, h2, h3⟩
    rcases Nat.lt_or_eq_of_le (Nat.le_of_lt_succ hp) with z | rfl
    · exact h1 p z ho
    · exact absurd ho hq
  · refine Or.inr ⟨p, by omega, h2, h3, h4, fun p' hp' ho => ?_, h6, h7⟩
    rcases Nat.lt_or_eq_of_le (Nat.le_of_lt_succ hp') with z | rfl
    · exact h5 p' z ho
    · exact absurd ho hq
theorem TRl_yes {i cur M M' M'' q : Nat} {R : Nat → Nat} {by' by2 bb bb' bb'' : Nat → Int32} (hi : i < n) (h : TRl n sl A L i cur R by' M bb q M' bb') (hq : okP A L i R q) (hb : ∀ j, j < i → by2 j = by' j) (hb2 : by2 i = nI q) (ht : TRp n sl A L (i + 1) (cur + (1000 + A i)) (updN R q (R q - A i)) by2 M' bb' M'' bb'') : TRl n sl A L i cur R by' M bb (q + 1) M'' bb'' := by
  have ev : vpS n sl A L i cur R q = cur + (1000 + A i) + bsV n sl A L (i + 1) (updN R q (R q - A i)) := rfl
  rcases ht with ⟨t1, t2, t3, t4⟩ | ⟨t1, t2, t3⟩
  · rcases h with ⟨h1, h2, h3⟩ | ⟨p, h1, h2, h3, h4, h5, h6, h7⟩
    · refine Or.inr ⟨q, by omega, hq, by omega, t2, fun p' hp' ho => ?_, fun p' hp' ho => ?_, fun j hj => (t3 j (by omega)).trans (hb j hj), (t3 i (by omega)).trans hb2, t4⟩
      · rcases Nat.lt_or_eq_of_le (Nat.le_of_lt_succ hp') with z | rfl
        · have := h1 p' z ho
          omega
        · exact Nat.le_refl _
      · have := h1 p' hp' ho
        omega
    · refine Or.inr ⟨q, by omega, hq, by omega, t2, fun p' hp' ho => ?_, fun p' hp' ho => ?_, fun j hj => (t3 j (by omega)).trans (hb j hj), (t3 i (by omega)).trans hb2, t4⟩
      · rcases Nat.lt_or_eq_of_le (Nat.le_of_lt_succ hp') with z | rfl
        · have := h5 p' z ho
          omega
        · exact Nat.le_refl _
      · have := h5 p' hp' ho
        omega
  · rcases h with ⟨h1, h2, h3⟩ | ⟨p, h1, h2, h3, h4, h5, h6, h7, h8, h9⟩
    · refine Or.inl ⟨fun p hp ho => ?_, by omega, fun j hj => (t3 j hj).trans (h3 j hj)⟩
      rcases Nat.lt_or_eq_of_le (Nat.le_of_lt_succ hp) with z | rfl
      · exact h1 p z ho
      · omega
    · refine Or.inr ⟨p, by omega, h2, h3, by omega, fun p' hp' ho => ?_, h6, fun j hj => (t3 j (by omega)).trans (h7 j hj), (t3 i hi).trans h8, fun c hc => (t3 _ hc).trans (h9 c hc)⟩
      rcases Nat.lt_or_eq_of_le (Nat.le_of_lt_succ hp') with z | rfl
      · exact h5 p' z ho
      · omega
/-- a line that no slab serves -/
theorem TRl_end {i cur M M' M'' : Nat} {R : Nat → Nat} {by' by2 bb bb' bb'' : Nat → Int32} (hi : i < n) (h : TRl n sl A L i cur R by' M bb sl M' bb') (hb : ∀ j, j < i → by2 j = by' j) (hb2 : by2 i = -1) (ht : TRp n sl A L (i + 1) cur R by2 M' bb' M'' bb'') : TRp n sl A L i cur R by' M bb M'' bb'' := by
  have hs := bs_s (sl := sl) (A := A) (L := L) (R := R) hi
  obtain ⟨g1, g2⟩ := mxF_ge (F := fun p => if (L p).testBit i = true ∧ A i ≤ R p then 1000 + A i + bsV n sl A L (i + 1) (updN R p (R p - A i)) else 0) (b := bsV n sl A L (i + 1) R) sl
  have g3 := mxF_at (F := fun p => if (L p).testBit i = true ∧ A i ≤ R p then 1000 + A i + bsV n sl A L (i + 1) (updN R p (R p - A i)) else 0) (b := bsV n sl A L (i + 1) R) sl
  rw [← hs] at g1 g2 g3
  have g2' : ∀ p, p < sl → okP A L i R p → vpS n sl A L i cur R p ≤ cur + bsV n sl A L i R := fun p hp ho => by
    have := g2 p hp
    rw [if_pos ho] at this
    show cur + (1000 + A i) + _ ≤ _
    omega
  -- the best is without it, if all others are less
  have skip : (∀ p, p < sl → okP A L i R p → vpS n sl A L i cur R p < cur + bsV n sl A L (i + 1) R) → bsV n sl A L i R = bsV n sl A L (i + 1) R ∧ chS n sl A L i R = none := fun hl => by
    have e : bsV n sl A L i R = bsV n sl A L (i + 1) R := by
      rcases g3 with z | ⟨p, z1, z2⟩
      · exact z
      · by_cases hc : (L p).testBit i = true ∧ A i ≤ R p
        · rw [if_pos hc] at z2
          have h9 : cur + (1000 + A i) + bsV n sl A L (i + 1) (updN R p (R p - A i)) < cur + bsV n sl A L (i + 1) R := hl p z1 hc
          omega
        · rw [if_neg hc] at z2
          omega
    refine ⟨e, ?_⟩
    rcases hx : chS n sl A L i R with _ | p
    · rfl
    · have ok := lsA_ok sl hx
      have hlt := lsA_lt sl hx
      have h9 : cur + (1000 + A i) + bsV n sl A L (i + 1) (updN R p (R p - A i)) < cur + bsV n sl A L (i + 1) R := hl p hlt ⟨ok.1, ok.2.1⟩
      have h8 := ok.2.2
      rw [e] at h8
      omega
  have fin : (∀ p, p < sl → okP A L i R p → vpS n sl A L i cur R p < cur + bsV n sl A L (i + 1) R) → M < cur + bsV n sl A L (i + 1) R + 1 → M'' = cur + bsV n sl A L (i + 1) R + 1 → (∀ j, j < i + 1 → bb'' j = by2 j) → (∀ c, i + 1 + c < n → bb'' (i + 1 + c) = oI (cgG n sl A L (i + 1) R c)) → TRp n sl A L i cur R by' M bb M'' bb'' := fun hl f1 f2 f3 f4 => by
    obtain ⟨e1, e2⟩ := skip hl
    refine Or.inl ⟨by rw [e1]; exact f1, by rw [e1]; exact f2, fun j hj => (f3 j (by omega)).trans (hb j hj), fun c hc => ?_⟩
    match c, hc with
    | 0, hc =>
      have : cgG n sl A L i R 0 = none := e2
      rw [this, Nat.add_zero, f3 i (by omega), hb2]
      rfl
    | c + 1, hc =>
      rw [cgG_sh, e2, show i + (c + 1) = i + 1 + c by omega]
      exact f4 c (by omega)
  rcases ht with ⟨t1, t2, t3, t4⟩ | ⟨t1, t2, t3⟩
  · rcases h with ⟨h1, h2, h3⟩ | ⟨p, h1, h2, h3, h4, h5, h6, h7⟩
    · exact fin (fun p hp ho => by have := h1 p hp ho; omega) (by omega) t2 t3 t4
    · exact fin (fun p' hp' ho => by have := h5 p' hp' ho; omega) (by omega) t2 t3 t4
  · rcases h with ⟨h1, h2, h3⟩ | ⟨p, h1, h2, h3, h4, h5, h6, h7, h8, h9⟩
    · refine Or.inr ⟨?_, by omega, fun j hj => (t3 j hj).trans (h3 j hj)⟩
      rcases g3 with z | ⟨p, z1, z2⟩
      · omega
      · by_cases hc : (L p).testBit i = true ∧ A i ≤ R p
        · rw [if_pos hc] at z2
          have h9 : cur + (1000 + A i) + bsV n sl A L (i + 1) (updN R p (R p - A i)) + 1 ≤ M := h1 p z1 hc
          omega
        · rw [if_neg hc] at z2
          omega
    · have hmax : bsV n sl A L i R = 1000 + A i + bsV n sl A L (i + 1) (updN R p (R p - A i)) := by
        have a1 := g2' p h1 h2
        have a1' : cur + (1000 + A i) + bsV n sl A L (i + 1) (updN R p (R p - A i)) ≤ cur + bsV n sl A L i R := a1
        have h4' : M' = cur + (1000 + A i) + bsV n sl A L (i + 1) (updN R p (R p - A i)) + 1 := h4
        rcases g3 with z | ⟨p', z1, z2⟩
        · omega
        · by_cases hc : (L p').testBit i = true ∧ A i ≤ R p'
          · rw [if_pos hc] at z2
            have h9 : cur + (1000 + A i) + bsV n sl A L (i + 1) (updN R p' (R p' - A i)) ≤ cur + (1000 + A i) + bsV n sl A L (i + 1) (updN R p (R p - A i)) := h5 p' z1 hc
            omega
          · rw [if_neg hc] at z2
            omega
      have hch : chS n sl A L i R = some p := lsA_some ⟨h2.1, h2.2, hmax.symm⟩ (fun p' hp' ho => by
        have h10 : cur + (1000 + A i) + bsV n sl A L (i + 1) (updN R p' (R p' - A i)) < cur + (1000 + A i) + bsV n sl A L (i + 1) (updN R p (R p - A i)) := h6 p' hp' ⟨ho.1, ho.2.1⟩
        have := ho.2.2
        omega) sl h1
      have h3' : M < cur + (1000 + A i) + bsV n sl A L (i + 1) (updN R p (R p - A i)) + 1 := h3
      have h4' : M' = cur + (1000 + A i) + bsV n sl A L (i + 1) (updN R p (R p - A i)) + 1 := h4
      refine Or.inl ⟨by omega, by omega, fun j hj => (t3 j (by omega)).trans (h7 j hj), fun c hc => ?_⟩
      match c, hc with
      | 0, hc =>
        have : cgG n sl A L i R 0 = some p := hch
        rw [this, Nat.add_zero, t3 i hi, h8]
        rfl
      | c + 1, hc =>
        rw [cgG_sh, hch, show i + (c + 1) = i + 1 + c by omega, t3 _ (by omega)]
        exact h9 c (by omega)
end GRD
