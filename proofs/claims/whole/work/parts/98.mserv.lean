/-! Who is served: line by line. -/
theorem rch_R {n : Nat} {A L R R' : Nat → Nat} {first : Nat} : ∀ q s, (∀ p, p < q → R' p = R p) → (rch n A L R first q s → rch n A L R' first q s)
  | 0, s, _, h => h
  | q + 1, s, hR, h => by
    rcases h with h | ⟨t, t1, t2, part, p1, p2, p3, p4, p5⟩
    · exact Or.inl (rch_R q s (fun p hp => hR p (by omega)) h)
    · exact Or.inr ⟨t, t1, rch_R q t (fun p hp => hR p (by omega)) t2, part, p1, p2, p3, by rw [hR q (by omega)]; exact p4, p5⟩
theorem rch_bit {n : Nat} {A L R : Nat → Nat} {first : Nat} : ∀ q s, rch n A L R first q s → ∀ i, s.testBit i = true → first ≤ i
  | 0, s, h, i, hi => by
    have : s = 0 := h
    rw [this, Nat.zero_testBit] at hi
    cases hi
  | q + 1, s, h, i, hi => by
    rcases h with h | ⟨t, t1, t2, part, p1, p2, p3, p4, p5⟩
    · exact rch_bit q s h i hi
    · rw [p5, Nat.testBit_or, Bool.or_eq_true] at hi
      rcases hi with hi | hi
      · exact rch_bit q t t2 i hi
      · exact (p3 i hi).2.1
theorem tb_2 (i j : Nat) : (2 ^ i).testBit j = decide (i = j) := Nat.testBit_two_pow
theorem sum_or {A : Nat → Nat} {s b : Nat} (hs : s.testBit b = false) : ∀ n, sumM A (s ||| 2 ^ b) n = sumM A s n + if b < n then A b else 0
  | 0 => by rw [if_neg (Nat.not_lt_zero b)]; rfl
  | n + 1 => by
    show sumM A (s ||| 2 ^ b) n + (s ||| 2 ^ b) / 2 ^ n % 2 * A n = (sumM A s n + s / 2 ^ n % 2 * A n) + _
    rw [sum_or hs n, or_bit2]
    by_cases h : n = b
    · subst h
      have h0 : s / 2 ^ n % 2 = 0 := by
        rw [Nat.testBit_eq_decide_div_mod_eq, decide_eq_false_iff_not] at hs
        omega
      rw [if_neg (Nat.lt_irrefl n), if_pos rfl, if_pos (Nat.lt_succ_self n), h0]
      omega
    · rw [if_neg h]
      by_cases h2 : b < n
      · rw [if_pos h2, if_pos (by omega)]
        omega
      · rw [if_neg h2, if_neg (by omega)]
        omega
theorem pop_or {s b : Nat} (hs : s.testBit b = false) : ∀ n, popc (s ||| 2 ^ b) n = popc s n + if b < n then 1 else 0
  | 0 => by rw [if_neg (Nat.not_lt_zero b)]; rfl
  | n + 1 => by
    show popc (s ||| 2 ^ b) n + (s ||| 2 ^ b) / 2 ^ n % 2 = (popc s n + s / 2 ^ n % 2) + _
    rw [pop_or hs n, or_bit2]
    by_cases h : n = b
    · subst h
      have h0 : s / 2 ^ n % 2 = 0 := by
        rw [Nat.testBit_eq_decide_div_mod_eq, decide_eq_false_iff_not] at hs
        omega
      rw [if_neg (Nat.lt_irrefl n), if_pos rfl, if_pos (Nat.lt_succ_self n), h0]
    · rw [if_neg h]
      by_cases h2 : b < n
      · rw [if_pos h2, if_pos (by omega)]
        omega
      · rw [if_neg h2, if_neg (by omega)]
        omega
theorem val_or {n : Nat} {A : Nat → Nat} {s b : Nat} (hb : b < n) (hn : n ≤ 6) (hs : s.testBit b = false) : valM n A (s ||| 2 ^ b) = 1000 + A b + valM n A s := by
  unfold valM
  rw [sum_or hs, pop_or hs, if_pos hb, if_pos (by omega)]
  omega
/-- with or without a line -/
theorem or_split {s b : Nat} (h : s.testBit b = true) : ∃ s', s'.testBit b = false ∧ s = s' ||| 2 ^ b ∧ ∀ i, s'.testBit i = (s.testBit i && !decide (b = i)) := by
  refine ⟨s ^^^ 2 ^ b, ?_, ?_, fun i => ?_⟩
  · rw [Nat.testBit_xor, tb_2, h]
    simp
  · apply Nat.eq_of_testBit_eq
    intro i
    rw [Nat.testBit_or, Nat.testBit_xor, tb_2]
    by_cases hi : b = i
    · subst hi
      rw [h]
      simp
    · simp [hi]
  · rw [Nat.testBit_xor, tb_2]
    by_cases hi : b = i
    · subst hi
      rw [h]
      simp
    · simp [hi]
theorem sub1_mono {L first t part : Nat} (h : sub1 L (first + 1) t part) : sub1 L first t part := fun i hi => ⟨(h i hi).1, by have := (h i hi).2.1; omega, (h i hi).2.2⟩
theorem peel_1 {n : Nat} {A L R : Nat → Nat} {b : Nat} (hb : b < n) : ∀ q s, rch n A L R b q s → rch n A L R (b + 1) q s ∨ ∃ p, p < q ∧ (L p).testBit b = true ∧ A b ≤ R p ∧ ∃ s', s'.testBit b = false ∧ s = s' ||| 2 ^ b ∧ rch n A L (updN R p (R p - A b)) (b + 1) q s'
  | 0, s, h => Or.inl h
  | q + 1, s, h => by
    rcases h with h | ⟨t, t1, t2, part, p1, p2, p3, p4, p5⟩
    · rcases peel_1 hb q s h with h | ⟨p, h1, h2, h3, s', h4, h5, h6⟩
      · exact Or.inl (Or.inl h)
      · exact Or.inr ⟨p, by omega, h2, h3, s', h4, h5, Or.inl h6⟩
    · rcases peel_1 hb q t t2 with h | ⟨p, h1, h2, h3, t', h4, h5, h6⟩
      · by_cases hp : part.testBit b = true
        · obtain ⟨r, r1, r2, r3⟩ := or_split hp
          have hlq := (p3 b hp).1
          have htb := (p3 b hp).2.2
          have hsum : sumM A part n = sumM A r n + A b := by rw [r2, sum_or r1, if_pos hb]
          refine Or.inr ⟨q, by omega, hlq, by omega, t ||| r, ?_, ?_, ?_⟩
          · rw [Nat.testBit_or, htb, r1]
            rfl
          · rw [p5, r2, Nat.or_assoc]
          · have hRq : ∀ p, p < q → updN R q (R q - A b) p = R p := fun p hp => updN_ne (by omega)
            rcases Nat.eq_zero_or_pos r with r0 | r0
            · rw [r0, Nat.or_zero]
              exact Or.inl (rch_R q t hRq h)
            · refine Or.inr ⟨t, t1, rch_R q t hRq h, r, r0, ?_, fun i hi => ?_, by rw [updN_eq]; omega, rfl⟩
              · refine Nat.lt_of_le_of_lt ?_ p2
                rw [r2]
                exact Nat.left_le_or
              · have := r3 i
                rw [hi] at this
                have h9 := Bool.and_eq_true_iff.mp this.symm
                have h8 := p3 i h9.1
                have h7 : ¬ b = i := by simpa using h9.2
                exact ⟨h8.1, by omega, h8.2.2⟩
        · refine Or.inl (Or.inr ⟨t, t1, h, part, p1, p2, fun i hi => ?_, p4, p5⟩)
          have h8 := p3 i hi
          have h7 : i ≠ b := fun e => hp (e ▸ hi)
          exact ⟨h8.1, by omega, h8.2.2⟩
      · refine Or.inr ⟨p, by omega, h2, h3, t' ||| part, ?_, ?_, ?_⟩
        · rw [Nat.testBit_or, h4]
          rcases hpb : part.testBit b with _ | _
          · rfl
          · have := (p3 b hpb).2.2
            rw [h5, Nat.testBit_or, tb_2] at this
            simp at this
        · rw [p5, h5, Nat.or_assoc, Nat.or_assoc, Nat.or_comm part]
        · refine Or.inr ⟨t', ?_, h6, part, p1, p2, fun i hi => ?_, by rw [updN_ne (by omega)]; exact p4, rfl⟩
          · refine Nat.lt_of_le_of_lt ?_ t1
            rw [h5]
            exact Nat.left_le_or
          · have h8 := p3 i hi
            have h9 := h8.2.2
            rw [h5, Nat.testBit_or, tb_2, Bool.or_eq_false_iff] at h9
            have h7 : ¬ b = i := by simpa using h9.2
            exact ⟨h8.1, by omega, h9.1⟩
theorem rch_up {n : Nat} {A L R : Nat → Nat} {b : Nat} : ∀ q s, rch n A L R (b + 1) q s → rch n A L R b q s
  | 0, s, h => h
  | q + 1, s, h => by
    rcases h with h | ⟨t, t1, t2, part, p1, p2, p3, p4, p5⟩
    · exact Or.inl (rch_up q s h)
    · exact Or.inr ⟨t, t1, rch_up q t t2, part, p1, p2, sub1_mono p3, p4, p5⟩
theorem peel_2 {n : Nat} {A L R : Nat → Nat} {b : Nat} (hb : b < n) : ∀ q p s', p < q → (L p).testBit b = true → A b ≤ R p → rch n A L (updN R p (R p - A b)) (b + 1) q s' → rch n A L R b q (s' ||| 2 ^ b)
  | 0, p, s', hp, _, _, _ => absurd hp (Nat.not_lt_zero p)
  | q + 1, p, s', hp, h2, h3, h => by
    have hpow : 2 ^ b < 2 ^ n := Nat.pow_lt_pow_right (by decide) hb
    have nb : ∀ t, rch n A L (updN R p (R p - A b)) (b + 1) q t → t.testBit b = false := fun t ht => by
      rcases hq : t.testBit b with _ | _
      · rfl
      · have := rch_bit q t ht b hq
        omega
    by_cases hpq : p = q
    · subst hpq
      have hRq : ∀ j, j < p → R j = updN R p (R p - A b) j := fun j hj => (updN_ne (by omega)).symm
      rcases h with h | ⟨t, t1, t2, part, p1, p2, p3, p4, p5⟩
      · refine Or.inr ⟨s', rch_lt p s' h, rch_up p s' (rch_R p s' hRq h), 2 ^ b, Nat.two_pow_pos b, hpow, fun i hi => ?_, ?_, rfl⟩
        · rw [tb_2, decide_eq_true_iff] at hi
          subst hi
          exact ⟨h2, Nat.le_refl _, nb s' h⟩
        · have := sum_or (A := A) (s := 0) (b := b) (Nat.zero_testBit b) n
          rw [Nat.zero_or, if_pos hb] at this
          have h0 : sumM A 0 n = 0 := by
            have : ∀ m, sumM A 0 m = 0 := fun m => by
              induction m with
              | zero => rfl
              | succ m ih => show sumM A 0 m + 0 / 2 ^ m % 2 * A m = 0; rw [ih, Nat.zero_div]; simp
            exact this n
          omega
      · have htb := nb t t2
        have hpb : part.testBit b = false := by
          rcases hq : part.testBit b with _ | _
          · rfl
          · have := (p3 b hq).2.1
            omega
        refine Or.inr ⟨t, t1, rch_up p t (rch_R p t hRq t2), part ||| 2 ^ b, Nat.lt_of_lt_of_le p1 Nat.left_le_or, Nat.or_lt_two_pow p2 hpow, fun i hi => ?_, ?_, by rw [p5, Nat.or_assoc]⟩
        · rw [Nat.testBit_or, Bool.or_eq_true, tb_2, decide_eq_true_iff] at hi
          rcases hi with hi | rfl
          · have := p3 i hi
            exact ⟨this.1, by omega, this.2.2⟩
          · exact ⟨h2, Nat.le_refl _, htb⟩
        · rw [sum_or hpb, if_pos hb]
          rw [updN_eq] at p4
          omega
    · rcases h with h | ⟨t, t1, t2, part, p1, p2, p3, p4, p5⟩
      · exact Or.inl (peel_2 hb q p s' (by omega) h2 h3 h)
      · have ih := peel_2 hb q p t (by omega) h2 h3 t2
        refine Or.inr ⟨t ||| 2 ^ b, Nat.or_lt_two_pow t1 hpow, ih, part, p1, p2, fun i hi => ?_, by rw [updN_ne (Ne.symm hpq)] at p4; exact p4, ?_⟩
        · have := p3 i hi
          refine ⟨this.1, by omega, ?_⟩
          rw [Nat.testBit_or, this.2.2, tb_2]
          simp
          omega
        · rw [p5, Nat.or_assoc, Nat.or_assoc, Nat.or_comm part]
theorem rch_n {n : Nat} {A L R : Nat → Nat} {first : Nat} (hf : n ≤ first) (q s : Nat) : rch n A L R first q s ↔ s = 0 := by
  constructor
  · intro h
    apply Nat.eq_of_testBit_eq
    intro i
    rw [Nat.zero_testBit]
    rcases hq : s.testBit i with _ | _
    · rfl
    · have h1 := rch_bit q s h i hq
      rw [Nat.testBit_lt_two_pow (Nat.lt_of_lt_of_le (rch_lt q s h) (pow_mono (show n ≤ i by omega)))] at hq
      cases hq
  · intro h
    rw [h]
    exact rch_0 q
/-- the best, line by line -/
def mxF (F : Nat → Nat) : Nat → Nat → Nat
  | 0, b => b
  | p + 1, b => max (mxF F p b) (F p)
def bqF (n sl : Nat) (A L : Nat → Nat) : Nat → (Nat → Nat) → Nat
  | 0, _ => 0
  | q + 1, R => mxF (fun p => if (L p).testBit (n - (q + 1)) = true ∧ A (n - (q + 1)) ≤ R p then 1000 + A (n - (q + 1)) + bqF n sl A L q (updN R p (R p - A (n - (q + 1)))) else 0) sl (bqF n sl A L q R)
def bsV (n sl : Nat) (A L : Nat → Nat) : VT := fun first R => bqF n sl A L (n - first) R
theorem mxF_ge {F : Nat → Nat} {b : Nat} : ∀ q, b ≤ mxF F q b ∧ ∀ p, p < q → F p ≤ mxF F q b
  | 0 => ⟨Nat.le_refl b, fun p hp => absurd hp (Nat.not_lt_zero p)⟩
  | q + 1 => by
    obtain ⟨h1, h2⟩ := mxF_ge (F := F) (b := b) q
    refine ⟨Nat.le_trans h1 (Nat.le_max_left _ _), fun p hp => ?_⟩
    rcases Nat.lt_or_eq_of_le (Nat.le_of_lt_succ hp) with z | rfl
    · exact Nat.le_trans (h2 p z) (Nat.le_max_left _ _)
    · exact Nat.le_max_right _ _
theorem mxF_at {F : Nat → Nat} {b : Nat} : ∀ q, mxF F q b = b ∨ ∃ p, p < q ∧ mxF F q b = F p
  | 0 => Or.inl rfl
  | q + 1 => by
    show max (mxF F q b) (F q) = b ∨ _
    rcases Nat.le_total (mxF F q b) (F q) with z | z
    · exact Or.inr ⟨q, by omega, by show max _ _ = _; omega⟩
    · rw [Nat.max_eq_left z]
      rcases mxF_at (F := F) (b := b) q with y | ⟨p, y1, y2⟩
      · exact Or.inl y
      · exact Or.inr ⟨p, by omega, by show max _ _ = _; omega⟩
theorem bs_s {n sl : Nat} {A L : Nat → Nat} {i : Nat} {R : Nat → Nat} (hi : i < n) : bsV n sl A L i R = mxF (fun p => if (L p).testBit i = true ∧ A i ≤ R p then 1000 + A i + bsV n sl A L (i + 1) (updN R p (R p - A i)) else 0) sl (bsV n sl A L (i + 1) R) := by
  unfold bsV
  rw [show n - i = (n - (i + 1)) + 1 by omega]
  show mxF (fun p => if (L p).testBit (n - (n - (i + 1) + 1)) = true ∧ A (n - (n - (i + 1) + 1)) ≤ R p then 1000 + A (n - (n - (i + 1) + 1)) + bqF n sl A L (n - (i + 1)) (updN R p (R p - A (n - (n - (i + 1) + 1)))) else 0) sl (bqF n sl A L (n - (i + 1)) R) = _
  rw [show n - (n - (i + 1) + 1) = i by omega]
theorem bs_n {n sl : Nat} {A L : Nat → Nat} {i : Nat} {R : Nat → Nat} (hi : n ≤ i) : bsV n sl A L i R = 0 := by
  unfold bsV
  rw [show n - i = 0 by omega]
  rfl
theorem bs_best {n sl : Nat} {A L : Nat → Nat} (hn : n ≤ 6) : ∀ q i R, n - i = q → IsBest n sl A L R i (bsV n sl A L i R)
  | 0, i, R, hq => by
    rw [bs_n (by omega)]
    have v0 : valM n A 0 = 0 := by
      have h0 : ∀ m, sumM A 0 m = 0 := fun m => by
        induction m with
        | zero => rfl
        | succ m ih => show sumM A 0 m + 0 / 2 ^ m % 2 * A m = 0; rw [ih, Nat.zero_div]; simp
      have h1 : ∀ m, popc 0 m = 0 := fun m => by
        induction m with
        | zero => rfl
        | succ m ih => show popc 0 m + 0 / 2 ^ m % 2 = 0; rw [ih, Nat.zero_div]
      unfold valM
      rw [h0, h1]
    refine ⟨⟨0, rch_0 sl, v0⟩, fun s hs => ?_⟩
    rw [(rch_n (by omega) sl s).mp hs, v0]
    exact Nat.le_refl 0
  | q + 1, i, R, hq => by
    have hi : i < n := by omega
    have ih := fun R => bs_best (sl := sl) (A := A) (L := L) hn q (i + 1) R (by omega)
    rw [bs_s hi]
    obtain ⟨g1, g2⟩ := mxF_ge (F := fun p => if (L p).testBit i = true ∧ A i ≤ R p then 1000 + A i + bsV n sl A L (i + 1) (updN R p (R p - A i)) else 0) (b := bsV n sl A L (i + 1) R) sl
    constructor
    · rcases mxF_at (F := fun p => if (L p).testBit i = true ∧ A i ≤ R p then 1000 + A i + bsV n sl A L (i + 1) (updN R p (R p - A i)) else 0) (b := bsV n sl A L (i + 1) R) sl with z | ⟨p, z1, z2⟩
      · rw [z]
        obtain ⟨⟨s, s1, s2⟩, -⟩ := ih R
        exact ⟨s, rch_up sl s s1, s2⟩
      · by_cases hc : (L p).testBit i = true ∧ A i ≤ R p
        · rw [if_pos hc] at z2
          rw [z2]
          obtain ⟨⟨s, s1, s2⟩, -⟩ := ih (updN R p (R p - A i))
          have hsb : s.testBit i = false := by
            rcases hq : s.testBit i with _ | _
            · rfl
            · have := rch_bit sl s s1 i hq
              omega
          exact ⟨s ||| 2 ^ i, peel_2 hi sl p s z1 hc.1 hc.2 s1, by rw [val_or hi hn hsb, s2]⟩
        · rw [if_neg hc] at z2
          have h0 : bsV n sl A L (i + 1) R = 0 := by omega
          rw [z2]
          obtain ⟨⟨s, s1, s2⟩, -⟩ := ih R
          exact ⟨s, rch_up sl s s1, by omega⟩
    · intro s hs
      rcases peel_1 hi sl s hs with h | ⟨p, h1, h2, h3, s', h4, h5, h6⟩
      · exact Nat.le_trans ((ih R).2 s h) g1
      · rw [h5, val_or hi hn h4]
        have a1 := (ih (updN R p (R p - A i))).2 s' h6
        have a2 := g2 p h1
        rw [if_pos ⟨h2, h3⟩] at a2
        omega
theorem bs_VOK {n sl : Nat} {A L : Nat → Nat} (hn : n ≤ 6) : VOK n sl A L (bsV n sl A L) := fun first R _ _ => bs_best hn _ first R rfl
