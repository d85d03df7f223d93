/-! Rows of class and reference under what STEPS do. -/
def RRm (m : Nat) (s f : Nat → Int32) : Prop := (∀ p, p < 8 → s p = f (4 + p)) ∧ (∀ p, p < 8 → s (8 + p) = (f 1 >>> (nI p &&& 31)) &&& 1) ∧ (∀ a, a < 6 → s (16 + a) = f (12 + a)) ∧ (∀ a, a < 6 → s (22 + a) = f (18 + a)) ∧ (∀ i, i < 6 * m → s (28 + i) = f (24 + i)) ∧ s 88 = f 3 ∧ s 89 = f 2 ∧ s 90 = f 0
theorem RR_m {s f : Nat → Int32} : RR s f ↔ RRm (nlo f) s f := Iff.rfl
theorem upd2 {s f : Nat → Int32} {i j a b : Nat} {x : Int32} (h1 : a = i ↔ b = j) (h2 : a ≠ i → s a = f b) : upd s i x a = upd f j x b := by
  by_cases h : a = i
  · rw [h, h1.mp h, upd_eq, upd_eq]
  · rw [upd_ne h, upd_ne (fun z => h (h1.mpr z))]
    exact h2 h
theorem RRm_upd {m : Nat} {s f : Nat → Int32} {i j : Nat} {x : Int32} (hm : m ≤ 10) (h : RRm m s f) (hj : (4 ≤ j ∧ j < 12 ∧ i = j - 4) ∨ (12 ≤ j ∧ j < 84 ∧ i = j + 4) ∨ (j = 2 ∧ i = 89) ∨ (j = 0 ∧ i = 90)) : RRm m (upd s i x) (upd f j x) := by
  obtain ⟨h1, h2, h3, h4, h5, h6, h7, h8⟩ := h
  refine ⟨fun p hp => upd2 (by omega) (fun _ => h1 p hp), fun p hp => ?_, fun a ha => upd2 (by omega) (fun _ => h3 a ha), fun a ha => upd2 (by omega) (fun _ => h4 a ha), fun a ha => upd2 (by omega) (fun _ => h5 a ha), upd2 (by omega) (fun _ => h6), upd2 (by omega) (fun _ => h7), upd2 (by omega) (fun _ => h8)⟩
  rw [upd_ne (by omega), upd_ne (by omega)]
  exact h2 p hp
theorem nlo_upd {f : Nat → Int32} {j : Nat} {x : Int32} (h : j ≠ 3) : nlo (upd f j x) = nlo f := by unfold nlo; rw [upd_ne (Ne.symm h)]
theorem RR_upd {s f : Nat → Int32} {i j : Nat} {x : Int32} (hm : nlo f ≤ 10) (h : RR s f) (hj : (4 ≤ j ∧ j < 12 ∧ i = j - 4) ∨ (12 ≤ j ∧ j < 84 ∧ i = j + 4) ∨ (j = 2 ∧ i = 89) ∨ (j = 0 ∧ i = 90)) : RR (upd s i x) (upd f j x) := by
  have h1 : nlo (upd f j x) = nlo f := nlo_upd (by omega)
  rw [RR_m, h1]
  exact RRm_upd hm h hj
theorem sealS_n : ∀ p, p < 8 → ∀ z, z < 256 → sealS (nI z) p = nI (z ||| 2 ^ p) := by decide +kernel
def opnN (z p : Nat) : Nat := if z / 2 ^ p % 2 = 1 then z - 2 ^ p else z
theorem openS_n : ∀ p, p < 8 → ∀ z, z < 256 → openS (nI z) p = nI (opnN z p) := by decide +kernel
theorem opn_bit : ∀ p, p < 8 → ∀ q, q < 8 → ∀ z, z < 256 → opnN z p / 2 ^ q % 2 = if q = p then 0 else z / 2 ^ q % 2 := by decide +kernel
theorem opn_le (z p : Nat) : opnN z p ≤ z := by
  unfold opnN
  split
  · exact Nat.sub_le _ _
  · exact Nat.le_refl _
theorem RR_seal {s f : Nat → Int32} {p z : Nat} (h : RR s f) (hp : p < 8) (hz : f 1 = nI z) (hz8 : z < 256) : RR (upd s (8 + p) 1) (upd f 1 (sealS (f 1) p)) := by
  have e : nlo (upd f 1 (sealS (f 1) p)) = nlo f := nlo_upd (by decide)
  rw [RR_m, e]
  obtain ⟨h1, h2, h3, h4, h5, h6, h7, h8⟩ := h
  refine ⟨fun q hq => by rw [upd_ne (by omega), upd_ne (by omega)]; exact h1 q hq, fun q hq => ?_, fun a ha => by rw [upd_ne (by omega), upd_ne (by omega)]; exact h3 a ha, fun a ha => by rw [upd_ne (by omega), upd_ne (by omega)]; exact h4 a ha, fun a ha => by rw [upd_ne (by omega), upd_ne (by omega)]; exact h5 a ha, by rw [upd_ne (by omega), upd_ne (by omega)]; exact h6, by rw [upd_ne (by omega), upd_ne (by omega)]; exact h7, by rw [upd_ne (by omega), upd_ne (by omega)]; exact h8⟩
  have e2 := h2 q hq
  have hb : z ||| 2 ^ p < 2 ^ 8 := or_lt (k := 8) hz8 hp
  rw [hz, bit32 (by omega) (by omega)] at e2
  rw [upd_eq, hz, sealS_n p hp z hz8, bit32 (by omega) (by omega), or_bit2]
  by_cases hq2 : q = p
  · subst hq2
    rw [upd_eq, if_pos rfl]
    rfl
  · rw [upd_ne (by omega), if_neg hq2]
    exact e2
theorem RR_open {s f : Nat → Int32} {p z : Nat} (h : RR s f) (hp : p < 8) (hz : f 1 = nI z) (hz8 : z < 256) : RR (upd s (8 + p) 0) (upd f 1 (openS (f 1) p)) := by
  have e : nlo (upd f 1 (openS (f 1) p)) = nlo f := nlo_upd (by decide)
  rw [RR_m, e]
  obtain ⟨h1, h2, h3, h4, h5, h6, h7, h8⟩ := h
  refine ⟨fun q hq => by rw [upd_ne (by omega), upd_ne (by omega)]; exact h1 q hq, fun q hq => ?_, fun a ha => by rw [upd_ne (by omega), upd_ne (by omega)]; exact h3 a ha, fun a ha => by rw [upd_ne (by omega), upd_ne (by omega)]; exact h4 a ha, fun a ha => by rw [upd_ne (by omega), upd_ne (by omega)]; exact h5 a ha, by rw [upd_ne (by omega), upd_ne (by omega)]; exact h6, by rw [upd_ne (by omega), upd_ne (by omega)]; exact h7, by rw [upd_ne (by omega), upd_ne (by omega)]; exact h8⟩
  have e2 := h2 q hq
  have hb := opn_le z p
  rw [hz, bit32 (by omega) (by omega)] at e2
  rw [upd_eq, hz, openS_n p hp z hz8, bit32 (by omega) (by omega), opn_bit p hp q hq z hz8]
  by_cases hq2 : q = p
  · subst hq2
    rw [upd_eq, if_pos rfl]
    rfl
  · rw [upd_ne (by omega), if_neg hq2]
    exact e2
/-- a STEP keeps what rows keep to -/
theorem RI_upd {k : CS} {f : Nat → Int32} {j : Nat} {x : Int32} (h : RI k f) (h3 : j ≠ 3) (hj : j < 24 ∨ ∃ i, i < 10 ∧ j = 24 + 6 * i + 5) (c1 : ∀ p, p < 8 → j = 4 + p → ∃ u, x = nI u ∧ u ≤ 99) (c2 : ∀ a, a < 6 → j = 12 + a → ∃ u, x = nI u ∧ u ≤ 9) (c3 : ∀ a, a < 6 → j = 18 + a → ∃ u, x = nI u ∧ u ≤ 300) (c4 : j = 1 → ∃ z, x = nI z ∧ z < 2 ^ k.1) (c5 : j = 0 → ∃ u, x = nI u ∧ u ≤ 1000) (c6 : ∀ i, j = 24 + 6 * i + 5 → x = 0 ∨ x = 1) : RI k (upd f j x) := by
  have hl : j < 84 := by rcases hj with z | ⟨i, z1, z2⟩ <;> omega
  have hj2 : j < 24 ∨ ∃ i, j = 24 + 6 * i + 5 := by
    rcases hj with z | ⟨i, -, z⟩
    · exact Or.inl z
    · exact Or.inr ⟨i, z⟩
  obtain ⟨⟨⟨n, hw⟩, hc⟩, i1, i2, i3, i4, i5, i6⟩ := h
  have hn : nlo (upd f j x) = nlo f := nlo_upd h3
  refine ⟨⟨⟨n, RW_upd hw h3 hj2⟩, CN_upd hc hl⟩, fun p hp => ?_, fun a ha => ?_, fun a ha => ?_, ?_, ?_, fun i hi => ?_⟩
  · by_cases e : j = 4 + p
    · rw [← e, upd_eq]
      exact c1 p hp e
    · rw [upd_ne (Ne.symm e)]
      exact i1 p hp
  · by_cases e : j = 12 + a
    · rw [← e, upd_eq]
      exact c2 a ha e
    · rw [upd_ne (Ne.symm e)]
      exact i2 a ha
  · by_cases e : j = 18 + a
    · rw [← e, upd_eq]
      exact c3 a ha e
    · rw [upd_ne (Ne.symm e)]
      exact i3 a ha
  · by_cases e : j = 1
    · rw [← e, upd_eq]
      exact c4 e
    · rw [upd_ne (Ne.symm e)]
      exact i4
  · by_cases e : j = 0
    · rw [← e, upd_eq]
      exact c5 e
    · rw [upd_ne (Ne.symm e)]
      exact i5
  · rw [hn] at hi
    have hne : ∀ c, c < 5 → 24 + 6 * i + c ≠ j := fun c hc e => by
      rcases hj with z | ⟨q, -, z⟩ <;> omega
    obtain ⟨l1, l2, l3, l4⟩ := i6 i hi
    refine ⟨by rw [lsoul_upd (hne 0 (by decide))]; exact l1, by rw [lslab_upd (hne 1 (by decide))]; exact l2, ?_, by rw [upd_ne (hne 2 (by decide))]; exact l4⟩
    by_cases e : 24 + 6 * i + 5 = j
    · rw [e, upd_eq]
      exact c6 i e.symm
    · rw [upd_ne e]
      exact l3
theorem RI_under {k : CS} {f : Nat → Int32} {p : Nat} {x : Int32} (h : RI k f) (hp : p < 8) (hx : ∃ u, x = nI u ∧ u ≤ 99) : RI k (upd f (4 + p) x) := RI_upd h (by omega) (Or.inl (by omega)) (fun _ _ _ => hx) (fun a ha e => by omega) (fun a ha e => by omega) (fun e => by omega) (fun e => by omega) (fun i e => by omega)
theorem RI_stand {k : CS} {f : Nat → Int32} {p : Nat} {x : Int32} (h : RI k f) (hp : p < 6) (hx : ∃ u, x = nI u ∧ u ≤ 9) : RI k (upd f (12 + p) x) := RI_upd h (by omega) (Or.inl (by omega)) (fun a ha e => by omega) (fun _ _ _ => hx) (fun a ha e => by omega) (fun e => by omega) (fun e => by omega) (fun i e => by omega)
theorem RI_purse {k : CS} {f : Nat → Int32} {p : Nat} {x : Int32} (h : RI k f) (hp : p < 6) (hx : ∃ u, x = nI u ∧ u ≤ 300) : RI k (upd f (18 + p) x) := RI_upd h (by omega) (Or.inl (by omega)) (fun a ha e => by omega) (fun a ha e => by omega) (fun _ _ _ => hx) (fun e => by omega) (fun e => by omega) (fun i e => by omega)
theorem RI_shut {k : CS} {f : Nat → Int32} {x : Int32} (h : RI k f) (hx : ∃ z, x = nI z ∧ z < 2 ^ k.1) : RI k (upd f 1 x) := RI_upd h (by omega) (Or.inl (by omega)) (fun a ha e => by omega) (fun a ha e => by omega) (fun a ha e => by omega) (fun _ => hx) (fun e => by omega) (fun i e => by omega)
theorem RI_night {k : CS} {f : Nat → Int32} {x : Int32} (h : RI k f) (hx : ∃ u, x = nI u ∧ u ≤ 1000) : RI k (upd f 0 x) := RI_upd h (by omega) (Or.inl (by omega)) (fun a ha e => by omega) (fun a ha e => by omega) (fun a ha e => by omega) (fun e => by omega) (fun _ => hx) (fun i e => by omega)
theorem RI_over {k : CS} {f : Nat → Int32} {q : Nat} {x : Int32} (h : RI k f) (hq : q < 10) (hx : x = 0 ∨ x = 1) : RI k (upd f (24 + 6 * q + 5) x) := RI_upd h (by omega) (Or.inr ⟨q, hq, rfl⟩) (fun a ha e => by omega) (fun a ha e => by omega) (fun a ha e => by omega) (fun e => by omega) (fun e => by omega) (fun i e => hx)
theorem RI_sealS {k : CS} {f : Nat → Int32} {p : Nat} (h : RI k f) (hk : k.1 ≤ 8) (hp : p < k.1) : RI k (upd f 1 (sealS (f 1) p)) := by
  refine RI_shut h ?_
  obtain ⟨z, hz, hz2⟩ := h.2.2.2.2.1
  have := pow_mono hk
  exact ⟨z ||| 2 ^ p, by rw [hz, sealS_n p (by omega) z (by omega)], or_lt hz2 hp⟩
theorem RI_openS {k : CS} {f : Nat → Int32} {p : Nat} (h : RI k f) (hk : k.1 ≤ 8) (hp : p < k.1) : RI k (upd f 1 (openS (f 1) p)) := by
  refine RI_shut h ?_
  obtain ⟨z, hz, hz2⟩ := h.2.2.2.2.1
  have := pow_mono hk
  exact ⟨opnN z p, by rw [hz, openS_n p (by omega) z (by omega)], Nat.lt_of_le_of_lt (opn_le z p) hz2⟩
/-- nights so far, and by when LOANS are due -/
def RN (N : Nat) (f : Nat → Int32) : Prop := (∃ u, f 0 = nI u ∧ u ≤ N) ∧ ∀ i, i < nlo f → ∃ u, f (24 + 6 * i + 4) = nI u ∧ u ≤ 2000
theorem RN_upd {N : Nat} {f : Nat → Int32} {j : Nat} {x : Int32} (h : RN N f) (h0 : j ≠ 0) (h3 : j ≠ 3) (hj : j < 24 ∨ ∃ i, j = 24 + 6 * i + 5) : RN N (upd f j x) := by
  refine ⟨by rw [upd_ne (Ne.symm h0)]; exact h.1, fun i hi => ?_⟩
  rw [nlo_upd h3] at hi
  rw [upd_ne (by rcases hj with z | ⟨q, z⟩ <;> omega)]
  exact h.2 i hi
def RJ (N : Nat) (k : CS) (f : Nat → Int32) : Prop := RI k f ∧ RN N f
theorem RJ_mono {N N' : Nat} {k : CS} {f : Nat → Int32} (h : RJ N k f) (hn : N ≤ N') : RJ N' k f := ⟨h.1, by obtain ⟨u, h1, h2⟩ := h.2.1; exact ⟨u, h1, by omega⟩, h.2.2⟩
theorem clamp_b (v : Int32) : ∃ u, clamp v = nI u ∧ u ≤ 200 := by
  rw [clamp_eq]
  by_cases h1 : v < 0
  · rw [if_pos h1]
    exact ⟨0, rfl, by decide⟩
  · rw [if_neg h1]
    by_cases h2 : 200 < v
    · rw [if_pos h2]
      exact ⟨200, rfl, by decide⟩
    · rw [if_neg h2]
      obtain ⟨j, hj, rfl⟩ := nI_of h1
      exact ⟨j, rfl, Nat.le_of_not_lt fun z => h2 (nI_lt (a := 200) z hj)⟩
theorem ovF_RJ {N : Nat} {k : CS} {f : Nat → Int32} {i : Nat} (hk : k.1 ≤ 8) (h : RJ N k f) (hi : i < nlo f) : RJ N k (ovF f i) ∧ nlo (ovF f i) = nlo f := by
  obtain ⟨hn10, -, hw⟩ := h.1.nl
  have so := hw.so hi
  have sl := hw.sl hi
  obtain ⟨l1, l2, -⟩ := h.1.2.2.2.2.2.2 i hi
  unfold ovF
  split
  · unfold ov2 ov1
    have a1 : RJ N k (upd f (24 + 6 * i + 5) 1) := ⟨RI_over h.1 (by omega) (Or.inr rfl), RN_upd h.2 (by omega) (by omega) (Or.inr ⟨i, rfl⟩)⟩
    have e1 : upd f (24 + 6 * i + 5) 1 (12 + lsoul f i) = f (12 + lsoul f i) := upd_ne (by omega)
    rw [e1]
    obtain ⟨u, u1, u2⟩ := h.1.2.2.1 _ so.2
    have e2 : ∃ u', max0 (f (12 + lsoul f i) - 1) = nI u' ∧ u' ≤ 9 := by
      rw [u1]
      unfold max0
      rcases Nat.eq_zero_or_pos u with rfl | z
      · exact ⟨0, by decide, by decide⟩
      · rw [show (1 : Int32) = nI 1 from rfl, pk_sub z]
        split
        · exact ⟨u - 1, rfl, by omega⟩
        · exact ⟨0, rfl, by decide⟩
    have a2 : RJ N k (upd (upd f (24 + 6 * i + 5) 1) (12 + lsoul f i) (max0 (f (12 + lsoul f i) - 1))) := ⟨RI_stand a1.1 so.2 e2, RN_upd a1.2 (by omega) (by omega) (Or.inl (by omega))⟩
    refine ⟨⟨RI_sealS a2.1 hk l2, RN_upd a2.2 (by omega) (by omega) (Or.inl (by omega))⟩, ?_⟩
    rw [nlo_upd (by omega), nlo_upd (by omega), nlo_upd (by omega)]
  · exact ⟨h, rfl⟩
theorem nigF_RJ {N : Nat} {k : CS} {f : Nat → Int32} (hk : k.1 ≤ 8) (hN : N < 1000) (h : RJ N k f) : ∀ n, n ≤ nlo f → RJ (N + 1) k (nigF f n) ∧ nlo (nigF f n) = nlo f
  | 0, _ => by
    obtain ⟨u, u1, u2⟩ := h.2.1
    have e : f 0 + 1 = nI (u + 1) := by rw [u1]; exact nI_1 u
    refine ⟨⟨RI_night h.1 ⟨u + 1, e, by omega⟩, ⟨u + 1, ?_, by omega⟩, fun i hi => ?_⟩, nlo_upd (by omega)⟩
    · show upd f 0 _ 0 = _
      rw [upd_eq, e]
    · show ∃ u, upd f 0 _ (24 + 6 * i + 4) = nI u ∧ _
      rw [upd_ne (by omega)]
      rw [show nigF f 0 = upd f 0 (f 0 + 1) from rfl, nlo_upd (by omega)] at hi
      exact h.2.2 i hi
  | n + 1, hn => by
    have ih := nigF_RJ hk hN h n (by omega)
    have := ovF_RJ hk ih.1 (i := n) (by rw [ih.2]; omega)
    exact ⟨this.1, this.2.trans ih.2⟩
theorem nig_RJ {N : Nat} {k : CS} {f : Nat → Int32} (hk : k.1 ≤ 8) (hN : N < 1000) (h : RJ N k f) : RJ (N + 1) k (nigF f (nlo f)) := (nigF_RJ hk hN h _ (Nat.le_refl _)).1
theorem lend_RJ {N : Nat} {k : CS} {f : Nat → Int32} {a p x t : Nat} (hN : N ≤ 1000) (ha : a < k.2.1) (hp : p < k.1) (ha6 : a < 6) (hp8 : p < 8) (hx : x ≤ 60) (ht : t ≤ 40) (h : RJ N k f) (hn : nlo f < 10) (ho : ¬ f (4 + p) < nI x) : RJ N k (lendF f (nlo f) a p (nI x) (nI t)) := by
  obtain ⟨-, -, hw⟩ := h.1.nl
  obtain ⟨u, u1, u2⟩ := h.1.2.1 p hp8
  obtain ⟨v, v1, v2⟩ := h.2.1
  have hxu : x ≤ u := by
    rw [u1] at ho
    exact Nat.le_of_not_lt fun z => ho (nI_lt z (by omega))
  have a1 : RJ N k (upd f (4 + p) (f (4 + p) - nI x)) := ⟨RI_under h.1 hp8 ⟨u - x, by rw [u1, pk_sub hxu], by omega⟩, RN_upd h.2 (by omega) (by omega) (Or.inl (by omega))⟩
  have hRW := RW_lend (x := nI x) (y := nI t) hw hn ha6 hp8
  have hCN := CN_lend (x := nI x) (y := nI t) (a := a) hn hp8 h.1.1.2
  have hnl : nlo (lendF f (nlo f) a p (nI x) (nI t)) = nlo f + 1 := nlo_eq hRW
  generalize hm : nlo f = m at *
  have lo : ∀ j, j < 24 + 6 * m → j ≠ 3 → lendF f m a p (nI x) (nI t) j = upd f (4 + p) (f (4 + p) - nI x) j := fun j hj h3 => by
    unfold lendF addF
    rw [upd_ne h3, upd_ne (by omega), upd_ne (by omega), upd_ne (by omega), upd_ne (by omega), upd_ne (by omega), upd_ne (by omega)]
  have v0 : lendF f m a p (nI x) (nI t) (24 + 6 * m + 0) = nI a := by
    unfold lendF addF
    rw [upd_ne (by omega), upd_ne (by omega), upd_ne (by omega), upd_ne (by omega), upd_ne (by omega), upd_ne (by omega), upd_eq]
  have v1' : lendF f m a p (nI x) (nI t) (24 + 6 * m + 1) = nI p := by
    unfold lendF addF
    rw [upd_ne (by omega), upd_ne (by omega), upd_ne (by omega), upd_ne (by omega), upd_ne (by omega), upd_eq]
  have v2' : lendF f m a p (nI x) (nI t) (24 + 6 * m + 2) = nI x := by
    unfold lendF addF
    rw [upd_ne (by omega), upd_ne (by omega), upd_ne (by omega), upd_ne (by omega), upd_eq]
  have v4' : lendF f m a p (nI x) (nI t) (24 + 6 * m + 4) = nI (v + t) := by
    unfold lendF addF
    rw [upd_ne (by omega), upd_ne (by omega), upd_eq, upd_ne (by omega), v1, nI_add]
  have v5' : lendF f m a p (nI x) (nI t) (24 + 6 * m + 5) = 0 := by
    unfold lendF addF
    rw [upd_ne (by omega), upd_eq]
  obtain ⟨⟨-, i1, i2, i3, i4, i5, i6⟩, n1, n2⟩ := a1
  rw [nlo_upd (by omega), hm] at i6 n2
  refine ⟨⟨⟨⟨_, hRW⟩, hCN⟩, fun q hq => by rw [lo _ (by omega) (by omega)]; exact i1 q hq, fun q hq => by rw [lo _ (by omega) (by omega)]; exact i2 q hq, fun q hq => by rw [lo _ (by omega) (by omega)]; exact i3 q hq, by rw [lo _ (by omega) (by omega)]; exact i4, by rw [lo _ (by omega) (by omega)]; exact i5, fun i hi => ?_⟩, by rw [lo _ (by omega) (by omega)]; exact n1, fun i hi => ?_⟩
  · rw [hnl] at hi
    rcases Nat.lt_or_eq_of_le (Nat.le_of_lt_succ hi) with z | rfl
    · obtain ⟨l1, l2, l3, l4⟩ := i6 i z
      refine ⟨?_, ?_, ?_, ?_⟩
      · unfold lsoul at l1 ⊢
        rw [lo _ (by omega) (by omega)]
        exact l1
      · unfold lslab at l2 ⊢
        rw [lo _ (by omega) (by omega)]
        exact l2
      · rw [lo _ (by omega) (by omega)]
        exact l3
      · rw [lo _ (by omega) (by omega)]
        exact l4
    · refine ⟨?_, ?_, Or.inl v5', x, v2', hx⟩
      · unfold lsoul
        rw [v0, nI_clamp (by omega)]
        exact ha
      · unfold lslab
        rw [v1', nI_clamp (by omega)]
        exact hp
  · rw [hnl] at hi
    rcases Nat.lt_or_eq_of_le (Nat.le_of_lt_succ hi) with z | rfl
    · rw [lo _ (by omega) (by omega)]
      exact n2 i z
    · exact ⟨v + t, v4', by omega⟩
theorem end_RJ {N : Nat} {k : CS} {f : Nat → Int32} {i : Nat} (h : RJ N k f) (hi : i < nlo f) : RJ N k (endF f i) := by
  obtain ⟨hn10, -, hw⟩ := h.1.nl
  have hRW := RW_end hw hi
  have hCN := CN_end (i := i) h.1.1.2
  have hnl : nlo (endF f i) = nlo f - 1 := nlo_eq hRW
  have lo : ∀ j, j < 24 → j ≠ 3 → j ≠ 2 → endF f i j = f j := fun j h1 h2 h3 => by
    unfold endF
    rw [upd_ne h3, upd_ne h2]
    exact if_neg (by omega)
  have hi2 : ∀ q c, c < 6 → q < nlo f - 1 → ∃ q', q' < nlo f ∧ (∀ c, c < 6 → endF f i (24 + 6 * q + c) = f (24 + 6 * q' + c)) := fun q c hc hq => by
    by_cases z : i ≤ q
    · refine ⟨q + 1, by omega, fun c hc => ?_⟩
      unfold endF
      rw [upd_ne (by omega), upd_ne (by omega)]
      unfold shF
      rw [if_pos (by omega), show 24 + 6 * q + c + 6 = 24 + 6 * (q + 1) + c by omega]
    · refine ⟨q, by omega, fun c hc => ?_⟩
      unfold endF
      rw [upd_ne (by omega), upd_ne (by omega)]
      exact if_neg (by omega)
  obtain ⟨⟨-, i1, i2, i3, i4, i5, i6⟩, n1, n2⟩ := h
  refine ⟨⟨⟨⟨_, hRW⟩, hCN⟩, fun q hq => by rw [lo _ (by omega) (by omega) (by omega)]; exact i1 q hq, fun q hq => by rw [lo _ (by omega) (by omega) (by omega)]; exact i2 q hq, fun q hq => by rw [lo _ (by omega) (by omega) (by omega)]; exact i3 q hq, by rw [lo _ (by omega) (by omega) (by omega)]; exact i4, by rw [lo _ (by omega) (by omega) (by omega)]; exact i5, fun q hq => ?_⟩, by rw [lo _ (by omega) (by omega) (by omega)]; exact n1, fun q hq => ?_⟩
  · rw [hnl] at hq
    obtain ⟨q', h1, h2⟩ := hi2 q 0 (by decide) hq
    unfold lsoul lslab
    rw [h2 0 (by decide), h2 1 (by decide), h2 5 (by decide), h2 2 (by decide)]
    exact i6 q' h1
  · rw [hnl] at hq
    obtain ⟨q', h1, h2⟩ := hi2 q 0 (by decide) hq
    rw [h2 4 (by decide)]
    exact n2 q' h1
theorem pay_RJ {N : Nat} {k : CS} {cs : List Nat} {f : Nat → Int32} {i : Nat} (h : RJ N k f) (hi : i < nlo f) (ho : ¬ f (18 + lsoul f i) < owI k cs f i) : RJ N k (payF k cs f i) := by
  obtain ⟨hn10, -, hw⟩ := h.1.nl
  have so := hw.so hi
  have sl := hw.sl hi
  obtain ⟨v, v1, v2⟩ := clamp_b (lawV cs (factF (f (24 + 6 * i + 2)) (f 0 - f (24 + 6 * i + 3)) (k.2.2.1 (lslab f i)) (kinN k (lsoul f i) (lslab f i)) (f (12 + lsoul f i)) (f (4 + lslab f i)) (f 0) (nI (lsoul f i))))
  have hv : owI k cs f i = nI v := v1
  obtain ⟨u, u1, u2⟩ := h.1.2.2.2.1 _ so.2
  rw [hv, u1] at ho
  have hvu : v ≤ u := Nat.le_of_not_lt fun z => ho (nI_lt z (by omega))
  have a1 : RJ N k (pay1 k cs f i) := ⟨RI_purse h.1 so.2 ⟨u - v, by rw [u1, hv, pk_sub hvu], by omega⟩, RN_upd h.2 (by omega) (by omega) (Or.inl (by omega))⟩
  have a2 : RJ N k (pay2 k cs f i) := by
    refine ⟨RI_under a1.1 sl.2 ?_, RN_upd a1.2 (by omega) (by omega) (Or.inl (by omega))⟩
    obtain ⟨w, w1, w2⟩ := a1.1.2.1 _ sl.2
    rw [w1, hv, nI_add]
    unfold min99
    split
    · next z => exact ⟨w + v, rfl, Nat.le_of_lt_succ (Nat.lt_of_not_le fun y => absurd z (Int32.not_lt.mpr (nI_le (a := 99) (by omega) (by omega))))⟩
    · exact ⟨99, rfl, by decide⟩
  have n2 : nlo (pay2 k cs f i) = nlo f := by
    unfold pay2 pay1
    rw [nlo_upd (by omega), nlo_upd (by omega)]
  have a3 : RJ N k (pay3 k cs f i) ∧ nlo (pay3 k cs f i) = nlo f := by
    unfold pay3
    split
    · exact ⟨a2, n2⟩
    · refine ⟨⟨RI_stand a2.1 so.2 ?_, RN_upd a2.2 (by omega) (by omega) (Or.inl (by omega))⟩, by rw [nlo_upd (by omega)]; exact n2⟩
      obtain ⟨w, w1, w2⟩ := a2.1.2.2.1 _ so.2
      rw [w1, show (1 : Int32) = nI 1 from rfl, nI_add]
      unfold min9
      split
      · next z => exact ⟨w + 1, rfl, Nat.le_of_lt_succ (Nat.lt_of_not_le fun y => absurd z (Int32.not_lt.mpr (nI_le (a := 9) (by omega) (by omega))))⟩
      · exact ⟨9, rfl, by decide⟩
  exact end_RJ a3.1 (by rw [a3.2]; exact hi)
