/-! The reference: how likely all bring it back. -/
abbrev bkE (F : Nat → Int64) : mm_E := .inl (2, 14, .inr (.inl F))
theorem mos_hs {h : Nat → mm_E} {g : MG} {A : MA} {e : mm_E} : hset (mos h g A) 213 e = mos (hset h 213 e) g A := by
  funext j
  by_cases hj : j = 213
  · subst hj
    rw [hset_eq, mos_n (by decide) rfl, hset_eq]
  · rw [hset_ne hj]
    unfold mos
    rw [hset_ne hj]
section MODL
variable {M : mm_M} {own : String} {cc : ByteArray} {nx : Nat} {h : Nat → mm_E} {g : MG} {A : MA} {F : Nat → Int64} {kc ks pc : Nat} {lo : List (Option Value)} {st : List Value}
theorem mt_mlald {j : Nat} {y : Int32} {x : Int64} (hd : decode cc pc = .ok (.laload, 1)) (hx : 215 ≤ nx) (hy : y = nI j) (hj : j < 14) (he : F j = x) (kk : mm_T M own cc nx (mos (hset h 213 (bkE F)) g A) kc ks (pc + 1) lo (.long x :: st)) : mm_T M own cc nx (mos (hset h 213 (bkE F)) g A) kc ks pc lo (.int y :: .ref 213 :: st) := by
  subst hy he
  refine mt_lald (n := 14) (f := F) hd (by omega) (by rw [mos_n (by decide) rfl, hset_eq]) (vp_in_nI hj (by decide)) ?_
  rw [nI_clamp (by omega)]
  exact kk
theorem mt_mlast {j : Nat} {y : Int32} {x : Int64} (hd : decode cc pc = .ok (.lastore, 1)) (hx : 215 ≤ nx) (hy : y = nI j) (hj : j < 14) (kk : mm_T M own cc nx (mos (hset h 213 (bkE (vp_updL F j x))) g A) kc ks (pc + 1) lo st) : mm_T M own cc nx (mos (hset h 213 (bkE F)) g A) kc ks pc lo (.long x :: .int y :: .ref 213 :: st) := by
  subst hy
  refine mt_last (n := 14) (f := F) hd (by omega) (by rw [mos_n (by decide) rfl, hset_eq]) (vp_in_nI hj (by decide)) ?_
  rw [nI_clamp (by omega), mos_hs, hset_hset]
  exact kk
end MODL
def dpN (q : Nat) : Nat → Nat → Nat
  | 0, j => if j = 0 then 1 else 0
  | i + 1, j => dpN q i j * (16 - q) + (if 0 < j then dpN q i (j - 1) * q else 0)
theorem pasc : ∀ n, n < 12 → ∀ t, t < 13 → chN (n + 1) (t + 1) = chN n (t + 1) + chN n t := by decide +kernel
theorem ch_hi : ∀ n, n < 13 → ∀ t, t < 15 → n < t → chN n t = 0 := by decide +kernel
theorem dp_ch {q : Nat} : ∀ n, n ≤ 12 → ∀ t, t ≤ 13 → dpN q n t = chN n t * q ^ t * (16 - q) ^ (n - t)
  | 0, _, t, ht => by
    show (if t = 0 then 1 else 0) = _
    by_cases h : t = 0
    · subst h
      rfl
    · rw [if_neg h, ch_hi 0 (by decide) t (by omega) (by omega)]
      simp
  | n + 1, hn, 0, ht => by
    show dpN q n 0 * (16 - q) + (if 0 < 0 then dpN q n (0 - 1) * q else 0) = _
    rw [if_neg (Nat.lt_irrefl 0), dp_ch n (by omega) 0 (by omega), Nat.sub_zero, Nat.sub_zero, Nat.pow_succ]
    show 1 * q ^ 0 * (16 - q) ^ n * (16 - q) + 0 = 1 * q ^ 0 * ((16 - q) ^ n * (16 - q))
    rw [Nat.add_zero, Nat.mul_assoc]
  | n + 1, hn, t + 1, ht => by
    show dpN q n (t + 1) * (16 - q) + (if 0 < t + 1 then dpN q n (t + 1 - 1) * q else 0) = _
    rw [if_pos (Nat.succ_pos t), Nat.add_sub_cancel, dp_ch n (by omega) (t + 1) ht, dp_ch n (by omega) t (by omega), pasc n (by omega) t (by omega), Nat.add_sub_add_right]
    have e1 : chN n t * q ^ t * (16 - q) ^ (n - t) * q = chN n t * q ^ (t + 1) * (16 - q) ^ (n - t) := by
      rw [Nat.pow_succ, Nat.mul_right_comm, Nat.mul_assoc (chN n t)]
    have e2 : chN n (t + 1) * q ^ (t + 1) * (16 - q) ^ (n - (t + 1)) * (16 - q) = chN n (t + 1) * q ^ (t + 1) * (16 - q) ^ (n - t) := by
      by_cases h : t + 1 ≤ n
      · rw [Nat.mul_assoc, ← Nat.pow_succ, show (n - (t + 1)).succ = n - t by omega]
      · rw [ch_hi n (by omega) (t + 1) (by omega) (by omega)]
        simp
    rw [e1, e2, ← Nat.add_mul, ← Nat.add_mul]
def upN (q n k : Nat) : Nat → Nat
  | 0 => 0
  | c + 1 => upN q n k c + dpN q n (k + c)
theorem up_ab {q n k : Nat} (hn : n ≤ 12) : ∀ c, k + c ≤ 14 → c ≤ n + 1 - k → upN q n k c = abN n k q c
  | 0, _, _ => rfl
  | c + 1, hc, h => by
    show upN q n k c + dpN q n (k + c) = abN n k q c + chN n (k + c) * q ^ (k + c) * (16 - q) ^ (n - (k + c))
    rw [up_ab hn c (by omega) (by omega), dp_ch n hn (k + c) (by omega)]
theorem up_all {q n k : Nat} (hn : n ≤ 12) (hk : k ≤ 13) : upN q n k (14 - k) = abN n k q (n + 1 - k) := by
  have h1 : ∀ m, n + 1 - k + m ≤ 14 - k → upN q n k (n + 1 - k + m) = abN n k q (n + 1 - k) := fun m => by
    induction m with
    | zero => intro _; exact up_ab hn _ (by omega) (Nat.le_refl _)
    | succ m ih =>
      intro hm
      show upN q n k (n + 1 - k + m) + dpN q n (k + (n + 1 - k + m)) = _
      rw [ih (by omega), dp_ch n hn _ (by omega), ch_hi n (by omega) _ (by omega) (by omega)]
      simp
  have := h1 (14 - k - (n + 1 - k)) (by omega)
  rw [show n + 1 - k + (14 - k - (n + 1 - k)) = 14 - k by omega] at this
  exact this
theorem gcd_odd {a m : Nat} (h : a % 2 = 1) : Nat.gcd a (2 ^ m) = 1 := by
  have h2 : Nat.Coprime a 2 := by
    show Nat.gcd a 2 = 1
    rw [Nat.gcd_comm, Nat.gcd_rec, h]
    rfl
  exact Nat.Coprime.pow_right m h2
theorem or_even (a b : Nat) : (a ||| b) % 2 = 0 ↔ a % 2 = 0 ∧ b % 2 = 0 := by
  have h := Nat.testBit_or a b 0
  rw [Nat.testBit_zero, Nat.testBit_zero, Nat.testBit_zero] at h
  rcases Nat.mod_two_eq_zero_or_one a with ha | ha <;> rcases Nat.mod_two_eq_zero_or_one b with hb | hb <;> rcases Nat.mod_two_eq_zero_or_one (a ||| b) with hc | hc <;> rw [ha, hb, hc] at h <;> first | (simp at h; done) | (rw [ha, hb, hc]; decide)
theorem hv_gcd : ∀ fu m a, m ≤ fu → hvN fu (a, 2 ^ m) = (a / Nat.gcd a (2 ^ m), 2 ^ m / Nat.gcd a (2 ^ m))
  | 0, m, a, hm => by
    obtain rfl : m = 0 := by omega
    show (a, 1) = _
    rw [Nat.pow_zero, Nat.gcd_one_right, Nat.div_one, Nat.div_one]
  | fu + 1, m, a, hm => by
    rw [hvN_s]
    dsimp only
    by_cases h : (a ||| 2 ^ m) % 2 = 0
    · rw [if_pos h]
      obtain ⟨h1, h2⟩ := (or_even _ _).mp h
      match m, hm, h2 with
      | 0, _, h2 => cases h2
      | m + 1, hm, h2 =>
        obtain ⟨b, rfl⟩ : ∃ b, a = 2 * b := ⟨a / 2, by omega⟩
        have e : 2 ^ (m + 1) = 2 * 2 ^ m := by rw [Nat.pow_succ, Nat.mul_comm]
        rw [e, Nat.mul_div_cancel_left _ (by decide), Nat.mul_div_cancel_left _ (by decide), hv_gcd fu m b (by omega), Nat.gcd_mul_left, Nat.mul_div_mul_left _ _ (by decide), Nat.mul_div_mul_left _ _ (by decide)]
    · rw [if_neg h]
      have hg : Nat.gcd a (2 ^ m) = 1 := by
        rcases Nat.eq_zero_or_pos m with z | z
        · rw [z, Nat.pow_zero, Nat.gcd_one_right]
        · refine gcd_odd ?_
          have h2 : 2 ^ m % 2 = 0 := by
            obtain ⟨j, rfl⟩ : ∃ j, m = j + 1 := ⟨m - 1, by omega⟩
            rw [Nat.pow_succ]
            omega
          rcases Nat.mod_two_eq_zero_or_one a with y | y
          · exact absurd ((or_even _ _).mpr ⟨y, h2⟩) h
          · exact y
      rw [hg, Nat.div_one, Nat.div_one]
theorem all_gcd {n k q : Nat} (hn : n ≤ 12) : allN n k q = (abN n k q (n + 1 - k) / Nat.gcd (abN n k q (n + 1 - k)) (16 ^ n), 16 ^ n / Nat.gcd (abN n k q (n + 1 - k)) (16 ^ n)) := by
  unfold allN
  rw [show (16 : Nat) ^ n = 2 ^ (4 * n) by rw [Nat.pow_mul]]
  exact hv_gcd 48 (4 * n) _ (by omega)
theorem dp_le {q : Nat} (hq : q ≤ 16) : ∀ n t, dpN q n t ≤ 16 ^ n
  | 0, t => by
    show (if t = 0 then 1 else 0) ≤ 1
    split <;> decide
  | n + 1, t => by
    have h1 := dp_le hq n t
    have h2 := dp_le hq n (t - 1)
    show dpN q n t * (16 - q) + (if 0 < t then dpN q n (t - 1) * q else 0) ≤ 16 ^ (n + 1)
    have h3 : dpN q n t * (16 - q) ≤ 16 ^ n * (16 - q) := Nat.mul_le_mul_right _ h1
    have h4 : (if 0 < t then dpN q n (t - 1) * q else 0) ≤ 16 ^ n * q := by
      split
      · exact Nat.mul_le_mul_right _ h2
      · exact Nat.zero_le _
    have h5 : 16 ^ n * (16 - q) + 16 ^ n * q = 16 ^ (n + 1) := by rw [← Nat.mul_add, Nat.sub_add_cancel hq, Nat.pow_succ]
    omega
theorem up_le {q n k : Nat} (hq : q ≤ 16) (hn : n ≤ 12) : ∀ c, upN q n k c ≤ c * 2 ^ 48
  | 0 => Nat.zero_le _
  | c + 1 => by
    have h1 := up_le (k := k) hq hn c
    have h2 := dp_le hq n (k + c)
    have h3 : (16 : Nat) ^ n ≤ 2 ^ 48 := Nat.le_trans (Nat.pow_le_pow_right (by decide) hn) (by decide)
    show upN q n k c + dpN q n (k + c) ≤ _
    rw [Nat.succ_mul]
    omega
