/-! The TAPE of the class: cell 1, its bytes: cell 2. -/
abbrev tpE (sz en pl st fk fp : Int32) : mm_E := .inr (7, [.ref 2, .int sz, .int en, .int pl, .int st, .int fk, .int fp])
abbrev byE (b : Nat → Int32) : mm_E := .inl (1, 600, .inl b)
/-- behind blanks, at most k of them -/
def skf (b : Nat → Int32) (e : Nat) : Nat → Nat → Nat
  | 0, p => p
  | k + 1, p => if p < e ∧ b p = 32 then skf b e k (p + 1) else p
def sk (b : Nat → Int32) (e p : Nat) : Nat := skf b e (e - p) p
theorem skf_le {b : Nat → Int32} {e : Nat} : ∀ k p, p ≤ e → p ≤ skf b e k p ∧ skf b e k p ≤ e
  | 0, p, h => ⟨Nat.le_refl p, h⟩
  | k + 1, p, h => by
    simp only [skf]
    split
    · next hc => have := skf_le (b := b) k (p + 1) hc.1; omega
    · exact ⟨Nat.le_refl p, h⟩
theorem sk_le {b : Nat → Int32} {e p : Nat} (h : p ≤ e) : p ≤ sk b e p ∧ sk b e p ≤ e := skf_le _ _ h
/-- small letters, digits -/
abbrev isL (x : Int32) : Prop := ¬ x < 97 ∧ ¬ 122 < x
abbrev isD (x : Int32) : Prop := ¬ x < 48 ∧ ¬ 57 < x
theorem isL_if {x : Int32} : (if x < 97 then (0 : Int32) else if 122 < x then 0 else 1) = 0 ↔ ¬ isL x := by
  simp only [isL]
  constructor
  · intro hq hc
    rw [if_neg hc.1, if_neg hc.2] at hq
    exact absurd hq (by decide)
  · intro hc
    by_cases h1 : x < 97
    · rw [if_pos h1]
    · by_cases h2 : 122 < x
      · rw [if_neg h1, if_pos h2]
      · exact absurd ⟨h1, h2⟩ hc
theorem isD_if {x : Int32} : (if x < 48 then (0 : Int32) else if 57 < x then 0 else 1) = 0 ↔ ¬ isD x := by
  simp only [isD]
  constructor
  · intro hq hc
    rw [if_neg hc.1, if_neg hc.2] at hq
    exact absurd hq (by decide)
  · intro hc
    by_cases h1 : x < 48
    · rw [if_pos h1]
    · by_cases h2 : 57 < x
      · rw [if_neg h1, if_pos h2]
      · exact absurd ⟨h1, h2⟩ hc
/-- a digit's value -/
theorem isD_val {x : Int32} (hx : isD x) : ∃ c : Nat, c ≤ 9 ∧ x = nI (48 + c) := by
  obtain ⟨h1, h2⟩ := hx
  obtain ⟨j, hj, rfl⟩ := nI_of2 (x := x) (M := 57) (n := 57) (by decide) (fun z => h1 (Int32.lt_trans z (by decide))) (Int32.not_lt.mp h2)
  have : ¬ j < 48 := fun z => h1 (nI_lt z (by decide))
  exact ⟨j - 48, by omega, by rw [show 48 + (j - 48) = j by omega]⟩
def dig (x : Int32) : Nat := x.toNatClampNeg - 48
theorem dig_nI {c : Nat} (hc : c ≤ 9) : dig (nI (48 + c)) = c := by
  simp only [dig]
  rw [nI_clamp (by omega)]
  omega
/-- behind letters -/
def ltf (b : Nat → Int32) (e : Nat) : Nat → Nat → Nat
  | 0, p => p
  | k + 1, p => if p < e ∧ ¬ b p < 97 ∧ ¬ 122 < b p then ltf b e k (p + 1) else p
theorem ltf_le {b : Nat → Int32} {e : Nat} : ∀ k p, p ≤ e → p ≤ ltf b e k p ∧ ltf b e k p ≤ e
  | 0, p, h => ⟨Nat.le_refl p, h⟩
  | k + 1, p, h => by
    simp only [ltf]
    split
    · next hc => have := ltf_le (b := b) k (p + 1) hc.1; omega
    · exact ⟨Nat.le_refl p, h⟩
def lt (b : Nat → Int32) (e p : Nat) : Nat := ltf b e (e - p) p
/-- behind digits, and their number -/
def dgf (b : Nat → Int32) (e : Nat) : Nat → Nat → Nat → Nat × Nat
  | 0, p, v => (p, v)
  | k + 1, p, v => if p < e ∧ ¬ b p < 48 ∧ ¬ 57 < b p then dgf b e k (p + 1) (v * 10 + dig (b p)) else (p, v)
theorem dgf_le {b : Nat → Int32} {e : Nat} : ∀ k p v, p ≤ e → p ≤ (dgf b e k p v).1 ∧ (dgf b e k p v).1 ≤ e
  | 0, p, v, h => ⟨Nat.le_refl p, h⟩
  | k + 1, p, v, h => by
    simp only [dgf]
    split
    · next hc => have := dgf_le (b := b) k (p + 1) (v * 10 + dig (b p)) hc.1; omega
    · exact ⟨Nat.le_refl p, h⟩
/-- the sign behind blanks -/
def pk (b : Nat → Int32) (e p : Nat) : Int32 := if sk b e p < e then b (sk b e p) &&& 255 else -1
section TAPE
variable {G : mm_G} {l : Launch} {d nx : Nat} {h : Nat → mm_E} {b : Nat → Int32} {sz en pl st fk fp : Int32}
theorem c_hasRoomFor {n : Int32} (hx : 3 ≤ nx) (hT : h 1 = tpE sz en pl st fk fp) (hB : h 2 = byE b) : mm_Con G l yX7_hasRoomFor cX7_hasRoomFor 2 (some .boolean) d 0 0 [.ref 1, .int n] nx h (mm_ret (some (.int (if nI 600 < sz + n then 0 else 1))) nx h) := by
  refine mm_start (lo := [some (.ref 1), some (.int n)]) pn_X7 rfl rfl (Nat.le_of_ble_eq_true rfl) ?_
  refine mt_aload_n (pc := 0) dX7_hasRoomFor_0 rfl ?_
  refine mt_get (pc := 1) gf_X7_19 dX7_hasRoomFor_1 (by first | assumption | omega) (by repeat (first | exact hset_eq _ _ _ | assumption | rw [hset_ne (by first | assumption | decide | omega)])) rfl ?_
  refine mt_iload_n (pc := 4) dX7_hasRoomFor_4 rfl ?_
  refine mt_iadd (pc := 5) dX7_hasRoomFor_5 ?_
  refine mt_aload_n (pc := 6) dX7_hasRoomFor_6 rfl ?_
  refine mt_get (pc := 7) gf_X7_9 dX7_hasRoomFor_7 (by first | assumption | omega) (by repeat (first | exact hset_eq _ _ _ | assumption | rw [hset_ne (by first | assumption | decide | omega)])) rfl ?_
  refine mt_alen (pc := 10) dX7_hasRoomFor_10 (by first | assumption | omega) (by repeat (first | exact hset_eq _ _ _ | assumption | rw [hset_ne (by first | assumption | decide | omega)])) (by decide) ?_
  refine mt_icmp_gt (pc := 11) (tgt := 18) dX7_hasRoomFor_11 (by decide) (fun c11 => ?_) (fun c11 => ?_)
  · skip
    refine mt_iconst (pc := 18) (v := 0) dX7_hasRoomFor_18 (by decide) ?_
    exact mt_zret rfl (by first | exact Or.inl rfl | exact Or.inr rfl) dX7_hasRoomFor_19 (Nat.le_of_ble_eq_true rfl) (Nat.le_of_ble_eq_true rfl) ⟨by simp [*], rfl, rfl⟩
  · skip
    refine mt_iconst (pc := 14) (v := 1) dX7_hasRoomFor_14 (by decide) ?_
    refine mt_goto (pc := 15) (tgt := 19) dX7_hasRoomFor_15 (by decide) ?_
    exact mt_zret rfl (by first | exact Or.inl rfl | exact Or.inr rfl) dX7_hasRoomFor_19 (Nat.le_of_ble_eq_true rfl) (Nat.le_of_ble_eq_true rfl) ⟨by simp [*], rfl, rfl⟩
theorem c_faultAnswer (hx : 3 ≤ nx) (hT : h 1 = tpE sz en pl st fk fp) : mm_Con G l yX7_faultAnswer cX7_faultAnswer 1 (some .int) d 0 0 [.ref 1] nx h (mm_ret (some (.int (fk - 10))) nx h) := by
  refine mm_start (lo := [some (.ref 1)]) pn_X7 rfl rfl (Nat.le_of_ble_eq_true rfl) ?_
  refine mt_aload_n (pc := 0) dX7_faultAnswer_0 rfl ?_
  refine mt_get (pc := 1) gf_X7_37 dX7_faultAnswer_1 (by first | assumption | omega) (by repeat (first | exact hset_eq _ _ _ | assumption | rw [hset_ne (by first | assumption | decide | omega)])) rfl ?_
  refine mt_bipush (pc := 4) (v := 10) dX7_faultAnswer_4 (by decide) ?_
  refine mt_isub (pc := 6) dX7_faultAnswer_6 ?_
  exact mt_iret rfl dX7_faultAnswer_7 (Nat.le_of_ble_eq_true rfl) (Nat.le_of_ble_eq_true rfl) ⟨rfl, rfl, rfl⟩
theorem c_failHere {n : Int32} (hx : 3 ≤ nx) (hT : h 1 = tpE sz en pl st fk fp) : mm_Con G l yX7_failHere cX7_failHere 2 (some .boolean) d 0 0 [.ref 1, .int n] nx h (mm_ret (some (.int 0)) nx (hset h 1 (tpE sz en pl st n pl))) := by
  refine mm_start (lo := [some (.ref 1), some (.int n)]) pn_X7 rfl rfl (Nat.le_of_ble_eq_true rfl) ?_
  refine mt_aload_n (pc := 0) dX7_failHere_0 rfl ?_
  refine mt_iload_n (pc := 1) dX7_failHere_1 rfl ?_
  first
    | refine mt_puti2 (pc := 2) pf_X7_37 dX7_failHere_2 (by first | assumption | omega) (Nat.le_of_ble_eq_true rfl) ?_
    | refine mt_puti (pc := 2) pf_X7_37 dX7_failHere_2 (by first | assumption | omega) (by repeat (first | exact hset_eq _ _ _ | assumption | rw [hset_ne (by first | assumption | decide | omega)])) (Nat.le_of_ble_eq_true rfl) ?_
  refine mt_aload_n (pc := 5) dX7_failHere_5 rfl ?_
  refine mt_aload_n (pc := 6) dX7_failHere_6 rfl ?_
  refine mt_get (pc := 7) gf_X7_31 dX7_failHere_7 (by first | assumption | omega) (by repeat (first | exact hset_eq _ _ _ | assumption | rw [hset_ne (by first | assumption | decide | omega)])) rfl ?_
  first
    | refine mt_puti2 (pc := 10) pf_X7_15 dX7_failHere_10 (by first | assumption | omega) (Nat.le_of_ble_eq_true rfl) ?_
    | refine mt_puti (pc := 10) pf_X7_15 dX7_failHere_10 (by first | assumption | omega) (by repeat (first | exact hset_eq _ _ _ | assumption | rw [hset_ne (by first | assumption | decide | omega)])) (Nat.le_of_ble_eq_true rfl) ?_
  refine mt_iconst (pc := 13) (v := 0) dX7_failHere_13 (by decide) ?_
  exact mt_zret rfl (by first | exact Or.inl rfl | exact Or.inr rfl) dX7_failHere_14 (Nat.le_of_ble_eq_true rfl) (Nat.le_of_ble_eq_true rfl) ⟨rfl, rfl, rfl⟩
theorem c_failAtStart {n : Int32} (hx : 3 ≤ nx) (hT : h 1 = tpE sz en pl st fk fp) : mm_Con G l yX7_failAtStart cX7_failAtStart 2 (some .boolean) d 0 0 [.ref 1, .int n] nx h (mm_ret (some (.int 0)) nx (hset h 1 (tpE sz en pl st n st))) := by
  refine mm_start (lo := [some (.ref 1), some (.int n)]) pn_X7 rfl rfl (Nat.le_of_ble_eq_true rfl) ?_
  refine mt_aload_n (pc := 0) dX7_failAtStart_0 rfl ?_
  refine mt_iload_n (pc := 1) dX7_failAtStart_1 rfl ?_
  first
    | refine mt_puti2 (pc := 2) pf_X7_37 dX7_failAtStart_2 (by first | assumption | omega) (Nat.le_of_ble_eq_true rfl) ?_
    | refine mt_puti (pc := 2) pf_X7_37 dX7_failAtStart_2 (by first | assumption | omega) (by repeat (first | exact hset_eq _ _ _ | assumption | rw [hset_ne (by first | assumption | decide | omega)])) (Nat.le_of_ble_eq_true rfl) ?_
  refine mt_aload_n (pc := 5) dX7_failAtStart_5 rfl ?_
  refine mt_aload_n (pc := 6) dX7_failAtStart_6 rfl ?_
  refine mt_get (pc := 7) gf_X7_34 dX7_failAtStart_7 (by first | assumption | omega) (by repeat (first | exact hset_eq _ _ _ | assumption | rw [hset_ne (by first | assumption | decide | omega)])) rfl ?_
  first
    | refine mt_puti2 (pc := 10) pf_X7_15 dX7_failAtStart_10 (by first | assumption | omega) (Nat.le_of_ble_eq_true rfl) ?_
    | refine mt_puti (pc := 10) pf_X7_15 dX7_failAtStart_10 (by first | assumption | omega) (by repeat (first | exact hset_eq _ _ _ | assumption | rw [hset_ne (by first | assumption | decide | omega)])) (Nat.le_of_ble_eq_true rfl) ?_
  refine mt_iconst (pc := 13) (v := 0) dX7_failAtStart_13 (by decide) ?_
  exact mt_zret rfl (by first | exact Or.inl rfl | exact Or.inr rfl) dX7_failAtStart_14 (Nat.le_of_ble_eq_true rfl) (Nat.le_of_ble_eq_true rfl) ⟨rfl, rfl, rfl⟩
theorem c_tbegin {n : Int32} (hd : 1 ≤ d) (hx : 3 ≤ nx) (hT : h 1 = tpE sz en pl st fk fp) (hB : h 2 = byE b) : mm_Con G l yX7_begin cX7_begin 2 none d 0 0 [.ref 1, .int n] nx h (mm_ret none nx (hset h 1 (tpE 0 (if nI 600 < n then nI 600 else n) 0 0 0 (-1)))) := by
  refine mm_start (lo := [some (.ref 1), some (.int n)]) pn_X7 rfl rfl (Nat.le_of_ble_eq_true rfl) ?_
  refine mt_aload_n (pc := 0) dX7_begin_0 rfl ?_
  refine mt_iconst (pc := 1) (v := 0) dX7_begin_1 (by decide) ?_
  first
    | refine mt_puti2 (pc := 2) pf_X7_19 dX7_begin_2 (by first | assumption | omega) (Nat.le_of_ble_eq_true rfl) ?_
    | refine mt_puti (pc := 2) pf_X7_19 dX7_begin_2 (by first | assumption | omega) (by repeat (first | exact hset_eq _ _ _ | assumption | rw [hset_ne (by first | assumption | decide | omega)])) (Nat.le_of_ble_eq_true rfl) ?_
  refine mt_aload_n (pc := 5) dX7_begin_5 rfl ?_
  refine mt_iload_n (pc := 6) dX7_begin_6 rfl ?_
  refine mt_aload_n (pc := 7) dX7_begin_7 rfl ?_
  refine mt_get (pc := 8) gf_X7_9 dX7_begin_8 (by first | assumption | omega) (by repeat (first | exact hset_eq _ _ _ | assumption | rw [hset_ne (by first | assumption | decide | omega)])) rfl ?_
  refine mt_alen (pc := 11) dX7_begin_11 (by first | assumption | omega) (by repeat (first | exact hset_eq _ _ _ | assumption | rw [hset_ne (by first | assumption | decide | omega)])) (by decide) ?_
  refine mt_mmin (pc := 12) ml_X7_22 dX7_begin_12 (by first | assumption | (show _ ≤ d; omega)) ⟨(Nat.le_of_ble_eq_true rfl), (Nat.le_of_ble_eq_true rfl)⟩ (Nat.le_of_ble_eq_true rfl) ?_
  first
    | refine mt_puti2 (pc := 15) pf_X7_28 dX7_begin_15 (by first | assumption | omega) (Nat.le_of_ble_eq_true rfl) ?_
    | refine mt_puti (pc := 15) pf_X7_28 dX7_begin_15 (by first | assumption | omega) (by repeat (first | exact hset_eq _ _ _ | assumption | rw [hset_ne (by first | assumption | decide | omega)])) (Nat.le_of_ble_eq_true rfl) ?_
  refine mt_aload_n (pc := 18) dX7_begin_18 rfl ?_
  refine mt_iconst (pc := 19) (v := 0) dX7_begin_19 (by decide) ?_
  first
    | refine mt_puti2 (pc := 20) pf_X7_31 dX7_begin_20 (by first | assumption | omega) (Nat.le_of_ble_eq_true rfl) ?_
    | refine mt_puti (pc := 20) pf_X7_31 dX7_begin_20 (by first | assumption | omega) (by repeat (first | exact hset_eq _ _ _ | assumption | rw [hset_ne (by first | assumption | decide | omega)])) (Nat.le_of_ble_eq_true rfl) ?_
  refine mt_aload_n (pc := 23) dX7_begin_23 rfl ?_
  refine mt_iconst (pc := 24) (v := 0) dX7_begin_24 (by decide) ?_
  first
    | refine mt_puti2 (pc := 25) pf_X7_34 dX7_begin_25 (by first | assumption | omega) (Nat.le_of_ble_eq_true rfl) ?_
    | refine mt_puti (pc := 25) pf_X7_34 dX7_begin_25 (by first | assumption | omega) (by repeat (first | exact hset_eq _ _ _ | assumption | rw [hset_ne (by first | assumption | decide | omega)])) (Nat.le_of_ble_eq_true rfl) ?_
  refine mt_aload_n (pc := 28) dX7_begin_28 rfl ?_
  refine mt_iconst (pc := 29) (v := 0) dX7_begin_29 (by decide) ?_
  first
    | refine mt_puti2 (pc := 30) pf_X7_37 dX7_begin_30 (by first | assumption | omega) (Nat.le_of_ble_eq_true rfl) ?_
    | refine mt_puti (pc := 30) pf_X7_37 dX7_begin_30 (by first | assumption | omega) (by repeat (first | exact hset_eq _ _ _ | assumption | rw [hset_ne (by first | assumption | decide | omega)])) (Nat.le_of_ble_eq_true rfl) ?_
  refine mt_aload_n (pc := 33) dX7_begin_33 rfl ?_
  refine mt_iconst (pc := 34) (v := (-1)) dX7_begin_34 (by decide) ?_
  first
    | refine mt_puti2 (pc := 35) pf_X7_15 dX7_begin_35 (by first | assumption | omega) (Nat.le_of_ble_eq_true rfl) ?_
    | refine mt_puti (pc := 35) pf_X7_15 dX7_begin_35 (by first | assumption | omega) (by repeat (first | exact hset_eq _ _ _ | assumption | rw [hset_ne (by first | assumption | decide | omega)])) (Nat.le_of_ble_eq_true rfl) ?_
  exact mt_vret rfl dX7_begin_38 (Nat.le_of_ble_eq_true rfl) (Nat.le_of_ble_eq_true rfl) ⟨rfl, rfl, rfl⟩
theorem l_peek {M : mm_M} {kc ks e : Nat} (hx : 3 ≤ nx) (hB : h 2 = byE b) (he : e ≤ 600) : ∀ (k p : Nat), p + k = e → mm_T M RX7 cX7_peek nx (hset h 1 (tpE sz (nI e) (nI (skf b e k p)) st fk fp)) kc ks 38 [some (.ref 1)] [] → mm_T M RX7 cX7_peek nx (hset h 1 (tpE sz (nI e) (nI p) st fk fp)) kc ks 0 [some (.ref 1)] [] := by
  intro k
  induction k with
  | zero =>
    intro p hp hk
    obtain rfl : p = e := by omega
    refine mt_aload_n (pc := 0) dX7_peek_0 rfl ?_
    refine mt_get (pc := 1) gf_X7_31 dX7_peek_1 (by first | assumption | omega) (by repeat (first | exact hset_eq _ _ _ | assumption | rw [hset_ne (by first | assumption | decide | omega)])) rfl ?_
    refine mt_aload_n (pc := 4) dX7_peek_4 rfl ?_
    refine mt_get (pc := 5) gf_X7_28 dX7_peek_5 (by first | assumption | omega) (by repeat (first | exact hset_eq _ _ _ | assumption | rw [hset_ne (by first | assumption | decide | omega)])) rfl ?_
    refine mt_icmp_ge (pc := 8) (tgt := 38) dX7_peek_8 (by decide) (fun c8 => ?_) (fun c8 => ?_)
    · exact hk
    · exact absurd (nI_le (Nat.le_refl p) (by omega)) c8
  | succ k ih =>
    intro p hp hk
    have hlt : p < e := by omega
    have hv : b (nI p).toNatClampNeg = b p := by rw [nI_clamp (by omega)]
    refine mt_aload_n (pc := 0) dX7_peek_0 rfl ?_
    refine mt_get (pc := 1) gf_X7_31 dX7_peek_1 (by first | assumption | omega) (by repeat (first | exact hset_eq _ _ _ | assumption | rw [hset_ne (by first | assumption | decide | omega)])) rfl ?_
    refine mt_aload_n (pc := 4) dX7_peek_4 rfl ?_
    refine mt_get (pc := 5) gf_X7_28 dX7_peek_5 (by first | assumption | omega) (by repeat (first | exact hset_eq _ _ _ | assumption | rw [hset_ne (by first | assumption | decide | omega)])) rfl ?_
    refine mt_icmp_ge (pc := 8) (tgt := 38) dX7_peek_8 (by decide) (fun c8 => ?_) (fun c8 => ?_)
    · exact absurd c8 (nI_ge hlt (by omega))
    · skip
      refine mt_aload_n (pc := 11) dX7_peek_11 rfl ?_
      refine mt_get (pc := 12) gf_X7_9 dX7_peek_12 (by first | assumption | omega) (by repeat (first | exact hset_eq _ _ _ | assumption | rw [hset_ne (by first | assumption | decide | omega)])) rfl ?_
      refine mt_aload_n (pc := 15) dX7_peek_15 rfl ?_
      refine mt_get (pc := 16) gf_X7_31 dX7_peek_16 (by first | assumption | omega) (by repeat (first | exact hset_eq _ _ _ | assumption | rw [hset_ne (by first | assumption | decide | omega)])) rfl ?_
      refine mt_bald (pc := 19) dX7_peek_19 (by first | assumption | omega) (by repeat (first | exact hset_eq _ _ _ | assumption | rw [hset_ne (by first | assumption | decide | omega)])) (vp_in_nI (by omega) (by decide)) ?_
      refine mt_bipush (pc := 20) (v := 32) dX7_peek_20 (by decide) ?_
      refine mt_icmp_ne (pc := 22) (tgt := 38) dX7_peek_22 (by decide) (fun c22 => ?_) (fun c22 => ?_)
      · (rw [hv] at c22; simp only [skf, hlt, c22, and_false, if_false] at hk; exact hk)
      · skip
        rw [hv] at c22
        refine mt_aload_n (pc := 25) dX7_peek_25 rfl ?_
        refine mt_dup (pc := 26) dX7_peek_26 rfl ?_
        refine mt_get (pc := 27) gf_X7_31 dX7_peek_27 (by first | assumption | omega) (by repeat (first | exact hset_eq _ _ _ | assumption | rw [hset_ne (by first | assumption | decide | omega)])) rfl ?_
        refine mt_iconst (pc := 30) (v := 1) dX7_peek_30 (by decide) ?_
        refine mt_iadd (pc := 31) dX7_peek_31 ?_
        first
          | refine mt_puti2 (pc := 32) pf_X7_31 dX7_peek_32 (by first | assumption | omega) (Nat.le_of_ble_eq_true rfl) ?_
          | refine mt_puti (pc := 32) pf_X7_31 dX7_peek_32 (by first | assumption | omega) (by repeat (first | exact hset_eq _ _ _ | assumption | rw [hset_ne (by first | assumption | decide | omega)])) (Nat.le_of_ble_eq_true rfl) ?_
        refine mt_goto (tgt := 0) dX7_peek_35 (by decide) ?_
        rw [show (nI p + 1 : Int32) = nI (p + 1) from nI_1 p]
        refine ih (p + 1) (by omega) ?_
        have e1 : skf b e (k + 1) p = skf b e k (p + 1) := by simp only [skf]; rw [if_pos ⟨hlt, c22⟩]
        rw [← e1]
        exact hk
theorem c_peek {e p : Nat} (hx : 3 ≤ nx) (hB : h 2 = byE b) (hT : h 1 = tpE sz (nI e) (nI p) st fk fp) (hp : p ≤ e) (he : e ≤ 600) : mm_Con G l yX7_peek cX7_peek 1 (some .int) d 0 0 [.ref 1] nx h (mm_ret (some (.int (pk b e p))) nx (hset h 1 (tpE sz (nI e) (nI (sk b e p)) st fk fp))) := by
  refine mm_start (lo := [some (.ref 1)]) pn_X7 rfl rfl (Nat.le_of_ble_eq_true rfl) ?_
  rw [show h = hset h 1 (tpE sz (nI e) (nI p) st fk fp) from (hset_self hT).symm]
  refine l_peek hx hB he (e - p) p (by omega) ?_
  have hq := sk_le (b := b) hp
  show mm_T _ _ _ _ (hset h 1 (tpE sz (nI e) (nI (sk b e p)) st fk fp)) _ _ _ _ _
  rw [hset_hset]
  generalize hqe : sk b e p = q at hq
  refine mt_aload_n (pc := 38) dX7_peek_38 rfl ?_
  refine mt_get (pc := 39) gf_X7_31 dX7_peek_39 (by first | assumption | omega) (by repeat (first | exact hset_eq _ _ _ | assumption | rw [hset_ne (by first | assumption | decide | omega)])) rfl ?_
  refine mt_aload_n (pc := 42) dX7_peek_42 rfl ?_
  refine mt_get (pc := 43) gf_X7_28 dX7_peek_43 (by first | assumption | omega) (by repeat (first | exact hset_eq _ _ _ | assumption | rw [hset_ne (by first | assumption | decide | omega)])) rfl ?_
  refine mt_icmp_ge (pc := 46) (tgt := 65) dX7_peek_46 (by decide) (fun c46 => ?_) (fun c46 => ?_)
  · skip
    have hge : ¬ q < e := fun z => nI_ge z (by omega) c46
    refine mt_iconst (pc := 65) (v := (-1)) dX7_peek_65 (by decide) ?_
    exact mt_iret rfl dX7_peek_66 (Nat.le_of_ble_eq_true rfl) (Nat.le_of_ble_eq_true rfl) ⟨by simp only [pk, hqe, if_neg hge], rfl, rfl⟩
  · skip
    refine mt_aload_n (pc := 49) dX7_peek_49 rfl ?_
    refine mt_get (pc := 50) gf_X7_9 dX7_peek_50 (by first | assumption | omega) (by repeat (first | exact hset_eq _ _ _ | assumption | rw [hset_ne (by first | assumption | decide | omega)])) rfl ?_
    refine mt_aload_n (pc := 53) dX7_peek_53 rfl ?_
    refine mt_get (pc := 54) gf_X7_31 dX7_peek_54 (by first | assumption | omega) (by repeat (first | exact hset_eq _ _ _ | assumption | rw [hset_ne (by first | assumption | decide | omega)])) rfl ?_
    have hlt : q < e := Nat.lt_of_not_le fun z => c46 (nI_le z (by omega))
    have hv : b (nI q).toNatClampNeg = b q := by rw [nI_clamp (by omega)]
    refine mt_bald (pc := 57) dX7_peek_57 (by first | assumption | omega) (by repeat (first | exact hset_eq _ _ _ | assumption | rw [hset_ne (by first | assumption | decide | omega)])) (vp_in_nI (by omega) (by decide)) ?_
    refine mt_sipush (pc := 58) (v := 255) dX7_peek_58 (by decide) ?_
    refine mt_iand (pc := 61) dX7_peek_61 ?_
    refine mt_goto (tgt := 66) dX7_peek_62 (by decide) ?_
    exact mt_iret rfl dX7_peek_66 (Nat.le_of_ble_eq_true rfl) (Nat.le_of_ble_eq_true rfl) ⟨by simp only [pk, hqe, if_pos hlt, hv], rfl, rfl⟩
/-- takeEnd: nothing more, or a FAULT of kind 1 where something stands -/
def P_end (b : Nat → Int32) (e p : Nat) (sz st fk fp : Int32) (nx : Nat) (h : Nat → mm_E) : mm_P := fun o n k => n = nx ∧ ((sk b e p = e ∧ o = .inl (some (.int 1)) ∧ k = hset h 1 (tpE sz (nI e) (nI (sk b e p)) st fk fp)) ∨ (sk b e p < e ∧ o = .inl (some (.int 0)) ∧ k = hset h 1 (tpE sz (nI e) (nI (sk b e p)) st 1 (nI (sk b e p)))))
theorem and255_ne (x : Int32) : ¬ x &&& 255 = -1 := by
  intro hq
  have h1 := pk_andE x (m := 255) 8 (by decide)
  obtain ⟨j, hj, hx⟩ := h1
  rw [hx] at hq
  have h2 := congrArg Int32.toInt hq
  rw [nI_toInt (by omega)] at h2
  have h3 : (-1 : Int32).toInt = -1 := by decide
  omega
theorem pk_none {b : Nat → Int32} {e p : Nat} (hp : p ≤ e) : pk b e p = -1 ↔ sk b e p = e := by
  have hq := sk_le (b := b) hp
  constructor
  · intro hk
    by_cases hlt : sk b e p < e
    · simp only [pk, if_pos hlt] at hk
      exact absurd hk (and255_ne _)
    · omega
  · intro hk
    simp only [pk, hk, Nat.lt_irrefl, if_false]
theorem c_takeEnd {e p : Nat} (hd : 1 ≤ d) (hx : 3 ≤ nx) (hB : h 2 = byE b) (hT : h 1 = tpE sz (nI e) (nI p) st fk fp) (hp : p ≤ e) (he : e ≤ 600) : mm_Con G l yX7_takeEnd cX7_takeEnd 1 (some .boolean) d 0 0 [.ref 1] nx h (P_end b e p sz st fk fp nx h) := by
  refine mm_start (lo := [some (.ref 1)]) pn_X7 rfl rfl (Nat.le_of_ble_eq_true rfl) ?_
  have hq := sk_le (b := b) hp
  refine mt_aload_n (pc := 0) dX7_takeEnd_0 rfl ?_
  refine mt_cV (pc := 1) (c_peek (d := 0) hx hB hT hp he) cal_X7_peek vir_X7_peek ml_X7_40 dX7_takeEnd_1 (by first | assumption | omega) (by repeat (first | exact hset_eq _ _ _ | assumption | rw [hset_ne (by first | assumption | decide | omega)])) hd ⟨(Nat.le_of_ble_eq_true rfl), (Nat.le_of_ble_eq_true rfl)⟩ rfl rfl (Nat.le_of_ble_eq_true rfl) ?_
  refine mt_iconst (pc := 4) (v := (-1)) dX7_takeEnd_4 (by decide) ?_
  refine mt_icmp_eq (pc := 5) (tgt := 16) dX7_takeEnd_5 (by decide) (fun c5 => ?_) (fun c5 => ?_)
  · skip
    have hk := (pk_none hp).mp c5
    refine mt_iconst (pc := 16) (v := 1) dX7_takeEnd_16 (by decide) ?_
    refine mt_goto (tgt := 21) dX7_takeEnd_17 (by decide) ?_
    exact mt_zret rfl (Or.inr rfl) dX7_takeEnd_21 (Nat.le_of_ble_eq_true rfl) (Nat.le_of_ble_eq_true rfl) ⟨rfl, Or.inl ⟨hk, rfl, rfl⟩⟩
  · skip
    have hk : sk b e p < e := Nat.lt_of_le_of_ne hq.2 fun z => c5 ((pk_none hp).mpr z)
    refine mt_aload_n (pc := 8) dX7_takeEnd_8 rfl ?_
    refine mt_iconst (pc := 9) (v := 1) dX7_takeEnd_9 (by decide) ?_
    refine mt_cV (pc := 10) (c_failHere (d := 0) hx (hset_eq _ _ _)) cal_X7_failHere vir_X7_failHere ml_X7_44 dX7_takeEnd_10 (by first | assumption | omega) (by repeat (first | exact hset_eq _ _ _ | assumption | rw [hset_ne (by first | assumption | decide | omega)])) hd ⟨(Nat.le_of_ble_eq_true rfl), (Nat.le_of_ble_eq_true rfl)⟩ rfl rfl (Nat.le_of_ble_eq_true rfl) ?_
    refine mt_if_eq (pc := 13) (tgt := 20) dX7_takeEnd_13 (by decide) (fun c13 => ?_) (fun c13 => ?_)
    · skip
      rw [hset_hset]
      refine mt_iconst (pc := 20) (v := 0) dX7_takeEnd_20 (by decide) ?_
      exact mt_zret rfl (by first | exact Or.inl rfl | exact Or.inr rfl) dX7_takeEnd_21 (Nat.le_of_ble_eq_true rfl) (Nat.le_of_ble_eq_true rfl) ⟨rfl, Or.inr ⟨hk, rfl, rfl⟩⟩
    · exact absurd rfl c13
/-- takeSign -/
def P_sign (b : Nat → Int32) (e p : Nat) (c : Int32) (sz st fk fp : Int32) (nx : Nat) (h : Nat → mm_E) : mm_P := fun o n k => n = nx ∧ ((pk b e p = c ∧ o = .inl (some (.int 1)) ∧ k = hset h 1 (tpE sz (nI e) (nI (sk b e p + 1)) st fk fp)) ∨ (¬ pk b e p = c ∧ o = .inl (some (.int 0)) ∧ k = hset h 1 (tpE sz (nI e) (nI (sk b e p)) st 1 (nI (sk b e p)))))
theorem c_takeSign {e p : Nat} {c : Int32} (hd : 1 ≤ d) (hx : 3 ≤ nx) (hB : h 2 = byE b) (hT : h 1 = tpE sz (nI e) (nI p) st fk fp) (hp : p ≤ e) (he : e ≤ 600) : mm_Con G l yX7_takeSign cX7_takeSign 2 (some .boolean) d 0 0 [.ref 1, .int c] nx h (P_sign b e p c sz st fk fp nx h) := by
  refine mm_start (lo := [some (.ref 1), some (.int c)]) pn_X7 rfl rfl (Nat.le_of_ble_eq_true rfl) ?_
  refine mt_aload_n (pc := 0) dX7_takeSign_0 rfl ?_
  refine mt_cV (pc := 1) (c_peek (d := 0) hx hB hT hp he) cal_X7_peek vir_X7_peek ml_X7_40 dX7_takeSign_1 (by first | assumption | omega) (by repeat (first | exact hset_eq _ _ _ | assumption | rw [hset_ne (by first | assumption | decide | omega)])) hd ⟨(Nat.le_of_ble_eq_true rfl), (Nat.le_of_ble_eq_true rfl)⟩ rfl rfl (Nat.le_of_ble_eq_true rfl) ?_
  refine mt_iload_n (pc := 4) dX7_takeSign_4 rfl ?_
  refine mt_icmp_eq (pc := 5) (tgt := 14) dX7_takeSign_5 (by decide) (fun c5 => ?_) (fun c5 => ?_)
  · skip
    refine mt_aload_n (pc := 14) dX7_takeSign_14 rfl ?_
    refine mt_dup (pc := 15) dX7_takeSign_15 rfl ?_
    refine mt_get (pc := 16) gf_X7_31 dX7_takeSign_16 (by first | assumption | omega) (by repeat (first | exact hset_eq _ _ _ | assumption | rw [hset_ne (by first | assumption | decide | omega)])) rfl ?_
    refine mt_iconst (pc := 19) (v := 1) dX7_takeSign_19 (by decide) ?_
    refine mt_iadd (pc := 20) dX7_takeSign_20 ?_
    first
      | refine mt_puti2 (pc := 21) pf_X7_31 dX7_takeSign_21 (by first | assumption | omega) (Nat.le_of_ble_eq_true rfl) ?_
      | refine mt_puti (pc := 21) pf_X7_31 dX7_takeSign_21 (by first | assumption | omega) (by repeat (first | exact hset_eq _ _ _ | assumption | rw [hset_ne (by first | assumption | decide | omega)])) (Nat.le_of_ble_eq_true rfl) ?_
    rw [show (nI (sk b e p) + 1 : Int32) = nI (sk b e p + 1) from nI_1 _]
    refine mt_iconst (pc := 24) (v := 1) dX7_takeSign_24 (by decide) ?_
    exact mt_zret rfl (by first | exact Or.inl rfl | exact Or.inr rfl) dX7_takeSign_25 (Nat.le_of_ble_eq_true rfl) (Nat.le_of_ble_eq_true rfl) ⟨rfl, Or.inl ⟨c5, rfl, rfl⟩⟩
  · skip
    refine mt_aload_n (pc := 8) dX7_takeSign_8 rfl ?_
    refine mt_iconst (pc := 9) (v := 1) dX7_takeSign_9 (by decide) ?_
    refine mt_cV (pc := 10) (c_failHere (d := 0) hx (hset_eq _ _ _)) cal_X7_failHere vir_X7_failHere ml_X7_44 dX7_takeSign_10 (by first | assumption | omega) (by repeat (first | exact hset_eq _ _ _ | assumption | rw [hset_ne (by first | assumption | decide | omega)])) hd ⟨(Nat.le_of_ble_eq_true rfl), (Nat.le_of_ble_eq_true rfl)⟩ rfl rfl (Nat.le_of_ble_eq_true rfl) ?_
    rw [hset_hset]
    exact mt_zret rfl (by first | exact Or.inl rfl | exact Or.inr rfl) dX7_takeSign_13 (Nat.le_of_ble_eq_true rfl) (Nat.le_of_ble_eq_true rfl) ⟨rfl, Or.inr ⟨c5, rfl, rfl⟩⟩
theorem l_word {M : mm_M} {kc ks e : Nat} {w : Int32} (hd : 1 ≤ mm_d M) (hroom : kc ≤ mm_mc M ∧ ks ≤ mm_ms M) (hx : 3 ≤ nx) (hB : h 2 = byE b) (he : e ≤ 600) : ∀ (k p : Nat), p + k = e → mm_T M RX7 cX7_takeWord nx (hset h 1 (tpE sz (nI e) (nI (ltf b e k p)) w fk fp)) kc ks 63 [some (.ref 1)] [] → mm_T M RX7 cX7_takeWord nx (hset h 1 (tpE sz (nI e) (nI p) w fk fp)) kc ks 24 [some (.ref 1)] [] := by
  intro k
  induction k with
  | zero =>
    intro p hp hk
    obtain rfl : p = e := by omega
    refine mt_aload_n (pc := 24) dX7_takeWord_24 rfl ?_
    refine mt_get (pc := 25) gf_X7_31 dX7_takeWord_25 (by first | assumption | omega) (by repeat (first | exact hset_eq _ _ _ | assumption | rw [hset_ne (by first | assumption | decide | omega)])) rfl ?_
    refine mt_aload_n (pc := 28) dX7_takeWord_28 rfl ?_
    refine mt_get (pc := 29) gf_X7_28 dX7_takeWord_29 (by first | assumption | omega) (by repeat (first | exact hset_eq _ _ _ | assumption | rw [hset_ne (by first | assumption | decide | omega)])) rfl ?_
    refine mt_icmp_ge (pc := 32) (tgt := 63) dX7_takeWord_32 (by decide) (fun c32 => ?_) (fun c32 => ?_)
    · exact hk
    · exact absurd (nI_le (Nat.le_refl p) (by omega)) c32
  | succ k ih =>
    intro p hp hk
    have hlt : p < e := by omega
    have hv : b (nI p).toNatClampNeg = b p := by rw [nI_clamp (by omega)]
    refine mt_aload_n (pc := 24) dX7_takeWord_24 rfl ?_
    refine mt_get (pc := 25) gf_X7_31 dX7_takeWord_25 (by first | assumption | omega) (by repeat (first | exact hset_eq _ _ _ | assumption | rw [hset_ne (by first | assumption | decide | omega)])) rfl ?_
    refine mt_aload_n (pc := 28) dX7_takeWord_28 rfl ?_
    refine mt_get (pc := 29) gf_X7_28 dX7_takeWord_29 (by first | assumption | omega) (by repeat (first | exact hset_eq _ _ _ | assumption | rw [hset_ne (by first | assumption | decide | omega)])) rfl ?_
    refine mt_icmp_ge (pc := 32) (tgt := 63) dX7_takeWord_32 (by decide) (fun c32 => ?_) (fun c32 => ?_)
    · exact absurd c32 (nI_ge hlt (by omega))
    · skip
      refine mt_aload_n (pc := 35) dX7_takeWord_35 rfl ?_
      refine mt_get (pc := 36) gf_X7_9 dX7_takeWord_36 (by first | assumption | omega) (by repeat (first | exact hset_eq _ _ _ | assumption | rw [hset_ne (by first | assumption | decide | omega)])) rfl ?_
      refine mt_aload_n (pc := 39) dX7_takeWord_39 rfl ?_
      refine mt_get (pc := 40) gf_X7_31 dX7_takeWord_40 (by first | assumption | omega) (by repeat (first | exact hset_eq _ _ _ | assumption | rw [hset_ne (by first | assumption | decide | omega)])) rfl ?_
      refine mt_bald (pc := 43) dX7_takeWord_43 (by first | assumption | omega) (by repeat (first | exact hset_eq _ _ _ | assumption | rw [hset_ne (by first | assumption | decide | omega)])) (vp_in_nI (by omega) (by decide)) ?_
      rw [hv]
      refine mt_cN (pc := 44) (c_isLetter (d := 0)) cal_X10_isLetter sta_X10_isLetter mn_X7_48 dX7_takeWord_44 hd hroom rfl rfl (Nat.le_of_ble_eq_true rfl) ?_
      refine mt_if_eq (pc := 47) (tgt := 63) dX7_takeWord_47 (by decide) (fun c47 => ?_) (fun c47 => ?_)
      · (have hn : ¬ isL (b p) := isL_if.mp c47; simp only [ltf, hlt, true_and] at hk; rw [if_neg hn] at hk; exact hk)
      · skip
        refine mt_aload_n (pc := 50) dX7_takeWord_50 rfl ?_
        refine mt_dup (pc := 51) dX7_takeWord_51 rfl ?_
        refine mt_get (pc := 52) gf_X7_31 dX7_takeWord_52 (by first | assumption | omega) (by repeat (first | exact hset_eq _ _ _ | assumption | rw [hset_ne (by first | assumption | decide | omega)])) rfl ?_
        refine mt_iconst (pc := 55) (v := 1) dX7_takeWord_55 (by decide) ?_
        refine mt_iadd (pc := 56) dX7_takeWord_56 ?_
        first
          | refine mt_puti2 (pc := 57) pf_X7_31 dX7_takeWord_57 (by first | assumption | omega) (Nat.le_of_ble_eq_true rfl) ?_
          | refine mt_puti (pc := 57) pf_X7_31 dX7_takeWord_57 (by first | assumption | omega) (by repeat (first | exact hset_eq _ _ _ | assumption | rw [hset_ne (by first | assumption | decide | omega)])) (Nat.le_of_ble_eq_true rfl) ?_
        refine mt_goto (tgt := 24) dX7_takeWord_60 (by decide) ?_
        rw [show (nI p + 1 : Int32) = nI (p + 1) from nI_1 p]
        refine ih (p + 1) (by omega) ?_
        have hn : isL (b p) := Classical.not_not.mp fun z => c47 (isL_if.mpr z)
        have e1 : ltf b e (k + 1) p = ltf b e k (p + 1) := by simp only [ltf]; rw [if_pos ⟨hlt, hn.1, hn.2⟩]
        rw [← e1]
        exact hk
/-- takeWord -/
def P_word (b : Nat → Int32) (e p : Nat) (sz st fk fp : Int32) (nx : Nat) (h : Nat → mm_E) : mm_P := fun o n k => n = nx ∧ ((isL (pk b e p) ∧ o = .inl (some (.int 1)) ∧ k = hset h 1 (tpE sz (nI e) (nI (lt b e (sk b e p))) (nI (sk b e p)) fk fp)) ∨ (¬ isL (pk b e p) ∧ o = .inl (some (.int 0)) ∧ k = hset h 1 (tpE sz (nI e) (nI (sk b e p)) st 1 (nI (sk b e p)))))
theorem c_takeWord {e p : Nat} (hd : 1 ≤ d) (hx : 3 ≤ nx) (hB : h 2 = byE b) (hT : h 1 = tpE sz (nI e) (nI p) st fk fp) (hp : p ≤ e) (he : e ≤ 600) : mm_Con G l yX7_takeWord cX7_takeWord 1 (some .boolean) d 0 0 [.ref 1] nx h (P_word b e p sz st fk fp nx h) := by
  refine mm_start (lo := [some (.ref 1)]) pn_X7 rfl rfl (Nat.le_of_ble_eq_true rfl) ?_
  have hq := sk_le (b := b) hp
  refine mt_aload_n (pc := 0) dX7_takeWord_0 rfl ?_
  refine mt_cV (pc := 1) (c_peek (d := 0) hx hB hT hp he) cal_X7_peek vir_X7_peek ml_X7_40 dX7_takeWord_1 (by first | assumption | omega) (by repeat (first | exact hset_eq _ _ _ | assumption | rw [hset_ne (by first | assumption | decide | omega)])) hd ⟨(Nat.le_of_ble_eq_true rfl), (Nat.le_of_ble_eq_true rfl)⟩ rfl rfl (Nat.le_of_ble_eq_true rfl) ?_
  refine mt_cN (pc := 4) (c_isLetter (d := 0)) cal_X10_isLetter sta_X10_isLetter mn_X7_48 dX7_takeWord_4 hd ⟨(Nat.le_of_ble_eq_true rfl), (Nat.le_of_ble_eq_true rfl)⟩ rfl rfl (Nat.le_of_ble_eq_true rfl) ?_
  refine mt_if_ne (pc := 7) (tgt := 16) dX7_takeWord_7 (by decide) (fun c7 => ?_) (fun c7 => ?_)
  · skip
    have hk : isL (pk b e p) := Classical.not_not.mp fun z => c7 (isL_if.mpr z)
    refine mt_aload_n (pc := 16) dX7_takeWord_16 rfl ?_
    refine mt_aload_n (pc := 17) dX7_takeWord_17 rfl ?_
    refine mt_get (pc := 18) gf_X7_31 dX7_takeWord_18 (by first | assumption | omega) (by repeat (first | exact hset_eq _ _ _ | assumption | rw [hset_ne (by first | assumption | decide | omega)])) rfl ?_
    first
      | refine mt_puti2 (pc := 21) pf_X7_34 dX7_takeWord_21 (by first | assumption | omega) (Nat.le_of_ble_eq_true rfl) ?_
      | refine mt_puti (pc := 21) pf_X7_34 dX7_takeWord_21 (by first | assumption | omega) (by repeat (first | exact hset_eq _ _ _ | assumption | rw [hset_ne (by first | assumption | decide | omega)])) (Nat.le_of_ble_eq_true rfl) ?_
    refine l_word hd ⟨Nat.zero_le _, Nat.zero_le _⟩ hx hB he (e - sk b e p) (sk b e p) (by omega) ?_
    refine mt_iconst (pc := 63) (v := 1) dX7_takeWord_63 (by decide) ?_
    exact mt_zret rfl (Or.inr rfl) dX7_takeWord_64 (Nat.le_of_ble_eq_true rfl) (Nat.le_of_ble_eq_true rfl) ⟨rfl, Or.inl ⟨hk, rfl, rfl⟩⟩
  · skip
    have hk : ¬ isL (pk b e p) := isL_if.mp c7
    refine mt_aload_n (pc := 10) dX7_takeWord_10 rfl ?_
    refine mt_iconst (pc := 11) (v := 1) dX7_takeWord_11 (by decide) ?_
    refine mt_cV (pc := 12) (c_failHere (d := 0) hx (hset_eq _ _ _)) cal_X7_failHere vir_X7_failHere ml_X7_44 dX7_takeWord_12 (by first | assumption | omega) (by repeat (first | exact hset_eq _ _ _ | assumption | rw [hset_ne (by first | assumption | decide | omega)])) hd ⟨(Nat.le_of_ble_eq_true rfl), (Nat.le_of_ble_eq_true rfl)⟩ rfl rfl (Nat.le_of_ble_eq_true rfl) ?_
    rw [hset_hset]
    exact mt_zret rfl (by first | exact Or.inl rfl | exact Or.inr rfl) dX7_takeWord_15 (Nat.le_of_ble_eq_true rfl) (Nat.le_of_ble_eq_true rfl) ⟨rfl, Or.inr ⟨hk, rfl, rfl⟩⟩
/-- a number: its FAULT (kind, place), or itself and where it ends -/
def numS (b : Nat → Int32) (e p : Nat) (lo hi : Int32) : (Nat × Nat) ⊕ (Nat × Nat) :=
  if pk b e p < 48 ∨ 57 < pk b e p then .inl (1, sk b e p) else
    let r := dgf b e (e - sk b e p) (sk b e p) 0
    if (r.2 : Int) < lo.toInt ∨ hi.toInt < r.2 then .inl (2, sk b e p) else .inr (r.2, r.1)
def P_num (b : Nat → Int32) (e p : Nat) (lw hi : Int32) (sz fk fp : Int32) (nx : Nat) (h : Nat → mm_E) : mm_P := fun o n k => n = nx ∧
  ((∃ kd pl, numS b e p lw hi = .inl (kd, pl) ∧ o = .inl (some (.int (-1))) ∧ ∃ p' s', k = hset h 1 (tpE sz (nI e) p' s' (nI kd) (nI pl))) ∨
  (∃ v r, numS b e p lw hi = .inr (v, r) ∧ o = .inl (some (.int (nI v))) ∧ k = hset h 1 (tpE sz (nI e) (nI r) (nI (sk b e p)) fk fp)))
theorem min_step {v c : Nat} (hc : c ≤ 9) : (if nI (min v 100000) * 10 + nI (48 + c) - 48 < (100000 : Int32) then nI (min v 100000) * 10 + nI (48 + c) - 48 else 100000) = nI (min (v * 10 + c) 100000) := by
  have e1 : nI (min v 100000) * 10 + nI (48 + c) - 48 = nI (min v 100000 * 10 + c) := by
    rw [show (10 : Int32) = nI 10 from rfl, show (48 : Int32) = nI 48 from rfl, pk_mul, nI_add, pk_sub (by omega)]
    congr 1
    omega
  rw [e1, show (100000 : Int32) = nI 100000 from rfl]
  have hb : min v 100000 ≤ 100000 := Nat.min_le_right _ _
  by_cases hlt : min v 100000 * 10 + c < 100000
  · rw [if_pos (nI_lt hlt (by decide))]
    congr 1
    omega
  · rw [if_neg (nI_nlt (Nat.not_lt.mp hlt) (by omega))]
    congr 1
    omega
theorem l_num {M : mm_M} {kc ks e : Nat} {w lw hi : Int32} (hnL : mm_nL M = 4) (hd : 1 ≤ mm_d M) (hroom : kc ≤ mm_mc M ∧ ks ≤ mm_ms M) (hx : 3 ≤ nx) (hB : h 2 = byE b) (he : e ≤ 600) : ∀ (k p v : Nat), p + k = e → mm_T M RX7 cX7_takeNumber nx (hset h 1 (tpE sz (nI e) (nI (dgf b e k p v).1) w fk fp)) kc ks 90 [some (.ref 1), some (.int lw), some (.int hi), some (.int (nI (min (dgf b e k p v).2 100000)))] [] → mm_T M RX7 cX7_takeNumber nx (hset h 1 (tpE sz (nI e) (nI p) w fk fp)) kc ks 28 [some (.ref 1), some (.int lw), some (.int hi), some (.int (nI (min v 100000)))] [] := by
  intro k
  induction k with
  | zero =>
    intro p v hp hk
    obtain rfl : p = e := by omega
    refine mt_aload_n (pc := 28) dX7_takeNumber_28 rfl ?_
    refine mt_get (pc := 29) gf_X7_31 dX7_takeNumber_29 (by first | assumption | omega) (by repeat (first | exact hset_eq _ _ _ | assumption | rw [hset_ne (by first | assumption | decide | omega)])) rfl ?_
    refine mt_aload_n (pc := 32) dX7_takeNumber_32 rfl ?_
    refine mt_get (pc := 33) gf_X7_28 dX7_takeNumber_33 (by first | assumption | omega) (by repeat (first | exact hset_eq _ _ _ | assumption | rw [hset_ne (by first | assumption | decide | omega)])) rfl ?_
    refine mt_icmp_ge (pc := 36) (tgt := 90) dX7_takeNumber_36 (by decide) (fun c36 => ?_) (fun c36 => ?_)
    · exact hk
    · exact absurd (nI_le (Nat.le_refl p) (by omega)) c36
  | succ k ih =>
    intro p v hp hk
    have hlt : p < e := by omega
    have hv : b (nI p).toNatClampNeg = b p := by rw [nI_clamp (by omega)]
    refine mt_aload_n (pc := 28) dX7_takeNumber_28 rfl ?_
    refine mt_get (pc := 29) gf_X7_31 dX7_takeNumber_29 (by first | assumption | omega) (by repeat (first | exact hset_eq _ _ _ | assumption | rw [hset_ne (by first | assumption | decide | omega)])) rfl ?_
    refine mt_aload_n (pc := 32) dX7_takeNumber_32 rfl ?_
    refine mt_get (pc := 33) gf_X7_28 dX7_takeNumber_33 (by first | assumption | omega) (by repeat (first | exact hset_eq _ _ _ | assumption | rw [hset_ne (by first | assumption | decide | omega)])) rfl ?_
    refine mt_icmp_ge (pc := 36) (tgt := 90) dX7_takeNumber_36 (by decide) (fun c36 => ?_) (fun c36 => ?_)
    · exact absurd c36 (nI_ge hlt (by omega))
    · skip
      refine mt_aload_n (pc := 39) dX7_takeNumber_39 rfl ?_
      refine mt_get (pc := 40) gf_X7_9 dX7_takeNumber_40 (by first | assumption | omega) (by repeat (first | exact hset_eq _ _ _ | assumption | rw [hset_ne (by first | assumption | decide | omega)])) rfl ?_
      refine mt_aload_n (pc := 43) dX7_takeNumber_43 rfl ?_
      refine mt_get (pc := 44) gf_X7_31 dX7_takeNumber_44 (by first | assumption | omega) (by repeat (first | exact hset_eq _ _ _ | assumption | rw [hset_ne (by first | assumption | decide | omega)])) rfl ?_
      refine mt_bald (pc := 47) dX7_takeNumber_47 (by first | assumption | omega) (by repeat (first | exact hset_eq _ _ _ | assumption | rw [hset_ne (by first | assumption | decide | omega)])) (vp_in_nI (by omega) (by decide)) ?_
      rw [hv]
      refine mt_cN (pc := 48) (c_isDigit (d := 0)) cal_X10_isDigit sta_X10_isDigit mn_X7_60 dX7_takeNumber_48 hd hroom rfl rfl (Nat.le_of_ble_eq_true rfl) ?_
      refine mt_if_eq (pc := 51) (tgt := 90) dX7_takeNumber_51 (by decide) (fun c51 => ?_) (fun c51 => ?_)
      · (have hn : ¬ isD (b p) := isD_if.mp c51; simp only [dgf, hlt, true_and] at hk; rw [if_neg hn] at hk; exact hk)
      · skip
        have hn : isD (b p) := Classical.not_not.mp fun z => c51 (isD_if.mpr z)
        obtain ⟨c, hc, hbc⟩ := isD_val hn
        refine mt_ldc (pc := 54) kc_X7_63 dX7_takeNumber_54 ?_
        refine mt_iload_n (pc := 56) dX7_takeNumber_56 rfl ?_
        refine mt_bipush (pc := 57) (v := 10) dX7_takeNumber_57 (by decide) ?_
        refine mt_imul (pc := 59) dX7_takeNumber_59 ?_
        refine mt_aload_n (pc := 60) dX7_takeNumber_60 rfl ?_
        refine mt_get (pc := 61) gf_X7_9 dX7_takeNumber_61 (by first | assumption | omega) (by repeat (first | exact hset_eq _ _ _ | assumption | rw [hset_ne (by first | assumption | decide | omega)])) rfl ?_
        refine mt_aload_n (pc := 64) dX7_takeNumber_64 rfl ?_
        refine mt_get (pc := 65) gf_X7_31 dX7_takeNumber_65 (by first | assumption | omega) (by repeat (first | exact hset_eq _ _ _ | assumption | rw [hset_ne (by first | assumption | decide | omega)])) rfl ?_
        refine mt_bald (pc := 68) dX7_takeNumber_68 (by first | assumption | omega) (by repeat (first | exact hset_eq _ _ _ | assumption | rw [hset_ne (by first | assumption | decide | omega)])) (vp_in_nI (by omega) (by decide)) ?_
        rw [hv, hbc]
        refine mt_iadd (pc := 69) dX7_takeNumber_69 ?_
        refine mt_bipush (pc := 70) (v := 48) dX7_takeNumber_70 (by decide) ?_
        refine mt_isub (pc := 72) dX7_takeNumber_72 ?_
        refine mt_mmin (pc := 73) ml_X7_22 dX7_takeNumber_73 hd hroom (Nat.le_of_ble_eq_true rfl) ?_
        rw [min_step hc]
        refine mt_istore_n (pc := 76) dX7_takeNumber_76 (by rw [hnL]; decide) rfl ?_
        refine mt_aload_n (pc := 77) dX7_takeNumber_77 rfl ?_
        refine mt_dup (pc := 78) dX7_takeNumber_78 rfl ?_
        refine mt_get (pc := 79) gf_X7_31 dX7_takeNumber_79 (by first | assumption | omega) (by repeat (first | exact hset_eq _ _ _ | assumption | rw [hset_ne (by first | assumption | decide | omega)])) rfl ?_
        refine mt_iconst (pc := 82) (v := 1) dX7_takeNumber_82 (by decide) ?_
        refine mt_iadd (pc := 83) dX7_takeNumber_83 ?_
        first
          | refine mt_puti2 (pc := 84) pf_X7_31 dX7_takeNumber_84 (by first | assumption | omega) (Nat.le_of_ble_eq_true rfl) ?_
          | refine mt_puti (pc := 84) pf_X7_31 dX7_takeNumber_84 (by first | assumption | omega) (by repeat (first | exact hset_eq _ _ _ | assumption | rw [hset_ne (by first | assumption | decide | omega)])) (Nat.le_of_ble_eq_true rfl) ?_
        refine mt_goto (tgt := 28) dX7_takeNumber_87 (by decide) ?_
        rw [show (nI p + 1 : Int32) = nI (p + 1) from nI_1 p]
        refine ih (p + 1) (v * 10 + c) (by omega) ?_
        have e1 : dgf b e (k + 1) p v = dgf b e k (p + 1) (v * 10 + c) := by simp only [dgf]; rw [if_pos ⟨hlt, hn.1, hn.2⟩, hbc, dig_nI hc]
        rw [← e1]
        exact hk
theorem c_takeNumber {e p : Nat} {lw hi : Int32} (hlw : lw.toInt ≤ 1000) (hhi : hi.toInt ≤ 1000) (hd : 1 ≤ d) (hx : 3 ≤ nx) (hB : h 2 = byE b) (hT : h 1 = tpE sz (nI e) (nI p) st fk fp) (hp : p ≤ e) (he : e ≤ 600) : mm_Con G l yX7_takeNumber cX7_takeNumber 4 (some .int) d 0 0 [.ref 1, .int lw, .int hi] nx h (P_num b e p lw hi sz fk fp nx h) := by
  refine mm_start (lo := [some (.ref 1), some (.int lw), some (.int hi), none]) pn_X7 rfl rfl (Nat.le_of_ble_eq_true rfl) ?_
  have hq := sk_le (b := b) hp
  refine mt_aload_n (pc := 0) dX7_takeNumber_0 rfl ?_
  refine mt_cV (pc := 1) (c_peek (d := 0) hx hB hT hp he) cal_X7_peek vir_X7_peek ml_X7_40 dX7_takeNumber_1 (by first | assumption | omega) (by repeat (first | exact hset_eq _ _ _ | assumption | rw [hset_ne (by first | assumption | decide | omega)])) hd ⟨(Nat.le_of_ble_eq_true rfl), (Nat.le_of_ble_eq_true rfl)⟩ rfl rfl (Nat.le_of_ble_eq_true rfl) ?_
  refine mt_cN (pc := 4) (c_isDigit (d := 0)) cal_X10_isDigit sta_X10_isDigit mn_X7_60 dX7_takeNumber_4 hd ⟨(Nat.le_of_ble_eq_true rfl), (Nat.le_of_ble_eq_true rfl)⟩ rfl rfl (Nat.le_of_ble_eq_true rfl) ?_
  refine mt_if_ne (pc := 7) (tgt := 18) dX7_takeNumber_7 (by decide) (fun c7 => ?_) (fun c7 => ?_)
  · skip
    have hk : isD (pk b e p) := Classical.not_not.mp fun z => c7 (isD_if.mpr z)
    refine mt_aload_n (pc := 18) dX7_takeNumber_18 rfl ?_
    refine mt_aload_n (pc := 19) dX7_takeNumber_19 rfl ?_
    refine mt_get (pc := 20) gf_X7_31 dX7_takeNumber_20 (by first | assumption | omega) (by repeat (first | exact hset_eq _ _ _ | assumption | rw [hset_ne (by first | assumption | decide | omega)])) rfl ?_
    first
      | refine mt_puti2 (pc := 23) pf_X7_34 dX7_takeNumber_23 (by first | assumption | omega) (Nat.le_of_ble_eq_true rfl) ?_
      | refine mt_puti (pc := 23) pf_X7_34 dX7_takeNumber_23 (by first | assumption | omega) (by repeat (first | exact hset_eq _ _ _ | assumption | rw [hset_ne (by first | assumption | decide | omega)])) (Nat.le_of_ble_eq_true rfl) ?_
    refine mt_iconst (pc := 26) (v := 0) dX7_takeNumber_26 (by decide) ?_
    refine mt_istore_n (pc := 27) dX7_takeNumber_27 (Nat.le_of_ble_eq_true rfl) rfl ?_
    refine l_num rfl hd ⟨Nat.zero_le _, Nat.zero_le _⟩ hx hB he (e - sk b e p) (sk b e p) 0 (by omega) ?_
    have hr := dgf_le (b := b) (e - sk b e p) (sk b e p) 0 hq.2
    have hS : numS b e p lw hi = if ((dgf b e (e - sk b e p) (sk b e p) 0).2 : Int) < lw.toInt ∨ hi.toInt < (dgf b e (e - sk b e p) (sk b e p) 0).2 then .inl (2, sk b e p) else .inr ((dgf b e (e - sk b e p) (sk b e p) 0).2, (dgf b e (e - sk b e p) (sk b e p) 0).1) := by rw [numS, if_neg (fun z => z.elim hk.1 hk.2)]
    generalize dgf b e (e - sk b e p) (sk b e p) 0 = R at hr hS
    obtain ⟨r, v⟩ := R
    dsimp only at hr hS
    have hm : (nI (min v 100000)).toInt = ((min v 100000 : Nat) : Int) := nI_toInt (by omega)
    show mm_T _ _ _ _ (hset h 1 (tpE sz (nI e) (nI r) (nI (sk b e p)) fk fp)) _ _ _ [some (.ref 1), some (.int lw), some (.int hi), some (.int (nI (min v 100000)))] _
    refine mt_iload_n (pc := 90) dX7_takeNumber_90 rfl ?_
    refine mt_iload_n (pc := 91) dX7_takeNumber_91 rfl ?_
    refine mt_icmp_lt (pc := 92) (tgt := 100) dX7_takeNumber_92 (by decide) (fun c92 => ?_) (fun c92 => ?_)
    · skip
      have hS2 : numS b e p lw hi = .inl (2, sk b e p) := by
        rw [hS, if_pos]
        have := Int32.lt_iff_toInt_lt.mp c92
        omega
      refine mt_aload_n (pc := 100) dX7_takeNumber_100 rfl ?_
      refine mt_iconst (pc := 101) (v := 2) dX7_takeNumber_101 (by decide) ?_
      refine mt_cV (pc := 102) (c_failAtStart (d := 0) hx (hset_eq _ _ _)) cal_X7_failAtStart vir_X7_failAtStart ml_X7_64 dX7_takeNumber_102 (by first | assumption | omega) (by repeat (first | exact hset_eq _ _ _ | assumption | rw [hset_ne (by first | assumption | decide | omega)])) hd ⟨(Nat.le_of_ble_eq_true rfl), (Nat.le_of_ble_eq_true rfl)⟩ rfl rfl (Nat.le_of_ble_eq_true rfl) ?_
      rw [hset_hset]
      refine mt_pop (pc := 105) dX7_takeNumber_105 rfl ?_
      refine mt_iconst (pc := 106) (v := (-1)) dX7_takeNumber_106 (by decide) ?_
      exact mt_iret rfl dX7_takeNumber_107 (Nat.le_of_ble_eq_true rfl) (Nat.le_of_ble_eq_true rfl) ⟨rfl, Or.inl ⟨2, sk b e p, hS2, rfl, _, _, rfl⟩⟩
    · skip
      refine mt_iload_n (pc := 95) dX7_takeNumber_95 rfl ?_
      refine mt_iload_n (pc := 96) dX7_takeNumber_96 rfl ?_
      refine mt_icmp_le (pc := 97) (tgt := 108) dX7_takeNumber_97 (by decide) (fun c97 => ?_) (fun c97 => ?_)
      · skip
        have h1 := Int32.le_iff_toInt_le.mp c97
        have h2 := Int32.le_iff_toInt_le.mp (Int32.not_lt.mp c92)
        have hv : min v 100000 = v := by omega
        rw [hv] at h1 h2 hm ⊢
        refine mt_iload_n (pc := 108) dX7_takeNumber_108 rfl ?_
        exact mt_iret rfl dX7_takeNumber_109 (Nat.le_of_ble_eq_true rfl) (Nat.le_of_ble_eq_true rfl) ⟨rfl, Or.inr ⟨v, r, by rw [hS, if_neg (by omega)], rfl, rfl⟩⟩
      · skip
        have hS2 : numS b e p lw hi = .inl (2, sk b e p) := by
          rw [hS, if_pos]
          have := Int32.lt_iff_toInt_lt.mp (Int32.not_le.mp c97)
          omega
        refine mt_aload_n (pc := 100) dX7_takeNumber_100 rfl ?_
        refine mt_iconst (pc := 101) (v := 2) dX7_takeNumber_101 (by decide) ?_
        refine mt_cV (pc := 102) (c_failAtStart (d := 0) hx (hset_eq _ _ _)) cal_X7_failAtStart vir_X7_failAtStart ml_X7_64 dX7_takeNumber_102 (by first | assumption | omega) (by repeat (first | exact hset_eq _ _ _ | assumption | rw [hset_ne (by first | assumption | decide | omega)])) hd ⟨(Nat.le_of_ble_eq_true rfl), (Nat.le_of_ble_eq_true rfl)⟩ rfl rfl (Nat.le_of_ble_eq_true rfl) ?_
        rw [hset_hset]
        refine mt_pop (pc := 105) dX7_takeNumber_105 rfl ?_
        refine mt_iconst (pc := 106) (v := (-1)) dX7_takeNumber_106 (by decide) ?_
        exact mt_iret rfl dX7_takeNumber_107 (Nat.le_of_ble_eq_true rfl) (Nat.le_of_ble_eq_true rfl) ⟨rfl, Or.inl ⟨2, sk b e p, hS2, rfl, _, _, rfl⟩⟩
  · skip
    have hk : ¬ isD (pk b e p) := isD_if.mp c7
    refine mt_aload_n (pc := 10) dX7_takeNumber_10 rfl ?_
    refine mt_iconst (pc := 11) (v := 1) dX7_takeNumber_11 (by decide) ?_
    refine mt_cV (pc := 12) (c_failHere (d := 0) hx (hset_eq _ _ _)) cal_X7_failHere vir_X7_failHere ml_X7_44 dX7_takeNumber_12 (by first | assumption | omega) (by repeat (first | exact hset_eq _ _ _ | assumption | rw [hset_ne (by first | assumption | decide | omega)])) hd ⟨(Nat.le_of_ble_eq_true rfl), (Nat.le_of_ble_eq_true rfl)⟩ rfl rfl (Nat.le_of_ble_eq_true rfl) ?_
    rw [hset_hset]
    refine mt_pop (pc := 15) dX7_takeNumber_15 rfl ?_
    refine mt_iconst (pc := 16) (v := (-1)) dX7_takeNumber_16 (by decide) ?_
    exact mt_iret rfl dX7_takeNumber_17 (Nat.le_of_ble_eq_true rfl) (Nat.le_of_ble_eq_true rfl) ⟨rfl, Or.inl ⟨1, sk b e p, by rw [numS, if_pos (Classical.or_iff_not_imp_left.mpr fun h1 => Classical.not_not.mp fun h2 => hk ⟨h1, h2⟩)], rfl, _, _, rfl⟩⟩
end TAPE
