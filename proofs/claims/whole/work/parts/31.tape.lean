/-! The TAPE of the class: cell 1, its bytes: cell 2. -/
abbrev tpE (sz en pl st fk fp : Int32) : mm_E := .inr (7, [.ref 2, .int sz, .int en, .int pl, .int st, .int fk, .int fp])
abbrev byE (b : Nat → Int32) : mm_E := .inl (1, 600, .inl b)
/-- behind blanks, at most k of them -/
def skf (b : Nat → Int32) (e : Nat) : Nat → Nat → Nat
  | 0, p => p
  | k + 1, p => if p < e ∧ b p = 32 then skf b e k (p + 1) else p
def sk (b : Nat → Int32) (e p : Nat) : Nat := skf b e (e - p) p
theorem skf_le {b : Nat → Int32} {e : Nat} : ∀ k p, p ≤ e → p ≤ skf b e k p ∧ skf b e k p ≤ e
  | 0, p, h => ⟨Nat.le_refl p, h⟩
  | k + 1, p, h => by
    simp only [skf]
    split
    · next hc => have := skf_le (b := b) k (p + 1) hc.1; omega
    · exact ⟨Nat.le_refl p, h⟩
theorem sk_le {b : Nat → Int32} {e p : Nat} (h : p ≤ e) : p ≤ sk b e p ∧ sk b e p ≤ e := skf_le _ _ h
/-- the sign behind blanks -/
def pk (b : Nat → Int32) (e p : Nat) : Int32 := if sk b e p < e then b (sk b e p) &&& 255 else -1
section TAPE
variable {G : mm_G} {l : Launch} {d nx : Nat} {h : Nat → mm_E} {b : Nat → Int32} {sz en pl st fk fp : Int32}
theorem c_hasRoomFor {n : Int32} (hx : 3 ≤ nx) (hT : h 1 = tpE sz en pl st fk fp) (hB : h 2 = byE b) : mm_Con G l yX7_hasRoomFor cX7_hasRoomFor 2 (some .boolean) d 0 0 [.ref 1, .int n] nx h (mm_ret (some (.int (if nI 600 < sz + n then 0 else 1))) nx h) := by
  refine mm_start (lo := [some (.ref 1), some (.int n)]) pn_X7 rfl rfl (Nat.le_of_ble_eq_true rfl) ?_
  refine mt_aload_n (pc := 0) dX7_hasRoomFor_0 rfl ?_
  refine mt_get (pc := 1) gf_X7_19 dX7_hasRoomFor_1 (by first | assumption | omega) (by first | exact hset_eq _ _ _ | assumption | simp only [hset_eq, hset_ne, ne_eq, not_false_eq_true, *]) rfl ?_
  refine mt_iload_n (pc := 4) dX7_hasRoomFor_4 rfl ?_
  refine mt_iadd (pc := 5) dX7_hasRoomFor_5 ?_
  refine mt_aload_n (pc := 6) dX7_hasRoomFor_6 rfl ?_
  refine mt_get (pc := 7) gf_X7_9 dX7_hasRoomFor_7 (by first | assumption | omega) (by first | exact hset_eq _ _ _ | assumption | simp only [hset_eq, hset_ne, ne_eq, not_false_eq_true, *]) rfl ?_
  refine mt_alen (pc := 10) dX7_hasRoomFor_10 (by first | assumption | omega) (by first | exact hset_eq _ _ _ | assumption | simp only [hset_eq, hset_ne, ne_eq, not_false_eq_true, *]) (by decide) ?_
  refine mt_icmp_gt (pc := 11) (tgt := 18) dX7_hasRoomFor_11 (by decide) (fun c11 => ?_) (fun c11 => ?_)
  · skip
    refine mt_iconst (pc := 18) (v := 0) dX7_hasRoomFor_18 (by decide) ?_
    exact mt_zret rfl (by first | exact Or.inl rfl | exact Or.inr rfl) dX7_hasRoomFor_19 (Nat.le_of_ble_eq_true rfl) (Nat.le_of_ble_eq_true rfl) ⟨by simp [*], rfl, rfl⟩
  · skip
    refine mt_iconst (pc := 14) (v := 1) dX7_hasRoomFor_14 (by decide) ?_
    refine mt_goto (pc := 15) (tgt := 19) dX7_hasRoomFor_15 (by decide) ?_
    exact mt_zret rfl (by first | exact Or.inl rfl | exact Or.inr rfl) dX7_hasRoomFor_19 (Nat.le_of_ble_eq_true rfl) (Nat.le_of_ble_eq_true rfl) ⟨by simp [*], rfl, rfl⟩
theorem c_faultAnswer (hx : 3 ≤ nx) (hT : h 1 = tpE sz en pl st fk fp) : mm_Con G l yX7_faultAnswer cX7_faultAnswer 1 (some .int) d 0 0 [.ref 1] nx h (mm_ret (some (.int (fk - 10))) nx h) := by
  refine mm_start (lo := [some (.ref 1)]) pn_X7 rfl rfl (Nat.le_of_ble_eq_true rfl) ?_
  refine mt_aload_n (pc := 0) dX7_faultAnswer_0 rfl ?_
  refine mt_get (pc := 1) gf_X7_37 dX7_faultAnswer_1 (by first | assumption | omega) (by first | exact hset_eq _ _ _ | assumption | simp only [hset_eq, hset_ne, ne_eq, not_false_eq_true, *]) rfl ?_
  refine mt_bipush (pc := 4) (v := 10) dX7_faultAnswer_4 (by decide) ?_
  refine mt_isub (pc := 6) dX7_faultAnswer_6 ?_
  exact mt_iret rfl dX7_faultAnswer_7 (Nat.le_of_ble_eq_true rfl) (Nat.le_of_ble_eq_true rfl) ⟨rfl, rfl, rfl⟩
theorem c_failHere {n : Int32} (hx : 3 ≤ nx) (hT : h 1 = tpE sz en pl st fk fp) : mm_Con G l yX7_failHere cX7_failHere 2 (some .boolean) d 0 0 [.ref 1, .int n] nx h (mm_ret (some (.int 0)) nx (hset h 1 (tpE sz en pl st n pl))) := by
  refine mm_start (lo := [some (.ref 1), some (.int n)]) pn_X7 rfl rfl (Nat.le_of_ble_eq_true rfl) ?_
  refine mt_aload_n (pc := 0) dX7_failHere_0 rfl ?_
  refine mt_iload_n (pc := 1) dX7_failHere_1 rfl ?_
  first
    | refine mt_puti2 (pc := 2) pf_X7_37 dX7_failHere_2 (by first | assumption | omega) (Nat.le_of_ble_eq_true rfl) ?_
    | refine mt_puti (pc := 2) pf_X7_37 dX7_failHere_2 (by first | assumption | omega) (by first | exact hset_eq _ _ _ | assumption | simp only [hset_eq, hset_ne, ne_eq, not_false_eq_true, *]) (Nat.le_of_ble_eq_true rfl) ?_
  refine mt_aload_n (pc := 5) dX7_failHere_5 rfl ?_
  refine mt_aload_n (pc := 6) dX7_failHere_6 rfl ?_
  refine mt_get (pc := 7) gf_X7_31 dX7_failHere_7 (by first | assumption | omega) (by first | exact hset_eq _ _ _ | assumption | simp only [hset_eq, hset_ne, ne_eq, not_false_eq_true, *]) rfl ?_
  first
    | refine mt_puti2 (pc := 10) pf_X7_15 dX7_failHere_10 (by first | assumption | omega) (Nat.le_of_ble_eq_true rfl) ?_
    | refine mt_puti (pc := 10) pf_X7_15 dX7_failHere_10 (by first | assumption | omega) (by first | exact hset_eq _ _ _ | assumption | simp only [hset_eq, hset_ne, ne_eq, not_false_eq_true, *]) (Nat.le_of_ble_eq_true rfl) ?_
  refine mt_iconst (pc := 13) (v := 0) dX7_failHere_13 (by decide) ?_
  exact mt_zret rfl (by first | exact Or.inl rfl | exact Or.inr rfl) dX7_failHere_14 (Nat.le_of_ble_eq_true rfl) (Nat.le_of_ble_eq_true rfl) ⟨rfl, rfl, rfl⟩
theorem c_failAtStart {n : Int32} (hx : 3 ≤ nx) (hT : h 1 = tpE sz en pl st fk fp) : mm_Con G l yX7_failAtStart cX7_failAtStart 2 (some .boolean) d 0 0 [.ref 1, .int n] nx h (mm_ret (some (.int 0)) nx (hset h 1 (tpE sz en pl st n st))) := by
  refine mm_start (lo := [some (.ref 1), some (.int n)]) pn_X7 rfl rfl (Nat.le_of_ble_eq_true rfl) ?_
  refine mt_aload_n (pc := 0) dX7_failAtStart_0 rfl ?_
  refine mt_iload_n (pc := 1) dX7_failAtStart_1 rfl ?_
  first
    | refine mt_puti2 (pc := 2) pf_X7_37 dX7_failAtStart_2 (by first | assumption | omega) (Nat.le_of_ble_eq_true rfl) ?_
    | refine mt_puti (pc := 2) pf_X7_37 dX7_failAtStart_2 (by first | assumption | omega) (by first | exact hset_eq _ _ _ | assumption | simp only [hset_eq, hset_ne, ne_eq, not_false_eq_true, *]) (Nat.le_of_ble_eq_true rfl) ?_
  refine mt_aload_n (pc := 5) dX7_failAtStart_5 rfl ?_
  refine mt_aload_n (pc := 6) dX7_failAtStart_6 rfl ?_
  refine mt_get (pc := 7) gf_X7_34 dX7_failAtStart_7 (by first | assumption | omega) (by first | exact hset_eq _ _ _ | assumption | simp only [hset_eq, hset_ne, ne_eq, not_false_eq_true, *]) rfl ?_
  first
    | refine mt_puti2 (pc := 10) pf_X7_15 dX7_failAtStart_10 (by first | assumption | omega) (Nat.le_of_ble_eq_true rfl) ?_
    | refine mt_puti (pc := 10) pf_X7_15 dX7_failAtStart_10 (by first | assumption | omega) (by first | exact hset_eq _ _ _ | assumption | simp only [hset_eq, hset_ne, ne_eq, not_false_eq_true, *]) (Nat.le_of_ble_eq_true rfl) ?_
  refine mt_iconst (pc := 13) (v := 0) dX7_failAtStart_13 (by decide) ?_
  exact mt_zret rfl (by first | exact Or.inl rfl | exact Or.inr rfl) dX7_failAtStart_14 (Nat.le_of_ble_eq_true rfl) (Nat.le_of_ble_eq_true rfl) ⟨rfl, rfl, rfl⟩
theorem c_tbegin {n : Int32} (hd : 1 ≤ d) (hx : 3 ≤ nx) (hT : h 1 = tpE sz en pl st fk fp) (hB : h 2 = byE b) : mm_Con G l yX7_begin cX7_begin 2 none d 0 0 [.ref 1, .int n] nx h (mm_ret none nx (hset h 1 (tpE 0 (if nI 600 < n then nI 600 else n) 0 0 0 (-1)))) := by
  refine mm_start (lo := [some (.ref 1), some (.int n)]) pn_X7 rfl rfl (Nat.le_of_ble_eq_true rfl) ?_
  refine mt_aload_n (pc := 0) dX7_begin_0 rfl ?_
  refine mt_iconst (pc := 1) (v := 0) dX7_begin_1 (by decide) ?_
  first
    | refine mt_puti2 (pc := 2) pf_X7_19 dX7_begin_2 (by first | assumption | omega) (Nat.le_of_ble_eq_true rfl) ?_
    | refine mt_puti (pc := 2) pf_X7_19 dX7_begin_2 (by first | assumption | omega) (by first | exact hset_eq _ _ _ | assumption | simp only [hset_eq, hset_ne, ne_eq, not_false_eq_true, *]) (Nat.le_of_ble_eq_true rfl) ?_
  refine mt_aload_n (pc := 5) dX7_begin_5 rfl ?_
  refine mt_iload_n (pc := 6) dX7_begin_6 rfl ?_
  refine mt_aload_n (pc := 7) dX7_begin_7 rfl ?_
  refine mt_get (pc := 8) gf_X7_9 dX7_begin_8 (by first | assumption | omega) (by first | exact hset_eq _ _ _ | assumption | simp only [hset_eq, hset_ne, ne_eq, not_false_eq_true, *]) rfl ?_
  refine mt_alen (pc := 11) dX7_begin_11 (by first | assumption | omega) (by first | exact hset_eq _ _ _ | assumption | simp only [hset_eq, hset_ne, ne_eq, not_false_eq_true, *]) (by decide) ?_
  refine mt_mmin (pc := 12) ml_X7_22 dX7_begin_12 (by first | assumption | omega) ⟨(Nat.le_of_ble_eq_true rfl), (Nat.le_of_ble_eq_true rfl)⟩ (Nat.le_of_ble_eq_true rfl) ?_
  first
    | refine mt_puti2 (pc := 15) pf_X7_28 dX7_begin_15 (by first | assumption | omega) (Nat.le_of_ble_eq_true rfl) ?_
    | refine mt_puti (pc := 15) pf_X7_28 dX7_begin_15 (by first | assumption | omega) (by first | exact hset_eq _ _ _ | assumption | simp only [hset_eq, hset_ne, ne_eq, not_false_eq_true, *]) (Nat.le_of_ble_eq_true rfl) ?_
  refine mt_aload_n (pc := 18) dX7_begin_18 rfl ?_
  refine mt_iconst (pc := 19) (v := 0) dX7_begin_19 (by decide) ?_
  first
    | refine mt_puti2 (pc := 20) pf_X7_31 dX7_begin_20 (by first | assumption | omega) (Nat.le_of_ble_eq_true rfl) ?_
    | refine mt_puti (pc := 20) pf_X7_31 dX7_begin_20 (by first | assumption | omega) (by first | exact hset_eq _ _ _ | assumption | simp only [hset_eq, hset_ne, ne_eq, not_false_eq_true, *]) (Nat.le_of_ble_eq_true rfl) ?_
  refine mt_aload_n (pc := 23) dX7_begin_23 rfl ?_
  refine mt_iconst (pc := 24) (v := 0) dX7_begin_24 (by decide) ?_
  first
    | refine mt_puti2 (pc := 25) pf_X7_34 dX7_begin_25 (by first | assumption | omega) (Nat.le_of_ble_eq_true rfl) ?_
    | refine mt_puti (pc := 25) pf_X7_34 dX7_begin_25 (by first | assumption | omega) (by first | exact hset_eq _ _ _ | assumption | simp only [hset_eq, hset_ne, ne_eq, not_false_eq_true, *]) (Nat.le_of_ble_eq_true rfl) ?_
  refine mt_aload_n (pc := 28) dX7_begin_28 rfl ?_
  refine mt_iconst (pc := 29) (v := 0) dX7_begin_29 (by decide) ?_
  first
    | refine mt_puti2 (pc := 30) pf_X7_37 dX7_begin_30 (by first | assumption | omega) (Nat.le_of_ble_eq_true rfl) ?_
    | refine mt_puti (pc := 30) pf_X7_37 dX7_begin_30 (by first | assumption | omega) (by first | exact hset_eq _ _ _ | assumption | simp only [hset_eq, hset_ne, ne_eq, not_false_eq_true, *]) (Nat.le_of_ble_eq_true rfl) ?_
  refine mt_aload_n (pc := 33) dX7_begin_33 rfl ?_
  refine mt_iconst (pc := 34) (v := (-1)) dX7_begin_34 (by decide) ?_
  first
    | refine mt_puti2 (pc := 35) pf_X7_15 dX7_begin_35 (by first | assumption | omega) (Nat.le_of_ble_eq_true rfl) ?_
    | refine mt_puti (pc := 35) pf_X7_15 dX7_begin_35 (by first | assumption | omega) (by first | exact hset_eq _ _ _ | assumption | simp only [hset_eq, hset_ne, ne_eq, not_false_eq_true, *]) (Nat.le_of_ble_eq_true rfl) ?_
  exact mt_vret rfl dX7_begin_38 (Nat.le_of_ble_eq_true rfl) (Nat.le_of_ble_eq_true rfl) ⟨rfl, rfl, rfl⟩
theorem l_peek {M : mm_M} {kc ks e : Nat} (hx : 3 ≤ nx) (hB : h 2 = byE b) (he : e ≤ 600) : ∀ (k p : Nat), p + k = e → mm_T M RX7 cX7_peek nx (hset h 1 (tpE sz (nI e) (nI (skf b e k p)) st fk fp)) kc ks 38 [some (.ref 1)] [] → mm_T M RX7 cX7_peek nx (hset h 1 (tpE sz (nI e) (nI p) st fk fp)) kc ks 0 [some (.ref 1)] [] := by
  intro k
  induction k with
  | zero =>
    intro p hp hk
    obtain rfl : p = e := by omega
    refine mt_aload_n (pc := 0) dX7_peek_0 rfl ?_
    refine mt_get (pc := 1) gf_X7_31 dX7_peek_1 (by first | assumption | omega) (by first | exact hset_eq _ _ _ | assumption | simp only [hset_eq, hset_ne, ne_eq, not_false_eq_true, *]) rfl ?_
    refine mt_aload_n (pc := 4) dX7_peek_4 rfl ?_
    refine mt_get (pc := 5) gf_X7_28 dX7_peek_5 (by first | assumption | omega) (by first | exact hset_eq _ _ _ | assumption | simp only [hset_eq, hset_ne, ne_eq, not_false_eq_true, *]) rfl ?_
    refine mt_icmp_ge (pc := 8) (tgt := 38) dX7_peek_8 (by decide) (fun c8 => ?_) (fun c8 => ?_)
    · exact hk
    · exact absurd (nI_le (Nat.le_refl p) (by omega)) c8
  | succ k ih =>
    intro p hp hk
    have hlt : p < e := by omega
    have hv : b (nI p).toNatClampNeg = b p := by rw [nI_clamp (by omega)]
    refine mt_aload_n (pc := 0) dX7_peek_0 rfl ?_
    refine mt_get (pc := 1) gf_X7_31 dX7_peek_1 (by first | assumption | omega) (by first | exact hset_eq _ _ _ | assumption | simp only [hset_eq, hset_ne, ne_eq, not_false_eq_true, *]) rfl ?_
    refine mt_aload_n (pc := 4) dX7_peek_4 rfl ?_
    refine mt_get (pc := 5) gf_X7_28 dX7_peek_5 (by first | assumption | omega) (by first | exact hset_eq _ _ _ | assumption | simp only [hset_eq, hset_ne, ne_eq, not_false_eq_true, *]) rfl ?_
    refine mt_icmp_ge (pc := 8) (tgt := 38) dX7_peek_8 (by decide) (fun c8 => ?_) (fun c8 => ?_)
    · exact absurd c8 (nI_ge hlt (by omega))
    · skip
      refine mt_aload_n (pc := 11) dX7_peek_11 rfl ?_
      refine mt_get (pc := 12) gf_X7_9 dX7_peek_12 (by first | assumption | omega) (by first | exact hset_eq _ _ _ | assumption | simp only [hset_eq, hset_ne, ne_eq, not_false_eq_true, *]) rfl ?_
      refine mt_aload_n (pc := 15) dX7_peek_15 rfl ?_
      refine mt_get (pc := 16) gf_X7_31 dX7_peek_16 (by first | assumption | omega) (by first | exact hset_eq _ _ _ | assumption | simp only [hset_eq, hset_ne, ne_eq, not_false_eq_true, *]) rfl ?_
      refine mt_bald (pc := 19) dX7_peek_19 (by first | assumption | omega) (by first | exact hset_eq _ _ _ | assumption | simp only [hset_eq, hset_ne, ne_eq, not_false_eq_true, *]) (vp_in_nI (by omega) (by decide)) ?_
      refine mt_bipush (pc := 20) (v := 32) dX7_peek_20 (by decide) ?_
      refine mt_icmp_ne (pc := 22) (tgt := 38) dX7_peek_22 (by decide) (fun c22 => ?_) (fun c22 => ?_)
      · (rw [hv] at c22; simp only [skf, hlt, c22, and_false, if_false] at hk; exact hk)
      · skip
        rw [hv] at c22
        refine mt_aload_n (pc := 25) dX7_peek_25 rfl ?_
        refine mt_dup (pc := 26) dX7_peek_26 rfl ?_
        refine mt_get (pc := 27) gf_X7_31 dX7_peek_27 (by first | assumption | omega) (by first | exact hset_eq _ _ _ | assumption | simp only [hset_eq, hset_ne, ne_eq, not_false_eq_true, *]) rfl ?_
        refine mt_iconst (pc := 30) (v := 1) dX7_peek_30 (by decide) ?_
        refine mt_iadd (pc := 31) dX7_peek_31 ?_
        first
          | refine mt_puti2 (pc := 32) pf_X7_31 dX7_peek_32 (by first | assumption | omega) (Nat.le_of_ble_eq_true rfl) ?_
          | refine mt_puti (pc := 32) pf_X7_31 dX7_peek_32 (by first | assumption | omega) (by first | exact hset_eq _ _ _ | assumption | simp only [hset_eq, hset_ne, ne_eq, not_false_eq_true, *]) (Nat.le_of_ble_eq_true rfl) ?_
        refine mt_goto (tgt := 0) dX7_peek_35 (by decide) ?_
        rw [show (nI p + 1 : Int32) = nI (p + 1) from nI_1 p]
        refine ih (p + 1) (by omega) ?_
        have e1 : skf b e (k + 1) p = skf b e k (p + 1) := by simp only [skf]; rw [if_pos ⟨hlt, c22⟩]
        rw [← e1]
        exact hk
theorem c_peek {e p : Nat} (hx : 3 ≤ nx) (hB : h 2 = byE b) (hT : h 1 = tpE sz (nI e) (nI p) st fk fp) (hp : p ≤ e) (he : e ≤ 600) : mm_Con G l yX7_peek cX7_peek 1 (some .int) d 0 0 [.ref 1] nx h (mm_ret (some (.int (pk b e p))) nx (hset h 1 (tpE sz (nI e) (nI (sk b e p)) st fk fp))) := by
  refine mm_start (lo := [some (.ref 1)]) pn_X7 rfl rfl (Nat.le_of_ble_eq_true rfl) ?_
  rw [show h = hset h 1 (tpE sz (nI e) (nI p) st fk fp) from (hset_self hT).symm]
  refine l_peek hx hB he (e - p) p (by omega) ?_
  have hq := sk_le (b := b) hp
  show mm_T _ _ _ _ (hset h 1 (tpE sz (nI e) (nI (sk b e p)) st fk fp)) _ _ _ _ _
  rw [hset_hset]
  generalize hqe : sk b e p = q at hq
  refine mt_aload_n (pc := 38) dX7_peek_38 rfl ?_
  refine mt_get (pc := 39) gf_X7_31 dX7_peek_39 (by first | assumption | omega) (by first | exact hset_eq _ _ _ | assumption | simp only [hset_eq, hset_ne, ne_eq, not_false_eq_true, *]) rfl ?_
  refine mt_aload_n (pc := 42) dX7_peek_42 rfl ?_
  refine mt_get (pc := 43) gf_X7_28 dX7_peek_43 (by first | assumption | omega) (by first | exact hset_eq _ _ _ | assumption | simp only [hset_eq, hset_ne, ne_eq, not_false_eq_true, *]) rfl ?_
  refine mt_icmp_ge (pc := 46) (tgt := 65) dX7_peek_46 (by decide) (fun c46 => ?_) (fun c46 => ?_)
  · skip
    have hge : ¬ q < e := fun z => nI_ge z (by omega) c46
    refine mt_iconst (pc := 65) (v := (-1)) dX7_peek_65 (by decide) ?_
    exact mt_iret rfl dX7_peek_66 (Nat.le_of_ble_eq_true rfl) (Nat.le_of_ble_eq_true rfl) ⟨by simp only [pk, hqe, if_neg hge], rfl, rfl⟩
  · skip
    refine mt_aload_n (pc := 49) dX7_peek_49 rfl ?_
    refine mt_get (pc := 50) gf_X7_9 dX7_peek_50 (by first | assumption | omega) (by first | exact hset_eq _ _ _ | assumption | simp only [hset_eq, hset_ne, ne_eq, not_false_eq_true, *]) rfl ?_
    refine mt_aload_n (pc := 53) dX7_peek_53 rfl ?_
    refine mt_get (pc := 54) gf_X7_31 dX7_peek_54 (by first | assumption | omega) (by first | exact hset_eq _ _ _ | assumption | simp only [hset_eq, hset_ne, ne_eq, not_false_eq_true, *]) rfl ?_
    have hlt : q < e := Nat.lt_of_not_le fun z => c46 (nI_le z (by omega))
    have hv : b (nI q).toNatClampNeg = b q := by rw [nI_clamp (by omega)]
    refine mt_bald (pc := 57) dX7_peek_57 (by first | assumption | omega) (by first | exact hset_eq _ _ _ | assumption | simp only [hset_eq, hset_ne, ne_eq, not_false_eq_true, *]) (vp_in_nI (by omega) (by decide)) ?_
    refine mt_sipush (pc := 58) (v := 255) dX7_peek_58 (by decide) ?_
    refine mt_iand (pc := 61) dX7_peek_61 ?_
    refine mt_goto (tgt := 66) dX7_peek_62 (by decide) ?_
    exact mt_iret rfl dX7_peek_66 (Nat.le_of_ble_eq_true rfl) (Nat.le_of_ble_eq_true rfl) ⟨by simp only [pk, hqe, if_pos hlt, hv], rfl, rfl⟩
/-- takeEnd: nothing more, or a FAULT of kind 1 where something stands -/
def P_end (b : Nat → Int32) (e p : Nat) (sz st fk fp : Int32) (nx : Nat) (h : Nat → mm_E) : mm_P := fun o n k => n = nx ∧ ((sk b e p = e ∧ o = .inl (some (.int 1)) ∧ k = hset h 1 (tpE sz (nI e) (nI (sk b e p)) st fk fp)) ∨ (sk b e p < e ∧ o = .inl (some (.int 0)) ∧ k = hset h 1 (tpE sz (nI e) (nI (sk b e p)) st 1 (nI (sk b e p)))))
theorem and255_ne (x : Int32) : ¬ x &&& 255 = -1 := by
  intro hq
  have h1 := pk_andE x (m := 255) 8 (by decide)
  obtain ⟨j, hj, hx⟩ := h1
  rw [hx] at hq
  have h2 := congrArg Int32.toInt hq
  rw [nI_toInt (by omega)] at h2
  have h3 : (-1 : Int32).toInt = -1 := by decide
  omega
theorem pk_none {b : Nat → Int32} {e p : Nat} (hp : p ≤ e) : pk b e p = -1 ↔ sk b e p = e := by
  have hq := sk_le (b := b) hp
  constructor
  · intro hk
    by_cases hlt : sk b e p < e
    · simp only [pk, if_pos hlt] at hk
      exact absurd hk (and255_ne _)
    · omega
  · intro hk
    simp only [pk, hk, Nat.lt_irrefl, if_false]
theorem c_takeEnd {e p : Nat} (hd : 1 ≤ d) (hx : 3 ≤ nx) (hB : h 2 = byE b) (hT : h 1 = tpE sz (nI e) (nI p) st fk fp) (hp : p ≤ e) (he : e ≤ 600) : mm_Con G l yX7_takeEnd cX7_takeEnd 1 (some .boolean) d 0 0 [.ref 1] nx h (P_end b e p sz st fk fp nx h) := by
  refine mm_start (lo := [some (.ref 1)]) pn_X7 rfl rfl (Nat.le_of_ble_eq_true rfl) ?_
  have hq := sk_le (b := b) hp
  refine mt_aload_n (pc := 0) dX7_takeEnd_0 rfl ?_
  refine mt_cV (pc := 1) (c_peek (d := 0) hx hB hT hp he) cal_X7_peek vir_X7_peek ml_X7_40 dX7_takeEnd_1 (by first | assumption | omega) (by first | exact hset_eq _ _ _ | assumption | simp only [hset_eq, hset_ne, ne_eq, not_false_eq_true, *]) hd ⟨(Nat.le_of_ble_eq_true rfl), (Nat.le_of_ble_eq_true rfl)⟩ rfl rfl (Nat.le_of_ble_eq_true rfl) ?_
  refine mt_iconst (pc := 4) (v := (-1)) dX7_takeEnd_4 (by decide) ?_
  refine mt_icmp_eq (pc := 5) (tgt := 16) dX7_takeEnd_5 (by decide) (fun c5 => ?_) (fun c5 => ?_)
  · skip
    have hk := (pk_none hp).mp c5
    refine mt_iconst (pc := 16) (v := 1) dX7_takeEnd_16 (by decide) ?_
    refine mt_goto (tgt := 21) dX7_takeEnd_17 (by decide) ?_
    exact mt_zret rfl (Or.inr rfl) dX7_takeEnd_21 (Nat.le_of_ble_eq_true rfl) (Nat.le_of_ble_eq_true rfl) ⟨rfl, Or.inl ⟨hk, rfl, rfl⟩⟩
  · skip
    have hk : sk b e p < e := Nat.lt_of_le_of_ne hq.2 fun z => c5 ((pk_none hp).mpr z)
    refine mt_aload_n (pc := 8) dX7_takeEnd_8 rfl ?_
    refine mt_iconst (pc := 9) (v := 1) dX7_takeEnd_9 (by decide) ?_
    refine mt_cV (pc := 10) (c_failHere (d := 0) hx (hset_eq _ _ _)) cal_X7_failHere vir_X7_failHere ml_X7_44 dX7_takeEnd_10 (by first | assumption | omega) (by first | exact hset_eq _ _ _ | assumption | simp only [hset_eq, hset_ne, ne_eq, not_false_eq_true, *]) hd ⟨(Nat.le_of_ble_eq_true rfl), (Nat.le_of_ble_eq_true rfl)⟩ rfl rfl (Nat.le_of_ble_eq_true rfl) ?_
    refine mt_if_eq (pc := 13) (tgt := 20) dX7_takeEnd_13 (by decide) (fun c13 => ?_) (fun c13 => ?_)
    · skip
      rw [hset_hset]
      refine mt_iconst (pc := 20) (v := 0) dX7_takeEnd_20 (by decide) ?_
      exact mt_zret rfl (by first | exact Or.inl rfl | exact Or.inr rfl) dX7_takeEnd_21 (Nat.le_of_ble_eq_true rfl) (Nat.le_of_ble_eq_true rfl) ⟨rfl, Or.inr ⟨hk, rfl, rfl⟩⟩
    · exact absurd rfl c13
/-- takeSign -/
def P_sign (b : Nat → Int32) (e p : Nat) (c : Int32) (sz st fk fp : Int32) (nx : Nat) (h : Nat → mm_E) : mm_P := fun o n k => n = nx ∧ ((pk b e p = c ∧ o = .inl (some (.int 1)) ∧ k = hset h 1 (tpE sz (nI e) (nI (sk b e p + 1)) st fk fp)) ∨ (¬ pk b e p = c ∧ o = .inl (some (.int 0)) ∧ k = hset h 1 (tpE sz (nI e) (nI (sk b e p)) st 1 (nI (sk b e p)))))
theorem c_takeSign {e p : Nat} {c : Int32} (hd : 1 ≤ d) (hx : 3 ≤ nx) (hB : h 2 = byE b) (hT : h 1 = tpE sz (nI e) (nI p) st fk fp) (hp : p ≤ e) (he : e ≤ 600) : mm_Con G l yX7_takeSign cX7_takeSign 2 (some .boolean) d 0 0 [.ref 1, .int c] nx h (P_sign b e p c sz st fk fp nx h) := by
  refine mm_start (lo := [some (.ref 1), some (.int c)]) pn_X7 rfl rfl (Nat.le_of_ble_eq_true rfl) ?_
  refine mt_aload_n (pc := 0) dX7_takeSign_0 rfl ?_
  refine mt_cV (pc := 1) (c_peek (d := 0) hx hB hT hp he) cal_X7_peek vir_X7_peek ml_X7_40 dX7_takeSign_1 (by first | assumption | omega) (by first | exact hset_eq _ _ _ | assumption | simp only [hset_eq, hset_ne, ne_eq, not_false_eq_true, *]) hd ⟨(Nat.le_of_ble_eq_true rfl), (Nat.le_of_ble_eq_true rfl)⟩ rfl rfl (Nat.le_of_ble_eq_true rfl) ?_
  refine mt_iload_n (pc := 4) dX7_takeSign_4 rfl ?_
  refine mt_icmp_eq (pc := 5) (tgt := 14) dX7_takeSign_5 (by decide) (fun c5 => ?_) (fun c5 => ?_)
  · skip
    refine mt_aload_n (pc := 14) dX7_takeSign_14 rfl ?_
    refine mt_dup (pc := 15) dX7_takeSign_15 rfl ?_
    refine mt_get (pc := 16) gf_X7_31 dX7_takeSign_16 (by first | assumption | omega) (by first | exact hset_eq _ _ _ | assumption | simp only [hset_eq, hset_ne, ne_eq, not_false_eq_true, *]) rfl ?_
    refine mt_iconst (pc := 19) (v := 1) dX7_takeSign_19 (by decide) ?_
    refine mt_iadd (pc := 20) dX7_takeSign_20 ?_
    first
      | refine mt_puti2 (pc := 21) pf_X7_31 dX7_takeSign_21 (by first | assumption | omega) (Nat.le_of_ble_eq_true rfl) ?_
      | refine mt_puti (pc := 21) pf_X7_31 dX7_takeSign_21 (by first | assumption | omega) (by first | exact hset_eq _ _ _ | assumption | simp only [hset_eq, hset_ne, ne_eq, not_false_eq_true, *]) (Nat.le_of_ble_eq_true rfl) ?_
    rw [show (nI (sk b e p) + 1 : Int32) = nI (sk b e p + 1) from nI_1 _]
    refine mt_iconst (pc := 24) (v := 1) dX7_takeSign_24 (by decide) ?_
    exact mt_zret rfl (by first | exact Or.inl rfl | exact Or.inr rfl) dX7_takeSign_25 (Nat.le_of_ble_eq_true rfl) (Nat.le_of_ble_eq_true rfl) ⟨rfl, Or.inl ⟨c5, rfl, rfl⟩⟩
  · skip
    refine mt_aload_n (pc := 8) dX7_takeSign_8 rfl ?_
    refine mt_iconst (pc := 9) (v := 1) dX7_takeSign_9 (by decide) ?_
    refine mt_cV (pc := 10) (c_failHere (d := 0) hx (hset_eq _ _ _)) cal_X7_failHere vir_X7_failHere ml_X7_44 dX7_takeSign_10 (by first | assumption | omega) (by first | exact hset_eq _ _ _ | assumption | simp only [hset_eq, hset_ne, ne_eq, not_false_eq_true, *]) hd ⟨(Nat.le_of_ble_eq_true rfl), (Nat.le_of_ble_eq_true rfl)⟩ rfl rfl (Nat.le_of_ble_eq_true rfl) ?_
    rw [hset_hset]
    exact mt_zret rfl (by first | exact Or.inl rfl | exact Or.inr rfl) dX7_takeSign_13 (Nat.le_of_ble_eq_true rfl) (Nat.le_of_ble_eq_true rfl) ⟨rfl, Or.inr ⟨c5, rfl, rfl⟩⟩
end TAPE
