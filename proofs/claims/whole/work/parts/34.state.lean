/-! State: an object with one row of 84. -/
abbrev stE (r : Nat) : mm_E := .inr (6, [.ref r])
abbrev rwE (f : Nat → Int32) : mm_E := .inl (0, 84, .inl f)
theorem mm_at_nI {f : Nat → Int32} {n i : Nat} (hi : i < n) (hn : n < 2 ^ 31) : mm_at f n (nI i) = f i := by
  simp only [mm_at]
  rw [if_neg (nI_pos (by omega)), if_neg (nI_ge hi hn), nI_clamp (by omega)]
theorem mm_wr_nI {f : Nat → Int32} {n i : Nat} {x : Int32} (hi : i < n) (hn : n < 2 ^ 31) : mm_wr f n (nI i) x = upd f i x := by
  simp only [mm_wr]
  rw [if_neg (nI_pos (by omega)), if_neg (nI_ge hi hn), nI_clamp (by omega)]
theorem upd_eq (f : Nat → Int32) (k : Nat) (x : Int32) : upd f k x k = x := by simp [upd]
theorem upd_ne {f : Nat → Int32} {k j : Nat} {x : Int32} (h : j ≠ k) : upd f k x j = f j := by simp [upd, h]
/-- a loop's sum: from the first on -/
def fld (g : Nat → Int32 → Int32) (a : Int32) : Nat → Int32
  | 0 => a
  | n + 1 => g n (fld g a n)
section STATE
variable {G : mm_G} {l : Launch} {d nx : Nat} {h : Nat → mm_E} {s r : Nat} {f : Nat → Int32}
theorem c_night (hs : s < nx) (hr : r < nx) (hS : h s = stE r) (hR : h r = rwE f) : mm_Con G l yX6_night cX6_night 1 (some .int) d 0 0 [.ref s] nx h (mm_ret (some (.int (f 0))) nx h) := by
  refine mm_start (lo := [some (.ref s)]) pn_X6 rfl rfl (Nat.le_of_ble_eq_true rfl) ?_
  refine mt_aload_n (pc := 0) dX6_night_0 rfl ?_
  refine mt_get (pc := 1) gf_X6_11 dX6_night_1 (by first | assumption | omega) (by repeat (first | exact hset_eq _ _ _ | assumption | rw [hset_ne (by first | assumption | decide | omega)])) rfl ?_
  refine mt_iconst (pc := 4) (v := 0) dX6_night_4 (by decide) ?_
  refine mt_iald (pc := 5) dX6_night_5 (by first | assumption | omega) (by repeat (first | exact hset_eq _ _ _ | assumption | rw [hset_ne (by first | assumption | decide | omega)])) (vp_in_nI (n := 0) (by decide) (by decide)) ?_
  exact mt_iret rfl dX6_night_6 (Nat.le_of_ble_eq_true rfl) (Nat.le_of_ble_eq_true rfl) ⟨rfl, rfl, rfl⟩
theorem c_sealedSlabs (hs : s < nx) (hr : r < nx) (hS : h s = stE r) (hR : h r = rwE f) : mm_Con G l yX6_sealedSlabs cX6_sealedSlabs 1 (some .int) d 0 0 [.ref s] nx h (mm_ret (some (.int (f 1))) nx h) := by
  refine mm_start (lo := [some (.ref s)]) pn_X6 rfl rfl (Nat.le_of_ble_eq_true rfl) ?_
  refine mt_aload_n (pc := 0) dX6_sealedSlabs_0 rfl ?_
  refine mt_get (pc := 1) gf_X6_11 dX6_sealedSlabs_1 (by first | assumption | omega) (by repeat (first | exact hset_eq _ _ _ | assumption | rw [hset_ne (by first | assumption | decide | omega)])) rfl ?_
  refine mt_iconst (pc := 4) (v := 1) dX6_sealedSlabs_4 (by decide) ?_
  refine mt_iald (pc := 5) dX6_sealedSlabs_5 (by first | assumption | omega) (by repeat (first | exact hset_eq _ _ _ | assumption | rw [hset_ne (by first | assumption | decide | omega)])) (vp_in_nI (n := 1) (by decide) (by decide)) ?_
  exact mt_iret rfl dX6_sealedSlabs_6 (Nat.le_of_ble_eq_true rfl) (Nat.le_of_ble_eq_true rfl) ⟨rfl, rfl, rfl⟩
theorem c_paid (hs : s < nx) (hr : r < nx) (hS : h s = stE r) (hR : h r = rwE f) : mm_Con G l yX6_paid cX6_paid 1 (some .int) d 0 0 [.ref s] nx h (mm_ret (some (.int (f 2))) nx h) := by
  refine mm_start (lo := [some (.ref s)]) pn_X6 rfl rfl (Nat.le_of_ble_eq_true rfl) ?_
  refine mt_aload_n (pc := 0) dX6_paid_0 rfl ?_
  refine mt_get (pc := 1) gf_X6_11 dX6_paid_1 (by first | assumption | omega) (by repeat (first | exact hset_eq _ _ _ | assumption | rw [hset_ne (by first | assumption | decide | omega)])) rfl ?_
  refine mt_iconst (pc := 4) (v := 2) dX6_paid_4 (by decide) ?_
  refine mt_iald (pc := 5) dX6_paid_5 (by first | assumption | omega) (by repeat (first | exact hset_eq _ _ _ | assumption | rw [hset_ne (by first | assumption | decide | omega)])) (vp_in_nI (n := 2) (by decide) (by decide)) ?_
  exact mt_iret rfl dX6_paid_6 (Nat.le_of_ble_eq_true rfl) (Nat.le_of_ble_eq_true rfl) ⟨rfl, rfl, rfl⟩
theorem c_loans (hs : s < nx) (hr : r < nx) (hS : h s = stE r) (hR : h r = rwE f) : mm_Con G l yX6_loans cX6_loans 1 (some .int) d 0 0 [.ref s] nx h (mm_ret (some (.int (f 3))) nx h) := by
  refine mm_start (lo := [some (.ref s)]) pn_X6 rfl rfl (Nat.le_of_ble_eq_true rfl) ?_
  refine mt_aload_n (pc := 0) dX6_loans_0 rfl ?_
  refine mt_get (pc := 1) gf_X6_11 dX6_loans_1 (by first | assumption | omega) (by repeat (first | exact hset_eq _ _ _ | assumption | rw [hset_ne (by first | assumption | decide | omega)])) rfl ?_
  refine mt_iconst (pc := 4) (v := 3) dX6_loans_4 (by decide) ?_
  refine mt_iald (pc := 5) dX6_loans_5 (by first | assumption | omega) (by repeat (first | exact hset_eq _ _ _ | assumption | rw [hset_ne (by first | assumption | decide | omega)])) (vp_in_nI (n := 3) (by decide) (by decide)) ?_
  exact mt_iret rfl dX6_loans_6 (Nat.le_of_ble_eq_true rfl) (Nat.le_of_ble_eq_true rfl) ⟨rfl, rfl, rfl⟩
theorem c_addNight (hs : s < nx) (hr : r < nx) (hS : h s = stE r) (hR : h r = rwE f) : mm_Con G l yX6_addNight cX6_addNight 1 none d 0 0 [.ref s] nx h (mm_ret none nx (hset h r (rwE (upd f 0 (f 0 + 1))))) := by
  refine mm_start (lo := [some (.ref s)]) pn_X6 rfl rfl (Nat.le_of_ble_eq_true rfl) ?_
  refine mt_aload_n (pc := 0) dX6_addNight_0 rfl ?_
  refine mt_get (pc := 1) gf_X6_11 dX6_addNight_1 (by first | assumption | omega) (by repeat (first | exact hset_eq _ _ _ | assumption | rw [hset_ne (by first | assumption | decide | omega)])) rfl ?_
  refine mt_iconst (pc := 4) (v := 0) dX6_addNight_4 (by decide) ?_
  refine mt_dup2 (pc := 5) dX6_addNight_5 rfl rfl ?_
  refine mt_iald (pc := 6) dX6_addNight_6 (by first | assumption | omega) (by repeat (first | exact hset_eq _ _ _ | assumption | rw [hset_ne (by first | assumption | decide | omega)])) (vp_in_nI (n := 0) (by decide) (by decide)) ?_
  refine mt_iconst (pc := 7) (v := 1) dX6_addNight_7 (by decide) ?_
  refine mt_iadd (pc := 8) dX6_addNight_8 ?_
  first
    | refine mt_iast2 (pc := 9) dX6_addNight_9 (by first | assumption | omega) (vp_in_nI (n := 0) (by decide) (by decide)) ?_
    | refine mt_iast (pc := 9) dX6_addNight_9 (by first | assumption | omega) (by repeat (first | exact hset_eq _ _ _ | assumption | rw [hset_ne (by first | assumption | decide | omega)])) (vp_in_nI (n := 0) (by decide) (by decide)) ?_
  exact mt_vret rfl dX6_addNight_10 (Nat.le_of_ble_eq_true rfl) (Nat.le_of_ble_eq_true rfl) ⟨rfl, rfl, rfl⟩
theorem c_isSealed {x : Int32} (hs : s < nx) (hr : r < nx) (hS : h s = stE r) (hR : h r = rwE f) : mm_Con G l yX6_isSealed cX6_isSealed 2 (some .boolean) d 0 0 [.ref s, .int x] nx h (mm_ret (some (.int (if (f 1 >>> (x &&& 31)) &&& 1 = 1 then 1 else 0))) nx h) := by
  refine mm_start (lo := [some (.ref s), some (.int x)]) pn_X6 rfl rfl (Nat.le_of_ble_eq_true rfl) ?_
  have e1 : f (1 : Int32).toNatClampNeg = f 1 := rfl
  refine mt_aload_n (pc := 0) dX6_isSealed_0 rfl ?_
  refine mt_get (pc := 1) gf_X6_11 dX6_isSealed_1 (by first | assumption | omega) (by repeat (first | exact hset_eq _ _ _ | assumption | rw [hset_ne (by first | assumption | decide | omega)])) rfl ?_
  refine mt_iconst (pc := 4) (v := 1) dX6_isSealed_4 (by decide) ?_
  refine mt_iald (pc := 5) dX6_isSealed_5 (by first | assumption | omega) (by repeat (first | exact hset_eq _ _ _ | assumption | rw [hset_ne (by first | assumption | decide | omega)])) (vp_in_nI (n := 1) (by decide) (by decide)) ?_
  refine mt_iload_n (pc := 6) dX6_isSealed_6 rfl ?_
  refine mt_ishr (pc := 7) dX6_isSealed_7 ?_
  refine mt_iconst (pc := 8) (v := 1) dX6_isSealed_8 (by decide) ?_
  refine mt_iand (pc := 9) dX6_isSealed_9 ?_
  refine mt_iconst (pc := 10) (v := 1) dX6_isSealed_10 (by decide) ?_
  refine mt_icmp_ne (pc := 11) (tgt := 18) dX6_isSealed_11 (by decide) (fun c11 => ?_) (fun c11 => ?_)
  · skip
    have e2 : (if (f 1 >>> (x &&& 31)) &&& 1 = 1 then (1 : Int32) else 0) = 0 := if_neg c11
    refine mt_iconst (pc := 18) (v := 0) dX6_isSealed_18 (by decide) ?_
    exact mt_zret rfl (by first | exact Or.inl rfl | exact Or.inr rfl) dX6_isSealed_19 (Nat.le_of_ble_eq_true rfl) (Nat.le_of_ble_eq_true rfl) ⟨by rw [e2], rfl, rfl⟩
  · skip
    have e2 : (if (f 1 >>> (x &&& 31)) &&& 1 = 1 then (1 : Int32) else 0) = 1 := if_pos c11
    refine mt_iconst (pc := 14) (v := 1) dX6_isSealed_14 (by decide) ?_
    refine mt_goto (pc := 15) (tgt := 19) dX6_isSealed_15 (by decide) ?_
    exact mt_zret rfl (by first | exact Or.inl rfl | exact Or.inr rfl) dX6_isSealed_19 (Nat.le_of_ble_eq_true rfl) (Nat.le_of_ble_eq_true rfl) ⟨by rw [e2], rfl, rfl⟩
theorem c_setSealed {x z : Int32} (hs : s < nx) (hr : r < nx) (hS : h s = stE r) (hR : h r = rwE f) : mm_Con G l yX6_setSealed cX6_setSealed 4 none d 0 0 [.ref s, .int x, .int z] nx h (mm_ret none nx (hset h r (rwE (upd f 1 (if z = 0 then f 1 &&& (((1 : Int32) <<< (x &&& 31)) ^^^ (-1)) else (f 1 &&& (((1 : Int32) <<< (x &&& 31)) ^^^ (-1))) ||| ((1 : Int32) <<< (x &&& 31))))))) := by
  refine mm_start (lo := [some (.ref s), some (.int x), some (.int z), none]) pn_X6 rfl rfl (Nat.le_of_ble_eq_true rfl) ?_
  refine mt_aload_n (pc := 0) dX6_setSealed_0 rfl ?_
  refine mt_get (pc := 1) gf_X6_11 dX6_setSealed_1 (by first | assumption | omega) (by repeat (first | exact hset_eq _ _ _ | assumption | rw [hset_ne (by first | assumption | decide | omega)])) rfl ?_
  refine mt_iconst (pc := 4) (v := 1) dX6_setSealed_4 (by decide) ?_
  refine mt_iald (pc := 5) dX6_setSealed_5 (by first | assumption | omega) (by repeat (first | exact hset_eq _ _ _ | assumption | rw [hset_ne (by first | assumption | decide | omega)])) (vp_in_nI (n := 1) (by decide) (by decide)) ?_
  refine mt_iconst (pc := 6) (v := 1) dX6_setSealed_6 (by decide) ?_
  refine mt_iload_n (pc := 7) dX6_setSealed_7 rfl ?_
  refine mt_ishl (pc := 8) dX6_setSealed_8 ?_
  refine mt_iconst (pc := 9) (v := (-1)) dX6_setSealed_9 (by decide) ?_
  refine mt_ixor (pc := 10) dX6_setSealed_10 ?_
  refine mt_iand (pc := 11) dX6_setSealed_11 ?_
  refine mt_istore_n (pc := 12) dX6_setSealed_12 (Nat.le_of_ble_eq_true rfl) rfl ?_
  refine mt_aload_n (pc := 13) dX6_setSealed_13 rfl ?_
  refine mt_get (pc := 14) gf_X6_11 dX6_setSealed_14 (by first | assumption | omega) (by repeat (first | exact hset_eq _ _ _ | assumption | rw [hset_ne (by first | assumption | decide | omega)])) rfl ?_
  refine mt_iconst (pc := 17) (v := 1) dX6_setSealed_17 (by decide) ?_
  refine mt_iload_n (pc := 18) dX6_setSealed_18 rfl ?_
  refine mt_if_eq (pc := 19) (tgt := 30) dX6_setSealed_19 (by decide) (fun c19 => ?_) (fun c19 => ?_)
  · skip
    rw [if_pos c19]
    refine mt_iload_n (pc := 30) dX6_setSealed_30 rfl ?_
    first
      | refine mt_iast2 (pc := 31) dX6_setSealed_31 (by first | assumption | omega) (vp_in_nI (n := 1) (by decide) (by decide)) ?_
      | refine mt_iast (pc := 31) dX6_setSealed_31 (by first | assumption | omega) (by repeat (first | exact hset_eq _ _ _ | assumption | rw [hset_ne (by first | assumption | decide | omega)])) (vp_in_nI (n := 1) (by decide) (by decide)) ?_
    exact mt_vret rfl dX6_setSealed_32 (Nat.le_of_ble_eq_true rfl) (Nat.le_of_ble_eq_true rfl) ⟨rfl, rfl, rfl⟩
  · skip
    rw [if_neg c19]
    refine mt_iload_n (pc := 22) dX6_setSealed_22 rfl ?_
    refine mt_iconst (pc := 23) (v := 1) dX6_setSealed_23 (by decide) ?_
    refine mt_iload_n (pc := 24) dX6_setSealed_24 rfl ?_
    refine mt_ishl (pc := 25) dX6_setSealed_25 ?_
    refine mt_ior (pc := 26) dX6_setSealed_26 ?_
    refine mt_goto (pc := 27) (tgt := 31) dX6_setSealed_27 (by decide) ?_
    first
      | refine mt_iast2 (pc := 31) dX6_setSealed_31 (by first | assumption | omega) (vp_in_nI (n := 1) (by decide) (by decide)) ?_
      | refine mt_iast (pc := 31) dX6_setSealed_31 (by first | assumption | omega) (by repeat (first | exact hset_eq _ _ _ | assumption | rw [hset_ne (by first | assumption | decide | omega)])) (vp_in_nI (n := 1) (by decide) (by decide)) ?_
    exact mt_vret rfl dX6_setSealed_32 (Nat.le_of_ble_eq_true rfl) (Nat.le_of_ble_eq_true rfl) ⟨rfl, rfl, rfl⟩
theorem c_hasLoan {x : Int32} (hs : s < nx) (hr : r < nx) (hS : h s = stE r) (hR : h r = rwE f) : mm_Con G l yX6_hasLoan cX6_hasLoan 2 (some .boolean) d 0 0 [.ref s, .int x] nx h (mm_ret (some (.int (if x < 0 then 0 else if f 3 ≤ x then 0 else 1))) nx h) := by
  refine mm_start (lo := [some (.ref s), some (.int x)]) pn_X6 rfl rfl (Nat.le_of_ble_eq_true rfl) ?_
  refine mt_iload_n (pc := 0) dX6_hasLoan_0 rfl ?_
  refine mt_if_lt (pc := 1) (tgt := 18) dX6_hasLoan_1 (by decide) (fun c1 => ?_) (fun c1 => ?_)
  · skip
    have e2 : (if x < 0 then (0 : Int32) else if f 3 ≤ x then 0 else 1) = 0 := if_pos c1
    refine mt_iconst (pc := 18) (v := 0) dX6_hasLoan_18 (by decide) ?_
    exact mt_zret rfl (by first | exact Or.inl rfl | exact Or.inr rfl) dX6_hasLoan_19 (Nat.le_of_ble_eq_true rfl) (Nat.le_of_ble_eq_true rfl) ⟨by rw [e2], rfl, rfl⟩
  · skip
    refine mt_iload_n (pc := 4) dX6_hasLoan_4 rfl ?_
    refine mt_aload_n (pc := 5) dX6_hasLoan_5 rfl ?_
    refine mt_get (pc := 6) gf_X6_11 dX6_hasLoan_6 (by first | assumption | omega) (by repeat (first | exact hset_eq _ _ _ | assumption | rw [hset_ne (by first | assumption | decide | omega)])) rfl ?_
    refine mt_iconst (pc := 9) (v := 3) dX6_hasLoan_9 (by decide) ?_
    refine mt_iald (pc := 10) dX6_hasLoan_10 (by first | assumption | omega) (by repeat (first | exact hset_eq _ _ _ | assumption | rw [hset_ne (by first | assumption | decide | omega)])) (vp_in_nI (n := 3) (by decide) (by decide)) ?_
    refine mt_icmp_ge (pc := 11) (tgt := 18) dX6_hasLoan_11 (by decide) (fun c11 => ?_) (fun c11 => ?_)
    · skip
      have e2 : (if x < 0 then (0 : Int32) else if f 3 ≤ x then 0 else 1) = 0 := by rw [if_neg c1]; exact if_pos c11
      refine mt_iconst (pc := 18) (v := 0) dX6_hasLoan_18 (by decide) ?_
      exact mt_zret rfl (by first | exact Or.inl rfl | exact Or.inr rfl) dX6_hasLoan_19 (Nat.le_of_ble_eq_true rfl) (Nat.le_of_ble_eq_true rfl) ⟨by rw [e2], rfl, rfl⟩
    · skip
      have e2 : (if x < 0 then (0 : Int32) else if f 3 ≤ x then 0 else 1) = 1 := by rw [if_neg c1]; exact if_neg c11
      refine mt_iconst (pc := 14) (v := 1) dX6_hasLoan_14 (by decide) ?_
      refine mt_goto (pc := 15) (tgt := 19) dX6_hasLoan_15 (by decide) ?_
      exact mt_zret rfl (by first | exact Or.inl rfl | exact Or.inr rfl) dX6_hasLoan_19 (Nat.le_of_ble_eq_true rfl) (Nat.le_of_ble_eq_true rfl) ⟨by rw [e2], rfl, rfl⟩
theorem c_under {p : Nat} (hd : 1 ≤ d) (hp : p < 8) (hs : s < nx) (hr : r < nx) (hS : h s = stE r) (hR : h r = rwE f) : mm_Con G l yX6_under cX6_under 2 (some .int) d 0 0 [.ref s, .int (nI p)] nx h (mm_ret (some (.int (f (4 + p)))) nx h) := by
  refine mm_start (lo := [some (.ref s), some (.int (nI p))]) pn_X6 rfl rfl (Nat.le_of_ble_eq_true rfl) ?_
  refine mt_aload_n (pc := 0) dX6_under_0 rfl ?_
  refine mt_get (pc := 1) gf_X6_11 dX6_under_1 (by first | assumption | omega) (by repeat (first | exact hset_eq _ _ _ | assumption | rw [hset_ne (by first | assumption | decide | omega)])) rfl ?_
  refine mt_iconst (pc := 4) (v := 4) dX6_under_4 (by decide) ?_
  refine mt_iload_n (pc := 5) dX6_under_5 rfl ?_
  refine mt_iadd (pc := 6) dX6_under_6 ?_
  rw [show (4 + nI p : Int32) = nI (4 + p) from nI_add 4 p]
  refine mt_cN (pc := 7) (c_entry (d := 0) (i := nI (4 + p)) hr hR (by decide)) cal_X10_entry sta_X10_entry mn_X6_48 dX6_under_7 (by first | assumption | (show _ ≤ d; omega)) ⟨(Nat.le_of_ble_eq_true rfl), (Nat.le_of_ble_eq_true rfl)⟩ rfl rfl (Nat.le_of_ble_eq_true rfl) ?_
  exact mt_iret rfl dX6_under_10 (Nat.le_of_ble_eq_true rfl) (Nat.le_of_ble_eq_true rfl) ⟨by rw [mm_at_nI (by omega) (by decide)], rfl, rfl⟩
theorem c_setUnder {p : Nat} {x : Int32} (hd : 1 ≤ d) (hp : p < 8) (hs : s < nx) (hr : r < nx) (hS : h s = stE r) (hR : h r = rwE f) : mm_Con G l yX6_setUnder cX6_setUnder 3 none d 0 0 [.ref s, .int (nI p), .int x] nx h (mm_ret none nx (hset h r (rwE (upd f (4 + p) x)))) := by
  refine mm_start (lo := [some (.ref s), some (.int (nI p)), some (.int x)]) pn_X6 rfl rfl (Nat.le_of_ble_eq_true rfl) ?_
  refine mt_aload_n (pc := 0) dX6_setUnder_0 rfl ?_
  refine mt_get (pc := 1) gf_X6_11 dX6_setUnder_1 (by first | assumption | omega) (by repeat (first | exact hset_eq _ _ _ | assumption | rw [hset_ne (by first | assumption | decide | omega)])) rfl ?_
  refine mt_iconst (pc := 4) (v := 4) dX6_setUnder_4 (by decide) ?_
  refine mt_iload_n (pc := 5) dX6_setUnder_5 rfl ?_
  refine mt_iadd (pc := 6) dX6_setUnder_6 ?_
  refine mt_iload_n (pc := 7) dX6_setUnder_7 rfl ?_
  rw [show (4 + nI p : Int32) = nI (4 + p) from nI_add 4 p]
  refine mt_cN (pc := 8) (c_setEntry (d := 0) (i := nI (4 + p)) hr hR (by decide)) cal_X10_setEntry sta_X10_setEntry mn_X6_52 dX6_setUnder_8 (by first | assumption | (show _ ≤ d; omega)) ⟨(Nat.le_of_ble_eq_true rfl), (Nat.le_of_ble_eq_true rfl)⟩ rfl rfl (Nat.le_of_ble_eq_true rfl) ?_
  exact mt_vret rfl dX6_setUnder_11 (Nat.le_of_ble_eq_true rfl) (Nat.le_of_ble_eq_true rfl) ⟨rfl, rfl, by rw [mm_wr_nI (by omega) (by decide)]⟩
theorem c_standing {p : Nat} (hd : 1 ≤ d) (hp : p < 6) (hs : s < nx) (hr : r < nx) (hS : h s = stE r) (hR : h r = rwE f) : mm_Con G l yX6_standing cX6_standing 2 (some .int) d 0 0 [.ref s, .int (nI p)] nx h (mm_ret (some (.int (f (12 + p)))) nx h) := by
  refine mm_start (lo := [some (.ref s), some (.int (nI p))]) pn_X6 rfl rfl (Nat.le_of_ble_eq_true rfl) ?_
  refine mt_aload_n (pc := 0) dX6_standing_0 rfl ?_
  refine mt_get (pc := 1) gf_X6_11 dX6_standing_1 (by first | assumption | omega) (by repeat (first | exact hset_eq _ _ _ | assumption | rw [hset_ne (by first | assumption | decide | omega)])) rfl ?_
  refine mt_bipush (pc := 4) (v := 12) dX6_standing_4 (by decide) ?_
  refine mt_iload_n (pc := 6) dX6_standing_6 rfl ?_
  refine mt_iadd (pc := 7) dX6_standing_7 ?_
  rw [show (12 + nI p : Int32) = nI (12 + p) from nI_add 12 p]
  refine mt_cN (pc := 8) (c_entry (d := 0) (i := nI (12 + p)) hr hR (by decide)) cal_X10_entry sta_X10_entry mn_X6_48 dX6_standing_8 (by first | assumption | (show _ ≤ d; omega)) ⟨(Nat.le_of_ble_eq_true rfl), (Nat.le_of_ble_eq_true rfl)⟩ rfl rfl (Nat.le_of_ble_eq_true rfl) ?_
  exact mt_iret rfl dX6_standing_11 (Nat.le_of_ble_eq_true rfl) (Nat.le_of_ble_eq_true rfl) ⟨by rw [mm_at_nI (by omega) (by decide)], rfl, rfl⟩
theorem c_setStanding {p : Nat} {x : Int32} (hd : 1 ≤ d) (hp : p < 6) (hs : s < nx) (hr : r < nx) (hS : h s = stE r) (hR : h r = rwE f) : mm_Con G l yX6_setStanding cX6_setStanding 3 none d 0 0 [.ref s, .int (nI p), .int x] nx h (mm_ret none nx (hset h r (rwE (upd f (12 + p) x)))) := by
  refine mm_start (lo := [some (.ref s), some (.int (nI p)), some (.int x)]) pn_X6 rfl rfl (Nat.le_of_ble_eq_true rfl) ?_
  refine mt_aload_n (pc := 0) dX6_setStanding_0 rfl ?_
  refine mt_get (pc := 1) gf_X6_11 dX6_setStanding_1 (by first | assumption | omega) (by repeat (first | exact hset_eq _ _ _ | assumption | rw [hset_ne (by first | assumption | decide | omega)])) rfl ?_
  refine mt_bipush (pc := 4) (v := 12) dX6_setStanding_4 (by decide) ?_
  refine mt_iload_n (pc := 6) dX6_setStanding_6 rfl ?_
  refine mt_iadd (pc := 7) dX6_setStanding_7 ?_
  refine mt_iload_n (pc := 8) dX6_setStanding_8 rfl ?_
  rw [show (12 + nI p : Int32) = nI (12 + p) from nI_add 12 p]
  refine mt_cN (pc := 9) (c_setEntry (d := 0) (i := nI (12 + p)) hr hR (by decide)) cal_X10_setEntry sta_X10_setEntry mn_X6_52 dX6_setStanding_9 (by first | assumption | (show _ ≤ d; omega)) ⟨(Nat.le_of_ble_eq_true rfl), (Nat.le_of_ble_eq_true rfl)⟩ rfl rfl (Nat.le_of_ble_eq_true rfl) ?_
  exact mt_vret rfl dX6_setStanding_12 (Nat.le_of_ble_eq_true rfl) (Nat.le_of_ble_eq_true rfl) ⟨rfl, rfl, by rw [mm_wr_nI (by omega) (by decide)]⟩
theorem c_purse {p : Nat} (hd : 1 ≤ d) (hp : p < 6) (hs : s < nx) (hr : r < nx) (hS : h s = stE r) (hR : h r = rwE f) : mm_Con G l yX6_purse cX6_purse 2 (some .int) d 0 0 [.ref s, .int (nI p)] nx h (mm_ret (some (.int (f (18 + p)))) nx h) := by
  refine mm_start (lo := [some (.ref s), some (.int (nI p))]) pn_X6 rfl rfl (Nat.le_of_ble_eq_true rfl) ?_
  refine mt_aload_n (pc := 0) dX6_purse_0 rfl ?_
  refine mt_get (pc := 1) gf_X6_11 dX6_purse_1 (by first | assumption | omega) (by repeat (first | exact hset_eq _ _ _ | assumption | rw [hset_ne (by first | assumption | decide | omega)])) rfl ?_
  refine mt_bipush (pc := 4) (v := 18) dX6_purse_4 (by decide) ?_
  refine mt_iload_n (pc := 6) dX6_purse_6 rfl ?_
  refine mt_iadd (pc := 7) dX6_purse_7 ?_
  rw [show (18 + nI p : Int32) = nI (18 + p) from nI_add 18 p]
  refine mt_cN (pc := 8) (c_entry (d := 0) (i := nI (18 + p)) hr hR (by decide)) cal_X10_entry sta_X10_entry mn_X6_48 dX6_purse_8 (by first | assumption | (show _ ≤ d; omega)) ⟨(Nat.le_of_ble_eq_true rfl), (Nat.le_of_ble_eq_true rfl)⟩ rfl rfl (Nat.le_of_ble_eq_true rfl) ?_
  exact mt_iret rfl dX6_purse_11 (Nat.le_of_ble_eq_true rfl) (Nat.le_of_ble_eq_true rfl) ⟨by rw [mm_at_nI (by omega) (by decide)], rfl, rfl⟩
theorem c_setPurse {p : Nat} {x : Int32} (hd : 1 ≤ d) (hp : p < 6) (hs : s < nx) (hr : r < nx) (hS : h s = stE r) (hR : h r = rwE f) : mm_Con G l yX6_setPurse cX6_setPurse 3 none d 0 0 [.ref s, .int (nI p), .int x] nx h (mm_ret none nx (hset h r (rwE (upd f (18 + p) x)))) := by
  refine mm_start (lo := [some (.ref s), some (.int (nI p)), some (.int x)]) pn_X6 rfl rfl (Nat.le_of_ble_eq_true rfl) ?_
  refine mt_aload_n (pc := 0) dX6_setPurse_0 rfl ?_
  refine mt_get (pc := 1) gf_X6_11 dX6_setPurse_1 (by first | assumption | omega) (by repeat (first | exact hset_eq _ _ _ | assumption | rw [hset_ne (by first | assumption | decide | omega)])) rfl ?_
  refine mt_bipush (pc := 4) (v := 18) dX6_setPurse_4 (by decide) ?_
  refine mt_iload_n (pc := 6) dX6_setPurse_6 rfl ?_
  refine mt_iadd (pc := 7) dX6_setPurse_7 ?_
  refine mt_iload_n (pc := 8) dX6_setPurse_8 rfl ?_
  rw [show (18 + nI p : Int32) = nI (18 + p) from nI_add 18 p]
  refine mt_cN (pc := 9) (c_setEntry (d := 0) (i := nI (18 + p)) hr hR (by decide)) cal_X10_setEntry sta_X10_setEntry mn_X6_52 dX6_setPurse_9 (by first | assumption | (show _ ≤ d; omega)) ⟨(Nat.le_of_ble_eq_true rfl), (Nat.le_of_ble_eq_true rfl)⟩ rfl rfl (Nat.le_of_ble_eq_true rfl) ?_
  exact mt_vret rfl dX6_setPurse_12 (Nat.le_of_ble_eq_true rfl) (Nat.le_of_ble_eq_true rfl) ⟨rfl, rfl, by rw [mm_wr_nI (by omega) (by decide)]⟩
theorem ix6 (i k : Nat) : (24 + nI i * 6 + nI k : Int32) = nI (24 + 6 * i + k) := by
  rw [show (24 : Int32) = nI 24 from rfl, show (6 : Int32) = nI 6 from rfl, pk_mul, nI_add, nI_add]
  congr 1
  omega
theorem c_ofLoan {i k : Nat} (hd : 1 ≤ d) (hi : i < 10) (hk : k < 6) (hs : s < nx) (hr : r < nx) (hS : h s = stE r) (hR : h r = rwE f) : mm_Con G l yX6_ofLoan cX6_ofLoan 3 (some .int) d 0 0 [.ref s, .int (nI i), .int (nI k)] nx h (mm_ret (some (.int (f (24 + 6 * i + k)))) nx h) := by
  refine mm_start (lo := [some (.ref s), some (.int (nI i)), some (.int (nI k))]) pn_X6 rfl rfl (Nat.le_of_ble_eq_true rfl) ?_
  refine mt_aload_n (pc := 0) dX6_ofLoan_0 rfl ?_
  refine mt_get (pc := 1) gf_X6_11 dX6_ofLoan_1 (by first | assumption | omega) (by repeat (first | exact hset_eq _ _ _ | assumption | rw [hset_ne (by first | assumption | decide | omega)])) rfl ?_
  refine mt_bipush (pc := 4) (v := 24) dX6_ofLoan_4 (by decide) ?_
  refine mt_iload_n (pc := 6) dX6_ofLoan_6 rfl ?_
  refine mt_bipush (pc := 7) (v := 6) dX6_ofLoan_7 (by decide) ?_
  refine mt_imul (pc := 9) dX6_ofLoan_9 ?_
  refine mt_iadd (pc := 10) dX6_ofLoan_10 ?_
  refine mt_iload_n (pc := 11) dX6_ofLoan_11 rfl ?_
  refine mt_iadd (pc := 12) dX6_ofLoan_12 ?_
  rw [ix6]
  refine mt_cN (pc := 13) (c_entry (d := 0) (i := nI (24 + 6 * i + k)) hr hR (by decide)) cal_X10_entry sta_X10_entry mn_X6_48 dX6_ofLoan_13 (by first | assumption | (show _ ≤ d; omega)) ⟨(Nat.le_of_ble_eq_true rfl), (Nat.le_of_ble_eq_true rfl)⟩ rfl rfl (Nat.le_of_ble_eq_true rfl) ?_
  exact mt_iret rfl dX6_ofLoan_16 (Nat.le_of_ble_eq_true rfl) (Nat.le_of_ble_eq_true rfl) ⟨by rw [mm_at_nI (by omega) (by decide)], rfl, rfl⟩
theorem c_setOfLoan {i k : Nat} {x : Int32} (hd : 1 ≤ d) (hi : i < 10) (hk : k < 6) (hs : s < nx) (hr : r < nx) (hS : h s = stE r) (hR : h r = rwE f) : mm_Con G l yX6_setOfLoan cX6_setOfLoan 4 none d 0 0 [.ref s, .int (nI i), .int (nI k), .int x] nx h (mm_ret none nx (hset h r (rwE (upd f (24 + 6 * i + k) x)))) := by
  refine mm_start (lo := [some (.ref s), some (.int (nI i)), some (.int (nI k)), some (.int x)]) pn_X6 rfl rfl (Nat.le_of_ble_eq_true rfl) ?_
  refine mt_aload_n (pc := 0) dX6_setOfLoan_0 rfl ?_
  refine mt_get (pc := 1) gf_X6_11 dX6_setOfLoan_1 (by first | assumption | omega) (by repeat (first | exact hset_eq _ _ _ | assumption | rw [hset_ne (by first | assumption | decide | omega)])) rfl ?_
  refine mt_bipush (pc := 4) (v := 24) dX6_setOfLoan_4 (by decide) ?_
  refine mt_iload_n (pc := 6) dX6_setOfLoan_6 rfl ?_
  refine mt_bipush (pc := 7) (v := 6) dX6_setOfLoan_7 (by decide) ?_
  refine mt_imul (pc := 9) dX6_setOfLoan_9 ?_
  refine mt_iadd (pc := 10) dX6_setOfLoan_10 ?_
  refine mt_iload_n (pc := 11) dX6_setOfLoan_11 rfl ?_
  refine mt_iadd (pc := 12) dX6_setOfLoan_12 ?_
  refine mt_iload_n (pc := 13) dX6_setOfLoan_13 rfl ?_
  rw [ix6]
  refine mt_cN (pc := 14) (c_setEntry (d := 0) (i := nI (24 + 6 * i + k)) hr hR (by decide)) cal_X10_setEntry sta_X10_setEntry mn_X6_52 dX6_setOfLoan_14 (by first | assumption | (show _ ≤ d; omega)) ⟨(Nat.le_of_ble_eq_true rfl), (Nat.le_of_ble_eq_true rfl)⟩ rfl rfl (Nat.le_of_ble_eq_true rfl) ?_
  exact mt_vret rfl dX6_setOfLoan_17 (Nat.le_of_ble_eq_true rfl) (Nat.le_of_ble_eq_true rfl) ⟨rfl, rfl, by rw [mm_wr_nI (by omega) (by decide)]⟩
theorem c_isOverdue {i : Nat} (hd : 2 ≤ d) (hi : i < 10) (hs : s < nx) (hr : r < nx) (hS : h s = stE r) (hR : h r = rwE f) : mm_Con G l yX6_isOverdue cX6_isOverdue 2 (some .boolean) d 0 0 [.ref s, .int (nI i)] nx h (mm_ret (some (.int (if f (24 + 6 * i + 5) = 1 then 1 else 0))) nx h) := by
  refine mm_start (lo := [some (.ref s), some (.int (nI i))]) pn_X6 rfl rfl (Nat.le_of_ble_eq_true rfl) ?_
  refine mt_aload_n (pc := 0) dX6_isOverdue_0 rfl ?_
  refine mt_iload_n (pc := 1) dX6_isOverdue_1 rfl ?_
  refine mt_iconst (pc := 2) (v := 5) dX6_isOverdue_2 (by decide) ?_
  refine mt_cV (pc := 3) (c_ofLoan (d := 1) (k := 5) (Nat.le_refl 1) hi (by decide) hs hr hS hR) cal_X6_ofLoan vir_X6_ofLoan ml_X6_56 dX6_isOverdue_3 (by first | assumption | omega) (by repeat (first | exact hset_eq _ _ _ | assumption | rw [hset_ne (by first | assumption | decide | omega)])) (by first | assumption | (show _ ≤ d; omega)) ⟨(Nat.le_of_ble_eq_true rfl), (Nat.le_of_ble_eq_true rfl)⟩ rfl rfl (Nat.le_of_ble_eq_true rfl) ?_
  refine mt_iconst (pc := 6) (v := 1) dX6_isOverdue_6 (by decide) ?_
  refine mt_icmp_ne (pc := 7) (tgt := 14) dX6_isOverdue_7 (by decide) (fun c7 => ?_) (fun c7 => ?_)
  · skip
    have e2 : (if f (24 + 6 * i + 5) = 1 then (1 : Int32) else 0) = 0 := if_neg c7
    refine mt_iconst (pc := 14) (v := 0) dX6_isOverdue_14 (by decide) ?_
    exact mt_zret rfl (by first | exact Or.inl rfl | exact Or.inr rfl) dX6_isOverdue_15 (Nat.le_of_ble_eq_true rfl) (Nat.le_of_ble_eq_true rfl) ⟨by rw [e2], rfl, rfl⟩
  · skip
    have e2 : (if f (24 + 6 * i + 5) = 1 then (1 : Int32) else 0) = 1 := if_pos c7
    refine mt_iconst (pc := 10) (v := 1) dX6_isOverdue_10 (by decide) ?_
    refine mt_goto (pc := 11) (tgt := 15) dX6_isOverdue_11 (by decide) ?_
    exact mt_zret rfl (by first | exact Or.inl rfl | exact Or.inr rfl) dX6_isOverdue_15 (Nat.le_of_ble_eq_true rfl) (Nat.le_of_ble_eq_true rfl) ⟨by rw [e2], rfl, rfl⟩
theorem c_setOverdue {i : Nat} (hd : 2 ≤ d) (hi : i < 10) (hs : s < nx) (hr : r < nx) (hS : h s = stE r) (hR : h r = rwE f) : mm_Con G l yX6_setOverdue cX6_setOverdue 2 none d 0 0 [.ref s, .int (nI i)] nx h (mm_ret none nx (hset h r (rwE (upd f (24 + 6 * i + 5) 1)))) := by
  refine mm_start (lo := [some (.ref s), some (.int (nI i))]) pn_X6 rfl rfl (Nat.le_of_ble_eq_true rfl) ?_
  refine mt_aload_n (pc := 0) dX6_setOverdue_0 rfl ?_
  refine mt_iload_n (pc := 1) dX6_setOverdue_1 rfl ?_
  refine mt_iconst (pc := 2) (v := 5) dX6_setOverdue_2 (by decide) ?_
  refine mt_iconst (pc := 3) (v := 1) dX6_setOverdue_3 (by decide) ?_
  refine mt_cV (pc := 4) (c_setOfLoan (d := 1) (k := 5) (Nat.le_refl 1) hi (by decide) hs hr hS hR) cal_X6_setOfLoan vir_X6_setOfLoan ml_X6_60 dX6_setOverdue_4 (by first | assumption | omega) (by repeat (first | exact hset_eq _ _ _ | assumption | rw [hset_ne (by first | assumption | decide | omega)])) (by first | assumption | (show _ ≤ d; omega)) ⟨(Nat.le_of_ble_eq_true rfl), (Nat.le_of_ble_eq_true rfl)⟩ rfl rfl (Nat.le_of_ble_eq_true rfl) ?_
  exact mt_vret rfl dX6_setOverdue_7 (Nat.le_of_ble_eq_true rfl) (Nat.le_of_ble_eq_true rfl) ⟨rfl, rfl, rfl⟩
/-- a LOAN more -/
def addF (f : Nat → Int32) (n : Nat) (a p x t : Int32) : Nat → Int32 := upd (upd (upd (upd (upd (upd (upd f (24 + 6 * n + 0) a) (24 + 6 * n + 1) p) (24 + 6 * n + 2) x) (24 + 6 * n + 3) (f 0)) (24 + 6 * n + 4) (f 0 + t)) (24 + 6 * n + 5) 0) 3 (nI (n + 1))
theorem c_addLoan {n : Nat} {a p x t : Int32} (hd : 2 ≤ d) (hn : n < 10) (hf : f 3 = nI n) (hne : s ≠ r) (hs : s < nx) (hr : r < nx) (hS : h s = stE r) (hR : h r = rwE f) : mm_Con G l yX6_addLoan cX6_addLoan 6 none d 0 0 [.ref s, .int a, .int p, .int x, .int t] nx h (mm_ret none nx (hset h r (rwE (addF f n a p x t)))) := by
  refine mm_start (lo := [some (.ref s), some (.int a), some (.int p), some (.int x), some (.int t), none]) pn_X6 rfl rfl (Nat.le_of_ble_eq_true rfl) ?_
  refine mt_aload_n (pc := 0) dX6_addLoan_0 rfl ?_
  refine mt_get (pc := 1) gf_X6_11 dX6_addLoan_1 (by first | assumption | omega) (by repeat (first | exact hset_eq _ _ _ | assumption | rw [hset_ne (by first | assumption | decide | omega)])) rfl ?_
  refine mt_iconst (pc := 4) (v := 3) dX6_addLoan_4 (by decide) ?_
  refine mt_iald (pc := 5) dX6_addLoan_5 (by first | assumption | omega) (by repeat (first | exact hset_eq _ _ _ | assumption | rw [hset_ne (by first | assumption | decide | omega)])) (vp_in_nI (n := 3) (by decide) (by decide)) ?_
  rw [show f (3 : Int32).toNatClampNeg = nI n from hf]
  refine mt_istore (pc := 6) dX6_addLoan_6 (Nat.le_of_ble_eq_true rfl) rfl ?_
  refine mt_iload (pc := 8) dX6_addLoan_8 rfl ?_
  refine mt_bipush (pc := 10) (v := 10) dX6_addLoan_10 (by decide) ?_
  refine mt_icmp_ge (pc := 12) (tgt := 82) dX6_addLoan_12 (by decide) (fun c12 => ?_) (fun c12 => ?_)
  · exact absurd c12 (nI_ge (b := 10) hn (by decide))
  · skip
    refine mt_aload_n (pc := 15) dX6_addLoan_15 rfl ?_
    refine mt_iload (pc := 16) dX6_addLoan_16 rfl ?_
    refine mt_iconst (pc := 18) (v := 0) dX6_addLoan_18 (by decide) ?_
    refine mt_iload_n (pc := 19) dX6_addLoan_19 rfl ?_
    refine mt_cV (pc := 20) (c_setOfLoan (d := 1) (k := 0) (Nat.le_refl 1) hn (by decide) hs hr hS hR) cal_X6_setOfLoan vir_X6_setOfLoan ml_X6_60 dX6_addLoan_20 (by first | assumption | omega) (by repeat (first | exact hset_eq _ _ _ | assumption | rw [hset_ne (by first | assumption | decide | omega)])) (by first | assumption | (show _ ≤ d; omega)) ⟨(Nat.le_of_ble_eq_true rfl), (Nat.le_of_ble_eq_true rfl)⟩ rfl rfl (Nat.le_of_ble_eq_true rfl) ?_
    refine mt_aload_n (pc := 23) dX6_addLoan_23 rfl ?_
    refine mt_iload (pc := 24) dX6_addLoan_24 rfl ?_
    refine mt_iconst (pc := 26) (v := 1) dX6_addLoan_26 (by decide) ?_
    refine mt_iload_n (pc := 27) dX6_addLoan_27 rfl ?_
    refine mt_cV (pc := 28) (c_setOfLoan (d := 1) (k := 1) (Nat.le_refl 1) hn (by decide) hs hr (by rw [hset_ne hne]; exact hS) (hset_eq _ _ _)) cal_X6_setOfLoan vir_X6_setOfLoan ml_X6_60 dX6_addLoan_28 (by first | assumption | omega) (by repeat (first | exact hset_eq _ _ _ | assumption | rw [hset_ne (by first | assumption | decide | omega)])) (by first | assumption | (show _ ≤ d; omega)) ⟨(Nat.le_of_ble_eq_true rfl), (Nat.le_of_ble_eq_true rfl)⟩ rfl rfl (Nat.le_of_ble_eq_true rfl) ?_
    rw [hset_hset]
    refine mt_aload_n (pc := 31) dX6_addLoan_31 rfl ?_
    refine mt_iload (pc := 32) dX6_addLoan_32 rfl ?_
    refine mt_iconst (pc := 34) (v := 2) dX6_addLoan_34 (by decide) ?_
    refine mt_iload_n (pc := 35) dX6_addLoan_35 rfl ?_
    refine mt_cV (pc := 36) (c_setOfLoan (d := 1) (k := 2) (Nat.le_refl 1) hn (by decide) hs hr (by rw [hset_ne hne]; exact hS) (hset_eq _ _ _)) cal_X6_setOfLoan vir_X6_setOfLoan ml_X6_60 dX6_addLoan_36 (by first | assumption | omega) (by repeat (first | exact hset_eq _ _ _ | assumption | rw [hset_ne (by first | assumption | decide | omega)])) (by first | assumption | (show _ ≤ d; omega)) ⟨(Nat.le_of_ble_eq_true rfl), (Nat.le_of_ble_eq_true rfl)⟩ rfl rfl (Nat.le_of_ble_eq_true rfl) ?_
    rw [hset_hset]
    refine mt_aload_n (pc := 39) dX6_addLoan_39 rfl ?_
    refine mt_iload (pc := 40) dX6_addLoan_40 rfl ?_
    refine mt_iconst (pc := 42) (v := 3) dX6_addLoan_42 (by decide) ?_
    refine mt_aload_n (pc := 43) dX6_addLoan_43 rfl ?_
    refine mt_cV (pc := 44) (c_night (d := 1) hs hr (by rw [hset_ne hne]; exact hS) (hset_eq _ _ _)) cal_X6_night vir_X6_night ml_X6_64 dX6_addLoan_44 (by first | assumption | omega) (by repeat (first | exact hset_eq _ _ _ | assumption | rw [hset_ne (by first | assumption | decide | omega)])) (by first | assumption | (show _ ≤ d; omega)) ⟨(Nat.le_of_ble_eq_true rfl), (Nat.le_of_ble_eq_true rfl)⟩ rfl rfl (Nat.le_of_ble_eq_true rfl) ?_
    rw [show upd (upd (upd f (24 + 6 * n + 0) a) (24 + 6 * n + 1) p) (24 + 6 * n + 2) x 0 = f 0 by rw [upd_ne (by omega), upd_ne (by omega), upd_ne (by omega)]]
    refine mt_cV (pc := 47) (c_setOfLoan (d := 1) (k := 3) (Nat.le_refl 1) hn (by decide) hs hr (by rw [hset_ne hne]; exact hS) (hset_eq _ _ _)) cal_X6_setOfLoan vir_X6_setOfLoan ml_X6_60 dX6_addLoan_47 (by first | assumption | omega) (by repeat (first | exact hset_eq _ _ _ | assumption | rw [hset_ne (by first | assumption | decide | omega)])) (by first | assumption | (show _ ≤ d; omega)) ⟨(Nat.le_of_ble_eq_true rfl), (Nat.le_of_ble_eq_true rfl)⟩ rfl rfl (Nat.le_of_ble_eq_true rfl) ?_
    rw [hset_hset]
    refine mt_aload_n (pc := 50) dX6_addLoan_50 rfl ?_
    refine mt_iload (pc := 51) dX6_addLoan_51 rfl ?_
    refine mt_iconst (pc := 53) (v := 4) dX6_addLoan_53 (by decide) ?_
    refine mt_aload_n (pc := 54) dX6_addLoan_54 rfl ?_
    refine mt_cV (pc := 55) (c_night (d := 1) hs hr (by rw [hset_ne hne]; exact hS) (hset_eq _ _ _)) cal_X6_night vir_X6_night ml_X6_64 dX6_addLoan_55 (by first | assumption | omega) (by repeat (first | exact hset_eq _ _ _ | assumption | rw [hset_ne (by first | assumption | decide | omega)])) (by first | assumption | (show _ ≤ d; omega)) ⟨(Nat.le_of_ble_eq_true rfl), (Nat.le_of_ble_eq_true rfl)⟩ rfl rfl (Nat.le_of_ble_eq_true rfl) ?_
    rw [show upd (upd (upd (upd f (24 + 6 * n + 0) a) (24 + 6 * n + 1) p) (24 + 6 * n + 2) x) (24 + 6 * n + 3) (f 0) 0 = f 0 by rw [upd_ne (by omega), upd_ne (by omega), upd_ne (by omega), upd_ne (by omega)]]
    refine mt_iload (pc := 58) dX6_addLoan_58 rfl ?_
    refine mt_iadd (pc := 60) dX6_addLoan_60 ?_
    refine mt_cV (pc := 61) (c_setOfLoan (d := 1) (k := 4) (Nat.le_refl 1) hn (by decide) hs hr (by rw [hset_ne hne]; exact hS) (hset_eq _ _ _)) cal_X6_setOfLoan vir_X6_setOfLoan ml_X6_60 dX6_addLoan_61 (by first | assumption | omega) (by repeat (first | exact hset_eq _ _ _ | assumption | rw [hset_ne (by first | assumption | decide | omega)])) (by first | assumption | (show _ ≤ d; omega)) ⟨(Nat.le_of_ble_eq_true rfl), (Nat.le_of_ble_eq_true rfl)⟩ rfl rfl (Nat.le_of_ble_eq_true rfl) ?_
    rw [hset_hset]
    refine mt_aload_n (pc := 64) dX6_addLoan_64 rfl ?_
    refine mt_iload (pc := 65) dX6_addLoan_65 rfl ?_
    refine mt_iconst (pc := 67) (v := 5) dX6_addLoan_67 (by decide) ?_
    refine mt_iconst (pc := 68) (v := 0) dX6_addLoan_68 (by decide) ?_
    refine mt_cV (pc := 69) (c_setOfLoan (d := 1) (k := 5) (Nat.le_refl 1) hn (by decide) hs hr (by rw [hset_ne hne]; exact hS) (hset_eq _ _ _)) cal_X6_setOfLoan vir_X6_setOfLoan ml_X6_60 dX6_addLoan_69 (by first | assumption | omega) (by repeat (first | exact hset_eq _ _ _ | assumption | rw [hset_ne (by first | assumption | decide | omega)])) (by first | assumption | (show _ ≤ d; omega)) ⟨(Nat.le_of_ble_eq_true rfl), (Nat.le_of_ble_eq_true rfl)⟩ rfl rfl (Nat.le_of_ble_eq_true rfl) ?_
    rw [hset_hset]
    refine mt_aload_n (pc := 72) dX6_addLoan_72 rfl ?_
    refine mt_get (pc := 73) gf_X6_11 dX6_addLoan_73 (by first | assumption | omega) (by rw [hset_ne hne]; exact hS) rfl ?_
    refine mt_iconst (pc := 76) (v := 3) dX6_addLoan_76 (by decide) ?_
    refine mt_iload (pc := 77) dX6_addLoan_77 rfl ?_
    refine mt_iconst (pc := 79) (v := 1) dX6_addLoan_79 (by decide) ?_
    refine mt_iadd (pc := 80) dX6_addLoan_80 ?_
    first
      | refine mt_iast2 (pc := 81) dX6_addLoan_81 (by first | assumption | omega) (vp_in_nI (n := 3) (by decide) (by decide)) ?_
      | refine mt_iast (pc := 81) dX6_addLoan_81 (by first | assumption | omega) (by repeat (first | exact hset_eq _ _ _ | assumption | rw [hset_ne (by first | assumption | decide | omega)])) (vp_in_nI (n := 3) (by decide) (by decide)) ?_
    rw [show (nI n + 1 : Int32) = nI (n + 1) from nI_1 n]
    exact mt_vret rfl dX6_addLoan_82 (Nat.le_of_ble_eq_true rfl) (Nat.le_of_ble_eq_true rfl) ⟨rfl, rfl, rfl⟩
theorem c_loansWhere {n k : Nat} {v : Int32} (hd : 2 ≤ d) (hk : k < 6) (hn : n ≤ 10) (hf : f 3 = nI n) (hs : s < nx) (hr : r < nx) (hS : h s = stE r) (hR : h r = rwE f) : mm_Con G l yX6_loansWhere cX6_loansWhere 5 (some .int) d 0 0 [.ref s, .int (nI k), .int v] nx h (mm_ret (some (.int (fld (fun i acc => if f (24 + 6 * i + k) = v then acc ||| ((1 : Int32) <<< (nI i &&& 31)) else acc) 0 n))) nx h) := by
  have loop : ∀ q i, i + q = n → mm_T (G, l, yX6_loansWhere, 5, some .int, d, 0, 0, mm_ret (some (.int (fld (fun i acc => if f (24 + 6 * i + k) = v then acc ||| ((1 : Int32) <<< (nI i &&& 31)) else acc) 0 n))) nx h, nx) RX6 cX6_loansWhere nx h 0 0 5 [some (.ref s), some (.int (nI k)), some (.int v), some (.int (fld (fun i acc => if f (24 + 6 * i + k) = v then acc ||| ((1 : Int32) <<< (nI i &&& 31)) else acc) 0 i)), some (.int (nI i))] [] := by
    intro q
    induction q with
    | zero =>
      intro i hi
      obtain rfl : i = n := by omega
      refine mt_iload (pc := 5) dX6_loansWhere_5 rfl ?_
      refine mt_aload_n (pc := 7) dX6_loansWhere_7 rfl ?_
      refine mt_cV (pc := 8) (c_loans (d := 1) hs hr hS hR) cal_X6_loans vir_X6_loans ml_X6_72 dX6_loansWhere_8 (by first | assumption | omega) (by repeat (first | exact hset_eq _ _ _ | assumption | rw [hset_ne (by first | assumption | decide | omega)])) (by first | assumption | (show _ ≤ d; omega)) ⟨(Nat.le_of_ble_eq_true rfl), (Nat.le_of_ble_eq_true rfl)⟩ rfl rfl (Nat.le_of_ble_eq_true rfl) ?_
      rw [hf]
      refine mt_icmp_ge (pc := 11) (tgt := 38) dX6_loansWhere_11 (by decide) (fun c11 => ?_) (fun c11 => ?_)
      · skip
        refine mt_iload_n (pc := 38) dX6_loansWhere_38 rfl ?_
        exact mt_iret rfl dX6_loansWhere_39 (Nat.le_of_ble_eq_true rfl) (Nat.le_of_ble_eq_true rfl) ⟨rfl, rfl, rfl⟩
      · exact absurd (nI_le (Nat.le_refl _) (by omega)) c11
    | succ q ih =>
      intro i hi
      have hlt : i < n := by omega
      have e1 : fld (fun i acc => if f (24 + 6 * i + k) = v then acc ||| ((1 : Int32) <<< (nI i &&& 31)) else acc) 0 (i + 1) = if f (24 + 6 * i + k) = v then (fld (fun i acc => if f (24 + 6 * i + k) = v then acc ||| ((1 : Int32) <<< (nI i &&& 31)) else acc) 0 i) ||| ((1 : Int32) <<< (nI i &&& 31)) else (fld (fun i acc => if f (24 + 6 * i + k) = v then acc ||| ((1 : Int32) <<< (nI i &&& 31)) else acc) 0 i) := rfl
      have nxt := ih (i + 1) (by omega)
      rw [e1] at nxt
      refine mt_iload (pc := 5) dX6_loansWhere_5 rfl ?_
      refine mt_aload_n (pc := 7) dX6_loansWhere_7 rfl ?_
      refine mt_cV (pc := 8) (c_loans (d := 1) hs hr hS hR) cal_X6_loans vir_X6_loans ml_X6_72 dX6_loansWhere_8 (by first | assumption | omega) (by repeat (first | exact hset_eq _ _ _ | assumption | rw [hset_ne (by first | assumption | decide | omega)])) (by first | assumption | (show _ ≤ d; omega)) ⟨(Nat.le_of_ble_eq_true rfl), (Nat.le_of_ble_eq_true rfl)⟩ rfl rfl (Nat.le_of_ble_eq_true rfl) ?_
      rw [hf]
      refine mt_icmp_ge (pc := 11) (tgt := 38) dX6_loansWhere_11 (by decide) (fun c11 => ?_) (fun c11 => ?_)
      · exact absurd c11 (nI_ge hlt (by omega))
      · skip
        refine mt_aload_n (pc := 14) dX6_loansWhere_14 rfl ?_
        refine mt_iload (pc := 15) dX6_loansWhere_15 rfl ?_
        refine mt_iload_n (pc := 17) dX6_loansWhere_17 rfl ?_
        refine mt_cV (pc := 18) (c_ofLoan (d := 1) (Nat.le_refl 1) (by omega) hk hs hr hS hR) cal_X6_ofLoan vir_X6_ofLoan ml_X6_56 dX6_loansWhere_18 (by first | assumption | omega) (by repeat (first | exact hset_eq _ _ _ | assumption | rw [hset_ne (by first | assumption | decide | omega)])) (by first | assumption | (show _ ≤ d; omega)) ⟨(Nat.le_of_ble_eq_true rfl), (Nat.le_of_ble_eq_true rfl)⟩ rfl rfl (Nat.le_of_ble_eq_true rfl) ?_
        refine mt_iload_n (pc := 21) dX6_loansWhere_21 rfl ?_
        refine mt_icmp_ne (pc := 22) (tgt := 32) dX6_loansWhere_22 (by decide) (fun c22 => ?_) (fun c22 => ?_)
        · skip
          rw [if_neg c22] at nxt
          refine mt_iinc (pc := 32) (c9 := 1) dX6_loansWhere_32 rfl (by decide) (Nat.le_of_ble_eq_true rfl) rfl ?_
          refine mt_goto (tgt := 5) dX6_loansWhere_35 (by decide) ?_
          rw [show (nI i + 1 : Int32) = nI (i + 1) from nI_1 i]
          exact nxt
        · skip
          rw [if_pos c22] at nxt
          refine mt_iload_n (pc := 25) dX6_loansWhere_25 rfl ?_
          refine mt_iconst (pc := 26) (v := 1) dX6_loansWhere_26 (by decide) ?_
          refine mt_iload (pc := 27) dX6_loansWhere_27 rfl ?_
          refine mt_ishl (pc := 29) dX6_loansWhere_29 ?_
          refine mt_ior (pc := 30) dX6_loansWhere_30 ?_
          refine mt_istore_n (pc := 31) dX6_loansWhere_31 (Nat.le_of_ble_eq_true rfl) rfl ?_
          refine mt_iinc (pc := 32) (c9 := 1) dX6_loansWhere_32 rfl (by decide) (Nat.le_of_ble_eq_true rfl) rfl ?_
          refine mt_goto (tgt := 5) dX6_loansWhere_35 (by decide) ?_
          rw [show (nI i + 1 : Int32) = nI (i + 1) from nI_1 i]
          exact nxt
  refine mm_start (lo := [some (.ref s), some (.int (nI k)), some (.int v), none, none]) pn_X6 rfl rfl (Nat.le_of_ble_eq_true rfl) ?_
  refine mt_iconst (pc := 0) (v := 0) dX6_loansWhere_0 (by decide) ?_
  refine mt_istore_n (pc := 1) dX6_loansWhere_1 (Nat.le_of_ble_eq_true rfl) rfl ?_
  refine mt_iconst (pc := 2) (v := 0) dX6_loansWhere_2 (by decide) ?_
  refine mt_istore (pc := 3) dX6_loansWhere_3 (Nat.le_of_ble_eq_true rfl) rfl ?_
  exact loop n 0 (by omega)
theorem c_overdue {n : Nat} (hd : 3 ≤ d) (hn : n ≤ 10) (hf : f 3 = nI n) (hs : s < nx) (hr : r < nx) (hS : h s = stE r) (hR : h r = rwE f) : mm_Con G l yX6_overdue cX6_overdue 1 (some .int) d 0 0 [.ref s] nx h (mm_ret (some (.int (fld (fun i acc => if f (24 + 6 * i + 5) = 1 then acc ||| ((1 : Int32) <<< (nI i &&& 31)) else acc) 0 n))) nx h) := by
  refine mm_start (lo := [some (.ref s)]) pn_X6 rfl rfl (Nat.le_of_ble_eq_true rfl) ?_
  refine mt_aload_n (pc := 0) dX6_overdue_0 rfl ?_
  refine mt_iconst (pc := 1) (v := 5) dX6_overdue_1 (by decide) ?_
  refine mt_iconst (pc := 2) (v := 1) dX6_overdue_2 (by decide) ?_
  refine mt_cV (pc := 3) (c_loansWhere (d := 2) (k := 5) (v := 1) (Nat.le_refl 2) (by decide) hn hf hs hr hS hR) cal_X6_loansWhere vir_X6_loansWhere ml_X6_75 dX6_overdue_3 (by first | assumption | omega) (by repeat (first | exact hset_eq _ _ _ | assumption | rw [hset_ne (by first | assumption | decide | omega)])) (by first | assumption | (show _ ≤ d; omega)) ⟨(Nat.le_of_ble_eq_true rfl), (Nat.le_of_ble_eq_true rfl)⟩ rfl rfl (Nat.le_of_ble_eq_true rfl) ?_
  exact mt_iret rfl dX6_overdue_6 (Nat.le_of_ble_eq_true rfl) (Nat.le_of_ble_eq_true rfl) ⟨rfl, rfl, rfl⟩
theorem c_lentWhere {n k : Nat} {v : Int32} (hd : 2 ≤ d) (hk : k < 6) (hn : n ≤ 10) (hf : f 3 = nI n) (hs : s < nx) (hr : r < nx) (hS : h s = stE r) (hR : h r = rwE f) : mm_Con G l yX6_lentWhere cX6_lentWhere 5 (some .int) d 0 0 [.ref s, .int (nI k), .int v] nx h (mm_ret (some (.int (fld (fun i acc => if f (24 + 6 * i + k) = v then acc + f (24 + 6 * i + 2) else acc) 0 n))) nx h) := by
  have loop : ∀ q i, i + q = n → mm_T (G, l, yX6_lentWhere, 5, some .int, d, 0, 0, mm_ret (some (.int (fld (fun i acc => if f (24 + 6 * i + k) = v then acc + f (24 + 6 * i + 2) else acc) 0 n))) nx h, nx) RX6 cX6_lentWhere nx h 0 0 5 [some (.ref s), some (.int (nI k)), some (.int v), some (.int (fld (fun i acc => if f (24 + 6 * i + k) = v then acc + f (24 + 6 * i + 2) else acc) 0 i)), some (.int (nI i))] [] := by
    intro q
    induction q with
    | zero =>
      intro i hi
      obtain rfl : i = n := by omega
      refine mt_iload (pc := 5) dX6_lentWhere_5 rfl ?_
      refine mt_aload_n (pc := 7) dX6_lentWhere_7 rfl ?_
      refine mt_cV (pc := 8) (c_loans (d := 1) hs hr hS hR) cal_X6_loans vir_X6_loans ml_X6_72 dX6_lentWhere_8 (by first | assumption | omega) (by repeat (first | exact hset_eq _ _ _ | assumption | rw [hset_ne (by first | assumption | decide | omega)])) (by first | assumption | (show _ ≤ d; omega)) ⟨(Nat.le_of_ble_eq_true rfl), (Nat.le_of_ble_eq_true rfl)⟩ rfl rfl (Nat.le_of_ble_eq_true rfl) ?_
      rw [hf]
      refine mt_icmp_ge (pc := 11) (tgt := 41) dX6_lentWhere_11 (by decide) (fun c11 => ?_) (fun c11 => ?_)
      · skip
        refine mt_iload_n (pc := 41) dX6_lentWhere_41 rfl ?_
        exact mt_iret rfl dX6_lentWhere_42 (Nat.le_of_ble_eq_true rfl) (Nat.le_of_ble_eq_true rfl) ⟨rfl, rfl, rfl⟩
      · exact absurd (nI_le (Nat.le_refl _) (by omega)) c11
    | succ q ih =>
      intro i hi
      have hlt : i < n := by omega
      have e1 : fld (fun i acc => if f (24 + 6 * i + k) = v then acc + f (24 + 6 * i + 2) else acc) 0 (i + 1) = if f (24 + 6 * i + k) = v then (fld (fun i acc => if f (24 + 6 * i + k) = v then acc + f (24 + 6 * i + 2) else acc) 0 i) + f (24 + 6 * i + 2) else (fld (fun i acc => if f (24 + 6 * i + k) = v then acc + f (24 + 6 * i + 2) else acc) 0 i) := rfl
      have nxt := ih (i + 1) (by omega)
      rw [e1] at nxt
      refine mt_iload (pc := 5) dX6_lentWhere_5 rfl ?_
      refine mt_aload_n (pc := 7) dX6_lentWhere_7 rfl ?_
      refine mt_cV (pc := 8) (c_loans (d := 1) hs hr hS hR) cal_X6_loans vir_X6_loans ml_X6_72 dX6_lentWhere_8 (by first | assumption | omega) (by repeat (first | exact hset_eq _ _ _ | assumption | rw [hset_ne (by first | assumption | decide | omega)])) (by first | assumption | (show _ ≤ d; omega)) ⟨(Nat.le_of_ble_eq_true rfl), (Nat.le_of_ble_eq_true rfl)⟩ rfl rfl (Nat.le_of_ble_eq_true rfl) ?_
      rw [hf]
      refine mt_icmp_ge (pc := 11) (tgt := 41) dX6_lentWhere_11 (by decide) (fun c11 => ?_) (fun c11 => ?_)
      · exact absurd c11 (nI_ge hlt (by omega))
      · skip
        refine mt_aload_n (pc := 14) dX6_lentWhere_14 rfl ?_
        refine mt_iload (pc := 15) dX6_lentWhere_15 rfl ?_
        refine mt_iload_n (pc := 17) dX6_lentWhere_17 rfl ?_
        refine mt_cV (pc := 18) (c_ofLoan (d := 1) (Nat.le_refl 1) (by omega) hk hs hr hS hR) cal_X6_ofLoan vir_X6_ofLoan ml_X6_56 dX6_lentWhere_18 (by first | assumption | omega) (by repeat (first | exact hset_eq _ _ _ | assumption | rw [hset_ne (by first | assumption | decide | omega)])) (by first | assumption | (show _ ≤ d; omega)) ⟨(Nat.le_of_ble_eq_true rfl), (Nat.le_of_ble_eq_true rfl)⟩ rfl rfl (Nat.le_of_ble_eq_true rfl) ?_
        refine mt_iload_n (pc := 21) dX6_lentWhere_21 rfl ?_
        refine mt_icmp_ne (pc := 22) (tgt := 35) dX6_lentWhere_22 (by decide) (fun c22 => ?_) (fun c22 => ?_)
        · skip
          rw [if_neg c22] at nxt
          refine mt_iinc (pc := 35) (c9 := 1) dX6_lentWhere_35 rfl (by decide) (Nat.le_of_ble_eq_true rfl) rfl ?_
          refine mt_goto (tgt := 5) dX6_lentWhere_38 (by decide) ?_
          rw [show (nI i + 1 : Int32) = nI (i + 1) from nI_1 i]
          exact nxt
        · skip
          rw [if_pos c22] at nxt
          refine mt_iload_n (pc := 25) dX6_lentWhere_25 rfl ?_
          refine mt_aload_n (pc := 26) dX6_lentWhere_26 rfl ?_
          refine mt_iload (pc := 27) dX6_lentWhere_27 rfl ?_
          refine mt_iconst (pc := 29) (v := 2) dX6_lentWhere_29 (by decide) ?_
          refine mt_cV (pc := 30) (c_ofLoan (d := 1) (k := 2) (Nat.le_refl 1) (by omega) (by decide) hs hr hS hR) cal_X6_ofLoan vir_X6_ofLoan ml_X6_56 dX6_lentWhere_30 (by first | assumption | omega) (by repeat (first | exact hset_eq _ _ _ | assumption | rw [hset_ne (by first | assumption | decide | omega)])) (by first | assumption | (show _ ≤ d; omega)) ⟨(Nat.le_of_ble_eq_true rfl), (Nat.le_of_ble_eq_true rfl)⟩ rfl rfl (Nat.le_of_ble_eq_true rfl) ?_
          refine mt_iadd (pc := 33) dX6_lentWhere_33 ?_
          refine mt_istore_n (pc := 34) dX6_lentWhere_34 (Nat.le_of_ble_eq_true rfl) rfl ?_
          refine mt_iinc (pc := 35) (c9 := 1) dX6_lentWhere_35 rfl (by decide) (Nat.le_of_ble_eq_true rfl) rfl ?_
          refine mt_goto (tgt := 5) dX6_lentWhere_38 (by decide) ?_
          rw [show (nI i + 1 : Int32) = nI (i + 1) from nI_1 i]
          exact nxt
  refine mm_start (lo := [some (.ref s), some (.int (nI k)), some (.int v), none, none]) pn_X6 rfl rfl (Nat.le_of_ble_eq_true rfl) ?_
  refine mt_iconst (pc := 0) (v := 0) dX6_lentWhere_0 (by decide) ?_
  refine mt_istore_n (pc := 1) dX6_lentWhere_1 (Nat.le_of_ble_eq_true rfl) rfl ?_
  refine mt_iconst (pc := 2) (v := 0) dX6_lentWhere_2 (by decide) ?_
  refine mt_istore (pc := 3) dX6_lentWhere_3 (Nat.le_of_ble_eq_true rfl) rfl ?_
  exact loop n 0 (by omega)
/-- copyRow of two rows of one length -/
theorem c_copyRow {i j n : Nat} {f g : Nat → Int32} (hd : 1 ≤ d) (hn : n < 2 ^ 31) (hi : i < nx) (hj : j < nx) (hI : h i = .inl (0, n, .inl f)) (hJ : h j = .inl (0, n, .inl g)) : mm_Con G l yX10_copyRow cX10_copyRow 2 none d 0 0 [.ref i, .ref j] nx h (mm_ret none nx (hset h j (.inl (0, n, .inl (va_cpy f g 0 0 n))))) := by
  refine mm_start (lo := [some (.ref i), some (.ref j)]) pn_X10 rfl rfl (Nat.le_of_ble_eq_true rfl) ?_
  refine mt_aload_n (pc := 0) dX10_copyRow_0 rfl ?_
  refine mt_iconst (pc := 1) (v := 0) dX10_copyRow_1 (by decide) ?_
  refine mt_aload_n (pc := 2) dX10_copyRow_2 rfl ?_
  refine mt_iconst (pc := 3) (v := 0) dX10_copyRow_3 (by decide) ?_
  refine mt_aload_n (pc := 4) dX10_copyRow_4 rfl ?_
  refine mt_alen (pc := 5) dX10_copyRow_5 (by first | assumption | omega) (by repeat (first | exact hset_eq _ _ _ | assumption | rw [hset_ne (by first | assumption | decide | omega)])) (by decide) ?_
  refine mt_aload_n (pc := 6) dX10_copyRow_6 rfl ?_
  refine mt_alen (pc := 7) dX10_copyRow_7 (by first | assumption | omega) (by repeat (first | exact hset_eq _ _ _ | assumption | rw [hset_ne (by first | assumption | decide | omega)])) (by decide) ?_
  refine mt_mmin (pc := 8) ml_X10_342 dX10_copyRow_8 (by first | assumption | (show _ ≤ d; omega)) ⟨(Nat.le_of_ble_eq_true rfl), (Nat.le_of_ble_eq_true rfl)⟩ (Nat.le_of_ble_eq_true rfl) ?_
  rw [if_neg (nI_nlt (Nat.le_refl n) hn)]
  refine mt_acopy (pc := 11) ac_link dX10_copyRow_11 hi hj hI hJ (nI_pos hn) (by rw [nI_clamp hn]; exact Nat.le_refl n) (by rw [nI_clamp hn]; exact Nat.le_refl n) hd (Nat.le_of_ble_eq_true rfl) ?_
  rw [nI_clamp hn]
  exact mt_vret rfl dX10_copyRow_14 (Nat.le_of_ble_eq_true rfl) (Nat.le_of_ble_eq_true rfl) ⟨rfl, rfl, rfl⟩
end STATE
