/-! State.endLoan, begin, copyFrom; Rules: lend, pay, earn, seal, open, nights. -/
def shF (f : Nat → Int32) (a c : Nat) : Nat → Int32 := fun j => if a ≤ j ∧ j < a + c then f (j + 6) else f j
theorem shF_0 (f : Nat → Int32) (a : Nat) : shF f a 0 = f := by
  funext j
  simp only [shF]
  exact if_neg (by omega)
theorem shF_s (f : Nat → Int32) (a c : Nat) : upd (shF f a c) (a + c) (shF f a c (a + c + 6)) = shF f a (c + 1) := by
  funext j
  have e1 : shF f a c (a + c + 6) = f (a + c + 6) := if_neg (by omega)
  rw [e1]
  by_cases hj : j = a + c
  · subst hj
    rw [upd_eq]
    exact (if_pos (by omega)).symm
  · rw [upd_ne hj]
    simp only [shF]
    by_cases hq : a ≤ j ∧ j < a + c
    · rw [if_pos hq, if_pos (by omega)]
    · rw [if_neg hq, if_neg (by omega)]
/-- a LOAN less -/
def endF (f : Nat → Int32) (i : Nat) : Nat → Int32 := upd (upd (shF f (24 + 6 * i) (54 - 6 * i)) 3 (f 3 - 1)) 2 (f 2 + 1)
section ENDS
variable {G : mm_G} {l : Launch} {d nx : Nat} {h : Nat → mm_E} {s r : Nat} {f : Nat → Int32} {k : CS}
theorem c_endLoan {n i : Nat} (hd : 1 ≤ d) (hn : n ≤ 10) (hi : i < n) (hf : f 3 = nI n) (hne : s ≠ r) (hs : s < nx) (hr : r < nx) (hS : h s = stE r) (hR : h r = rwE f) : mm_Con G l yX6_endLoan cX6_endLoan 3 none d 0 0 [.ref s, .int (nI i)] nx h (mm_ret none nx (hset h r (rwE (endF f i)))) := by
  refine mm_start (lo := [some (.ref s), some (.int (nI i)), none]) pn_X6 rfl rfl (Nat.le_of_ble_eq_true rfl) ?_
  refine mt_aload_n (pc := 0) dX6_endLoan_0 rfl ?_
  refine mt_iload_n (pc := 1) dX6_endLoan_1 rfl ?_
  refine mt_cV (pc := 2) (c_hasLoan (d := 0) hs hr hS hR) cal_X6_hasLoan vir_X6_hasLoan ml_X6_68 dX6_endLoan_2 (by first | assumption | omega) (by repeat (first | exact hset_eq _ _ _ | assumption | rw [hset_ne (by first | assumption | decide | omega)])) (by first | assumption | (show _ ≤ d; omega)) ⟨(Nat.le_of_ble_eq_true rfl), (Nat.le_of_ble_eq_true rfl)⟩ rfl rfl (Nat.le_of_ble_eq_true rfl) ?_
  rw [hf, if_neg (nI_pos (by omega)), if_neg (nI_ge hi (by omega))]
  refine mt_if_eq (pc := 5) (tgt := 69) dX6_endLoan_5 (by decide) (fun c5 => ?_) (fun c5 => ?_)
  · exact absurd c5 (by decide)
  · skip
    refine mt_bipush (pc := 8) (v := 24) dX6_endLoan_8 (by decide) ?_
    refine mt_iload_n (pc := 10) dX6_endLoan_10 rfl ?_
    refine mt_bipush (pc := 11) (v := 6) dX6_endLoan_11 (by decide) ?_
    refine mt_imul (pc := 13) dX6_endLoan_13 ?_
    refine mt_iadd (pc := 14) dX6_endLoan_14 ?_
    rw [show (24 + nI i * 6 : Int32) = nI (24 + 6 * i) by have := ix6 i 0; rwa [show (24 + nI i * 6 + nI 0 : Int32) = 24 + nI i * 6 from Int32.add_zero _] at this]
    refine mt_istore_n (pc := 15) dX6_endLoan_15 (Nat.le_of_ble_eq_true rfl) rfl ?_
    refine mt_heq (h' := hset h r (rwE (shF f (24 + 6 * i) 0))) (by rw [shF_0, hset_self hR]) ?_
    refine mt_for (pc := 16) (H := fun c => hset h r (rwE (shF f (24 + 6 * i) c))) (L := fun c => [some (.ref s), some (.int (nI i)), some (.int (nI (24 + 6 * i + c)))]) (54 - 6 * i) (fun c hc nc => ?_) ?_
    · skip
      refine mt_iload_n (pc := 16) dX6_endLoan_16 rfl ?_
      refine mt_bipush (pc := 17) (v := 6) dX6_endLoan_17 (by decide) ?_
      refine mt_iadd (pc := 19) dX6_endLoan_19 ?_
      refine mt_aload_n (pc := 20) dX6_endLoan_20 rfl ?_
      refine mt_get (pc := 21) gf_X6_11 dX6_endLoan_21 (by first | assumption | omega) (by rw [hset_ne hne]; exact hS) rfl ?_
      refine mt_alen (pc := 24) dX6_endLoan_24 (by first | assumption | omega) (by repeat (first | exact hset_eq _ _ _ | assumption | rw [hset_ne (by first | assumption | decide | omega)])) (by decide) ?_
      refine mt_icmp_ge (pc := 25) (tgt := 49) dX6_endLoan_25 (by decide) (fun c25 => ?_) (fun c25 => ?_)
      · (rw [show (nI (24 + 6 * i + c) + 6 : Int32) = nI (24 + 6 * i + c + 6) from nI_add _ 6] at c25; exact absurd c25 (nI_ge (by omega) (by omega)))
      · skip
        refine mt_aload_n (pc := 28) dX6_endLoan_28 rfl ?_
        refine mt_get (pc := 29) gf_X6_11 dX6_endLoan_29 (by first | assumption | omega) (by rw [hset_ne hne]; exact hS) rfl ?_
        refine mt_iload_n (pc := 32) dX6_endLoan_32 rfl ?_
        refine mt_aload_n (pc := 33) dX6_endLoan_33 rfl ?_
        refine mt_get (pc := 34) gf_X6_11 dX6_endLoan_34 (by first | assumption | omega) (by rw [hset_ne hne]; exact hS) rfl ?_
        refine mt_iload_n (pc := 37) dX6_endLoan_37 rfl ?_
        refine mt_bipush (pc := 38) (v := 6) dX6_endLoan_38 (by decide) ?_
        refine mt_iadd (pc := 40) dX6_endLoan_40 ?_
        rw [show (nI (24 + 6 * i + c) + 6 : Int32) = nI (24 + 6 * i + c + 6) from nI_add _ 6]
        refine mt_iald (pc := 41) dX6_endLoan_41 (by first | assumption | omega) (by repeat (first | exact hset_eq _ _ _ | assumption | rw [hset_ne (by first | assumption | decide | omega)])) (by first | assumption | (exact vp_in_nI (by omega) (by omega)) | decide) ?_
        first
          | refine mt_iast2 (pc := 42) dX6_endLoan_42 (by first | assumption | omega) (by first | assumption | (exact vp_in_nI (by omega) (by omega)) | decide) ?_
          | refine mt_iast (pc := 42) dX6_endLoan_42 (by first | assumption | omega) (by repeat (first | exact hset_eq _ _ _ | assumption | rw [hset_ne (by first | assumption | decide | omega)])) (by first | assumption | (exact vp_in_nI (by omega) (by omega)) | decide) ?_
        rw [nI_clamp (by omega), nI_clamp (by omega), shF_s]
        refine mt_iinc (pc := 43) (c9 := 1) dX6_endLoan_43 rfl (by decide) (Nat.le_of_ble_eq_true rfl) rfl ?_
        refine mt_goto (pc := 46) (tgt := 16) dX6_endLoan_46 (by decide) ?_
        rw [show (nI (24 + 6 * i + c) + 1 : Int32) = nI (24 + 6 * i + (c + 1)) from nI_1 _]
        exact nc
    · skip
      refine mt_iload_n (pc := 16) dX6_endLoan_16 rfl ?_
      refine mt_bipush (pc := 17) (v := 6) dX6_endLoan_17 (by decide) ?_
      refine mt_iadd (pc := 19) dX6_endLoan_19 ?_
      refine mt_aload_n (pc := 20) dX6_endLoan_20 rfl ?_
      refine mt_get (pc := 21) gf_X6_11 dX6_endLoan_21 (by first | assumption | omega) (by rw [hset_ne hne]; exact hS) rfl ?_
      refine mt_alen (pc := 24) dX6_endLoan_24 (by first | assumption | omega) (by repeat (first | exact hset_eq _ _ _ | assumption | rw [hset_ne (by first | assumption | decide | omega)])) (by decide) ?_
      refine mt_icmp_ge (pc := 25) (tgt := 49) dX6_endLoan_25 (by decide) (fun c25 => ?_) (fun c25 => ?_)
      · skip
        refine mt_aload_n (pc := 49) dX6_endLoan_49 rfl ?_
        refine mt_get (pc := 50) gf_X6_11 dX6_endLoan_50 (by first | assumption | omega) (by rw [hset_ne hne]; exact hS) rfl ?_
        refine mt_iconst (pc := 53) (v := 3) dX6_endLoan_53 (by decide) ?_
        refine mt_dup2 (pc := 54) dX6_endLoan_54 rfl rfl ?_
        refine mt_iald (pc := 55) dX6_endLoan_55 (by first | assumption | omega) (by repeat (first | exact hset_eq _ _ _ | assumption | rw [hset_ne (by first | assumption | decide | omega)])) (vp_in_nI (n := 3) (by decide) (by decide)) ?_
        refine mt_iconst (pc := 56) (v := 1) dX6_endLoan_56 (by decide) ?_
        refine mt_isub (pc := 57) dX6_endLoan_57 ?_
        first
          | refine mt_iast2 (pc := 58) dX6_endLoan_58 (by first | assumption | omega) (vp_in_nI (n := 3) (by decide) (by decide)) ?_
          | refine mt_iast (pc := 58) dX6_endLoan_58 (by first | assumption | omega) (by repeat (first | exact hset_eq _ _ _ | assumption | rw [hset_ne (by first | assumption | decide | omega)])) (vp_in_nI (n := 3) (by decide) (by decide)) ?_
        refine mt_aload_n (pc := 59) dX6_endLoan_59 rfl ?_
        refine mt_get (pc := 60) gf_X6_11 dX6_endLoan_60 (by first | assumption | omega) (by rw [hset_ne hne]; exact hS) rfl ?_
        refine mt_iconst (pc := 63) (v := 2) dX6_endLoan_63 (by decide) ?_
        refine mt_dup2 (pc := 64) dX6_endLoan_64 rfl rfl ?_
        refine mt_iald (pc := 65) dX6_endLoan_65 (by first | assumption | omega) (by repeat (first | exact hset_eq _ _ _ | assumption | rw [hset_ne (by first | assumption | decide | omega)])) (vp_in_nI (n := 2) (by decide) (by decide)) ?_
        refine mt_iconst (pc := 66) (v := 1) dX6_endLoan_66 (by decide) ?_
        refine mt_iadd (pc := 67) dX6_endLoan_67 ?_
        first
          | refine mt_iast2 (pc := 68) dX6_endLoan_68 (by first | assumption | omega) (vp_in_nI (n := 2) (by decide) (by decide)) ?_
          | refine mt_iast (pc := 68) dX6_endLoan_68 (by first | assumption | omega) (by repeat (first | exact hset_eq _ _ _ | assumption | rw [hset_ne (by first | assumption | decide | omega)])) (vp_in_nI (n := 2) (by decide) (by decide)) ?_
        have e3 : shF f (24 + 6 * i) (54 - 6 * i) 3 = f 3 := if_neg (by omega)
        have e2 : upd (shF f (24 + 6 * i) (54 - 6 * i)) 3 (shF f (24 + 6 * i) (54 - 6 * i) 3 - 1) 2 = f 2 := by rw [upd_ne (by decide)]; exact if_neg (by omega)
        exact mt_vret rfl dX6_endLoan_69 (Nat.le_of_ble_eq_true rfl) (Nat.le_of_ble_eq_true rfl) ⟨rfl, rfl, by show hset h r (rwE (upd (upd (shF f (24 + 6 * i) (54 - 6 * i)) 3 (shF f (24 + 6 * i) (54 - 6 * i) 3 - 1)) 2 (upd (shF f (24 + 6 * i) (54 - 6 * i)) 3 (shF f (24 + 6 * i) (54 - 6 * i) 3 - 1) 2 + 1))) = _; rw [e2, e3]; rfl⟩
      · (rw [show (nI (24 + 6 * i + (54 - 6 * i)) + 6 : Int32) = nI (24 + 6 * i + (54 - 6 * i) + 6) from nI_add _ 6] at c25; exact absurd (nI_le (by omega) (by omega)) c25)
theorem c_scopyFrom {s2 r2 : Nat} {g : Nat → Int32} (hd : 2 ≤ d) (hs : s < nx) (hr : r < nx) (hS : h s = stE r) (hR : h r = rwE f) (hs2 : s2 < nx) (hr2 : r2 < nx) (hS2 : h s2 = stE r2) (hR2 : h r2 = rwE g) : mm_Con G l yX6_copyFrom cX6_copyFrom 2 none d 0 0 [.ref s, .ref s2] nx h (mm_ret none nx (hset h r (rwE (va_cpy g f 0 0 84)))) := by
  refine mm_start (lo := [some (.ref s), some (.ref s2)]) pn_X6 rfl rfl (Nat.le_of_ble_eq_true rfl) ?_
  refine mt_aload_n (pc := 0) dX6_copyFrom_0 rfl ?_
  refine mt_get (pc := 1) gf_X6_11 dX6_copyFrom_1 (by first | assumption | omega) (by repeat (first | exact hset_eq _ _ _ | assumption | rw [hset_ne (by first | assumption | decide | omega)])) rfl ?_
  refine mt_aload_n (pc := 4) dX6_copyFrom_4 rfl ?_
  refine mt_get (pc := 5) gf_X6_11 dX6_copyFrom_5 (by first | assumption | omega) (by repeat (first | exact hset_eq _ _ _ | assumption | rw [hset_ne (by first | assumption | decide | omega)])) rfl ?_
  refine mt_cN (pc := 8) (c_copyRow (d := 1) (n := 84) (Nat.le_refl 1) (by decide) hr2 hr hR2 hR) cal_X10_copyRow sta_X10_copyRow mn_X6_44 dX6_copyFrom_8 (by first | assumption | (show _ ≤ d; omega)) ⟨(Nat.le_of_ble_eq_true rfl), (Nat.le_of_ble_eq_true rfl)⟩ rfl rfl (Nat.le_of_ble_eq_true rfl) ?_
  exact mt_vret rfl dX6_copyFrom_11 (Nat.le_of_ble_eq_true rfl) (Nat.le_of_ble_eq_true rfl) ⟨rfl, rfl, rfl⟩
theorem c_toldUnder {p : Nat} (hd : 1 ≤ d) (hx : 34 ≤ nx) (hp : p < 8) (hC : CO h k) : mm_Con G l yX1_toldUnder cX1_toldUnder 2 (some .int) d 0 0 [.ref 3, .int (nI p)] nx h (mm_ret (some (.int (k.2.2.2.1 p))) nx h) := by
  obtain ⟨c1, c2, c3, -⟩ := hC
  refine mm_start (lo := [some (.ref 3), some (.int (nI p))]) pn_X1 rfl rfl (Nat.le_of_ble_eq_true rfl) ?_
  refine mt_aload_n (pc := 0) dX1_toldUnder_0 rfl ?_
  refine mt_get (pc := 1) gf_X1_15 dX1_toldUnder_1 (by first | assumption | omega) (by repeat (first | exact hset_eq _ _ _ | assumption | rw [hset_ne (by first | assumption | decide | omega)])) rfl ?_
  refine mt_iload_n (pc := 4) dX1_toldUnder_4 rfl ?_
  refine mt_cN (pc := 5) (c_entry (d := 0) (r := 5) (i := nI p) (by omega) c3 (by decide)) cal_X10_entry sta_X10_entry mn_X1_38 dX1_toldUnder_5 (by first | assumption | (show _ ≤ d; omega)) ⟨(Nat.le_of_ble_eq_true rfl), (Nat.le_of_ble_eq_true rfl)⟩ rfl rfl (Nat.le_of_ble_eq_true rfl) ?_
  exact mt_iret rfl dX1_toldUnder_8 (Nat.le_of_ble_eq_true rfl) (Nat.le_of_ble_eq_true rfl) ⟨by rw [mm_at_nI hp (by decide)], rfl, rfl⟩
theorem c_kinOf {p : Nat} (hd : 1 ≤ d) (hx : 34 ≤ nx) (hp : p < 8) (hC : CO h k) : mm_Con G l yX1_kinOf cX1_kinOf 2 (some .int) d 0 0 [.ref 3, .int (nI p)] nx h (mm_ret (some (.int (k.2.2.2.2.1 p))) nx h) := by
  obtain ⟨c1, c2, c3, c4, -⟩ := hC
  refine mm_start (lo := [some (.ref 3), some (.int (nI p))]) pn_X1 rfl rfl (Nat.le_of_ble_eq_true rfl) ?_
  refine mt_aload_n (pc := 0) dX1_kinOf_0 rfl ?_
  refine mt_get (pc := 1) gf_X1_18 dX1_kinOf_1 (by first | assumption | omega) (by repeat (first | exact hset_eq _ _ _ | assumption | rw [hset_ne (by first | assumption | decide | omega)])) rfl ?_
  refine mt_iload_n (pc := 4) dX1_kinOf_4 rfl ?_
  refine mt_cN (pc := 5) (c_entry (d := 0) (r := 6) (i := nI p) (by omega) c4 (by decide)) cal_X10_entry sta_X10_entry mn_X1_38 dX1_kinOf_5 (by first | assumption | (show _ ≤ d; omega)) ⟨(Nat.le_of_ble_eq_true rfl), (Nat.le_of_ble_eq_true rfl)⟩ rfl rfl (Nat.le_of_ble_eq_true rfl) ?_
  exact mt_iret rfl dX1_kinOf_8 (Nat.le_of_ble_eq_true rfl) (Nat.le_of_ble_eq_true rfl) ⟨by rw [mm_at_nI hp (by decide)], rfl, rfl⟩
theorem c_toldStanding {p : Nat} (hd : 1 ≤ d) (hx : 34 ≤ nx) (hp : p < 6) (hC : CO h k) : mm_Con G l yX1_toldStanding cX1_toldStanding 2 (some .int) d 0 0 [.ref 3, .int (nI p)] nx h (mm_ret (some (.int (k.2.2.2.2.2.1 p))) nx h) := by
  obtain ⟨c1, c2, c3, c4, c5, -⟩ := hC
  refine mm_start (lo := [some (.ref 3), some (.int (nI p))]) pn_X1 rfl rfl (Nat.le_of_ble_eq_true rfl) ?_
  refine mt_aload_n (pc := 0) dX1_toldStanding_0 rfl ?_
  refine mt_get (pc := 1) gf_X1_21 dX1_toldStanding_1 (by first | assumption | omega) (by repeat (first | exact hset_eq _ _ _ | assumption | rw [hset_ne (by first | assumption | decide | omega)])) rfl ?_
  refine mt_iload_n (pc := 4) dX1_toldStanding_4 rfl ?_
  refine mt_cN (pc := 5) (c_entry (d := 0) (r := 7) (i := nI p) (by omega) c5 (by decide)) cal_X10_entry sta_X10_entry mn_X1_38 dX1_toldStanding_5 (by first | assumption | (show _ ≤ d; omega)) ⟨(Nat.le_of_ble_eq_true rfl), (Nat.le_of_ble_eq_true rfl)⟩ rfl rfl (Nat.le_of_ble_eq_true rfl) ?_
  exact mt_iret rfl dX1_toldStanding_8 (Nat.le_of_ble_eq_true rfl) (Nat.le_of_ble_eq_true rfl) ⟨by rw [mm_at_nI hp (by decide)], rfl, rfl⟩
theorem c_toldPurse {p : Nat} (hd : 1 ≤ d) (hx : 34 ≤ nx) (hp : p < 6) (hC : CO h k) : mm_Con G l yX1_toldPurse cX1_toldPurse 2 (some .int) d 0 0 [.ref 3, .int (nI p)] nx h (mm_ret (some (.int (k.2.2.2.2.2.2 p))) nx h) := by
  obtain ⟨c1, c2, c3, c4, c5, c6, -⟩ := hC
  refine mm_start (lo := [some (.ref 3), some (.int (nI p))]) pn_X1 rfl rfl (Nat.le_of_ble_eq_true rfl) ?_
  refine mt_aload_n (pc := 0) dX1_toldPurse_0 rfl ?_
  refine mt_get (pc := 1) gf_X1_24 dX1_toldPurse_1 (by first | assumption | omega) (by repeat (first | exact hset_eq _ _ _ | assumption | rw [hset_ne (by first | assumption | decide | omega)])) rfl ?_
  refine mt_iload_n (pc := 4) dX1_toldPurse_4 rfl ?_
  refine mt_cN (pc := 5) (c_entry (d := 0) (r := 8) (i := nI p) (by omega) c6 (by decide)) cal_X10_entry sta_X10_entry mn_X1_38 dX1_toldPurse_5 (by first | assumption | (show _ ≤ d; omega)) ⟨(Nat.le_of_ble_eq_true rfl), (Nat.le_of_ble_eq_true rfl)⟩ rfl rfl (Nat.le_of_ble_eq_true rfl) ?_
  exact mt_iret rfl dX1_toldPurse_8 (Nat.le_of_ble_eq_true rfl) (Nat.le_of_ble_eq_true rfl) ⟨by rw [mm_at_nI hp (by decide)], rfl, rfl⟩
/-- a fresh row: all 0, then what lies under each SLAB, then standings and purses -/
def zrF (f : Nat → Int32) (n : Nat) : Nat → Int32 := fun j => if j < n then 0 else f j
def begF (k : CS) : Nat → Int32 := fun j => if 4 ≤ j ∧ j < 4 + k.1 then k.2.2.2.1 (j - 4) else if 12 ≤ j ∧ j < 12 + k.2.1 then k.2.2.2.2.2.1 (j - 12) else if 18 ≤ j ∧ j < 18 + k.2.1 then k.2.2.2.2.2.2 (j - 18) else 0
def unF (k : CS) (f : Nat → Int32) : Nat → Nat → Int32
  | 0 => f
  | n + 1 => upd (unF k f n) (4 + n) (k.2.2.2.1 n)
def spF (k : CS) (f : Nat → Int32) : Nat → Nat → Int32
  | 0 => f
  | n + 1 => upd (upd (spF k f n) (12 + n) (k.2.2.2.2.2.1 n)) (18 + n) (k.2.2.2.2.2.2 n)
theorem zrF_s (f : Nat → Int32) (n : Nat) : upd (zrF f n) n 0 = zrF f (n + 1) := by
  funext j
  by_cases hj : j = n
  · subst hj
    rw [upd_eq]
    exact (if_pos (by omega)).symm
  · rw [upd_ne hj]
    simp only [zrF]
    by_cases hq : j < n
    · rw [if_pos hq, if_pos (by omega)]
    · rw [if_neg hq, if_neg (by omega)]
theorem c_sbegin (hd : 2 ≤ d) (hx : 34 ≤ nx) (hC : CO h k) (hs5 : 35 ≤ s) (hr5 : 35 ≤ r) (hne : s ≠ r) (hs : s < nx) (hr : r < nx) (hS : h s = stE r) (hR : h r = rwE f) : mm_Con G l yX6_begin cX6_begin 3 none d 0 0 [.ref s, .ref 3] nx h (mm_ret none nx (hset h r (rwE (spF k (unF k (zrF f 84) k.1) k.2.1)))) := by
  have hq : ∀ g, CO (hset h r (rwE g)) k := by
    intro g
    obtain ⟨c1, c2, c3, c4, c5, c6, c7⟩ := hC
    exact ⟨by rw [hset_ne (by omega)]; exact c1, by rw [hset_ne (by omega)]; exact c2, by rw [hset_ne (by omega)]; exact c3, by rw [hset_ne (by omega)]; exact c4, by rw [hset_ne (by omega)]; exact c5, by rw [hset_ne (by omega)]; exact c6, c7⟩
  have hq1 : ∀ g, hset h r (rwE g) 3 = coE (nI k.1) (nI k.2.1) := fun g => (hq g).1
  have hq2 : ∀ g, hset h r (rwE g) s = stE r := fun g => by rw [hset_ne hne]; exact hS
  have hk1 : k.1 ≤ 8 := hC.2.2.2.2.2.2.1
  have hk2 : k.2.1 ≤ 6 := hC.2.2.2.2.2.2.2
  refine mm_start (lo := [some (.ref s), some (.ref 3), none]) pn_X6 rfl rfl (Nat.le_of_ble_eq_true rfl) ?_
  refine mt_iconst (pc := 0) (v := 0) dX6_begin_0 (by decide) ?_
  refine mt_istore_n (pc := 1) dX6_begin_1 (Nat.le_of_ble_eq_true rfl) rfl ?_
  refine mt_heq (h' := hset h r (rwE (zrF f 0))) (by rw [show zrF f 0 = f from funext fun j => if_neg (Nat.not_lt_zero j), hset_self hR]) ?_
  refine mt_for (pc := 2) (H := fun c => hset h r (rwE (zrF f c))) (L := fun c => [some (.ref s), some (.ref 3), some (.int (nI c))]) 84 (fun c hc nc => ?_) ?_
  · skip
    refine mt_iload_n (pc := 2) dX6_begin_2 rfl ?_
    refine mt_aload_n (pc := 3) dX6_begin_3 rfl ?_
    refine mt_get (pc := 4) gf_X6_11 dX6_begin_4 (by first | assumption | omega) (hq2 _) rfl ?_
    refine mt_alen (pc := 7) dX6_begin_7 (by first | assumption | omega) (by repeat (first | exact hset_eq _ _ _ | assumption | rw [hset_ne (by first | assumption | decide | omega)])) (by decide) ?_
    refine mt_icmp_ge (pc := 8) (tgt := 24) dX6_begin_8 (by decide) (fun c8 => ?_) (fun c8 => ?_)
    · exact absurd c8 (nI_ge hc (by omega))
    · skip
      refine mt_aload_n (pc := 11) dX6_begin_11 rfl ?_
      refine mt_get (pc := 12) gf_X6_11 dX6_begin_12 (by first | assumption | omega) (hq2 _) rfl ?_
      refine mt_iload_n (pc := 15) dX6_begin_15 rfl ?_
      refine mt_iconst (pc := 16) (v := 0) dX6_begin_16 (by decide) ?_
      first
        | refine mt_iast2 (pc := 17) dX6_begin_17 (by first | assumption | omega) (by first | assumption | (exact vp_in_nI (by omega) (by omega)) | decide) ?_
        | refine mt_iast (pc := 17) dX6_begin_17 (by first | assumption | omega) (by repeat (first | exact hset_eq _ _ _ | assumption | rw [hset_ne (by first | assumption | decide | omega)])) (by first | assumption | (exact vp_in_nI (by omega) (by omega)) | decide) ?_
      rw [nI_clamp (by omega), zrF_s]
      refine mt_iinc (pc := 18) (c9 := 1) dX6_begin_18 rfl (by decide) (Nat.le_of_ble_eq_true rfl) rfl ?_
      refine mt_goto (pc := 21) (tgt := 2) dX6_begin_21 (by decide) ?_
      rw [show (nI c + 1 : Int32) = nI (c + 1) from nI_1 c]
      first
        | exact nc
        | exact mt_fg (by repeat (first | exact trivial | refine ⟨rfl, ?_⟩ | rfl)) nc
  · skip
    refine mt_iload_n (pc := 2) dX6_begin_2 rfl ?_
    refine mt_aload_n (pc := 3) dX6_begin_3 rfl ?_
    refine mt_get (pc := 4) gf_X6_11 dX6_begin_4 (by first | assumption | omega) (hq2 _) rfl ?_
    refine mt_alen (pc := 7) dX6_begin_7 (by first | assumption | omega) (by repeat (first | exact hset_eq _ _ _ | assumption | rw [hset_ne (by first | assumption | decide | omega)])) (by decide) ?_
    refine mt_icmp_ge (pc := 8) (tgt := 24) dX6_begin_8 (by decide) (fun c8 => ?_) (fun c8 => ?_)
    · skip
      refine mt_iconst (pc := 24) (v := 0) dX6_begin_24 (by decide) ?_
      refine mt_istore_n (pc := 25) dX6_begin_25 (Nat.le_of_ble_eq_true rfl) rfl ?_
      refine mt_for (pc := 26) (H := fun c => hset h r (rwE (unF k (zrF f 84) c))) (L := fun c => [some (.ref s), some (.ref 3), some (.int (nI c))]) (k.1) (fun c hc nc => ?_) ?_
      · skip
        refine mt_iload_n (pc := 26) dX6_begin_26 rfl ?_
        refine mt_aload_n (pc := 27) dX6_begin_27 rfl ?_
        refine mt_get (pc := 28) gf_X6_15 dX6_begin_28 (by first | assumption | omega) (hq1 _) rfl ?_
        refine mt_icmp_ge (pc := 31) (tgt := 50) dX6_begin_31 (by decide) (fun c31 => ?_) (fun c31 => ?_)
        · exact absurd c31 (nI_ge hc (by omega))
        · skip
          refine mt_aload_n (pc := 34) dX6_begin_34 rfl ?_
          refine mt_iload_n (pc := 35) dX6_begin_35 rfl ?_
          refine mt_aload_n (pc := 36) dX6_begin_36 rfl ?_
          refine mt_iload_n (pc := 37) dX6_begin_37 rfl ?_
          refine mt_cV (pc := 38) (c_toldUnder (d := 1) (Nat.le_refl 1) hx (by omega) (hq _)) cal_X1_toldUnder vir_X1_toldUnder ml_X6_21 dX6_begin_38 (by first | assumption | omega) (hq1 _) (by first | assumption | (show _ ≤ d; omega)) ⟨(Nat.le_of_ble_eq_true rfl), (Nat.le_of_ble_eq_true rfl)⟩ rfl rfl (Nat.le_of_ble_eq_true rfl) ?_
          refine mt_cV (pc := 41) (c_setUnder (d := 1) (Nat.le_refl 1) (by omega) hs hr (hq2 _) (hset_eq _ _ _)) cal_X6_setUnder vir_X6_setUnder ml_X6_25 dX6_begin_41 (by first | assumption | omega) (hq2 _) (by first | assumption | (show _ ≤ d; omega)) ⟨(Nat.le_of_ble_eq_true rfl), (Nat.le_of_ble_eq_true rfl)⟩ rfl rfl (Nat.le_of_ble_eq_true rfl) ?_
          rw [hset_hset]
          refine mt_iinc (pc := 44) (c9 := 1) dX6_begin_44 rfl (by decide) (Nat.le_of_ble_eq_true rfl) rfl ?_
          refine mt_goto (pc := 47) (tgt := 26) dX6_begin_47 (by decide) ?_
          rw [show (nI c + 1 : Int32) = nI (c + 1) from nI_1 c]
          first
            | exact nc
            | exact mt_fg (by repeat (first | exact trivial | refine ⟨rfl, ?_⟩ | rfl)) nc
      · skip
        refine mt_iload_n (pc := 26) dX6_begin_26 rfl ?_
        refine mt_aload_n (pc := 27) dX6_begin_27 rfl ?_
        refine mt_get (pc := 28) gf_X6_15 dX6_begin_28 (by first | assumption | omega) (hq1 _) rfl ?_
        refine mt_icmp_ge (pc := 31) (tgt := 50) dX6_begin_31 (by decide) (fun c31 => ?_) (fun c31 => ?_)
        · skip
          refine mt_iconst (pc := 50) (v := 0) dX6_begin_50 (by decide) ?_
          refine mt_istore_n (pc := 51) dX6_begin_51 (Nat.le_of_ble_eq_true rfl) rfl ?_
          refine mt_for (pc := 52) (H := fun c => hset h r (rwE (spF k (unF k (zrF f 84) k.1) c))) (L := fun c => [some (.ref s), some (.ref 3), some (.int (nI c))]) (k.2.1) (fun c hc nc => ?_) ?_
          · skip
            refine mt_iload_n (pc := 52) dX6_begin_52 rfl ?_
            refine mt_aload_n (pc := 53) dX6_begin_53 rfl ?_
            refine mt_get (pc := 54) gf_X6_29 dX6_begin_54 (by first | assumption | omega) (hq1 _) rfl ?_
            refine mt_icmp_ge (pc := 57) (tgt := 86) dX6_begin_57 (by decide) (fun c57 => ?_) (fun c57 => ?_)
            · exact absurd c57 (nI_ge hc (by omega))
            · skip
              refine mt_aload_n (pc := 60) dX6_begin_60 rfl ?_
              refine mt_iload_n (pc := 61) dX6_begin_61 rfl ?_
              refine mt_aload_n (pc := 62) dX6_begin_62 rfl ?_
              refine mt_iload_n (pc := 63) dX6_begin_63 rfl ?_
              refine mt_cV (pc := 64) (c_toldStanding (d := 1) (Nat.le_refl 1) hx (by omega) (hq _)) cal_X1_toldStanding vir_X1_toldStanding ml_X6_32 dX6_begin_64 (by first | assumption | omega) (hq1 _) (by first | assumption | (show _ ≤ d; omega)) ⟨(Nat.le_of_ble_eq_true rfl), (Nat.le_of_ble_eq_true rfl)⟩ rfl rfl (Nat.le_of_ble_eq_true rfl) ?_
              refine mt_cV (pc := 67) (c_setStanding (d := 1) (Nat.le_refl 1) (by omega) hs hr (hq2 _) (hset_eq _ _ _)) cal_X6_setStanding vir_X6_setStanding ml_X6_35 dX6_begin_67 (by first | assumption | omega) (hq2 _) (by first | assumption | (show _ ≤ d; omega)) ⟨(Nat.le_of_ble_eq_true rfl), (Nat.le_of_ble_eq_true rfl)⟩ rfl rfl (Nat.le_of_ble_eq_true rfl) ?_
              rw [hset_hset]
              refine mt_aload_n (pc := 70) dX6_begin_70 rfl ?_
              refine mt_iload_n (pc := 71) dX6_begin_71 rfl ?_
              refine mt_aload_n (pc := 72) dX6_begin_72 rfl ?_
              refine mt_iload_n (pc := 73) dX6_begin_73 rfl ?_
              refine mt_cV (pc := 74) (c_toldPurse (d := 1) (Nat.le_refl 1) hx (by omega) (hq _)) cal_X1_toldPurse vir_X1_toldPurse ml_X6_38 dX6_begin_74 (by first | assumption | omega) (hq1 _) (by first | assumption | (show _ ≤ d; omega)) ⟨(Nat.le_of_ble_eq_true rfl), (Nat.le_of_ble_eq_true rfl)⟩ rfl rfl (Nat.le_of_ble_eq_true rfl) ?_
              refine mt_cV (pc := 77) (c_setPurse (d := 1) (Nat.le_refl 1) (by omega) hs hr (hq2 _) (hset_eq _ _ _)) cal_X6_setPurse vir_X6_setPurse ml_X6_41 dX6_begin_77 (by first | assumption | omega) (hq2 _) (by first | assumption | (show _ ≤ d; omega)) ⟨(Nat.le_of_ble_eq_true rfl), (Nat.le_of_ble_eq_true rfl)⟩ rfl rfl (Nat.le_of_ble_eq_true rfl) ?_
              rw [hset_hset]
              refine mt_iinc (pc := 80) (c9 := 1) dX6_begin_80 rfl (by decide) (Nat.le_of_ble_eq_true rfl) rfl ?_
              refine mt_goto (pc := 83) (tgt := 52) dX6_begin_83 (by decide) ?_
              rw [show (nI c + 1 : Int32) = nI (c + 1) from nI_1 c]
              first
                | exact nc
                | exact mt_fg (by repeat (first | exact trivial | refine ⟨rfl, ?_⟩ | rfl)) nc
          · skip
            refine mt_iload_n (pc := 52) dX6_begin_52 rfl ?_
            refine mt_aload_n (pc := 53) dX6_begin_53 rfl ?_
            refine mt_get (pc := 54) gf_X6_29 dX6_begin_54 (by first | assumption | omega) (hq1 _) rfl ?_
            refine mt_icmp_ge (pc := 57) (tgt := 86) dX6_begin_57 (by decide) (fun c57 => ?_) (fun c57 => ?_)
            · skip
              exact mt_vret rfl dX6_begin_86 (Nat.le_of_ble_eq_true rfl) (Nat.le_of_ble_eq_true rfl) ⟨rfl, rfl, rfl⟩
            · exact absurd (nI_le (Nat.le_refl _) (by omega)) c57
        · exact absurd (nI_le (Nat.le_refl _) (by omega)) c31
    · exact absurd (nI_le (Nat.le_refl _) (by omega)) c8
end ENDS
