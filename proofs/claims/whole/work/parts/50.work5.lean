/-! Work: what a STEP does. -/
def nlo (f : Nat → Int32) : Nat := (f 3).toNatClampNeg
theorem nlo_eq {f : Nat → Int32} {n : Nat} (h : RW f n) : nlo f = n := by
  have := h.2.1
  unfold nlo
  rw [h.1, nI_clamp (by omega)]
def doS (k : CS) (cs : List Nat) (t : ST) (f : Nat → Int32) : (Nat → Int32) × Int32 := match t with
  | (0, [a, p, x, y], _) => if ¬ 10 ≤ f 3 ∧ openC k f a p (nI x) then (lendF f (nlo f) a p (nI x) (nI y), 1) else (f, 0)
  | (1, [i], _) => if nlo f ≤ i ∨ f (18 + lsoul f i) < owI k cs f i then (f, 0) else (payF k cs f i, 1)
  | (2, [a, x], _) => if f (18 + a) < 300 then (upd f (18 + a) (min300 (f (18 + a) + nI x)), 1) else (f, 0)
  | (3, [p], _) => (upd f 1 (sealS (f 1) p), if (f 1 >>> (nI p &&& 31)) &&& 1 = 1 then 0 else 1)
  | (4, [p], _) => (upd f 1 (openS (f 1) p), if (f 1 >>> (nI p &&& 31)) &&& 1 = 1 then 1 else 0)
  | _ => if f 0 < 400 then (nigF f (nlo f), 1) else (f, 0)
theorem RW_lend {f : Nat → Int32} {n a p : Nat} {x y : Int32} (h : RW f n) (hn : n < 10) (ha : a < 6) (hp : p < 8) : RW (lendF f n a p x y) (n + 1) := by
  unfold lendF addF
  refine ⟨upd_eq _ _ _, by omega, fun i hi => ?_⟩
  rcases Nat.lt_or_eq_of_le (Nat.le_of_lt_succ hi) with hi | rfl
  · have h1 := h.2.2 i hi
    rw [upd_ne (by omega), upd_ne (by omega), upd_ne (by omega), upd_ne (by omega), upd_ne (by omega), upd_ne (by omega), upd_ne (by omega), upd_ne (by omega)]
    rw [upd_ne (by omega), upd_ne (by omega), upd_ne (by omega), upd_ne (by omega), upd_ne (by omega), upd_ne (by omega), upd_ne (by omega), upd_ne (by omega)]
    exact h1
  · refine ⟨⟨a, ?_, ha⟩, p, ?_, hp⟩
    · rw [upd_ne (by omega), upd_ne (by omega), upd_ne (by omega), upd_ne (by omega), upd_ne (by omega), upd_ne (by omega), upd_eq]
    · rw [upd_ne (by omega), upd_ne (by omega), upd_ne (by omega), upd_ne (by omega), upd_ne (by omega), upd_eq]
theorem RW_end {f : Nat → Int32} {n i : Nat} (h : RW f n) (hi : i < n) : RW (endF f i) (n - 1) := by
  have hn := h.2.1
  refine ⟨?_, by omega, fun j hj => ?_⟩
  · show upd (upd _ 3 (f 3 - 1)) 2 _ 3 = _
    rw [upd_ne (by omega), upd_eq, h.1, show (1 : Int32) = nI 1 from rfl, pk_sub (by omega)]
  · have e0 : endF f i (24 + 6 * j + 0) = shF f (24 + 6 * i) (54 - 6 * i) (24 + 6 * j + 0) := by unfold endF; rw [upd_ne (by omega), upd_ne (by omega)]
    have e1 : endF f i (24 + 6 * j + 1) = shF f (24 + 6 * i) (54 - 6 * i) (24 + 6 * j + 1) := by unfold endF; rw [upd_ne (by omega), upd_ne (by omega)]
    rw [e0, e1]
    unfold shF
    by_cases hq : i ≤ j
    · rw [if_pos (by omega), if_pos (by omega)]
      have := h.2.2 (j + 1) (by omega)
      rw [show 24 + 6 * (j + 1) + 0 = 24 + 6 * j + 0 + 6 by omega, show 24 + 6 * (j + 1) + 1 = 24 + 6 * j + 1 + 6 by omega] at this
      exact this
    · rw [if_neg (by omega), if_neg (by omega)]
      exact h.2.2 j (by omega)
theorem RW_pay {k : CS} {cs : List Nat} {f : Nat → Int32} {n i : Nat} (hw : RW f n) (hi : i < n) : RW (payF k cs f i) (n - 1) := by
  have so := hw.so hi
  have sl := hw.sl hi
  refine RW_end ?_ hi
  have hw2 : RW (pay2 k cs f i) n := RW_upd (RW_upd hw (by omega) (Or.inl (by omega))) (by omega) (Or.inl (by omega))
  unfold pay3
  split
  · exact hw2
  · exact RW_upd hw2 (by omega) (Or.inl (by omega))
theorem RW_do {k : CS} {cs : List Nat} {f : Nat → Int32} {n sl so : Nat} {t : ST} (hso : so ≤ 6) (hsl : sl ≤ 8) (ht : TW so sl t) (h6 : t.1 ≠ 6) (hw : RW f n) : ∃ n', RW (doS k cs t f).1 n' := by
  have hn := hw.2.1
  rcases ht with ⟨a, p, x, y, rfl, h1, h2, -⟩ | ⟨i, rfl, h1⟩ | ⟨a, x, rfl, h1, -⟩ | ⟨p, rfl, h1⟩ | ⟨p, rfl, h1⟩ | rfl | ⟨x, z, rfl, -⟩
  · simp only [doS]
    split
    · next hc =>
      refine ⟨n + 1, ?_⟩
      have hn2 : n < 10 := Nat.lt_of_not_le fun z => hc.1 (by rw [hw.1]; exact nI_le (a := 10) z (by omega))
      rw [nlo_eq hw]
      exact RW_lend hw hn2 (by omega) (by omega)
    · exact ⟨n, hw⟩
  · simp only [doS]
    split
    · exact ⟨n, hw⟩
    · next hc =>
      refine ⟨n - 1, RW_pay hw ?_⟩
      rw [nlo_eq hw] at hc
      omega
  · simp only [doS]
    split
    · exact ⟨n, RW_upd hw (by omega) (Or.inl (by omega))⟩
    · exact ⟨n, hw⟩
  · exact ⟨n, RW_upd hw (by omega) (Or.inl (by omega))⟩
  · exact ⟨n, RW_upd hw (by omega) (Or.inl (by omega))⟩
  · simp only [doS]
    split
    · rw [nlo_eq hw]
      exact ⟨n, RW_nigF hw n (Nat.le_refl n)⟩
    · exact ⟨n, hw⟩
  · exact absurd rfl h6
section WORK5
variable {G : mm_G} {l : Launch} {d nx : Nat} {h : Nat → mm_E} {s r : Nat} {f R : Nat → Int32} {k : CS} {cs : List Nat} {x1 x2 x3 x4 x5 x6 : Int32}
theorem c_payN {n i : Nat} (hd : 2 ≤ d) (hx : 34 ≤ nx) (hi2 : i < 1000) (hi : n ≤ i) (hw : RW f n) (h33 : h 33 = ruE) (hs : s < nx) (hr : r < nx) (hS : h s = stE r) (hR : h r = rwE f) : mm_Con G l yX4_pay cX4_pay 6 (some .boolean) d 0 0 [.ref 33, .ref s, .int (nI i)] nx h (mm_ret (some (.int 0)) nx h) := by
  have hn := hw.2.1
  refine mm_start (lo := [some (.ref 33), some (.ref s), some (.int (nI i)), none, none, none]) pn_X4 rfl rfl (Nat.le_of_ble_eq_true rfl) ?_
  refine mt_aload_n (pc := 0) dX4_pay_0 rfl ?_
  refine mt_iload_n (pc := 1) dX4_pay_1 rfl ?_
  refine mt_cV (pc := 2) (c_hasLoan (d := 1) hs hr hS hR) cal_X6_hasLoan vir_X6_hasLoan ml_X4_84 dX4_pay_2 (by first | assumption | omega) (by repeat (first | exact hset_eq _ _ _ | assumption | rw [hset_ne (by first | assumption | decide | omega)])) (by first | assumption | (show _ ≤ d; omega)) ⟨(Nat.le_of_ble_eq_true rfl), (Nat.le_of_ble_eq_true rfl)⟩ rfl rfl (Nat.le_of_ble_eq_true rfl) ?_
  rw [hw.1, if_neg (nI_pos (by omega)), if_pos (nI_le hi (by omega))]
  refine mt_if_ne (pc := 5) (tgt := 10) dX4_pay_5 (by decide) (fun c5 => ?_) (fun c5 => ?_)
  · exact absurd rfl c5
  · skip
    refine mt_iconst (pc := 8) (v := 0) dX4_pay_8 (by decide) ?_
    exact mt_zret rfl (by first | exact Or.inl rfl | exact Or.inr rfl) dX4_pay_9 (Nat.le_of_ble_eq_true rfl) (Nat.le_of_ble_eq_true rfl) ⟨rfl, rfl, rfl⟩
theorem c_field {i j : Nat} (hd : 1 ≤ d) (hx : 34 ≤ nx) (hij : 6 * i + j < 180) (h31 : h 31 = wkE x1 x2 x3 x4 x5 x6) (h32 : h 32 = iaE 180 R) : mm_Con G l yX9_field cX9_field 3 (some .int) d 0 0 [.ref 31, .int (nI i), .int (nI j)] nx h (mm_ret (some (.int (R (6 * i + j)))) nx h) := by
  refine mm_start (lo := [some (.ref 31), some (.int (nI i)), some (.int (nI j))]) pn_X9 rfl rfl (Nat.le_of_ble_eq_true rfl) ?_
  refine mt_aload_n (pc := 0) dX9_field_0 rfl ?_
  refine mt_get (pc := 1) gf_X9_11 dX9_field_1 (by first | assumption | omega) (by repeat (first | exact hset_eq _ _ _ | assumption | rw [hset_ne (by first | assumption | decide | omega)])) rfl ?_
  refine mt_iload_n (pc := 4) dX9_field_4 rfl ?_
  refine mt_bipush (pc := 5) (v := 6) dX9_field_5 (by decide) ?_
  refine mt_imul (pc := 7) dX9_field_7 ?_
  refine mt_iload_n (pc := 8) dX9_field_8 rfl ?_
  refine mt_iadd (pc := 9) dX9_field_9 ?_
  rw [ix61]
  refine mt_cN (pc := 10) (c_entry (d := 0) (by omega) h32 (by decide)) cal_X10_entry sta_X10_entry mn_X9_100 dX9_field_10 (by first | assumption | (show _ ≤ d; omega)) ⟨(Nat.le_of_ble_eq_true rfl), (Nat.le_of_ble_eq_true rfl)⟩ rfl rfl (Nat.le_of_ble_eq_true rfl) ?_
  exact mt_iret rfl dX9_field_13 (Nat.le_of_ble_eq_true rfl) (Nat.le_of_ble_eq_true rfl) ⟨by rw [mm_at_nI hij (by decide)], rfl, rfl⟩
/-- what isDone is given -/
def WG (h : Nat → mm_E) (k : CS) (cs : List Nat) (s r : Nat) (f : Nat → Int32) (n : Nat) (nx : Nat) : Prop := LA h cs ∧ LWF cs ∧ CO h k ∧ h 33 = ruE ∧ h s = stE r ∧ h r = rwE f ∧ RW f n ∧ 35 ≤ s ∧ 35 ≤ r ∧ s ≠ r ∧ s < nx ∧ r < nx
theorem P_row_same {v : Option Value} {r : Nat} {f : Nat → Int32} {nx : Nat} {h : Nat → mm_E} (hA : LA h cs) (hR : h r = rwE f) : P_row v r f nx h (.inl v) nx h := ⟨rfl, rfl, FRr_rf hA, hR⟩
theorem P_row_set {v : Option Value} {r : Nat} {f : Nat → Int32} {nx : Nat} {h : Nat → mm_E} (hr : 35 ≤ r) (hA : LA h cs) : P_row v r f nx h (.inl v) nx (hset h r (rwE f)) := ⟨rfl, rfl, FRr_of hr (FRl_rf hA), hset_eq _ _ _⟩
theorem c_do0 {i n a p x y : Nat} (hd : 6 ≤ d) (hx : 34 ≤ nx) (hi30 : i < 30) (hg : WG h k cs s r f n nx) (h31 : h 31 = wkE x1 x2 x3 x4 x5 x6) (h32 : h 32 = iaE 180 R) (hk : stOK R i (0, [a, p, x, y], 0)) (ha : a < 6) (hp : p < 8) : mm_Con G l yX9_isDone cX9_isDone 5 (some .boolean) d 0 0 [.ref 31, .ref 33, .ref s, .int (nI i)] nx h (P_row (some (.int (doS k cs (0, [a, p, x, y], 0) f).2)) r (doS k cs (0, [a, p, x, y], 0) f).1 nx h) := by
  obtain ⟨hA, hW, hC, h33, hS, hR, hw, hs5, hr5, hne, hs, hr⟩ := hg
  have hn := hw.2.1
  have hk0 : R (6 * i + 0) = nI 0 := hk.1
  have hk1 : R (6 * i + 1) = nI a := hk.2.1 0 a rfl
  have hk2 : R (6 * i + 2) = nI p := hk.2.1 1 p rfl
  have hk3 : R (6 * i + 3) = nI x := hk.2.1 2 x rfl
  have hk4 : R (6 * i + 4) = nI y := hk.2.1 3 y rfl
  refine mm_start (lo := [some (.ref 31), some (.ref 33), some (.ref s), some (.int (nI i)), none]) pn_X9 rfl rfl (Nat.le_of_ble_eq_true rfl) ?_
  refine mt_aload_n (pc := 0) dX9_isDone_0 rfl ?_
  refine mt_iload_n (pc := 1) dX9_isDone_1 rfl ?_
  refine mt_iconst (pc := 2) (v := 1) dX9_isDone_2 (by decide) ?_
  refine mt_cV (pc := 3) (c_field (d := 1) (i := i) (j := 1) (Nat.le_refl 1) hx (by omega) h31 h32) cal_X9_field vir_X9_field ml_X9_104 dX9_isDone_3 (by first | assumption | omega) (by repeat (first | exact hset_eq _ _ _ | assumption | rw [hset_ne (by first | assumption | decide | omega)])) (by first | assumption | (show _ ≤ d; omega)) ⟨(Nat.le_of_ble_eq_true rfl), (Nat.le_of_ble_eq_true rfl)⟩ rfl rfl (Nat.le_of_ble_eq_true rfl) ?_
  rw [hk1]
  refine mt_istore (pc := 6) dX9_isDone_6 (Nat.le_of_ble_eq_true rfl) rfl ?_
  refine mt_aload_n (pc := 8) dX9_isDone_8 rfl ?_
  refine mt_iload_n (pc := 9) dX9_isDone_9 rfl ?_
  refine mt_iconst (pc := 10) (v := 0) dX9_isDone_10 (by decide) ?_
  refine mt_cV (pc := 11) (c_field (d := 1) (i := i) (j := 0) (Nat.le_refl 1) hx (by omega) h31 h32) cal_X9_field vir_X9_field ml_X9_104 dX9_isDone_11 (by first | assumption | omega) (by repeat (first | exact hset_eq _ _ _ | assumption | rw [hset_ne (by first | assumption | decide | omega)])) (by first | assumption | (show _ ≤ d; omega)) ⟨(Nat.le_of_ble_eq_true rfl), (Nat.le_of_ble_eq_true rfl)⟩ rfl rfl (Nat.le_of_ble_eq_true rfl) ?_
  rw [hk0]
  refine mt_tableIn (pc := 14) (tgt := 48) dX9_isDone_14 (by decide) (by decide) (off := 34) (by decide +kernel) (by decide) ?_
  refine mt_aload_n (pc := 48) dX9_isDone_48 rfl ?_
  refine mt_aload_n (pc := 49) dX9_isDone_49 rfl ?_
  refine mt_iload (pc := 50) dX9_isDone_50 rfl ?_
  refine mt_aload_n (pc := 52) dX9_isDone_52 rfl ?_
  refine mt_iload_n (pc := 53) dX9_isDone_53 rfl ?_
  refine mt_iconst (pc := 54) (v := 2) dX9_isDone_54 (by decide) ?_
  refine mt_cV (pc := 55) (c_field (d := 1) (i := i) (j := 2) (Nat.le_refl 1) hx (by omega) h31 h32) cal_X9_field vir_X9_field ml_X9_104 dX9_isDone_55 (by first | assumption | omega) (by repeat (first | exact hset_eq _ _ _ | assumption | rw [hset_ne (by first | assumption | decide | omega)])) (by first | assumption | (show _ ≤ d; omega)) ⟨(Nat.le_of_ble_eq_true rfl), (Nat.le_of_ble_eq_true rfl)⟩ rfl rfl (Nat.le_of_ble_eq_true rfl) ?_
  rw [hk2]
  refine mt_aload_n (pc := 58) dX9_isDone_58 rfl ?_
  refine mt_iload_n (pc := 59) dX9_isDone_59 rfl ?_
  refine mt_iconst (pc := 60) (v := 3) dX9_isDone_60 (by decide) ?_
  refine mt_cV (pc := 61) (c_field (d := 1) (i := i) (j := 3) (Nat.le_refl 1) hx (by omega) h31 h32) cal_X9_field vir_X9_field ml_X9_104 dX9_isDone_61 (by first | assumption | omega) (by repeat (first | exact hset_eq _ _ _ | assumption | rw [hset_ne (by first | assumption | decide | omega)])) (by first | assumption | (show _ ≤ d; omega)) ⟨(Nat.le_of_ble_eq_true rfl), (Nat.le_of_ble_eq_true rfl)⟩ rfl rfl (Nat.le_of_ble_eq_true rfl) ?_
  rw [hk3]
  refine mt_aload_n (pc := 64) dX9_isDone_64 rfl ?_
  refine mt_iload_n (pc := 65) dX9_isDone_65 rfl ?_
  refine mt_iconst (pc := 66) (v := 4) dX9_isDone_66 (by decide) ?_
  refine mt_cV (pc := 67) (c_field (d := 1) (i := i) (j := 4) (Nat.le_refl 1) hx (by omega) h31 h32) cal_X9_field vir_X9_field ml_X9_104 dX9_isDone_67 (by first | assumption | omega) (by repeat (first | exact hset_eq _ _ _ | assumption | rw [hset_ne (by first | assumption | decide | omega)])) (by first | assumption | (show _ ≤ d; omega)) ⟨(Nat.le_of_ble_eq_true rfl), (Nat.le_of_ble_eq_true rfl)⟩ rfl rfl (Nat.le_of_ble_eq_true rfl) ?_
  rw [hk4]
  refine mt_cV (pc := 70) (c_lend (d := 4) (n := n) (Nat.le_refl 4) hx ha hp hw.1 hn hC h33 hne hs hr hS hR) cal_X4_lend vir_X4_lend ml_X9_120 dX9_isDone_70 (by first | assumption | omega) h33 (by first | assumption | (show _ ≤ d; omega)) ⟨(Nat.le_of_ble_eq_true rfl), (Nat.le_of_ble_eq_true rfl)⟩ rfl rfl (Nat.le_of_ble_eq_true rfl) ?_
  have eq : doS k cs (0, [a, p, x, y], 0) f = if ¬ 10 ≤ f 3 ∧ openC k f a p (nI x) then (lendF f n a p (nI x) (nI y), 1) else (f, 0) := by simp only [doS, nlo_eq hw]
  rw [eq]
  by_cases hc : ¬ 10 ≤ f 3 ∧ openC k f a p (nI x)
  · rw [if_pos hc, if_pos hc, if_pos hc]
    exact mt_zret rfl (Or.inr rfl) dX9_isDone_73 (Nat.le_of_ble_eq_true rfl) (Nat.le_of_ble_eq_true rfl) (P_row_set hr5 hA)
  rw [if_neg hc, if_neg hc, if_neg hc]
  exact mt_zret rfl (by first | exact Or.inl rfl | exact Or.inr rfl) dX9_isDone_73 (Nat.le_of_ble_eq_true rfl) (Nat.le_of_ble_eq_true rfl) (P_row_same hA hR)

theorem c_do1 {i n q : Nat} (hd : 6 ≤ d) (hx : 34 ≤ nx) (hi30 : i < 30) (hg : WG h k cs s r f n nx) (h31 : h 31 = wkE x1 x2 x3 x4 x5 x6) (h32 : h 32 = iaE 180 R) (hk : stOK R i (1, [q], 0)) (hq : q ≤ 9) : mm_Con G l yX9_isDone cX9_isDone 5 (some .boolean) d 0 0 [.ref 31, .ref 33, .ref s, .int (nI i)] nx h (P_row (some (.int (doS k cs (1, [q], 0) f).2)) r (doS k cs (1, [q], 0) f).1 nx h) := by
  obtain ⟨hA, hW, hC, h33, hS, hR, hw, hs5, hr5, hne, hs, hr⟩ := hg
  have hn := hw.2.1
  have hk0 : R (6 * i + 0) = nI 1 := hk.1
  have hk1 : R (6 * i + 1) = nI q := hk.2.1 0 q rfl
  refine mm_start (lo := [some (.ref 31), some (.ref 33), some (.ref s), some (.int (nI i)), none]) pn_X9 rfl rfl (Nat.le_of_ble_eq_true rfl) ?_
  refine mt_aload_n (pc := 0) dX9_isDone_0 rfl ?_
  refine mt_iload_n (pc := 1) dX9_isDone_1 rfl ?_
  refine mt_iconst (pc := 2) (v := 1) dX9_isDone_2 (by decide) ?_
  refine mt_cV (pc := 3) (c_field (d := 1) (i := i) (j := 1) (Nat.le_refl 1) hx (by omega) h31 h32) cal_X9_field vir_X9_field ml_X9_104 dX9_isDone_3 (by first | assumption | omega) (by repeat (first | exact hset_eq _ _ _ | assumption | rw [hset_ne (by first | assumption | decide | omega)])) (by first | assumption | (show _ ≤ d; omega)) ⟨(Nat.le_of_ble_eq_true rfl), (Nat.le_of_ble_eq_true rfl)⟩ rfl rfl (Nat.le_of_ble_eq_true rfl) ?_
  rw [hk1]
  refine mt_istore (pc := 6) dX9_isDone_6 (Nat.le_of_ble_eq_true rfl) rfl ?_
  refine mt_aload_n (pc := 8) dX9_isDone_8 rfl ?_
  refine mt_iload_n (pc := 9) dX9_isDone_9 rfl ?_
  refine mt_iconst (pc := 10) (v := 0) dX9_isDone_10 (by decide) ?_
  refine mt_cV (pc := 11) (c_field (d := 1) (i := i) (j := 0) (Nat.le_refl 1) hx (by omega) h31 h32) cal_X9_field vir_X9_field ml_X9_104 dX9_isDone_11 (by first | assumption | omega) (by repeat (first | exact hset_eq _ _ _ | assumption | rw [hset_ne (by first | assumption | decide | omega)])) (by first | assumption | (show _ ≤ d; omega)) ⟨(Nat.le_of_ble_eq_true rfl), (Nat.le_of_ble_eq_true rfl)⟩ rfl rfl (Nat.le_of_ble_eq_true rfl) ?_
  rw [hk0]
  refine mt_tableIn (pc := 14) (tgt := 74) dX9_isDone_14 (by decide) (by decide) (off := 60) (by decide +kernel) (by decide) ?_
  have eq : doS k cs (1, [q], 0) f = if n ≤ q ∨ f (18 + lsoul f q) < owI k cs f q then (f, 0) else (payF k cs f q, 1) := by simp only [doS, nlo_eq hw]
  rw [eq]
  rcases Nat.lt_or_ge q n with hqn | hqn
  rotate_left
  · rw [if_pos (Or.inl hqn)]
    refine mt_aload_n (pc := 74) dX9_isDone_74 rfl ?_
    refine mt_aload_n (pc := 75) dX9_isDone_75 rfl ?_
    refine mt_iload (pc := 76) dX9_isDone_76 rfl ?_
    refine mt_cV (pc := 78) (c_payN (d := 2) (Nat.le_refl 2) hx (by omega) hqn hw h33 hs hr hS hR) cal_X4_pay vir_X4_pay ml_X9_125 dX9_isDone_78 (by first | assumption | omega) h33 (by first | assumption | (show _ ≤ d; omega)) ⟨(Nat.le_of_ble_eq_true rfl), (Nat.le_of_ble_eq_true rfl)⟩ rfl rfl (Nat.le_of_ble_eq_true rfl) ?_
    exact mt_zret rfl (by first | exact Or.inl rfl | exact Or.inr rfl) dX9_isDone_81 (Nat.le_of_ble_eq_true rfl) (Nat.le_of_ble_eq_true rfl) (P_row_same hA hR)
  refine mt_aload_n (pc := 74) dX9_isDone_74 rfl ?_
  refine mt_aload_n (pc := 75) dX9_isDone_75 rfl ?_
  refine mt_iload (pc := 76) dX9_isDone_76 rfl ?_
  refine mt_aV (pc := 78) (c_pay (d := 4) (Nat.le_refl 4) hx hqn hw hA hW hC h33 hs5 hr5 hne hs hr hS hR) cal_X4_pay vir_X4_pay ml_X9_125 dX9_isDone_78 (by first | assumption | omega) h33 (by first | assumption | (show _ ≤ d; omega)) ⟨(Nat.le_of_ble_eq_true rfl), (Nat.le_of_ble_eq_true rfl)⟩ rfl rfl (Nat.le_of_ble_eq_true rfl) ?_ ?_
  · rintro x9 n9 k9 h9
    simp [P_row] at h9
  · rintro v9 n9 k9 ⟨hv, rfl, hF9, hR9⟩
    cases hv
    refine ⟨rfl, ?_⟩
    by_cases hc : f (18 + lsoul f q) < owI k cs f q
    · rw [if_pos hc] at hR9
      rw [if_pos hc, if_pos (Or.inr hc)]
      exact mt_zret rfl (Or.inl rfl) dX9_isDone_81 (Nat.le_of_ble_eq_true rfl) (Nat.le_of_ble_eq_true rfl) ⟨rfl, rfl, hF9, hR9⟩
    rw [if_neg hc] at hR9
    rw [if_neg hc, if_neg (fun z => z.elim (Nat.not_le.mpr hqn) hc)]
    exact mt_zret rfl (by first | exact Or.inl rfl | exact Or.inr rfl) dX9_isDone_81 (Nat.le_of_ble_eq_true rfl) (Nat.le_of_ble_eq_true rfl) ⟨rfl, rfl, hF9, hR9⟩

theorem c_do2 {i n a x : Nat} (hd : 6 ≤ d) (hx : 34 ≤ nx) (hi30 : i < 30) (hg : WG h k cs s r f n nx) (h31 : h 31 = wkE x1 x2 x3 x4 x5 x6) (h32 : h 32 = iaE 180 R) (hk : stOK R i (2, [a, x], 0)) (ha : a < 6) : mm_Con G l yX9_isDone cX9_isDone 5 (some .boolean) d 0 0 [.ref 31, .ref 33, .ref s, .int (nI i)] nx h (P_row (some (.int (doS k cs (2, [a, x], 0) f).2)) r (doS k cs (2, [a, x], 0) f).1 nx h) := by
  obtain ⟨hA, hW, hC, h33, hS, hR, hw, hs5, hr5, hne, hs, hr⟩ := hg
  have hn := hw.2.1
  have hk0 : R (6 * i + 0) = nI 2 := hk.1
  have hk1 : R (6 * i + 1) = nI a := hk.2.1 0 a rfl
  have hk2 : R (6 * i + 2) = nI x := hk.2.1 1 x rfl
  refine mm_start (lo := [some (.ref 31), some (.ref 33), some (.ref s), some (.int (nI i)), none]) pn_X9 rfl rfl (Nat.le_of_ble_eq_true rfl) ?_
  refine mt_aload_n (pc := 0) dX9_isDone_0 rfl ?_
  refine mt_iload_n (pc := 1) dX9_isDone_1 rfl ?_
  refine mt_iconst (pc := 2) (v := 1) dX9_isDone_2 (by decide) ?_
  refine mt_cV (pc := 3) (c_field (d := 1) (i := i) (j := 1) (Nat.le_refl 1) hx (by omega) h31 h32) cal_X9_field vir_X9_field ml_X9_104 dX9_isDone_3 (by first | assumption | omega) (by repeat (first | exact hset_eq _ _ _ | assumption | rw [hset_ne (by first | assumption | decide | omega)])) (by first | assumption | (show _ ≤ d; omega)) ⟨(Nat.le_of_ble_eq_true rfl), (Nat.le_of_ble_eq_true rfl)⟩ rfl rfl (Nat.le_of_ble_eq_true rfl) ?_
  rw [hk1]
  refine mt_istore (pc := 6) dX9_isDone_6 (Nat.le_of_ble_eq_true rfl) rfl ?_
  refine mt_aload_n (pc := 8) dX9_isDone_8 rfl ?_
  refine mt_iload_n (pc := 9) dX9_isDone_9 rfl ?_
  refine mt_iconst (pc := 10) (v := 0) dX9_isDone_10 (by decide) ?_
  refine mt_cV (pc := 11) (c_field (d := 1) (i := i) (j := 0) (Nat.le_refl 1) hx (by omega) h31 h32) cal_X9_field vir_X9_field ml_X9_104 dX9_isDone_11 (by first | assumption | omega) (by repeat (first | exact hset_eq _ _ _ | assumption | rw [hset_ne (by first | assumption | decide | omega)])) (by first | assumption | (show _ ≤ d; omega)) ⟨(Nat.le_of_ble_eq_true rfl), (Nat.le_of_ble_eq_true rfl)⟩ rfl rfl (Nat.le_of_ble_eq_true rfl) ?_
  rw [hk0]
  refine mt_tableIn (pc := 14) (tgt := 82) dX9_isDone_14 (by decide) (by decide) (off := 68) (by decide +kernel) (by decide) ?_
  refine mt_aload_n (pc := 82) dX9_isDone_82 rfl ?_
  refine mt_aload_n (pc := 83) dX9_isDone_83 rfl ?_
  refine mt_iload (pc := 84) dX9_isDone_84 rfl ?_
  refine mt_aload_n (pc := 86) dX9_isDone_86 rfl ?_
  refine mt_iload_n (pc := 87) dX9_isDone_87 rfl ?_
  refine mt_iconst (pc := 88) (v := 2) dX9_isDone_88 (by decide) ?_
  refine mt_cV (pc := 89) (c_field (d := 1) (i := i) (j := 2) (Nat.le_refl 1) hx (by omega) h31 h32) cal_X9_field vir_X9_field ml_X9_104 dX9_isDone_89 (by first | assumption | omega) (by repeat (first | exact hset_eq _ _ _ | assumption | rw [hset_ne (by first | assumption | decide | omega)])) (by first | assumption | (show _ ≤ d; omega)) ⟨(Nat.le_of_ble_eq_true rfl), (Nat.le_of_ble_eq_true rfl)⟩ rfl rfl (Nat.le_of_ble_eq_true rfl) ?_
  rw [hk2]
  refine mt_cV (pc := 92) (c_earn (d := 2) (Nat.le_refl 2) hx ha h33 hs hr hS hR) cal_X4_earn vir_X4_earn ml_X9_128 dX9_isDone_92 (by first | assumption | omega) h33 (by first | assumption | (show _ ≤ d; omega)) ⟨(Nat.le_of_ble_eq_true rfl), (Nat.le_of_ble_eq_true rfl)⟩ rfl rfl (Nat.le_of_ble_eq_true rfl) ?_
  have eq : doS k cs (2, [a, x], 0) f = if f (18 + a) < 300 then (upd f (18 + a) (min300 (f (18 + a) + nI x)), 1) else (f, 0) := rfl
  rw [eq]
  by_cases hc : f (18 + a) < 300
  · rw [if_pos hc, if_pos hc, if_pos hc]
    exact mt_zret rfl (Or.inr rfl) dX9_isDone_95 (Nat.le_of_ble_eq_true rfl) (Nat.le_of_ble_eq_true rfl) (P_row_set hr5 hA)
  rw [if_neg hc, if_neg hc, if_neg hc]
  exact mt_zret rfl (by first | exact Or.inl rfl | exact Or.inr rfl) dX9_isDone_95 (Nat.le_of_ble_eq_true rfl) (Nat.le_of_ble_eq_true rfl) (P_row_same hA hR)

theorem c_do3 {i n p : Nat} (hd : 6 ≤ d) (hx : 34 ≤ nx) (hi30 : i < 30) (hg : WG h k cs s r f n nx) (h31 : h 31 = wkE x1 x2 x3 x4 x5 x6) (h32 : h 32 = iaE 180 R) (hk : stOK R i (3, [p], 0)) : mm_Con G l yX9_isDone cX9_isDone 5 (some .boolean) d 0 0 [.ref 31, .ref 33, .ref s, .int (nI i)] nx h (P_row (some (.int (doS k cs (3, [p], 0) f).2)) r (doS k cs (3, [p], 0) f).1 nx h) := by
  obtain ⟨hA, hW, hC, h33, hS, hR, hw, hs5, hr5, hne, hs, hr⟩ := hg
  have hn := hw.2.1
  have hk0 : R (6 * i + 0) = nI 3 := hk.1
  have hk1 : R (6 * i + 1) = nI p := hk.2.1 0 p rfl
  refine mm_start (lo := [some (.ref 31), some (.ref 33), some (.ref s), some (.int (nI i)), none]) pn_X9 rfl rfl (Nat.le_of_ble_eq_true rfl) ?_
  refine mt_aload_n (pc := 0) dX9_isDone_0 rfl ?_
  refine mt_iload_n (pc := 1) dX9_isDone_1 rfl ?_
  refine mt_iconst (pc := 2) (v := 1) dX9_isDone_2 (by decide) ?_
  refine mt_cV (pc := 3) (c_field (d := 1) (i := i) (j := 1) (Nat.le_refl 1) hx (by omega) h31 h32) cal_X9_field vir_X9_field ml_X9_104 dX9_isDone_3 (by first | assumption | omega) (by repeat (first | exact hset_eq _ _ _ | assumption | rw [hset_ne (by first | assumption | decide | omega)])) (by first | assumption | (show _ ≤ d; omega)) ⟨(Nat.le_of_ble_eq_true rfl), (Nat.le_of_ble_eq_true rfl)⟩ rfl rfl (Nat.le_of_ble_eq_true rfl) ?_
  rw [hk1]
  refine mt_istore (pc := 6) dX9_isDone_6 (Nat.le_of_ble_eq_true rfl) rfl ?_
  refine mt_aload_n (pc := 8) dX9_isDone_8 rfl ?_
  refine mt_iload_n (pc := 9) dX9_isDone_9 rfl ?_
  refine mt_iconst (pc := 10) (v := 0) dX9_isDone_10 (by decide) ?_
  refine mt_cV (pc := 11) (c_field (d := 1) (i := i) (j := 0) (Nat.le_refl 1) hx (by omega) h31 h32) cal_X9_field vir_X9_field ml_X9_104 dX9_isDone_11 (by first | assumption | omega) (by repeat (first | exact hset_eq _ _ _ | assumption | rw [hset_ne (by first | assumption | decide | omega)])) (by first | assumption | (show _ ≤ d; omega)) ⟨(Nat.le_of_ble_eq_true rfl), (Nat.le_of_ble_eq_true rfl)⟩ rfl rfl (Nat.le_of_ble_eq_true rfl) ?_
  rw [hk0]
  refine mt_tableIn (pc := 14) (tgt := 96) dX9_isDone_14 (by decide) (by decide) (off := 82) (by decide +kernel) (by decide) ?_
  refine mt_aload_n (pc := 96) dX9_isDone_96 rfl ?_
  refine mt_aload_n (pc := 97) dX9_isDone_97 rfl ?_
  refine mt_iload (pc := 98) dX9_isDone_98 rfl ?_
  refine mt_cV (pc := 100) (c_seal (d := 1) (Nat.le_refl 1) hx h33 hs hr hS hR) cal_X4_seal vir_X4_seal ml_X9_131 dX9_isDone_100 (by first | assumption | omega) h33 (by first | assumption | (show _ ≤ d; omega)) ⟨(Nat.le_of_ble_eq_true rfl), (Nat.le_of_ble_eq_true rfl)⟩ rfl rfl (Nat.le_of_ble_eq_true rfl) ?_
  exact mt_zret rfl (by split <;> first | exact Or.inl rfl | exact Or.inr rfl) dX9_isDone_103 (Nat.le_of_ble_eq_true rfl) (Nat.le_of_ble_eq_true rfl) (P_row_set hr5 hA)

theorem c_do4 {i n p : Nat} (hd : 6 ≤ d) (hx : 34 ≤ nx) (hi30 : i < 30) (hg : WG h k cs s r f n nx) (h31 : h 31 = wkE x1 x2 x3 x4 x5 x6) (h32 : h 32 = iaE 180 R) (hk : stOK R i (4, [p], 0)) : mm_Con G l yX9_isDone cX9_isDone 5 (some .boolean) d 0 0 [.ref 31, .ref 33, .ref s, .int (nI i)] nx h (P_row (some (.int (doS k cs (4, [p], 0) f).2)) r (doS k cs (4, [p], 0) f).1 nx h) := by
  obtain ⟨hA, hW, hC, h33, hS, hR, hw, hs5, hr5, hne, hs, hr⟩ := hg
  have hn := hw.2.1
  have hk0 : R (6 * i + 0) = nI 4 := hk.1
  have hk1 : R (6 * i + 1) = nI p := hk.2.1 0 p rfl
  refine mm_start (lo := [some (.ref 31), some (.ref 33), some (.ref s), some (.int (nI i)), none]) pn_X9 rfl rfl (Nat.le_of_ble_eq_true rfl) ?_
  refine mt_aload_n (pc := 0) dX9_isDone_0 rfl ?_
  refine mt_iload_n (pc := 1) dX9_isDone_1 rfl ?_
  refine mt_iconst (pc := 2) (v := 1) dX9_isDone_2 (by decide) ?_
  refine mt_cV (pc := 3) (c_field (d := 1) (i := i) (j := 1) (Nat.le_refl 1) hx (by omega) h31 h32) cal_X9_field vir_X9_field ml_X9_104 dX9_isDone_3 (by first | assumption | omega) (by repeat (first | exact hset_eq _ _ _ | assumption | rw [hset_ne (by first | assumption | decide | omega)])) (by first | assumption | (show _ ≤ d; omega)) ⟨(Nat.le_of_ble_eq_true rfl), (Nat.le_of_ble_eq_true rfl)⟩ rfl rfl (Nat.le_of_ble_eq_true rfl) ?_
  rw [hk1]
  refine mt_istore (pc := 6) dX9_isDone_6 (Nat.le_of_ble_eq_true rfl) rfl ?_
  refine mt_aload_n (pc := 8) dX9_isDone_8 rfl ?_
  refine mt_iload_n (pc := 9) dX9_isDone_9 rfl ?_
  refine mt_iconst (pc := 10) (v := 0) dX9_isDone_10 (by decide) ?_
  refine mt_cV (pc := 11) (c_field (d := 1) (i := i) (j := 0) (Nat.le_refl 1) hx (by omega) h31 h32) cal_X9_field vir_X9_field ml_X9_104 dX9_isDone_11 (by first | assumption | omega) (by repeat (first | exact hset_eq _ _ _ | assumption | rw [hset_ne (by first | assumption | decide | omega)])) (by first | assumption | (show _ ≤ d; omega)) ⟨(Nat.le_of_ble_eq_true rfl), (Nat.le_of_ble_eq_true rfl)⟩ rfl rfl (Nat.le_of_ble_eq_true rfl) ?_
  rw [hk0]
  refine mt_tableIn (pc := 14) (tgt := 104) dX9_isDone_14 (by decide) (by decide) (off := 90) (by decide +kernel) (by decide) ?_
  refine mt_aload_n (pc := 104) dX9_isDone_104 rfl ?_
  refine mt_aload_n (pc := 105) dX9_isDone_105 rfl ?_
  refine mt_iload (pc := 106) dX9_isDone_106 rfl ?_
  refine mt_cV (pc := 108) (c_open (d := 1) (Nat.le_refl 1) hx h33 hs hr hS hR) cal_X4_open vir_X4_open ml_X9_133 dX9_isDone_108 (by first | assumption | omega) h33 (by first | assumption | (show _ ≤ d; omega)) ⟨(Nat.le_of_ble_eq_true rfl), (Nat.le_of_ble_eq_true rfl)⟩ rfl rfl (Nat.le_of_ble_eq_true rfl) ?_
  exact mt_zret rfl (by split <;> first | exact Or.inl rfl | exact Or.inr rfl) dX9_isDone_111 (Nat.le_of_ble_eq_true rfl) (Nat.le_of_ble_eq_true rfl) (P_row_set hr5 hA)

theorem c_do5 {i n : Nat} (hd : 6 ≤ d) (hx : 34 ≤ nx) (hi30 : i < 30) (hg : WG h k cs s r f n nx) (h31 : h 31 = wkE x1 x2 x3 x4 x5 x6) (h32 : h 32 = iaE 180 R) (hk : stOK R i (5, [], 0)) : mm_Con G l yX9_isDone cX9_isDone 5 (some .boolean) d 0 0 [.ref 31, .ref 33, .ref s, .int (nI i)] nx h (P_row (some (.int (doS k cs (5, [], 0) f).2)) r (doS k cs (5, [], 0) f).1 nx h) := by
  obtain ⟨hA, hW, hC, h33, hS, hR, hw, hs5, hr5, hne, hs, hr⟩ := hg
  have hn := hw.2.1
  have hk0 : R (6 * i + 0) = nI 5 := hk.1
  refine mm_start (lo := [some (.ref 31), some (.ref 33), some (.ref s), some (.int (nI i)), none]) pn_X9 rfl rfl (Nat.le_of_ble_eq_true rfl) ?_
  refine mt_aload_n (pc := 0) dX9_isDone_0 rfl ?_
  refine mt_iload_n (pc := 1) dX9_isDone_1 rfl ?_
  refine mt_iconst (pc := 2) (v := 1) dX9_isDone_2 (by decide) ?_
  refine mt_cV (pc := 3) (c_field (d := 1) (i := i) (j := 1) (Nat.le_refl 1) hx (by omega) h31 h32) cal_X9_field vir_X9_field ml_X9_104 dX9_isDone_3 (by first | assumption | omega) (by repeat (first | exact hset_eq _ _ _ | assumption | rw [hset_ne (by first | assumption | decide | omega)])) (by first | assumption | (show _ ≤ d; omega)) ⟨(Nat.le_of_ble_eq_true rfl), (Nat.le_of_ble_eq_true rfl)⟩ rfl rfl (Nat.le_of_ble_eq_true rfl) ?_
  refine mt_istore (pc := 6) dX9_isDone_6 (Nat.le_of_ble_eq_true rfl) rfl ?_
  refine mt_aload_n (pc := 8) dX9_isDone_8 rfl ?_
  refine mt_iload_n (pc := 9) dX9_isDone_9 rfl ?_
  refine mt_iconst (pc := 10) (v := 0) dX9_isDone_10 (by decide) ?_
  refine mt_cV (pc := 11) (c_field (d := 1) (i := i) (j := 0) (Nat.le_refl 1) hx (by omega) h31 h32) cal_X9_field vir_X9_field ml_X9_104 dX9_isDone_11 (by first | assumption | omega) (by repeat (first | exact hset_eq _ _ _ | assumption | rw [hset_ne (by first | assumption | decide | omega)])) (by first | assumption | (show _ ≤ d; omega)) ⟨(Nat.le_of_ble_eq_true rfl), (Nat.le_of_ble_eq_true rfl)⟩ rfl rfl (Nat.le_of_ble_eq_true rfl) ?_
  rw [hk0]
  refine mt_tableOut (pc := 14) (tgt := 112) dX9_isDone_14 (by decide) (by decide) ?_
  refine mt_aload_n (pc := 112) dX9_isDone_112 rfl ?_
  refine mt_aload_n (pc := 113) dX9_isDone_113 rfl ?_
  refine mt_cV (pc := 114) (c_doNight (d := 4) (n := n) (Nat.le_refl 4) hx hw hne h33 hs hr hS hR) cal_X4_doNight vir_X4_doNight ml_X9_135 dX9_isDone_114 (by first | assumption | omega) h33 (by first | assumption | (show _ ≤ d; omega)) ⟨(Nat.le_of_ble_eq_true rfl), (Nat.le_of_ble_eq_true rfl)⟩ rfl rfl (Nat.le_of_ble_eq_true rfl) ?_
  have eq : doS k cs (5, [], 0) f = if f 0 < 400 then (nigF f n, 1) else (f, 0) := by simp only [doS, nlo_eq hw]
  rw [eq]
  by_cases hc : f 0 < 400
  · rw [if_pos hc, if_pos hc, if_pos hc]
    exact mt_zret rfl (Or.inr rfl) dX9_isDone_117 (Nat.le_of_ble_eq_true rfl) (Nat.le_of_ble_eq_true rfl) (P_row_set hr5 hA)
  rw [if_neg hc, if_neg hc, if_neg hc]
  exact mt_zret rfl (by first | exact Or.inl rfl | exact Or.inr rfl) dX9_isDone_117 (Nat.le_of_ble_eq_true rfl) (Nat.le_of_ble_eq_true rfl) (P_row_same hA hR)

theorem c_isDone {i n so sl : Nat} {t : ST} (hd : 6 ≤ d) (hx : 34 ≤ nx) (hi30 : i < 30) (hg : WG h k cs s r f n nx) (h31 : h 31 = wkE x1 x2 x3 x4 x5 x6) (h32 : h 32 = iaE 180 R) (hso : so ≤ 6) (hsl : sl ≤ 8) (ht : TW so sl t) (h6 : t.1 ≠ 6) (hk : stOK R i t) : mm_Con G l yX9_isDone cX9_isDone 5 (some .boolean) d 0 0 [.ref 31, .ref 33, .ref s, .int (nI i)] nx h (P_row (some (.int (doS k cs t f).2)) r (doS k cs t f).1 nx h) := by
  rcases ht with ⟨a, p, x, y, rfl, h1, h2, -⟩ | ⟨q, rfl, h1⟩ | ⟨a, x, rfl, h1, -⟩ | ⟨p, rfl, h1⟩ | ⟨p, rfl, h1⟩ | rfl | ⟨x, z, rfl, -⟩
  · exact c_do0 hd hx hi30 hg h31 h32 hk (by omega) (by omega)
  · exact c_do1 hd hx hi30 hg h31 h32 hk h1
  · exact c_do2 hd hx hi30 hg h31 h32 hk (by omega)
  · exact c_do3 hd hx hi30 hg h31 h32 hk
  · exact c_do4 hd hx hi30 hg h31 h32 hk
  · exact c_do5 hd hx hi30 hg h31 h32 hk
  · exact absurd rfl h6
end WORK5
