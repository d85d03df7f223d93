/-! The class: what begins a text, county.copyFrom. -/
def P_bt (c : Prop) (e ic rs ne ia : Int32) (nx : Nat) (h : Nat → mm_E) : mm_P := fun o n m => nx = n ∧ match o with
  | .inl v => v = none ∧ c ∧ hset h 1 (tpE 0 e 0 0 0 (-1)) = m
  | .inr y => y = 1 ∧ ¬ c ∧ hset h 0 (bmp 1 ic rs ne ia) = m
theorem bt_iff {z : Int32} {s t : Nat} (hs : s ≤ 600) (ht : t ≤ 600) : (¬ z < 0 ∧ ¬ (if nI s < nI t then nI s else nI t) < z) ↔ (¬ z < 0 ∧ ¬ nI s < z ∧ ¬ nI t < z) := by
  have e1 := nI_toInt (n := s) (by omega)
  have e2 := nI_toInt (n := t) (by omega)
  by_cases h : nI s < nI t
  · rw [if_pos h]
    rw [Int32.lt_iff_toInt_lt] at h
    simp only [Int32.lt_iff_toInt_lt]
    omega
  · rw [if_neg h]
    rw [Int32.lt_iff_toInt_lt] at h
    simp only [Int32.lt_iff_toInt_lt]
    omega
section CTX
variable {G : mm_G} {l : Launch} {d nx : Nat} {h : Nat → mm_E} {b : Nat → Int32} {en pl st fk fp ic rs ne ia : Int32} {k k0 : CS}
theorem c_beginText {z : Int32} {s t : Nat} (hl : l.stackTraces = false) (hd : 8 ≤ d) (hx : 188 ≤ nx) (hs : s ≤ 600) (ht : t ≤ 600) (h0 : h 0 = cbE ic rs ne ia) (hT : h 1 = tpE (nI s) en pl st fk fp) (hB : h 2 = byE b) : mm_Con G l yX10_beginText cX10_beginText 3 none d 1 6 [.ref 0, .int z, .int (nI t)] nx h (P_bt (¬ z < 0 ∧ ¬ nI s < z ∧ ¬ nI t < z) z ic rs ne ia nx h) := by
  refine mm_start (lo := [some (.ref 0), some (.int z), some (.int (nI t))]) pn_X10 rfl rfl (Nat.le_of_ble_eq_true rfl) ?_
  refine mt_aload_n (pc := 0) dX10_beginText_0 rfl ?_
  refine mt_iload_n (pc := 1) dX10_beginText_1 rfl ?_
  refine mt_iconst (pc := 2) (v := 0) dX10_beginText_2 (by decide) ?_
  refine mt_iload_n (pc := 3) dX10_beginText_3 rfl ?_
  refine mt_aload_n (pc := 4) dX10_beginText_4 rfl ?_
  refine mt_get (pc := 5) gf_X10_10 dX10_beginText_5 (by first | assumption | omega) (by repeat (first | exact hset_eq _ _ _ | assumption | rw [hset_ne (by first | assumption | decide | omega)])) rfl ?_
  refine mt_get (pc := 8) gf_X10_106 dX10_beginText_8 (by first | assumption | omega) (by repeat (first | exact hset_eq _ _ _ | assumption | rw [hset_ne (by first | assumption | decide | omega)])) rfl ?_
  refine mt_mmin (pc := 11) ml_X10_342 dX10_beginText_11 (by show 1 ≤ d; omega) ⟨Nat.zero_le _, Nat.zero_le _⟩ (Nat.le_of_ble_eq_true rfl) ?_
  refine mt_aV (pc := 14) (c_needRange (d := 7) (lo := 0) (hi := if nI s < nI t then nI s else nI t) hl (Nat.le_refl 7) (by omega) h0) cal_X10_needRange vir_X10_needRange ml_X10_266 dX10_beginText_14 (by first | assumption | omega) (by repeat (first | exact hset_eq _ _ _ | assumption | rw [hset_ne (by first | assumption | decide | omega)])) (by first | assumption | (show _ ≤ d; omega)) ⟨(Nat.le_of_ble_eq_true rfl), (Nat.le_of_ble_eq_true rfl)⟩ rfl rfl (Nat.le_of_ble_eq_true rfl) ?_ ?_
  · rintro x9 n9 k9 h9
    obtain ⟨rfl, rfl, hno, rfl⟩ := h9
    exact ⟨rfl, rfl, fun y => hno ((bt_iff hs ht).mpr y), rfl⟩
  · rintro v9 n9 k9 ⟨rfl, rfl, hok, rfl⟩
    refine ⟨rfl, ?_⟩
    rw [bt_iff hs ht] at hok
    refine mt_aload_n (pc := 17) dX10_beginText_17 rfl ?_
    refine mt_get (pc := 18) gf_X10_10 dX10_beginText_18 (by first | assumption | omega) (by repeat (first | exact hset_eq _ _ _ | assumption | rw [hset_ne (by first | assumption | decide | omega)])) rfl ?_
    refine mt_iload_n (pc := 21) dX10_beginText_21 rfl ?_
    refine mt_cV (pc := 22) (c_tbegin (d := 1) (Nat.le_refl 1) (by omega) hT hB) cal_X7_begin vir_X7_begin ml_X10_380 dX10_beginText_22 (by first | assumption | omega) (by repeat (first | exact hset_eq _ _ _ | assumption | rw [hset_ne (by first | assumption | decide | omega)])) (by first | assumption | (show _ ≤ d; omega)) ⟨(Nat.le_of_ble_eq_true rfl), (Nat.le_of_ble_eq_true rfl)⟩ rfl rfl (Nat.le_of_ble_eq_true rfl) ?_
    rw [if_neg (show ¬ nI 600 < z from fun y => hok.2.1 (by rw [Int32.lt_iff_toInt_lt] at y ⊢; rw [nI_toInt (by omega)] at y ⊢; omega))]
    exact mt_vret rfl dX10_beginText_25 (Nat.le_of_ble_eq_true rfl) (Nat.le_of_ble_eq_true rfl) ⟨rfl, rfl, hok, rfl⟩
theorem c_ccopy (hd : 2 ≤ d) (hx : 34 ≤ nx) (hO : CO h k0) (hR : CR h k) : mm_Con G l yX1_copyFrom cX1_copyFrom 2 none d 0 0 [.ref 3, .ref 9] nx h (fun o n m => o = .inl none ∧ n = nx ∧ (∀ j, j < 3 ∨ 8 < j → m j = h j) ∧ CO m (k.1, k.2.1, va_cpy k.2.2.1 k0.2.2.1 0 0 8, va_cpy k.2.2.2.1 k0.2.2.2.1 0 0 8, va_cpy k.2.2.2.2.1 k0.2.2.2.2.1 0 0 8, va_cpy k.2.2.2.2.2.1 k0.2.2.2.2.2.1 0 0 6, va_cpy k.2.2.2.2.2.2 k0.2.2.2.2.2.2 0 0 6)) := by
  obtain ⟨x1, x2, X3, X4, X5, X6, X7⟩ := k
  obtain ⟨y1, y2, Y3, Y4, Y5, Y6, Y7⟩ := k0
  obtain ⟨r1, r2, r3, r4, r5, r6, r7, r8⟩ := hR
  obtain ⟨o1, o2, o3, o4, o5, o6, o7, o8⟩ := hO
  dsimp only at r1 r2 r3 r4 r5 r6 r7 r8 o1 o2 o3 o4 o5 o6 o7 o8
  refine mm_start (lo := [some (.ref 3), some (.ref 9)]) pn_X1 rfl rfl (Nat.le_of_ble_eq_true rfl) ?_
  refine mt_aload_n (pc := 0) dX1_copyFrom_0 rfl ?_
  refine mt_aload_n (pc := 1) dX1_copyFrom_1 rfl ?_
  refine mt_get (pc := 2) gf_X1_27 dX1_copyFrom_2 (by first | assumption | omega) (by repeat (first | exact hset_eq _ _ _ | assumption | rw [hset_ne (by first | assumption | decide | omega)])) rfl ?_
  first
    | refine mt_puti2 (pc := 5) pf_X1_27 dX1_copyFrom_5 (by first | assumption | omega) (Nat.le_of_ble_eq_true rfl) ?_
    | refine mt_puti (pc := 5) pf_X1_27 dX1_copyFrom_5 (by first | assumption | omega) (by repeat (first | exact hset_eq _ _ _ | assumption | rw [hset_ne (by first | assumption | decide | omega)])) (Nat.le_of_ble_eq_true rfl) ?_
  refine mt_aload_n (pc := 8) dX1_copyFrom_8 rfl ?_
  refine mt_aload_n (pc := 9) dX1_copyFrom_9 rfl ?_
  refine mt_get (pc := 10) gf_X1_31 dX1_copyFrom_10 (by first | assumption | omega) (by repeat (first | exact hset_eq _ _ _ | assumption | rw [hset_ne (by first | assumption | decide | omega)])) rfl ?_
  first
    | refine mt_puti2 (pc := 13) pf_X1_31 dX1_copyFrom_13 (by first | assumption | omega) (Nat.le_of_ble_eq_true rfl) ?_
    | refine mt_puti (pc := 13) pf_X1_31 dX1_copyFrom_13 (by first | assumption | omega) (by repeat (first | exact hset_eq _ _ _ | assumption | rw [hset_ne (by first | assumption | decide | omega)])) (Nat.le_of_ble_eq_true rfl) ?_
  refine mt_aload_n (pc := 16) dX1_copyFrom_16 rfl ?_
  refine mt_get (pc := 17) gf_X1_9 dX1_copyFrom_17 (by first | assumption | omega) (by repeat (first | exact hset_eq _ _ _ | assumption | rw [hset_ne (by first | assumption | decide | omega)])) rfl ?_
  refine mt_aload_n (pc := 20) dX1_copyFrom_20 rfl ?_
  refine mt_get (pc := 21) gf_X1_9 dX1_copyFrom_21 (by first | assumption | omega) (by repeat (first | exact hset_eq _ _ _ | assumption | rw [hset_ne (by first | assumption | decide | omega)])) rfl ?_
  refine mt_cN (pc := 24) (c_copyRow (d := 1) (n := 8) (f := X3) (g := Y3) (Nat.le_refl 1) (by decide) (by omega) (by omega) (by (repeat rw [hset_ne (by decide)]); exact r2) (by (repeat rw [hset_ne (by decide)]); exact o2)) cal_X10_copyRow sta_X10_copyRow mn_X1_34 dX1_copyFrom_24 (by first | assumption | (show _ ≤ d; omega)) ⟨(Nat.le_of_ble_eq_true rfl), (Nat.le_of_ble_eq_true rfl)⟩ rfl rfl (Nat.le_of_ble_eq_true rfl) ?_
  refine mt_aload_n (pc := 27) dX1_copyFrom_27 rfl ?_
  refine mt_get (pc := 28) gf_X1_15 dX1_copyFrom_28 (by first | assumption | omega) (by repeat (first | exact hset_eq _ _ _ | assumption | rw [hset_ne (by first | assumption | decide | omega)])) rfl ?_
  refine mt_aload_n (pc := 31) dX1_copyFrom_31 rfl ?_
  refine mt_get (pc := 32) gf_X1_15 dX1_copyFrom_32 (by first | assumption | omega) (by repeat (first | exact hset_eq _ _ _ | assumption | rw [hset_ne (by first | assumption | decide | omega)])) rfl ?_
  refine mt_cN (pc := 35) (c_copyRow (d := 1) (n := 8) (f := X4) (g := Y4) (Nat.le_refl 1) (by decide) (by omega) (by omega) (by (repeat rw [hset_ne (by decide)]); exact r3) (by (repeat rw [hset_ne (by decide)]); exact o3)) cal_X10_copyRow sta_X10_copyRow mn_X1_34 dX1_copyFrom_35 (by first | assumption | (show _ ≤ d; omega)) ⟨(Nat.le_of_ble_eq_true rfl), (Nat.le_of_ble_eq_true rfl)⟩ rfl rfl (Nat.le_of_ble_eq_true rfl) ?_
  refine mt_aload_n (pc := 38) dX1_copyFrom_38 rfl ?_
  refine mt_get (pc := 39) gf_X1_18 dX1_copyFrom_39 (by first | assumption | omega) (by repeat (first | exact hset_eq _ _ _ | assumption | rw [hset_ne (by first | assumption | decide | omega)])) rfl ?_
  refine mt_aload_n (pc := 42) dX1_copyFrom_42 rfl ?_
  refine mt_get (pc := 43) gf_X1_18 dX1_copyFrom_43 (by first | assumption | omega) (by repeat (first | exact hset_eq _ _ _ | assumption | rw [hset_ne (by first | assumption | decide | omega)])) rfl ?_
  refine mt_cN (pc := 46) (c_copyRow (d := 1) (n := 8) (f := X5) (g := Y5) (Nat.le_refl 1) (by decide) (by omega) (by omega) (by (repeat rw [hset_ne (by decide)]); exact r4) (by (repeat rw [hset_ne (by decide)]); exact o4)) cal_X10_copyRow sta_X10_copyRow mn_X1_34 dX1_copyFrom_46 (by first | assumption | (show _ ≤ d; omega)) ⟨(Nat.le_of_ble_eq_true rfl), (Nat.le_of_ble_eq_true rfl)⟩ rfl rfl (Nat.le_of_ble_eq_true rfl) ?_
  refine mt_aload_n (pc := 49) dX1_copyFrom_49 rfl ?_
  refine mt_get (pc := 50) gf_X1_21 dX1_copyFrom_50 (by first | assumption | omega) (by repeat (first | exact hset_eq _ _ _ | assumption | rw [hset_ne (by first | assumption | decide | omega)])) rfl ?_
  refine mt_aload_n (pc := 53) dX1_copyFrom_53 rfl ?_
  refine mt_get (pc := 54) gf_X1_21 dX1_copyFrom_54 (by first | assumption | omega) (by repeat (first | exact hset_eq _ _ _ | assumption | rw [hset_ne (by first | assumption | decide | omega)])) rfl ?_
  refine mt_cN (pc := 57) (c_copyRow (d := 1) (n := 6) (f := X6) (g := Y6) (Nat.le_refl 1) (by decide) (by omega) (by omega) (by (repeat rw [hset_ne (by decide)]); exact r5) (by (repeat rw [hset_ne (by decide)]); exact o5)) cal_X10_copyRow sta_X10_copyRow mn_X1_34 dX1_copyFrom_57 (by first | assumption | (show _ ≤ d; omega)) ⟨(Nat.le_of_ble_eq_true rfl), (Nat.le_of_ble_eq_true rfl)⟩ rfl rfl (Nat.le_of_ble_eq_true rfl) ?_
  refine mt_aload_n (pc := 60) dX1_copyFrom_60 rfl ?_
  refine mt_get (pc := 61) gf_X1_24 dX1_copyFrom_61 (by first | assumption | omega) (by repeat (first | exact hset_eq _ _ _ | assumption | rw [hset_ne (by first | assumption | decide | omega)])) rfl ?_
  refine mt_aload_n (pc := 64) dX1_copyFrom_64 rfl ?_
  refine mt_get (pc := 65) gf_X1_24 dX1_copyFrom_65 (by first | assumption | omega) (by repeat (first | exact hset_eq _ _ _ | assumption | rw [hset_ne (by first | assumption | decide | omega)])) rfl ?_
  refine mt_cN (pc := 68) (c_copyRow (d := 1) (n := 6) (f := X7) (g := Y7) (Nat.le_refl 1) (by decide) (by omega) (by omega) (by (repeat rw [hset_ne (by decide)]); exact r6) (by (repeat rw [hset_ne (by decide)]); exact o6)) cal_X10_copyRow sta_X10_copyRow mn_X1_34 dX1_copyFrom_68 (by first | assumption | (show _ ≤ d; omega)) ⟨(Nat.le_of_ble_eq_true rfl), (Nat.le_of_ble_eq_true rfl)⟩ rfl rfl (Nat.le_of_ble_eq_true rfl) ?_
  refine mt_vret rfl dX1_copyFrom_71 (Nat.le_of_ble_eq_true rfl) (Nat.le_of_ble_eq_true rfl) ⟨rfl, rfl, fun j hj => ?_, ?_, ?_, ?_, ?_, ?_, ?_, r7, r8⟩
  · repeat rw [hset_ne (by omega)]
  all_goals (repeat (first | rw [hset_eq] | rw [hset_ne (by decide)])) <;> rfl
end CTX
