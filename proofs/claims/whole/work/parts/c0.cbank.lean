/-! CryptBank's constructor. -/
def imC (c : Nat) : Nat → Option Nat := fun k => if k < c then some (71 + 36 * k) else none
abbrev imE2 (c : Nat) : mm_E := .inl (4, 3, .inr (.inr (.inr (.inr (imC c)))))
theorem imC_s (c : Nat) : va_up (imC c) c (some (71 + 36 * c)) = imC (c + 1) := by
  funext k
  by_cases hk : k = c
  · subst hk
    rw [va_up_self]
    exact (if_pos (Nat.lt_succ_self k)).symm
  · rw [va_up_ne _ _ hk]
    unfold imC
    by_cases h2 : k < c
    · rw [if_pos h2, if_pos (by omega)]
    · rw [if_neg h2, if_neg (by omega)]
theorem imC_ew {c nx : Nat} (h : 71 + 36 * c ≤ nx + 35) : mm_ew nx (imE2 c) := mm_ew_q fun j r hr => by
  unfold imC at hr
  split at hr
  · cases hr
    omega
  · cases hr
/-- a page that was made: its cells alone -/
def PGd (b : Nat) (h : Nat → mm_E) : Prop := h b = pgE b 0 ∧ h (b + 1) = stE (b + 2) ∧ h (b + 2) = rwE (fun _ => 0) ∧ h (b + 3) = psE2 b 16 ∧ ∀ i, i < 16 → h (b + 4 + 2 * i) = stE (b + 5 + 2 * i) ∧ h (b + 5 + 2 * i) = rwE (fun _ => 0)
theorem PGd_fe {b : Nat} {h m : Nat → mm_E} (hP : PGd b h) (e : ∀ j, b ≤ j → j < b + 36 → m j = h j) : PGd b m := by
  obtain ⟨p1, p2, p3, p4, p5⟩ := hP
  exact ⟨(e _ (by omega) (by omega)).trans p1, (e _ (by omega) (by omega)).trans p2, (e _ (by omega) (by omega)).trans p3, (e _ (by omega) (by omega)).trans p4, fun i hi => ⟨(e _ (by omega) (by omega)).trans (p5 i hi).1, (e _ (by omega) (by omega)).trans (p5 i hi).2⟩⟩
theorem PGd_of {b : Nat} {h h0 m : Nat → mm_E} (hP : PGm b 16 h0 h) (e : ∀ j, b ≤ j → j < b + 36 → m j = h j) : PGd b m := PGd_fe hP.2.2 e
def k00 : CS := (0, 0, fun _ => 0, fun _ => 0, fun _ => 0, fun _ => 0, fun _ => 0)
def bk00 : BS := (0, fun _ => 0, fun _ => 0, fun _ => 0)
def pg00 : PGS := (0, fun _ => 0, fun _ _ => 0)
theorem PGd_PG {b : Nat} {h : Nat → mm_E} (hP : PGd b h) : PG h b pg00 := by
  obtain ⟨p1, p2, p3, p4, p5⟩ := hP
  exact ⟨p1, p2, p3, p4, fun i hi => ⟨(p5 i hi).1, _, (p5 i hi).2, fun _ _ => rfl, fun z => absurd z (Nat.not_lt_zero i)⟩, by decide, fun _ _ => rfl⟩
theorem RC_00 : RC (fun _ => 0) := ⟨⟨0, rfl, by decide, fun i hi => absurd hi (Nat.not_lt_zero i)⟩, fun _ _ => rfl⟩
theorem BY_00 : BY (fun _ => 0) := fun _ => (by decide : -128 ≤ (0 : Int32).toInt ∧ (0 : Int32).toInt < 128)
section CCD
variable {G : mm_G} {l : Launch} {d : Nat} {h : Nat → mm_E}
set_option maxHeartbeats 4000000 in
theorem c_X10i (hd : 10 ≤ d) (hao3 : va_AO "CryptBank$State" (mm_s0 G)) (hao4 : va_AO "CryptBank$Page" (mm_s0 G)) (hh : h 0 = .inr (10, [.null, .null, .null, .null, .null, .null, .null, .null, .null, .null, .null, .null, .null, .null, .null, .int 0, .int 0, .int 0, .int 0])) (hw : mm_wf 1 h) : mm_Con G l yX10_init cX10_init 2 none d 187 7361 [.ref 0] 1 h (fun o n m => o = .inl none ∧ n = 188 ∧ mm_wf 188 m ∧ CW m (fun _ => 0) 0 (-1) 0 0 0 0 k00 untL bk00 pg00 (fun _ => pg00)) := by
  refine mm_start (lo := [some (.ref 0), none]) pn_X10 rfl rfl (Nat.le_of_ble_eq_true rfl) ?_
  obtain ⟨W0, hW0⟩ : ∃ W, W = h := ⟨_, rfl⟩
  rw [← hW0] at hw hh ⊢
  have hw0 := hw
  have f0 := hh
  refine mt_aload_n (pc := 0) dX10_init_0 rfl ?_
  refine mt_objI (pc := 1) ol_X10 dX10_init_1 (by show 1 ≤ d; omega) (Nat.le_of_ble_eq_true rfl) ?_
  refine mt_aload_n (pc := 4) dX10_init_4 rfl ?_
  have v0 : mm_wf 2 (hset W0 1 (.inr (7, [.null, .int 0, .int 0, .int 0, .int 0, .int 0, .int 0]))) := mm_wf_push hw0 (mm_ew_obj (fun v hv => by simp at hv; first | (subst hv; first | exact mm_vw_null _ | exact mm_vw_int _ _) | (rcases hv with rfl | rfl <;> first | exact mm_vw_null _ | exact mm_vw_int _ _)))
  refine mt_mkO (pc := 5) (i := 0) (ci := 10) (fs := [.null, .null, .null, .null, .null, .null, .null, .null, .null, .null, .null, .null, .null, .null, .null, .int 0, .int 0, .int 0, .int 0]) dX10_init_5 dX10_init_8 dX10_init_9 dX10_init_12 nf_X10_7 (fun v hv => by simp at hv; first | (subst hv; first | exact mm_vw_null _ | exact mm_vw_int _ _) | (rcases hv with rfl | rfl <;> first | exact mm_vw_null _ | exact mm_vw_int _ _)) (c_X7i (d := 4) (i := 1) (Nat.le_refl 4) (by decide) (by decide) (hset_eq _ _ _) v0) cal_X7_init rfl ii_X7 (Or.inr ⟨_, mn_X10_9⟩) pf_X10_10 rfl (by show _ ≤ d; omega) (Nat.le_of_ble_eq_true rfl) (Nat.le_of_ble_eq_true rfl) (fun x n k hx => by simp [mm_ret] at hx) (Nat.le_of_ble_eq_true rfl) (by decide) (by decide) hw0 (fun v hv => by simp at hv; subst hv; exact mm_vw_ref (by decide)) ?_
  rintro v9 n9 m ⟨hv9, rfl, hwm, hF, m0, m1⟩
  cases hv9
  have e9 : ∀ j, j < 1 → m j = W0 j := fun j hj => (hF j (by omega) (by omega)).trans (hset_ne (by omega))
  refine ⟨rfl, by decide, (e9 0 (by decide)).trans f0, hwm, fun hw1 => ?_⟩
  obtain ⟨W1, hW1⟩ : ∃ W, W = hset (m) 0 (.inr (10, [.ref 1, .null, .null, .null, .null, .null, .null, .null, .null, .null, .null, .null, .null, .null, .null, .int 0, .int 0, .int 0, .int 0])) := ⟨_, rfl⟩
  change mm_wf 3 (hset (m) 0 (.inr (10, [.ref 1, .null, .null, .null, .null, .null, .null, .null, .null, .null, .null, .null, .null, .null, .null, .int 0, .int 0, .int 0, .int 0]))) at hw1
  refine mt_heq (h' := W1) (by rw [hW1]; rfl) ?_
  rw [← hW1] at hw1
  have e1 : ∀ j, j < 1 → j ≠ 0 → W1 j = W0 j := fun j y1 y2 => by rw [hW1, hset_ne y2]; exact e9 j y1
  have f0 : W1 0 = .inr (10, [.ref 1, .null, .null, .null, .null, .null, .null, .null, .null, .null, .null, .null, .null, .null, .null, .int 0, .int 0, .int 0, .int 0]) := by rw [hW1, hset_eq]
  have f1 : W1 1 = .inr (7, [.ref 2, .int 0, .int 0, .int 0, .int 0, .int 0, .int (-1)]) := by rw [hW1, hset_ne (by decide)]; exact m0
  have f2 : W1 2 = .inl (1, 600, .inl (fun _ => 0)) := by rw [hW1, hset_ne (by decide)]; exact m1
  refine mt_aload_n (pc := 15) dX10_init_15 rfl ?_
  have v1 : mm_wf 4 (hset W1 3 (.inr (1, [.int 0, .int 0, .null, .null, .null, .null, .null]))) := mm_wf_push hw1 (mm_ew_obj (fun v hv => by simp at hv; first | (subst hv; first | exact mm_vw_null _ | exact mm_vw_int _ _) | (rcases hv with rfl | rfl <;> first | exact mm_vw_null _ | exact mm_vw_int _ _)))
  refine mt_mkO (pc := 16) (i := 0) (ci := 10) (fs := [.ref 1, .null, .null, .null, .null, .null, .null, .null, .null, .null, .null, .null, .null, .null, .null, .int 0, .int 0, .int 0, .int 0]) dX10_init_16 dX10_init_19 dX10_init_20 dX10_init_23 nf_X10_16 (fun v hv => by simp at hv; first | (subst hv; first | exact mm_vw_null _ | exact mm_vw_int _ _) | (rcases hv with rfl | rfl <;> first | exact mm_vw_null _ | exact mm_vw_int _ _)) (c_X1i (d := 4) (i := 3) (Nat.le_refl 4) (by decide) (by decide) (hset_eq _ _ _) v1) cal_X1_init rfl ii_X1 (Or.inr ⟨_, mn_X10_18⟩) pf_X10_19 rfl (by show _ ≤ d; omega) (Nat.le_of_ble_eq_true rfl) (Nat.le_of_ble_eq_true rfl) (fun x n k hx => by simp [mm_ret] at hx) (Nat.le_of_ble_eq_true rfl) (by decide) (by decide) hw1 (fun v hv => by simp at hv; subst hv; exact mm_vw_ref (by decide)) ?_
  rintro v9 n9 m ⟨hv9, rfl, hwm, hF, m0, m1, m2, m3, m4, m5⟩
  cases hv9
  have e9 : ∀ j, j < 3 → m j = W1 j := fun j hj => (hF j (by omega) (by omega)).trans (hset_ne (by omega))
  refine ⟨rfl, by decide, (e9 0 (by decide)).trans f0, hwm, fun hw2 => ?_⟩
  obtain ⟨W2, hW2⟩ : ∃ W, W = hset (m) 0 (.inr (10, [.ref 1, .ref 3, .null, .null, .null, .null, .null, .null, .null, .null, .null, .null, .null, .null, .null, .int 0, .int 0, .int 0, .int 0])) := ⟨_, rfl⟩
  change mm_wf 9 (hset (m) 0 (.inr (10, [.ref 1, .ref 3, .null, .null, .null, .null, .null, .null, .null, .null, .null, .null, .null, .null, .null, .int 0, .int 0, .int 0, .int 0]))) at hw2
  refine mt_heq (h' := W2) (by rw [hW2]; rfl) ?_
  rw [← hW2] at hw2
  have e2 : ∀ j, j < 3 → j ≠ 0 → W2 j = W1 j := fun j y1 y2 => by rw [hW2, hset_ne y2]; exact e9 j y1
  have f0 : W2 0 = .inr (10, [.ref 1, .ref 3, .null, .null, .null, .null, .null, .null, .null, .null, .null, .null, .null, .null, .null, .int 0, .int 0, .int 0, .int 0]) := by rw [hW2, hset_eq]
  have f1 : W2 1 = .inr (7, [.ref 2, .int 0, .int 0, .int 0, .int 0, .int 0, .int (-1)]) := (e2 1 (by decide) (by decide)).trans f1
  have f2 : W2 2 = .inl (1, 600, .inl (fun _ => 0)) := (e2 2 (by decide) (by decide)).trans f2
  have f3 : W2 3 = .inr (1, [.int 0, .int 0, .ref 4, .ref 5, .ref 6, .ref 7, .ref 8]) := by rw [hW2, hset_ne (by decide)]; exact m0
  have f4 : W2 4 = .inl (0, 8, .inl (fun _ => 0)) := by rw [hW2, hset_ne (by decide)]; exact m1
  have f5 : W2 5 = .inl (0, 8, .inl (fun _ => 0)) := by rw [hW2, hset_ne (by decide)]; exact m2
  have f6 : W2 6 = .inl (0, 8, .inl (fun _ => 0)) := by rw [hW2, hset_ne (by decide)]; exact m3
  have f7 : W2 7 = .inl (0, 6, .inl (fun _ => 0)) := by rw [hW2, hset_ne (by decide)]; exact m4
  have f8 : W2 8 = .inl (0, 6, .inl (fun _ => 0)) := by rw [hW2, hset_ne (by decide)]; exact m5
  refine mt_aload_n (pc := 26) dX10_init_26 rfl ?_
  have v2 : mm_wf 10 (hset W2 9 (.inr (1, [.int 0, .int 0, .null, .null, .null, .null, .null]))) := mm_wf_push hw2 (mm_ew_obj (fun v hv => by simp at hv; first | (subst hv; first | exact mm_vw_null _ | exact mm_vw_int _ _) | (rcases hv with rfl | rfl <;> first | exact mm_vw_null _ | exact mm_vw_int _ _)))
  refine mt_mkO (pc := 27) (i := 0) (ci := 10) (fs := [.ref 1, .ref 3, .null, .null, .null, .null, .null, .null, .null, .null, .null, .null, .null, .null, .null, .int 0, .int 0, .int 0, .int 0]) dX10_init_27 dX10_init_30 dX10_init_31 dX10_init_34 nf_X10_16 (fun v hv => by simp at hv; first | (subst hv; first | exact mm_vw_null _ | exact mm_vw_int _ _) | (rcases hv with rfl | rfl <;> first | exact mm_vw_null _ | exact mm_vw_int _ _)) (c_X1i (d := 4) (i := 9) (Nat.le_refl 4) (by decide) (by decide) (hset_eq _ _ _) v2) cal_X1_init rfl ii_X1 (Or.inr ⟨_, mn_X10_18⟩) pf_X10_23 rfl (by show _ ≤ d; omega) (Nat.le_of_ble_eq_true rfl) (Nat.le_of_ble_eq_true rfl) (fun x n k hx => by simp [mm_ret] at hx) (Nat.le_of_ble_eq_true rfl) (by decide) (by decide) hw2 (fun v hv => by simp at hv; subst hv; exact mm_vw_ref (by decide)) ?_
  rintro v9 n9 m ⟨hv9, rfl, hwm, hF, m0, m1, m2, m3, m4, m5⟩
  cases hv9
  have e9 : ∀ j, j < 9 → m j = W2 j := fun j hj => (hF j (by omega) (by omega)).trans (hset_ne (by omega))
  refine ⟨rfl, by decide, (e9 0 (by decide)).trans f0, hwm, fun hw3 => ?_⟩
  obtain ⟨W3, hW3⟩ : ∃ W, W = hset (m) 0 (.inr (10, [.ref 1, .ref 3, .ref 9, .null, .null, .null, .null, .null, .null, .null, .null, .null, .null, .null, .null, .int 0, .int 0, .int 0, .int 0])) := ⟨_, rfl⟩
  change mm_wf 15 (hset (m) 0 (.inr (10, [.ref 1, .ref 3, .ref 9, .null, .null, .null, .null, .null, .null, .null, .null, .null, .null, .null, .null, .int 0, .int 0, .int 0, .int 0]))) at hw3
  refine mt_heq (h' := W3) (by rw [hW3]; rfl) ?_
  rw [← hW3] at hw3
  have e3 : ∀ j, j < 9 → j ≠ 0 → W3 j = W2 j := fun j y1 y2 => by rw [hW3, hset_ne y2]; exact e9 j y1
  have f0 : W3 0 = .inr (10, [.ref 1, .ref 3, .ref 9, .null, .null, .null, .null, .null, .null, .null, .null, .null, .null, .null, .null, .int 0, .int 0, .int 0, .int 0]) := by rw [hW3, hset_eq]
  have f1 : W3 1 = .inr (7, [.ref 2, .int 0, .int 0, .int 0, .int 0, .int 0, .int (-1)]) := (e3 1 (by decide) (by decide)).trans f1
  have f2 : W3 2 = .inl (1, 600, .inl (fun _ => 0)) := (e3 2 (by decide) (by decide)).trans f2
  have f3 : W3 3 = .inr (1, [.int 0, .int 0, .ref 4, .ref 5, .ref 6, .ref 7, .ref 8]) := (e3 3 (by decide) (by decide)).trans f3
  have f4 : W3 4 = .inl (0, 8, .inl (fun _ => 0)) := (e3 4 (by decide) (by decide)).trans f4
  have f5 : W3 5 = .inl (0, 8, .inl (fun _ => 0)) := (e3 5 (by decide) (by decide)).trans f5
  have f6 : W3 6 = .inl (0, 8, .inl (fun _ => 0)) := (e3 6 (by decide) (by decide)).trans f6
  have f7 : W3 7 = .inl (0, 6, .inl (fun _ => 0)) := (e3 7 (by decide) (by decide)).trans f7
  have f8 : W3 8 = .inl (0, 6, .inl (fun _ => 0)) := (e3 8 (by decide) (by decide)).trans f8
  have f9 : W3 9 = .inr (1, [.int 0, .int 0, .ref 10, .ref 11, .ref 12, .ref 13, .ref 14]) := by rw [hW3, hset_ne (by decide)]; exact m0
  have f10 : W3 10 = .inl (0, 8, .inl (fun _ => 0)) := by rw [hW3, hset_ne (by decide)]; exact m1
  have f11 : W3 11 = .inl (0, 8, .inl (fun _ => 0)) := by rw [hW3, hset_ne (by decide)]; exact m2
  have f12 : W3 12 = .inl (0, 8, .inl (fun _ => 0)) := by rw [hW3, hset_ne (by decide)]; exact m3
  have f13 : W3 13 = .inl (0, 6, .inl (fun _ => 0)) := by rw [hW3, hset_ne (by decide)]; exact m4
  have f14 : W3 14 = .inl (0, 6, .inl (fun _ => 0)) := by rw [hW3, hset_ne (by decide)]; exact m5
  refine mt_aload_n (pc := 37) dX10_init_37 rfl ?_
  have v3 : mm_wf 16 (hset W3 15 (.inr (2, [.null, .null, .null, .int 0]))) := mm_wf_push hw3 (mm_ew_obj (fun v hv => by simp at hv; first | (subst hv; first | exact mm_vw_null _ | exact mm_vw_int _ _) | (rcases hv with rfl | rfl <;> first | exact mm_vw_null _ | exact mm_vw_int _ _)))
  refine mt_mkO (pc := 38) (i := 0) (ci := 10) (fs := [.ref 1, .ref 3, .ref 9, .null, .null, .null, .null, .null, .null, .null, .null, .null, .null, .null, .null, .int 0, .int 0, .int 0, .int 0]) dX10_init_38 dX10_init_41 dX10_init_42 dX10_init_45 nf_X10_26 (fun v hv => by simp at hv; first | (subst hv; first | exact mm_vw_null _ | exact mm_vw_int _ _) | (rcases hv with rfl | rfl <;> first | exact mm_vw_null _ | exact mm_vw_int _ _)) (c_X2i (d := 4) (i := 15) (Nat.le_refl 4) (by decide) (by decide) (hset_eq _ _ _) v3) cal_X2_init rfl ii_X2 (Or.inl ml_X10_28) pf_X10_29 rfl (by show _ ≤ d; omega) (Nat.le_of_ble_eq_true rfl) (Nat.le_of_ble_eq_true rfl) (fun x n k hx => by simp [mm_ret] at hx) (Nat.le_of_ble_eq_true rfl) (by decide) (by decide) hw3 (fun v hv => by simp at hv; subst hv; exact mm_vw_ref (by decide)) ?_
  rintro v9 n9 m ⟨hv9, rfl, hwm, hF, m0, m1, m2, m3⟩
  cases hv9
  have e9 : ∀ j, j < 15 → m j = W3 j := fun j hj => (hF j (by omega) (by omega)).trans (hset_ne (by omega))
  refine ⟨rfl, by decide, (e9 0 (by decide)).trans f0, hwm, fun hw4 => ?_⟩
  obtain ⟨W4, hW4⟩ : ∃ W, W = hset (m) 0 (.inr (10, [.ref 1, .ref 3, .ref 9, .ref 15, .null, .null, .null, .null, .null, .null, .null, .null, .null, .null, .null, .int 0, .int 0, .int 0, .int 0])) := ⟨_, rfl⟩
  change mm_wf 19 (hset (m) 0 (.inr (10, [.ref 1, .ref 3, .ref 9, .ref 15, .null, .null, .null, .null, .null, .null, .null, .null, .null, .null, .null, .int 0, .int 0, .int 0, .int 0]))) at hw4
  refine mt_heq (h' := W4) (by rw [hW4]; rfl) ?_
  rw [← hW4] at hw4
  have e4 : ∀ j, j < 15 → j ≠ 0 → W4 j = W3 j := fun j y1 y2 => by rw [hW4, hset_ne y2]; exact e9 j y1
  have f0 : W4 0 = .inr (10, [.ref 1, .ref 3, .ref 9, .ref 15, .null, .null, .null, .null, .null, .null, .null, .null, .null, .null, .null, .int 0, .int 0, .int 0, .int 0]) := by rw [hW4, hset_eq]
  have f1 : W4 1 = .inr (7, [.ref 2, .int 0, .int 0, .int 0, .int 0, .int 0, .int (-1)]) := (e4 1 (by decide) (by decide)).trans f1
  have f2 : W4 2 = .inl (1, 600, .inl (fun _ => 0)) := (e4 2 (by decide) (by decide)).trans f2
  have f3 : W4 3 = .inr (1, [.int 0, .int 0, .ref 4, .ref 5, .ref 6, .ref 7, .ref 8]) := (e4 3 (by decide) (by decide)).trans f3
  have f4 : W4 4 = .inl (0, 8, .inl (fun _ => 0)) := (e4 4 (by decide) (by decide)).trans f4
  have f5 : W4 5 = .inl (0, 8, .inl (fun _ => 0)) := (e4 5 (by decide) (by decide)).trans f5
  have f6 : W4 6 = .inl (0, 8, .inl (fun _ => 0)) := (e4 6 (by decide) (by decide)).trans f6
  have f7 : W4 7 = .inl (0, 6, .inl (fun _ => 0)) := (e4 7 (by decide) (by decide)).trans f7
  have f8 : W4 8 = .inl (0, 6, .inl (fun _ => 0)) := (e4 8 (by decide) (by decide)).trans f8
  have f9 : W4 9 = .inr (1, [.int 0, .int 0, .ref 10, .ref 11, .ref 12, .ref 13, .ref 14]) := (e4 9 (by decide) (by decide)).trans f9
  have f10 : W4 10 = .inl (0, 8, .inl (fun _ => 0)) := (e4 10 (by decide) (by decide)).trans f10
  have f11 : W4 11 = .inl (0, 8, .inl (fun _ => 0)) := (e4 11 (by decide) (by decide)).trans f11
  have f12 : W4 12 = .inl (0, 8, .inl (fun _ => 0)) := (e4 12 (by decide) (by decide)).trans f12
  have f13 : W4 13 = .inl (0, 6, .inl (fun _ => 0)) := (e4 13 (by decide) (by decide)).trans f13
  have f14 : W4 14 = .inl (0, 6, .inl (fun _ => 0)) := (e4 14 (by decide) (by decide)).trans f14
  have f15 : W4 15 = .inr (2, [.ref 16, .ref 17, .ref 18, .int (nI 9)]) := by rw [hW4, hset_ne (by decide)]; exact m0
  have f16 : W4 16 = .inl (0, 150, .inl (va_cpy untF (fun _ => 0) 0 0 9)) := by rw [hW4, hset_ne (by decide)]; exact m1
  have f17 : W4 17 = .inl (0, 8, .inl (fun _ => 0)) := by rw [hW4, hset_ne (by decide)]; exact m2
  have f18 : W4 18 = .inl (0, 32, .inl (fun _ => 0)) := by rw [hW4, hset_ne (by decide)]; exact m3
  refine mt_aload_n (pc := 48) dX10_init_48 rfl ?_
  have v4 : mm_wf 20 (hset W4 19 (.inr (2, [.null, .null, .null, .int 0]))) := mm_wf_push hw4 (mm_ew_obj (fun v hv => by simp at hv; first | (subst hv; first | exact mm_vw_null _ | exact mm_vw_int _ _) | (rcases hv with rfl | rfl <;> first | exact mm_vw_null _ | exact mm_vw_int _ _)))
  refine mt_mkO (pc := 49) (i := 0) (ci := 10) (fs := [.ref 1, .ref 3, .ref 9, .ref 15, .null, .null, .null, .null, .null, .null, .null, .null, .null, .null, .null, .int 0, .int 0, .int 0, .int 0]) dX10_init_49 dX10_init_52 dX10_init_53 dX10_init_56 nf_X10_26 (fun v hv => by simp at hv; first | (subst hv; first | exact mm_vw_null _ | exact mm_vw_int _ _) | (rcases hv with rfl | rfl <;> first | exact mm_vw_null _ | exact mm_vw_int _ _)) (c_X2i (d := 4) (i := 19) (Nat.le_refl 4) (by decide) (by decide) (hset_eq _ _ _) v4) cal_X2_init rfl ii_X2 (Or.inl ml_X10_28) pf_X10_33 rfl (by show _ ≤ d; omega) (Nat.le_of_ble_eq_true rfl) (Nat.le_of_ble_eq_true rfl) (fun x n k hx => by simp [mm_ret] at hx) (Nat.le_of_ble_eq_true rfl) (by decide) (by decide) hw4 (fun v hv => by simp at hv; subst hv; exact mm_vw_ref (by decide)) ?_
  rintro v9 n9 m ⟨hv9, rfl, hwm, hF, m0, m1, m2, m3⟩
  cases hv9
  have e9 : ∀ j, j < 19 → m j = W4 j := fun j hj => (hF j (by omega) (by omega)).trans (hset_ne (by omega))
  refine ⟨rfl, by decide, (e9 0 (by decide)).trans f0, hwm, fun hw5 => ?_⟩
  obtain ⟨W5, hW5⟩ : ∃ W, W = hset (m) 0 (.inr (10, [.ref 1, .ref 3, .ref 9, .ref 15, .ref 19, .null, .null, .null, .null, .null, .null, .null, .null, .null, .null, .int 0, .int 0, .int 0, .int 0])) := ⟨_, rfl⟩
  change mm_wf 23 (hset (m) 0 (.inr (10, [.ref 1, .ref 3, .ref 9, .ref 15, .ref 19, .null, .null, .null, .null, .null, .null, .null, .null, .null, .null, .int 0, .int 0, .int 0, .int 0]))) at hw5
  refine mt_heq (h' := W5) (by rw [hW5]; rfl) ?_
  rw [← hW5] at hw5
  have e5 : ∀ j, j < 19 → j ≠ 0 → W5 j = W4 j := fun j y1 y2 => by rw [hW5, hset_ne y2]; exact e9 j y1
  have f0 : W5 0 = .inr (10, [.ref 1, .ref 3, .ref 9, .ref 15, .ref 19, .null, .null, .null, .null, .null, .null, .null, .null, .null, .null, .int 0, .int 0, .int 0, .int 0]) := by rw [hW5, hset_eq]
  have f1 : W5 1 = .inr (7, [.ref 2, .int 0, .int 0, .int 0, .int 0, .int 0, .int (-1)]) := (e5 1 (by decide) (by decide)).trans f1
  have f2 : W5 2 = .inl (1, 600, .inl (fun _ => 0)) := (e5 2 (by decide) (by decide)).trans f2
  have f3 : W5 3 = .inr (1, [.int 0, .int 0, .ref 4, .ref 5, .ref 6, .ref 7, .ref 8]) := (e5 3 (by decide) (by decide)).trans f3
  have f4 : W5 4 = .inl (0, 8, .inl (fun _ => 0)) := (e5 4 (by decide) (by decide)).trans f4
  have f5 : W5 5 = .inl (0, 8, .inl (fun _ => 0)) := (e5 5 (by decide) (by decide)).trans f5
  have f6 : W5 6 = .inl (0, 8, .inl (fun _ => 0)) := (e5 6 (by decide) (by decide)).trans f6
  have f7 : W5 7 = .inl (0, 6, .inl (fun _ => 0)) := (e5 7 (by decide) (by decide)).trans f7
  have f8 : W5 8 = .inl (0, 6, .inl (fun _ => 0)) := (e5 8 (by decide) (by decide)).trans f8
  have f9 : W5 9 = .inr (1, [.int 0, .int 0, .ref 10, .ref 11, .ref 12, .ref 13, .ref 14]) := (e5 9 (by decide) (by decide)).trans f9
  have f10 : W5 10 = .inl (0, 8, .inl (fun _ => 0)) := (e5 10 (by decide) (by decide)).trans f10
  have f11 : W5 11 = .inl (0, 8, .inl (fun _ => 0)) := (e5 11 (by decide) (by decide)).trans f11
  have f12 : W5 12 = .inl (0, 8, .inl (fun _ => 0)) := (e5 12 (by decide) (by decide)).trans f12
  have f13 : W5 13 = .inl (0, 6, .inl (fun _ => 0)) := (e5 13 (by decide) (by decide)).trans f13
  have f14 : W5 14 = .inl (0, 6, .inl (fun _ => 0)) := (e5 14 (by decide) (by decide)).trans f14
  have f15 : W5 15 = .inr (2, [.ref 16, .ref 17, .ref 18, .int (nI 9)]) := (e5 15 (by decide) (by decide)).trans f15
  have f16 : W5 16 = .inl (0, 150, .inl (va_cpy untF (fun _ => 0) 0 0 9)) := (e5 16 (by decide) (by decide)).trans f16
  have f17 : W5 17 = .inl (0, 8, .inl (fun _ => 0)) := (e5 17 (by decide) (by decide)).trans f17
  have f18 : W5 18 = .inl (0, 32, .inl (fun _ => 0)) := (e5 18 (by decide) (by decide)).trans f18
  have f19 : W5 19 = .inr (2, [.ref 20, .ref 21, .ref 22, .int (nI 9)]) := by rw [hW5, hset_ne (by decide)]; exact m0
  have f20 : W5 20 = .inl (0, 150, .inl (va_cpy untF (fun _ => 0) 0 0 9)) := by rw [hW5, hset_ne (by decide)]; exact m1
  have f21 : W5 21 = .inl (0, 8, .inl (fun _ => 0)) := by rw [hW5, hset_ne (by decide)]; exact m2
  have f22 : W5 22 = .inl (0, 32, .inl (fun _ => 0)) := by rw [hW5, hset_ne (by decide)]; exact m3
  refine mt_aload_n (pc := 59) dX10_init_59 rfl ?_
  have v5 : mm_wf 24 (hset W5 23 (.inr (0, [.int 0, .null, .null, .null]))) := mm_wf_push hw5 (mm_ew_obj (fun v hv => by simp at hv; first | (subst hv; first | exact mm_vw_null _ | exact mm_vw_int _ _) | (rcases hv with rfl | rfl <;> first | exact mm_vw_null _ | exact mm_vw_int _ _)))
  refine mt_mkO (pc := 60) (i := 0) (ci := 10) (fs := [.ref 1, .ref 3, .ref 9, .ref 15, .ref 19, .null, .null, .null, .null, .null, .null, .null, .null, .null, .null, .int 0, .int 0, .int 0, .int 0]) dX10_init_60 dX10_init_63 dX10_init_64 dX10_init_67 nf_X10_36 (fun v hv => by simp at hv; first | (subst hv; first | exact mm_vw_null _ | exact mm_vw_int _ _) | (rcases hv with rfl | rfl <;> first | exact mm_vw_null _ | exact mm_vw_int _ _)) (c_X0i (d := 4) (i := 23) (Nat.le_refl 4) (by decide) (by decide) (hset_eq _ _ _) v5) cal_X0_init rfl ii_X0 (Or.inr ⟨_, mn_X10_38⟩) pf_X10_39 rfl (by show _ ≤ d; omega) (Nat.le_of_ble_eq_true rfl) (Nat.le_of_ble_eq_true rfl) (fun x n k hx => by simp [mm_ret] at hx) (Nat.le_of_ble_eq_true rfl) (by decide) (by decide) hw5 (fun v hv => by simp at hv; subst hv; exact mm_vw_ref (by decide)) ?_
  rintro v9 n9 m ⟨hv9, rfl, hwm, hF, m0, m1, m2, m3⟩
  cases hv9
  have e9 : ∀ j, j < 23 → m j = W5 j := fun j hj => (hF j (by omega) (by omega)).trans (hset_ne (by omega))
  refine ⟨rfl, by decide, (e9 0 (by decide)).trans f0, hwm, fun hw6 => ?_⟩
  obtain ⟨W6, hW6⟩ : ∃ W, W = hset (m) 0 (.inr (10, [.ref 1, .ref 3, .ref 9, .ref 15, .ref 19, .ref 23, .null, .null, .null, .null, .null, .null, .null, .null, .null, .int 0, .int 0, .int 0, .int 0])) := ⟨_, rfl⟩
  change mm_wf 27 (hset (m) 0 (.inr (10, [.ref 1, .ref 3, .ref 9, .ref 15, .ref 19, .ref 23, .null, .null, .null, .null, .null, .null, .null, .null, .null, .int 0, .int 0, .int 0, .int 0]))) at hw6
  refine mt_heq (h' := W6) (by rw [hW6]; rfl) ?_
  rw [← hW6] at hw6
  have e6 : ∀ j, j < 23 → j ≠ 0 → W6 j = W5 j := fun j y1 y2 => by rw [hW6, hset_ne y2]; exact e9 j y1
  have f0 : W6 0 = .inr (10, [.ref 1, .ref 3, .ref 9, .ref 15, .ref 19, .ref 23, .null, .null, .null, .null, .null, .null, .null, .null, .null, .int 0, .int 0, .int 0, .int 0]) := by rw [hW6, hset_eq]
  have f1 : W6 1 = .inr (7, [.ref 2, .int 0, .int 0, .int 0, .int 0, .int 0, .int (-1)]) := (e6 1 (by decide) (by decide)).trans f1
  have f2 : W6 2 = .inl (1, 600, .inl (fun _ => 0)) := (e6 2 (by decide) (by decide)).trans f2
  have f3 : W6 3 = .inr (1, [.int 0, .int 0, .ref 4, .ref 5, .ref 6, .ref 7, .ref 8]) := (e6 3 (by decide) (by decide)).trans f3
  have f4 : W6 4 = .inl (0, 8, .inl (fun _ => 0)) := (e6 4 (by decide) (by decide)).trans f4
  have f5 : W6 5 = .inl (0, 8, .inl (fun _ => 0)) := (e6 5 (by decide) (by decide)).trans f5
  have f6 : W6 6 = .inl (0, 8, .inl (fun _ => 0)) := (e6 6 (by decide) (by decide)).trans f6
  have f7 : W6 7 = .inl (0, 6, .inl (fun _ => 0)) := (e6 7 (by decide) (by decide)).trans f7
  have f8 : W6 8 = .inl (0, 6, .inl (fun _ => 0)) := (e6 8 (by decide) (by decide)).trans f8
  have f9 : W6 9 = .inr (1, [.int 0, .int 0, .ref 10, .ref 11, .ref 12, .ref 13, .ref 14]) := (e6 9 (by decide) (by decide)).trans f9
  have f10 : W6 10 = .inl (0, 8, .inl (fun _ => 0)) := (e6 10 (by decide) (by decide)).trans f10
  have f11 : W6 11 = .inl (0, 8, .inl (fun _ => 0)) := (e6 11 (by decide) (by decide)).trans f11
  have f12 : W6 12 = .inl (0, 8, .inl (fun _ => 0)) := (e6 12 (by decide) (by decide)).trans f12
  have f13 : W6 13 = .inl (0, 6, .inl (fun _ => 0)) := (e6 13 (by decide) (by decide)).trans f13
  have f14 : W6 14 = .inl (0, 6, .inl (fun _ => 0)) := (e6 14 (by decide) (by decide)).trans f14
  have f15 : W6 15 = .inr (2, [.ref 16, .ref 17, .ref 18, .int (nI 9)]) := (e6 15 (by decide) (by decide)).trans f15
  have f16 : W6 16 = .inl (0, 150, .inl (va_cpy untF (fun _ => 0) 0 0 9)) := (e6 16 (by decide) (by decide)).trans f16
  have f17 : W6 17 = .inl (0, 8, .inl (fun _ => 0)) := (e6 17 (by decide) (by decide)).trans f17
  have f18 : W6 18 = .inl (0, 32, .inl (fun _ => 0)) := (e6 18 (by decide) (by decide)).trans f18
  have f19 : W6 19 = .inr (2, [.ref 20, .ref 21, .ref 22, .int (nI 9)]) := (e6 19 (by decide) (by decide)).trans f19
  have f20 : W6 20 = .inl (0, 150, .inl (va_cpy untF (fun _ => 0) 0 0 9)) := (e6 20 (by decide) (by decide)).trans f20
  have f21 : W6 21 = .inl (0, 8, .inl (fun _ => 0)) := (e6 21 (by decide) (by decide)).trans f21
  have f22 : W6 22 = .inl (0, 32, .inl (fun _ => 0)) := (e6 22 (by decide) (by decide)).trans f22
  have f23 : W6 23 = .inr (0, [.int 0, .ref 24, .ref 25, .ref 26]) := by rw [hW6, hset_ne (by decide)]; exact m0
  have f24 : W6 24 = .inl (0, 6, .inl (fun _ => 0)) := by rw [hW6, hset_ne (by decide)]; exact m1
  have f25 : W6 25 = .inl (0, 6, .inl (fun _ => 0)) := by rw [hW6, hset_ne (by decide)]; exact m2
  have f26 : W6 26 = .inl (0, 6, .inl (fun _ => 0)) := by rw [hW6, hset_ne (by decide)]; exact m3
  refine mt_aload_n (pc := 70) dX10_init_70 rfl ?_
  have v6 : mm_wf 28 (hset W6 27 (.inr (0, [.int 0, .null, .null, .null]))) := mm_wf_push hw6 (mm_ew_obj (fun v hv => by simp at hv; first | (subst hv; first | exact mm_vw_null _ | exact mm_vw_int _ _) | (rcases hv with rfl | rfl <;> first | exact mm_vw_null _ | exact mm_vw_int _ _)))
  refine mt_mkO (pc := 71) (i := 0) (ci := 10) (fs := [.ref 1, .ref 3, .ref 9, .ref 15, .ref 19, .ref 23, .null, .null, .null, .null, .null, .null, .null, .null, .null, .int 0, .int 0, .int 0, .int 0]) dX10_init_71 dX10_init_74 dX10_init_75 dX10_init_78 nf_X10_36 (fun v hv => by simp at hv; first | (subst hv; first | exact mm_vw_null _ | exact mm_vw_int _ _) | (rcases hv with rfl | rfl <;> first | exact mm_vw_null _ | exact mm_vw_int _ _)) (c_X0i (d := 4) (i := 27) (Nat.le_refl 4) (by decide) (by decide) (hset_eq _ _ _) v6) cal_X0_init rfl ii_X0 (Or.inr ⟨_, mn_X10_38⟩) pf_X10_43 rfl (by show _ ≤ d; omega) (Nat.le_of_ble_eq_true rfl) (Nat.le_of_ble_eq_true rfl) (fun x n k hx => by simp [mm_ret] at hx) (Nat.le_of_ble_eq_true rfl) (by decide) (by decide) hw6 (fun v hv => by simp at hv; subst hv; exact mm_vw_ref (by decide)) ?_
  rintro v9 n9 m ⟨hv9, rfl, hwm, hF, m0, m1, m2, m3⟩
  cases hv9
  have e9 : ∀ j, j < 27 → m j = W6 j := fun j hj => (hF j (by omega) (by omega)).trans (hset_ne (by omega))
  refine ⟨rfl, by decide, (e9 0 (by decide)).trans f0, hwm, fun hw7 => ?_⟩
  obtain ⟨W7, hW7⟩ : ∃ W, W = hset (m) 0 (.inr (10, [.ref 1, .ref 3, .ref 9, .ref 15, .ref 19, .ref 23, .ref 27, .null, .null, .null, .null, .null, .null, .null, .null, .int 0, .int 0, .int 0, .int 0])) := ⟨_, rfl⟩
  change mm_wf 31 (hset (m) 0 (.inr (10, [.ref 1, .ref 3, .ref 9, .ref 15, .ref 19, .ref 23, .ref 27, .null, .null, .null, .null, .null, .null, .null, .null, .int 0, .int 0, .int 0, .int 0]))) at hw7
  refine mt_heq (h' := W7) (by rw [hW7]; rfl) ?_
  rw [← hW7] at hw7
  have e7 : ∀ j, j < 27 → j ≠ 0 → W7 j = W6 j := fun j y1 y2 => by rw [hW7, hset_ne y2]; exact e9 j y1
  have f0 : W7 0 = .inr (10, [.ref 1, .ref 3, .ref 9, .ref 15, .ref 19, .ref 23, .ref 27, .null, .null, .null, .null, .null, .null, .null, .null, .int 0, .int 0, .int 0, .int 0]) := by rw [hW7, hset_eq]
  have f1 : W7 1 = .inr (7, [.ref 2, .int 0, .int 0, .int 0, .int 0, .int 0, .int (-1)]) := (e7 1 (by decide) (by decide)).trans f1
  have f2 : W7 2 = .inl (1, 600, .inl (fun _ => 0)) := (e7 2 (by decide) (by decide)).trans f2
  have f3 : W7 3 = .inr (1, [.int 0, .int 0, .ref 4, .ref 5, .ref 6, .ref 7, .ref 8]) := (e7 3 (by decide) (by decide)).trans f3
  have f4 : W7 4 = .inl (0, 8, .inl (fun _ => 0)) := (e7 4 (by decide) (by decide)).trans f4
  have f5 : W7 5 = .inl (0, 8, .inl (fun _ => 0)) := (e7 5 (by decide) (by decide)).trans f5
  have f6 : W7 6 = .inl (0, 8, .inl (fun _ => 0)) := (e7 6 (by decide) (by decide)).trans f6
  have f7 : W7 7 = .inl (0, 6, .inl (fun _ => 0)) := (e7 7 (by decide) (by decide)).trans f7
  have f8 : W7 8 = .inl (0, 6, .inl (fun _ => 0)) := (e7 8 (by decide) (by decide)).trans f8
  have f9 : W7 9 = .inr (1, [.int 0, .int 0, .ref 10, .ref 11, .ref 12, .ref 13, .ref 14]) := (e7 9 (by decide) (by decide)).trans f9
  have f10 : W7 10 = .inl (0, 8, .inl (fun _ => 0)) := (e7 10 (by decide) (by decide)).trans f10
  have f11 : W7 11 = .inl (0, 8, .inl (fun _ => 0)) := (e7 11 (by decide) (by decide)).trans f11
  have f12 : W7 12 = .inl (0, 8, .inl (fun _ => 0)) := (e7 12 (by decide) (by decide)).trans f12
  have f13 : W7 13 = .inl (0, 6, .inl (fun _ => 0)) := (e7 13 (by decide) (by decide)).trans f13
  have f14 : W7 14 = .inl (0, 6, .inl (fun _ => 0)) := (e7 14 (by decide) (by decide)).trans f14
  have f15 : W7 15 = .inr (2, [.ref 16, .ref 17, .ref 18, .int (nI 9)]) := (e7 15 (by decide) (by decide)).trans f15
  have f16 : W7 16 = .inl (0, 150, .inl (va_cpy untF (fun _ => 0) 0 0 9)) := (e7 16 (by decide) (by decide)).trans f16
  have f17 : W7 17 = .inl (0, 8, .inl (fun _ => 0)) := (e7 17 (by decide) (by decide)).trans f17
  have f18 : W7 18 = .inl (0, 32, .inl (fun _ => 0)) := (e7 18 (by decide) (by decide)).trans f18
  have f19 : W7 19 = .inr (2, [.ref 20, .ref 21, .ref 22, .int (nI 9)]) := (e7 19 (by decide) (by decide)).trans f19
  have f20 : W7 20 = .inl (0, 150, .inl (va_cpy untF (fun _ => 0) 0 0 9)) := (e7 20 (by decide) (by decide)).trans f20
  have f21 : W7 21 = .inl (0, 8, .inl (fun _ => 0)) := (e7 21 (by decide) (by decide)).trans f21
  have f22 : W7 22 = .inl (0, 32, .inl (fun _ => 0)) := (e7 22 (by decide) (by decide)).trans f22
  have f23 : W7 23 = .inr (0, [.int 0, .ref 24, .ref 25, .ref 26]) := (e7 23 (by decide) (by decide)).trans f23
  have f24 : W7 24 = .inl (0, 6, .inl (fun _ => 0)) := (e7 24 (by decide) (by decide)).trans f24
  have f25 : W7 25 = .inl (0, 6, .inl (fun _ => 0)) := (e7 25 (by decide) (by decide)).trans f25
  have f26 : W7 26 = .inl (0, 6, .inl (fun _ => 0)) := (e7 26 (by decide) (by decide)).trans f26
  have f27 : W7 27 = .inr (0, [.int 0, .ref 28, .ref 29, .ref 30]) := by rw [hW7, hset_ne (by decide)]; exact m0
  have f28 : W7 28 = .inl (0, 6, .inl (fun _ => 0)) := by rw [hW7, hset_ne (by decide)]; exact m1
  have f29 : W7 29 = .inl (0, 6, .inl (fun _ => 0)) := by rw [hW7, hset_ne (by decide)]; exact m2
  have f30 : W7 30 = .inl (0, 6, .inl (fun _ => 0)) := by rw [hW7, hset_ne (by decide)]; exact m3
  refine mt_aload_n (pc := 81) dX10_init_81 rfl ?_
  have v7 : mm_wf 32 (hset W7 31 (.inr (9, [.null, .int 0, .int 0, .int 0, .int 0, .int 0, .int 0]))) := mm_wf_push hw7 (mm_ew_obj (fun v hv => by simp at hv; first | (subst hv; first | exact mm_vw_null _ | exact mm_vw_int _ _) | (rcases hv with rfl | rfl <;> first | exact mm_vw_null _ | exact mm_vw_int _ _)))
  refine mt_mkO (pc := 82) (i := 0) (ci := 10) (fs := [.ref 1, .ref 3, .ref 9, .ref 15, .ref 19, .ref 23, .ref 27, .null, .null, .null, .null, .null, .null, .null, .null, .int 0, .int 0, .int 0, .int 0]) dX10_init_82 dX10_init_85 dX10_init_86 dX10_init_89 nf_X10_46 (fun v hv => by simp at hv; first | (subst hv; first | exact mm_vw_null _ | exact mm_vw_int _ _) | (rcases hv with rfl | rfl <;> first | exact mm_vw_null _ | exact mm_vw_int _ _)) (c_X9i (d := 4) (i := 31) (Nat.le_refl 4) (by decide) (by decide) (hset_eq _ _ _) v7) cal_X9_init rfl ii_X9 (Or.inr ⟨_, mn_X10_48⟩) pf_X10_49 rfl (by show _ ≤ d; omega) (Nat.le_of_ble_eq_true rfl) (Nat.le_of_ble_eq_true rfl) (fun x n k hx => by simp [mm_ret] at hx) (Nat.le_of_ble_eq_true rfl) (by decide) (by decide) hw7 (fun v hv => by simp at hv; subst hv; exact mm_vw_ref (by decide)) ?_
  rintro v9 n9 m ⟨hv9, rfl, hwm, hF, m0, m1⟩
  cases hv9
  have e9 : ∀ j, j < 31 → m j = W7 j := fun j hj => (hF j (by omega) (by omega)).trans (hset_ne (by omega))
  refine ⟨rfl, by decide, (e9 0 (by decide)).trans f0, hwm, fun hw8 => ?_⟩
  obtain ⟨W8, hW8⟩ : ∃ W, W = hset (m) 0 (.inr (10, [.ref 1, .ref 3, .ref 9, .ref 15, .ref 19, .ref 23, .ref 27, .ref 31, .null, .null, .null, .null, .null, .null, .null, .int 0, .int 0, .int 0, .int 0])) := ⟨_, rfl⟩
  change mm_wf 33 (hset (m) 0 (.inr (10, [.ref 1, .ref 3, .ref 9, .ref 15, .ref 19, .ref 23, .ref 27, .ref 31, .null, .null, .null, .null, .null, .null, .null, .int 0, .int 0, .int 0, .int 0]))) at hw8
  refine mt_heq (h' := W8) (by rw [hW8]; rfl) ?_
  rw [← hW8] at hw8
  have e8 : ∀ j, j < 31 → j ≠ 0 → W8 j = W7 j := fun j y1 y2 => by rw [hW8, hset_ne y2]; exact e9 j y1
  have f0 : W8 0 = .inr (10, [.ref 1, .ref 3, .ref 9, .ref 15, .ref 19, .ref 23, .ref 27, .ref 31, .null, .null, .null, .null, .null, .null, .null, .int 0, .int 0, .int 0, .int 0]) := by rw [hW8, hset_eq]
  have f1 : W8 1 = .inr (7, [.ref 2, .int 0, .int 0, .int 0, .int 0, .int 0, .int (-1)]) := (e8 1 (by decide) (by decide)).trans f1
  have f2 : W8 2 = .inl (1, 600, .inl (fun _ => 0)) := (e8 2 (by decide) (by decide)).trans f2
  have f3 : W8 3 = .inr (1, [.int 0, .int 0, .ref 4, .ref 5, .ref 6, .ref 7, .ref 8]) := (e8 3 (by decide) (by decide)).trans f3
  have f4 : W8 4 = .inl (0, 8, .inl (fun _ => 0)) := (e8 4 (by decide) (by decide)).trans f4
  have f5 : W8 5 = .inl (0, 8, .inl (fun _ => 0)) := (e8 5 (by decide) (by decide)).trans f5
  have f6 : W8 6 = .inl (0, 8, .inl (fun _ => 0)) := (e8 6 (by decide) (by decide)).trans f6
  have f7 : W8 7 = .inl (0, 6, .inl (fun _ => 0)) := (e8 7 (by decide) (by decide)).trans f7
  have f8 : W8 8 = .inl (0, 6, .inl (fun _ => 0)) := (e8 8 (by decide) (by decide)).trans f8
  have f9 : W8 9 = .inr (1, [.int 0, .int 0, .ref 10, .ref 11, .ref 12, .ref 13, .ref 14]) := (e8 9 (by decide) (by decide)).trans f9
  have f10 : W8 10 = .inl (0, 8, .inl (fun _ => 0)) := (e8 10 (by decide) (by decide)).trans f10
  have f11 : W8 11 = .inl (0, 8, .inl (fun _ => 0)) := (e8 11 (by decide) (by decide)).trans f11
  have f12 : W8 12 = .inl (0, 8, .inl (fun _ => 0)) := (e8 12 (by decide) (by decide)).trans f12
  have f13 : W8 13 = .inl (0, 6, .inl (fun _ => 0)) := (e8 13 (by decide) (by decide)).trans f13
  have f14 : W8 14 = .inl (0, 6, .inl (fun _ => 0)) := (e8 14 (by decide) (by decide)).trans f14
  have f15 : W8 15 = .inr (2, [.ref 16, .ref 17, .ref 18, .int (nI 9)]) := (e8 15 (by decide) (by decide)).trans f15
  have f16 : W8 16 = .inl (0, 150, .inl (va_cpy untF (fun _ => 0) 0 0 9)) := (e8 16 (by decide) (by decide)).trans f16
  have f17 : W8 17 = .inl (0, 8, .inl (fun _ => 0)) := (e8 17 (by decide) (by decide)).trans f17
  have f18 : W8 18 = .inl (0, 32, .inl (fun _ => 0)) := (e8 18 (by decide) (by decide)).trans f18
  have f19 : W8 19 = .inr (2, [.ref 20, .ref 21, .ref 22, .int (nI 9)]) := (e8 19 (by decide) (by decide)).trans f19
  have f20 : W8 20 = .inl (0, 150, .inl (va_cpy untF (fun _ => 0) 0 0 9)) := (e8 20 (by decide) (by decide)).trans f20
  have f21 : W8 21 = .inl (0, 8, .inl (fun _ => 0)) := (e8 21 (by decide) (by decide)).trans f21
  have f22 : W8 22 = .inl (0, 32, .inl (fun _ => 0)) := (e8 22 (by decide) (by decide)).trans f22
  have f23 : W8 23 = .inr (0, [.int 0, .ref 24, .ref 25, .ref 26]) := (e8 23 (by decide) (by decide)).trans f23
  have f24 : W8 24 = .inl (0, 6, .inl (fun _ => 0)) := (e8 24 (by decide) (by decide)).trans f24
  have f25 : W8 25 = .inl (0, 6, .inl (fun _ => 0)) := (e8 25 (by decide) (by decide)).trans f25
  have f26 : W8 26 = .inl (0, 6, .inl (fun _ => 0)) := (e8 26 (by decide) (by decide)).trans f26
  have f27 : W8 27 = .inr (0, [.int 0, .ref 28, .ref 29, .ref 30]) := (e8 27 (by decide) (by decide)).trans f27
  have f28 : W8 28 = .inl (0, 6, .inl (fun _ => 0)) := (e8 28 (by decide) (by decide)).trans f28
  have f29 : W8 29 = .inl (0, 6, .inl (fun _ => 0)) := (e8 29 (by decide) (by decide)).trans f29
  have f30 : W8 30 = .inl (0, 6, .inl (fun _ => 0)) := (e8 30 (by decide) (by decide)).trans f30
  have f31 : W8 31 = .inr (9, [.ref 32, .int 0, .int 0, .int 0, .int 0, .int 0, .int 0]) := by rw [hW8, hset_ne (by decide)]; exact m0
  have f32 : W8 32 = .inl (0, 180, .inl (fun _ => 0)) := by rw [hW8, hset_ne (by decide)]; exact m1
  refine mt_aload_n (pc := 92) dX10_init_92 rfl ?_
  refine mt_new (pc := 93) nf_X10_53 dX10_init_93 (by decide) hw8 (fun v hv => by rcases List.mem_singleton.mp hv with rfl; exact mm_vw_ref (by decide)) (fun v hv => by simp at hv; subst hv; exact mm_vw_ref (by decide)) (Nat.le_of_ble_eq_true rfl) (Nat.le_of_ble_eq_true rfl) ?_
  refine mt_dup (pc := 96) dX10_init_96 rfl ?_
  have v8 : mm_wf 34 (hset W8 33 (.inr (4, [.null, .null]))) := mm_wf_push hw8 (mm_ew_obj fun v hv => by simp at hv; subst hv; exact mm_vw_null _)
  refine mt_aload_n (pc := 97) dX10_init_97 rfl ?_
  refine mt_get (pc := 98) gf_X10_19 dX10_init_98 (by decide) ((hset_ne (by decide)).trans f0) rfl ?_
  refine mt_aload_n (pc := 101) dX10_init_101 rfl ?_
  refine mt_get (pc := 102) gf_X10_29 dX10_init_102 (by decide) ((hset_ne (by decide)).trans f0) rfl ?_
  refine mt_callI (pc := 105) (av := [.ref 3, .ref 15]) (c_X4i (d := 4) (i := 33) (a := 3) (b := 15) (Nat.le_refl 4) (by decide) (by decide) (by decide) (hset_eq _ _ _) v8) cal_X4_init rfl ii_X4 ml_X10_55 dX10_init_105 (by show _ ≤ d; omega) ⟨(Nat.le_of_ble_eq_true rfl), (Nat.le_of_ble_eq_true rfl)⟩ rfl rfl (Nat.le_of_ble_eq_true rfl) (fun x n k hx => by simp at hx) (fun v hv => by simp at hv; subst hv; exact mm_vw_ref (by decide)) (fun v hv => by simp at hv; rcases hv with rfl | rfl <;> exact mm_vw_ref (by decide)) ?_
  rintro v9 n9 m ⟨hv9, rfl, hwm, hF, m0⟩
  cases hv9
  have e9 : ∀ j, j < 33 → m j = W8 j := fun j hj => (hF j (by omega) (by omega)).trans (hset_ne (by omega))
  refine mt_putr (pc := 108) pf_X10_58 rfl (fun _ => rfl) (fun _ => rfl) dX10_init_108 (by decide) ((e9 0 (by decide)).trans f0) (Nat.le_of_ble_eq_true rfl) ?_
  obtain ⟨W9, hW9⟩ : ∃ W, W = hset m 0 (.inr (10, [.ref 1, .ref 3, .ref 9, .ref 15, .ref 19, .ref 23, .ref 27, .ref 31, .ref 33, .null, .null, .null, .null, .null, .null, .int 0, .int 0, .int 0, .int 0])) := ⟨_, rfl⟩
  have hw9 : mm_wf 34 W9 := by rw [hW9]; exact mm_wf_set hwm (mm_ew_set (k := 8) (j := 33) (mm_wf_at hwm (by decide) ((e9 0 (by decide)).trans f0)) (Nat.le_refl _) (by decide))
  refine mt_heq (h' := W9) (by rw [hW9]; rfl) ?_
  have e9 : ∀ j, j < 33 → j ≠ 0 → W9 j = W8 j := fun j y1 y2 => by rw [hW9, hset_ne y2]; exact e9 j y1
  have f0 : W9 0 = .inr (10, [.ref 1, .ref 3, .ref 9, .ref 15, .ref 19, .ref 23, .ref 27, .ref 31, .ref 33, .null, .null, .null, .null, .null, .null, .int 0, .int 0, .int 0, .int 0]) := by rw [hW9, hset_eq]
  have f1 : W9 1 = .inr (7, [.ref 2, .int 0, .int 0, .int 0, .int 0, .int 0, .int (-1)]) := (e9 1 (by decide) (by decide)).trans f1
  have f2 : W9 2 = .inl (1, 600, .inl (fun _ => 0)) := (e9 2 (by decide) (by decide)).trans f2
  have f3 : W9 3 = .inr (1, [.int 0, .int 0, .ref 4, .ref 5, .ref 6, .ref 7, .ref 8]) := (e9 3 (by decide) (by decide)).trans f3
  have f4 : W9 4 = .inl (0, 8, .inl (fun _ => 0)) := (e9 4 (by decide) (by decide)).trans f4
  have f5 : W9 5 = .inl (0, 8, .inl (fun _ => 0)) := (e9 5 (by decide) (by decide)).trans f5
  have f6 : W9 6 = .inl (0, 8, .inl (fun _ => 0)) := (e9 6 (by decide) (by decide)).trans f6
  have f7 : W9 7 = .inl (0, 6, .inl (fun _ => 0)) := (e9 7 (by decide) (by decide)).trans f7
  have f8 : W9 8 = .inl (0, 6, .inl (fun _ => 0)) := (e9 8 (by decide) (by decide)).trans f8
  have f9 : W9 9 = .inr (1, [.int 0, .int 0, .ref 10, .ref 11, .ref 12, .ref 13, .ref 14]) := (e9 9 (by decide) (by decide)).trans f9
  have f10 : W9 10 = .inl (0, 8, .inl (fun _ => 0)) := (e9 10 (by decide) (by decide)).trans f10
  have f11 : W9 11 = .inl (0, 8, .inl (fun _ => 0)) := (e9 11 (by decide) (by decide)).trans f11
  have f12 : W9 12 = .inl (0, 8, .inl (fun _ => 0)) := (e9 12 (by decide) (by decide)).trans f12
  have f13 : W9 13 = .inl (0, 6, .inl (fun _ => 0)) := (e9 13 (by decide) (by decide)).trans f13
  have f14 : W9 14 = .inl (0, 6, .inl (fun _ => 0)) := (e9 14 (by decide) (by decide)).trans f14
  have f15 : W9 15 = .inr (2, [.ref 16, .ref 17, .ref 18, .int (nI 9)]) := (e9 15 (by decide) (by decide)).trans f15
  have f16 : W9 16 = .inl (0, 150, .inl (va_cpy untF (fun _ => 0) 0 0 9)) := (e9 16 (by decide) (by decide)).trans f16
  have f17 : W9 17 = .inl (0, 8, .inl (fun _ => 0)) := (e9 17 (by decide) (by decide)).trans f17
  have f18 : W9 18 = .inl (0, 32, .inl (fun _ => 0)) := (e9 18 (by decide) (by decide)).trans f18
  have f19 : W9 19 = .inr (2, [.ref 20, .ref 21, .ref 22, .int (nI 9)]) := (e9 19 (by decide) (by decide)).trans f19
  have f20 : W9 20 = .inl (0, 150, .inl (va_cpy untF (fun _ => 0) 0 0 9)) := (e9 20 (by decide) (by decide)).trans f20
  have f21 : W9 21 = .inl (0, 8, .inl (fun _ => 0)) := (e9 21 (by decide) (by decide)).trans f21
  have f22 : W9 22 = .inl (0, 32, .inl (fun _ => 0)) := (e9 22 (by decide) (by decide)).trans f22
  have f23 : W9 23 = .inr (0, [.int 0, .ref 24, .ref 25, .ref 26]) := (e9 23 (by decide) (by decide)).trans f23
  have f24 : W9 24 = .inl (0, 6, .inl (fun _ => 0)) := (e9 24 (by decide) (by decide)).trans f24
  have f25 : W9 25 = .inl (0, 6, .inl (fun _ => 0)) := (e9 25 (by decide) (by decide)).trans f25
  have f26 : W9 26 = .inl (0, 6, .inl (fun _ => 0)) := (e9 26 (by decide) (by decide)).trans f26
  have f27 : W9 27 = .inr (0, [.int 0, .ref 28, .ref 29, .ref 30]) := (e9 27 (by decide) (by decide)).trans f27
  have f28 : W9 28 = .inl (0, 6, .inl (fun _ => 0)) := (e9 28 (by decide) (by decide)).trans f28
  have f29 : W9 29 = .inl (0, 6, .inl (fun _ => 0)) := (e9 29 (by decide) (by decide)).trans f29
  have f30 : W9 30 = .inl (0, 6, .inl (fun _ => 0)) := (e9 30 (by decide) (by decide)).trans f30
  have f31 : W9 31 = .inr (9, [.ref 32, .int 0, .int 0, .int 0, .int 0, .int 0, .int 0]) := (e9 31 (by decide) (by decide)).trans f31
  have f32 : W9 32 = .inl (0, 180, .inl (fun _ => 0)) := (e9 32 (by decide) (by decide)).trans f32
  have f33 : W9 33 = .inr (4, [.ref 3, .ref 15]) := by rw [hW9, hset_ne (by decide)]; exact m0
  refine mt_aload_n (pc := 111) dX10_init_111 rfl ?_
  have v9 : mm_wf 35 (hset W9 34 (.inr (3, [.null, .null, .int 0]))) := mm_wf_push hw9 (mm_ew_obj (fun v hv => by simp at hv; first | (subst hv; first | exact mm_vw_null _ | exact mm_vw_int _ _) | (rcases hv with rfl | rfl <;> first | exact mm_vw_null _ | exact mm_vw_int _ _)))
  refine mt_mkO (pc := 112) (i := 0) (ci := 10) (fs := [.ref 1, .ref 3, .ref 9, .ref 15, .ref 19, .ref 23, .ref 27, .ref 31, .ref 33, .null, .null, .null, .null, .null, .null, .int 0, .int 0, .int 0, .int 0]) dX10_init_112 dX10_init_115 dX10_init_116 dX10_init_119 nf_X10_62 (fun v hv => by simp at hv; first | (subst hv; first | exact mm_vw_null _ | exact mm_vw_int _ _) | (rcases hv with rfl | rfl <;> first | exact mm_vw_null _ | exact mm_vw_int _ _)) (c_X3i (d := 6) (b := 34) (Nat.le_refl 6) (by decide) hao3 (hset_eq _ _ _) v9) cal_X3_init rfl ii_X3 (Or.inl ml_X10_64) pf_X10_65 rfl (by show _ ≤ d; omega) (Nat.le_of_ble_eq_true rfl) (Nat.le_of_ble_eq_true rfl) (fun x n k hx => by simp [mm_ret] at hx) (Nat.le_of_ble_eq_true rfl) (by decide) (by decide) hw9 (fun v hv => by simp at hv; subst hv; exact mm_vw_ref (by decide)) ?_
  rintro v9 n9 m ⟨hv9, rfl, hP9⟩
  cases hv9
  have hwm := hP9.1
  have e9 : ∀ j, j < 34 → m j = W9 j := fun j hj => (hP9.2.1 j hj).trans (hset_ne (by omega))
  refine ⟨rfl, by decide, (e9 0 (by decide)).trans f0, hwm, fun hw10 => ?_⟩
  obtain ⟨W10, hW10⟩ : ∃ W, W = hset (m) 0 (.inr (10, [.ref 1, .ref 3, .ref 9, .ref 15, .ref 19, .ref 23, .ref 27, .ref 31, .ref 33, .ref 34, .null, .null, .null, .null, .null, .int 0, .int 0, .int 0, .int 0])) := ⟨_, rfl⟩
  change mm_wf 70 (hset (m) 0 (.inr (10, [.ref 1, .ref 3, .ref 9, .ref 15, .ref 19, .ref 23, .ref 27, .ref 31, .ref 33, .ref 34, .null, .null, .null, .null, .null, .int 0, .int 0, .int 0, .int 0]))) at hw10
  refine mt_heq (h' := W10) (by rw [hW10]; rfl) ?_
  rw [← hW10] at hw10
  have e10 : ∀ j, j < 34 → j ≠ 0 → W10 j = W9 j := fun j y1 y2 => by rw [hW10, hset_ne y2]; exact e9 j y1
  have f0 : W10 0 = .inr (10, [.ref 1, .ref 3, .ref 9, .ref 15, .ref 19, .ref 23, .ref 27, .ref 31, .ref 33, .ref 34, .null, .null, .null, .null, .null, .int 0, .int 0, .int 0, .int 0]) := by rw [hW10, hset_eq]
  have f1 : W10 1 = .inr (7, [.ref 2, .int 0, .int 0, .int 0, .int 0, .int 0, .int (-1)]) := (e10 1 (by decide) (by decide)).trans f1
  have f2 : W10 2 = .inl (1, 600, .inl (fun _ => 0)) := (e10 2 (by decide) (by decide)).trans f2
  have f3 : W10 3 = .inr (1, [.int 0, .int 0, .ref 4, .ref 5, .ref 6, .ref 7, .ref 8]) := (e10 3 (by decide) (by decide)).trans f3
  have f4 : W10 4 = .inl (0, 8, .inl (fun _ => 0)) := (e10 4 (by decide) (by decide)).trans f4
  have f5 : W10 5 = .inl (0, 8, .inl (fun _ => 0)) := (e10 5 (by decide) (by decide)).trans f5
  have f6 : W10 6 = .inl (0, 8, .inl (fun _ => 0)) := (e10 6 (by decide) (by decide)).trans f6
  have f7 : W10 7 = .inl (0, 6, .inl (fun _ => 0)) := (e10 7 (by decide) (by decide)).trans f7
  have f8 : W10 8 = .inl (0, 6, .inl (fun _ => 0)) := (e10 8 (by decide) (by decide)).trans f8
  have f9 : W10 9 = .inr (1, [.int 0, .int 0, .ref 10, .ref 11, .ref 12, .ref 13, .ref 14]) := (e10 9 (by decide) (by decide)).trans f9
  have f10 : W10 10 = .inl (0, 8, .inl (fun _ => 0)) := (e10 10 (by decide) (by decide)).trans f10
  have f11 : W10 11 = .inl (0, 8, .inl (fun _ => 0)) := (e10 11 (by decide) (by decide)).trans f11
  have f12 : W10 12 = .inl (0, 8, .inl (fun _ => 0)) := (e10 12 (by decide) (by decide)).trans f12
  have f13 : W10 13 = .inl (0, 6, .inl (fun _ => 0)) := (e10 13 (by decide) (by decide)).trans f13
  have f14 : W10 14 = .inl (0, 6, .inl (fun _ => 0)) := (e10 14 (by decide) (by decide)).trans f14
  have f15 : W10 15 = .inr (2, [.ref 16, .ref 17, .ref 18, .int (nI 9)]) := (e10 15 (by decide) (by decide)).trans f15
  have f16 : W10 16 = .inl (0, 150, .inl (va_cpy untF (fun _ => 0) 0 0 9)) := (e10 16 (by decide) (by decide)).trans f16
  have f17 : W10 17 = .inl (0, 8, .inl (fun _ => 0)) := (e10 17 (by decide) (by decide)).trans f17
  have f18 : W10 18 = .inl (0, 32, .inl (fun _ => 0)) := (e10 18 (by decide) (by decide)).trans f18
  have f19 : W10 19 = .inr (2, [.ref 20, .ref 21, .ref 22, .int (nI 9)]) := (e10 19 (by decide) (by decide)).trans f19
  have f20 : W10 20 = .inl (0, 150, .inl (va_cpy untF (fun _ => 0) 0 0 9)) := (e10 20 (by decide) (by decide)).trans f20
  have f21 : W10 21 = .inl (0, 8, .inl (fun _ => 0)) := (e10 21 (by decide) (by decide)).trans f21
  have f22 : W10 22 = .inl (0, 32, .inl (fun _ => 0)) := (e10 22 (by decide) (by decide)).trans f22
  have f23 : W10 23 = .inr (0, [.int 0, .ref 24, .ref 25, .ref 26]) := (e10 23 (by decide) (by decide)).trans f23
  have f24 : W10 24 = .inl (0, 6, .inl (fun _ => 0)) := (e10 24 (by decide) (by decide)).trans f24
  have f25 : W10 25 = .inl (0, 6, .inl (fun _ => 0)) := (e10 25 (by decide) (by decide)).trans f25
  have f26 : W10 26 = .inl (0, 6, .inl (fun _ => 0)) := (e10 26 (by decide) (by decide)).trans f26
  have f27 : W10 27 = .inr (0, [.int 0, .ref 28, .ref 29, .ref 30]) := (e10 27 (by decide) (by decide)).trans f27
  have f28 : W10 28 = .inl (0, 6, .inl (fun _ => 0)) := (e10 28 (by decide) (by decide)).trans f28
  have f29 : W10 29 = .inl (0, 6, .inl (fun _ => 0)) := (e10 29 (by decide) (by decide)).trans f29
  have f30 : W10 30 = .inl (0, 6, .inl (fun _ => 0)) := (e10 30 (by decide) (by decide)).trans f30
  have f31 : W10 31 = .inr (9, [.ref 32, .int 0, .int 0, .int 0, .int 0, .int 0, .int 0]) := (e10 31 (by decide) (by decide)).trans f31
  have f32 : W10 32 = .inl (0, 180, .inl (fun _ => 0)) := (e10 32 (by decide) (by decide)).trans f32
  have f33 : W10 33 = .inr (4, [.ref 3, .ref 15]) := (e10 33 (by decide) (by decide)).trans f33
  have g34 : PGd 34 W10 := PGd_of hP9 (fun j y1 y2 => by rw [hW10, hset_ne (by omega)])
  refine mt_aload_n (pc := 122) dX10_init_122 rfl ?_
  refine mt_iconst (pc := 123) (v := 3) dX10_init_123 (by decide) ?_
  refine mt_newq (pc := 124) (q := 4) (N := 3) rfl kl_X10_62 hao4 dX10_init_124 (by decide) (by decide) (by decide) (by decide) hw10 (fun v hv => by rcases List.mem_singleton.mp hv with rfl; exact mm_vw_ref (by decide)) (fun v hv => by simp at hv; subst hv; exact mm_vw_ref (by decide)) (Nat.le_of_ble_eq_true rfl) (Nat.le_of_ble_eq_true rfl) ?_
  have v10 : mm_wf 71 (hset W10 70 (imE2 0)) := mm_wf_push hw10 (imC_ew (by decide))
  refine mt_putr (pc := 127) pf_X10_69 rfl (fun _ => rfl) (fun _ => rfl) dX10_init_127 (by decide) ((hset_ne (by decide)).trans f0) (Nat.le_of_ble_eq_true rfl) ?_
  obtain ⟨W11, hW11⟩ : ∃ W, W = hset (hset W10 70 (imE2 0)) 0 (.inr (10, [.ref 1, .ref 3, .ref 9, .ref 15, .ref 19, .ref 23, .ref 27, .ref 31, .ref 33, .ref 34, .ref 70, .null, .null, .null, .null, .int 0, .int 0, .int 0, .int 0])) := ⟨_, rfl⟩
  have hw11 : mm_wf 71 W11 := by rw [hW11]; exact mm_wf_set v10 (mm_ew_set (k := 10) (j := 70) (mm_wf_at v10 (by decide) ((hset_ne (by decide)).trans f0)) (Nat.le_refl _) (by decide))
  refine mt_heq (h' := W11) (by rw [hW11]; rfl) ?_
  have e11 : ∀ j, j < 70 → j ≠ 0 → W11 j = W10 j := fun j y1 y2 => by rw [hW11, hset_ne y2, hset_ne (by omega)]
  have f0 : W11 0 = .inr (10, [.ref 1, .ref 3, .ref 9, .ref 15, .ref 19, .ref 23, .ref 27, .ref 31, .ref 33, .ref 34, .ref 70, .null, .null, .null, .null, .int 0, .int 0, .int 0, .int 0]) := by rw [hW11, hset_eq]
  have f1 : W11 1 = .inr (7, [.ref 2, .int 0, .int 0, .int 0, .int 0, .int 0, .int (-1)]) := (e11 1 (by decide) (by decide)).trans f1
  have f2 : W11 2 = .inl (1, 600, .inl (fun _ => 0)) := (e11 2 (by decide) (by decide)).trans f2
  have f3 : W11 3 = .inr (1, [.int 0, .int 0, .ref 4, .ref 5, .ref 6, .ref 7, .ref 8]) := (e11 3 (by decide) (by decide)).trans f3
  have f4 : W11 4 = .inl (0, 8, .inl (fun _ => 0)) := (e11 4 (by decide) (by decide)).trans f4
  have f5 : W11 5 = .inl (0, 8, .inl (fun _ => 0)) := (e11 5 (by decide) (by decide)).trans f5
  have f6 : W11 6 = .inl (0, 8, .inl (fun _ => 0)) := (e11 6 (by decide) (by decide)).trans f6
  have f7 : W11 7 = .inl (0, 6, .inl (fun _ => 0)) := (e11 7 (by decide) (by decide)).trans f7
  have f8 : W11 8 = .inl (0, 6, .inl (fun _ => 0)) := (e11 8 (by decide) (by decide)).trans f8
  have f9 : W11 9 = .inr (1, [.int 0, .int 0, .ref 10, .ref 11, .ref 12, .ref 13, .ref 14]) := (e11 9 (by decide) (by decide)).trans f9
  have f10 : W11 10 = .inl (0, 8, .inl (fun _ => 0)) := (e11 10 (by decide) (by decide)).trans f10
  have f11 : W11 11 = .inl (0, 8, .inl (fun _ => 0)) := (e11 11 (by decide) (by decide)).trans f11
  have f12 : W11 12 = .inl (0, 8, .inl (fun _ => 0)) := (e11 12 (by decide) (by decide)).trans f12
  have f13 : W11 13 = .inl (0, 6, .inl (fun _ => 0)) := (e11 13 (by decide) (by decide)).trans f13
  have f14 : W11 14 = .inl (0, 6, .inl (fun _ => 0)) := (e11 14 (by decide) (by decide)).trans f14
  have f15 : W11 15 = .inr (2, [.ref 16, .ref 17, .ref 18, .int (nI 9)]) := (e11 15 (by decide) (by decide)).trans f15
  have f16 : W11 16 = .inl (0, 150, .inl (va_cpy untF (fun _ => 0) 0 0 9)) := (e11 16 (by decide) (by decide)).trans f16
  have f17 : W11 17 = .inl (0, 8, .inl (fun _ => 0)) := (e11 17 (by decide) (by decide)).trans f17
  have f18 : W11 18 = .inl (0, 32, .inl (fun _ => 0)) := (e11 18 (by decide) (by decide)).trans f18
  have f19 : W11 19 = .inr (2, [.ref 20, .ref 21, .ref 22, .int (nI 9)]) := (e11 19 (by decide) (by decide)).trans f19
  have f20 : W11 20 = .inl (0, 150, .inl (va_cpy untF (fun _ => 0) 0 0 9)) := (e11 20 (by decide) (by decide)).trans f20
  have f21 : W11 21 = .inl (0, 8, .inl (fun _ => 0)) := (e11 21 (by decide) (by decide)).trans f21
  have f22 : W11 22 = .inl (0, 32, .inl (fun _ => 0)) := (e11 22 (by decide) (by decide)).trans f22
  have f23 : W11 23 = .inr (0, [.int 0, .ref 24, .ref 25, .ref 26]) := (e11 23 (by decide) (by decide)).trans f23
  have f24 : W11 24 = .inl (0, 6, .inl (fun _ => 0)) := (e11 24 (by decide) (by decide)).trans f24
  have f25 : W11 25 = .inl (0, 6, .inl (fun _ => 0)) := (e11 25 (by decide) (by decide)).trans f25
  have f26 : W11 26 = .inl (0, 6, .inl (fun _ => 0)) := (e11 26 (by decide) (by decide)).trans f26
  have f27 : W11 27 = .inr (0, [.int 0, .ref 28, .ref 29, .ref 30]) := (e11 27 (by decide) (by decide)).trans f27
  have f28 : W11 28 = .inl (0, 6, .inl (fun _ => 0)) := (e11 28 (by decide) (by decide)).trans f28
  have f29 : W11 29 = .inl (0, 6, .inl (fun _ => 0)) := (e11 29 (by decide) (by decide)).trans f29
  have f30 : W11 30 = .inl (0, 6, .inl (fun _ => 0)) := (e11 30 (by decide) (by decide)).trans f30
  have f31 : W11 31 = .inr (9, [.ref 32, .int 0, .int 0, .int 0, .int 0, .int 0, .int 0]) := (e11 31 (by decide) (by decide)).trans f31
  have f32 : W11 32 = .inl (0, 180, .inl (fun _ => 0)) := (e11 32 (by decide) (by decide)).trans f32
  have f33 : W11 33 = .inr (4, [.ref 3, .ref 15]) := (e11 33 (by decide) (by decide)).trans f33
  have g34 : PGd 34 W11 := PGd_fe g34 (fun j y1 y2 => e11 j (by omega) (by omega))
  have f70 : W11 70 = imE2 0 := by rw [hW11, hset_ne (by decide), hset_eq]
  refine mt_iconst (pc := 130) (v := 0) dX10_init_130 (by decide) ?_
  refine mt_istore_n (pc := 131) dX10_init_131 (Nat.le_of_ble_eq_true rfl) rfl ?_
  refine mt_iload_n (pc := 132) dX10_init_132 rfl ?_
  refine mt_aload_n (pc := 133) dX10_init_133 rfl ?_
  refine mt_get (pc := 134) gf_X10_69 dX10_init_134 (by decide) f0 rfl ?_
  refine mt_alen (pc := 137) dX10_init_137 (by decide) f70 (by decide) ?_
  refine mt_icmp_ge (pc := 138) (tgt := 160) dX10_init_138 (by decide) (fun c138 => absurd c138 (by decide)) (fun _ => ?_)
  refine mt_aload_n (pc := 141) dX10_init_141 rfl ?_
  refine mt_get (pc := 142) gf_X10_69 dX10_init_142 (by decide) f0 rfl ?_
  refine mt_iload_n (pc := 145) dX10_init_145 rfl ?_
  refine mt_new (pc := 146) nf_X10_62 dX10_init_146 (by decide) hw11 (fun v hv => by simp at hv; rcases hv with rfl | rfl <;> first | exact mm_vw_ref (by decide) | exact mm_vw_int _ _) (fun v hv => by simp at hv; rcases hv with rfl | rfl <;> first | exact mm_vw_ref (by decide) | exact mm_vw_int _ _) (Nat.le_of_ble_eq_true rfl) (Nat.le_of_ble_eq_true rfl) ?_
  refine mt_dup (pc := 149) dX10_init_149 rfl ?_
  have v11 : mm_wf 72 (hset W11 71 (.inr (3, [.null, .null, .int 0]))) := mm_wf_push hw11 (mm_ew_obj fun v hv => by simp at hv; rcases hv with rfl | rfl <;> first | exact mm_vw_null _ | exact mm_vw_int _ _)
  refine mt_callI (pc := 150) (av := []) (c_X3i (d := 6) (b := 71) (Nat.le_refl 6) (by decide) hao3 (hset_eq _ _ _) v11) cal_X3_init rfl ii_X3 ml_X10_64 dX10_init_150 (by show _ ≤ d; omega) ⟨(Nat.le_of_ble_eq_true rfl), (Nat.le_of_ble_eq_true rfl)⟩ rfl rfl (Nat.le_of_ble_eq_true rfl) (fun x n k hx => by simp at hx) (fun v hv => by simp at hv; rcases hv with rfl | rfl <;> first | exact mm_vw_ref (by decide) | exact mm_vw_int _ _) (fun v hv => by simp at hv; rcases hv with rfl | rfl | rfl <;> first | exact mm_vw_ref (by decide) | exact mm_vw_int _ _) ?_
  rintro v9 n9 m ⟨hv9, rfl, hP9⟩
  cases hv9
  have hwm := hP9.1
  have e9 : ∀ j, j < 71 → m j = W11 j := fun j hj => (hP9.2.1 j hj).trans (hset_ne (by omega))
  refine mt_astq (pc := 153) (q := 4) (ci := 3) (v := 71) (i := 70) rfl rfl dX10_init_153 (by decide) ((e9 70 (by decide)).trans f70) (by decide) hP9.2.2.1 (vp_in_nI (n := 0) (N := 3) (by decide) (by decide)) ?_
  obtain ⟨W12, hW12⟩ : ∃ W, W = hset m 70 (imE2 1) := ⟨_, rfl⟩
  refine mt_heq (h' := W12) (by rw [hW12]; show hset m 70 (.inl (4, 3, .inr (.inr (.inr (.inr (va_up (imC 0) 0 (some (71 + 36 * 0)))))))) = _; rw [imC_s]) ?_
  have hw12 : mm_wf 107 W12 := by rw [hW12]; exact mm_wf_set hwm (imC_ew (by decide))
  have e12 : ∀ j, j < 70 → j ≠ 0 → W12 j = W11 j := fun j y1 y2 => by rw [hW12, hset_ne (by omega)]; exact e9 j (by omega)
  have ep : ∀ j, 70 < j → j < 71 → W12 j = W11 j := fun j y1 y2 => by rw [hW12, hset_ne (by omega)]; exact e9 j y2
  have f0 : W12 0 = .inr (10, [.ref 1, .ref 3, .ref 9, .ref 15, .ref 19, .ref 23, .ref 27, .ref 31, .ref 33, .ref 34, .ref 70, .null, .null, .null, .null, .int 0, .int 0, .int 0, .int 0]) := by rw [hW12, hset_ne (by decide)]; exact (e9 0 (by decide)).trans f0
  have f1 : W12 1 = .inr (7, [.ref 2, .int 0, .int 0, .int 0, .int 0, .int 0, .int (-1)]) := (e12 1 (by decide) (by decide)).trans f1
  have f2 : W12 2 = .inl (1, 600, .inl (fun _ => 0)) := (e12 2 (by decide) (by decide)).trans f2
  have f3 : W12 3 = .inr (1, [.int 0, .int 0, .ref 4, .ref 5, .ref 6, .ref 7, .ref 8]) := (e12 3 (by decide) (by decide)).trans f3
  have f4 : W12 4 = .inl (0, 8, .inl (fun _ => 0)) := (e12 4 (by decide) (by decide)).trans f4
  have f5 : W12 5 = .inl (0, 8, .inl (fun _ => 0)) := (e12 5 (by decide) (by decide)).trans f5
  have f6 : W12 6 = .inl (0, 8, .inl (fun _ => 0)) := (e12 6 (by decide) (by decide)).trans f6
  have f7 : W12 7 = .inl (0, 6, .inl (fun _ => 0)) := (e12 7 (by decide) (by decide)).trans f7
  have f8 : W12 8 = .inl (0, 6, .inl (fun _ => 0)) := (e12 8 (by decide) (by decide)).trans f8
  have f9 : W12 9 = .inr (1, [.int 0, .int 0, .ref 10, .ref 11, .ref 12, .ref 13, .ref 14]) := (e12 9 (by decide) (by decide)).trans f9
  have f10 : W12 10 = .inl (0, 8, .inl (fun _ => 0)) := (e12 10 (by decide) (by decide)).trans f10
  have f11 : W12 11 = .inl (0, 8, .inl (fun _ => 0)) := (e12 11 (by decide) (by decide)).trans f11
  have f12 : W12 12 = .inl (0, 8, .inl (fun _ => 0)) := (e12 12 (by decide) (by decide)).trans f12
  have f13 : W12 13 = .inl (0, 6, .inl (fun _ => 0)) := (e12 13 (by decide) (by decide)).trans f13
  have f14 : W12 14 = .inl (0, 6, .inl (fun _ => 0)) := (e12 14 (by decide) (by decide)).trans f14
  have f15 : W12 15 = .inr (2, [.ref 16, .ref 17, .ref 18, .int (nI 9)]) := (e12 15 (by decide) (by decide)).trans f15
  have f16 : W12 16 = .inl (0, 150, .inl (va_cpy untF (fun _ => 0) 0 0 9)) := (e12 16 (by decide) (by decide)).trans f16
  have f17 : W12 17 = .inl (0, 8, .inl (fun _ => 0)) := (e12 17 (by decide) (by decide)).trans f17
  have f18 : W12 18 = .inl (0, 32, .inl (fun _ => 0)) := (e12 18 (by decide) (by decide)).trans f18
  have f19 : W12 19 = .inr (2, [.ref 20, .ref 21, .ref 22, .int (nI 9)]) := (e12 19 (by decide) (by decide)).trans f19
  have f20 : W12 20 = .inl (0, 150, .inl (va_cpy untF (fun _ => 0) 0 0 9)) := (e12 20 (by decide) (by decide)).trans f20
  have f21 : W12 21 = .inl (0, 8, .inl (fun _ => 0)) := (e12 21 (by decide) (by decide)).trans f21
  have f22 : W12 22 = .inl (0, 32, .inl (fun _ => 0)) := (e12 22 (by decide) (by decide)).trans f22
  have f23 : W12 23 = .inr (0, [.int 0, .ref 24, .ref 25, .ref 26]) := (e12 23 (by decide) (by decide)).trans f23
  have f24 : W12 24 = .inl (0, 6, .inl (fun _ => 0)) := (e12 24 (by decide) (by decide)).trans f24
  have f25 : W12 25 = .inl (0, 6, .inl (fun _ => 0)) := (e12 25 (by decide) (by decide)).trans f25
  have f26 : W12 26 = .inl (0, 6, .inl (fun _ => 0)) := (e12 26 (by decide) (by decide)).trans f26
  have f27 : W12 27 = .inr (0, [.int 0, .ref 28, .ref 29, .ref 30]) := (e12 27 (by decide) (by decide)).trans f27
  have f28 : W12 28 = .inl (0, 6, .inl (fun _ => 0)) := (e12 28 (by decide) (by decide)).trans f28
  have f29 : W12 29 = .inl (0, 6, .inl (fun _ => 0)) := (e12 29 (by decide) (by decide)).trans f29
  have f30 : W12 30 = .inl (0, 6, .inl (fun _ => 0)) := (e12 30 (by decide) (by decide)).trans f30
  have f31 : W12 31 = .inr (9, [.ref 32, .int 0, .int 0, .int 0, .int 0, .int 0, .int 0]) := (e12 31 (by decide) (by decide)).trans f31
  have f32 : W12 32 = .inl (0, 180, .inl (fun _ => 0)) := (e12 32 (by decide) (by decide)).trans f32
  have f33 : W12 33 = .inr (4, [.ref 3, .ref 15]) := (e12 33 (by decide) (by decide)).trans f33
  have g34 : PGd 34 W12 := PGd_fe g34 (fun j y1 y2 => e12 j (by omega) (by omega))
  have f70 : W12 70 = imE2 1 := by rw [hW12, hset_eq]
  have g71 : PGd 71 W12 := PGd_of hP9 (fun j y1 y2 => by rw [hW12, hset_ne (by omega)])
  refine mt_iinc (pc := 154) (c9 := 1) dX10_init_154 rfl (by decide) (Nat.le_of_ble_eq_true rfl) rfl ?_
  rw [show (0 + 1 : Int32) = nI 1 from rfl]
  refine mt_goto (pc := 157) (tgt := 132) dX10_init_157 (by decide) ?_
  refine mt_iload_n (pc := 132) dX10_init_132 rfl ?_
  refine mt_aload_n (pc := 133) dX10_init_133 rfl ?_
  refine mt_get (pc := 134) gf_X10_69 dX10_init_134 (by decide) f0 rfl ?_
  refine mt_alen (pc := 137) dX10_init_137 (by decide) f70 (by decide) ?_
  refine mt_icmp_ge (pc := 138) (tgt := 160) dX10_init_138 (by decide) (fun c138 => absurd c138 (by decide)) (fun _ => ?_)
  refine mt_aload_n (pc := 141) dX10_init_141 rfl ?_
  refine mt_get (pc := 142) gf_X10_69 dX10_init_142 (by decide) f0 rfl ?_
  refine mt_iload_n (pc := 145) dX10_init_145 rfl ?_
  refine mt_new (pc := 146) nf_X10_62 dX10_init_146 (by decide) hw12 (fun v hv => by simp at hv; rcases hv with rfl | rfl <;> first | exact mm_vw_ref (by decide) | exact mm_vw_int _ _) (fun v hv => by simp at hv; rcases hv with rfl | rfl <;> first | exact mm_vw_ref (by decide) | exact mm_vw_int _ _) (Nat.le_of_ble_eq_true rfl) (Nat.le_of_ble_eq_true rfl) ?_
  refine mt_dup (pc := 149) dX10_init_149 rfl ?_
  have v12 : mm_wf 108 (hset W12 107 (.inr (3, [.null, .null, .int 0]))) := mm_wf_push hw12 (mm_ew_obj fun v hv => by simp at hv; rcases hv with rfl | rfl <;> first | exact mm_vw_null _ | exact mm_vw_int _ _)
  refine mt_callI (pc := 150) (av := []) (c_X3i (d := 6) (b := 107) (Nat.le_refl 6) (by decide) hao3 (hset_eq _ _ _) v12) cal_X3_init rfl ii_X3 ml_X10_64 dX10_init_150 (by show _ ≤ d; omega) ⟨(Nat.le_of_ble_eq_true rfl), (Nat.le_of_ble_eq_true rfl)⟩ rfl rfl (Nat.le_of_ble_eq_true rfl) (fun x n k hx => by simp at hx) (fun v hv => by simp at hv; rcases hv with rfl | rfl <;> first | exact mm_vw_ref (by decide) | exact mm_vw_int _ _) (fun v hv => by simp at hv; rcases hv with rfl | rfl | rfl <;> first | exact mm_vw_ref (by decide) | exact mm_vw_int _ _) ?_
  rintro v9 n9 m ⟨hv9, rfl, hP9⟩
  cases hv9
  have hwm := hP9.1
  have e9 : ∀ j, j < 107 → m j = W12 j := fun j hj => (hP9.2.1 j hj).trans (hset_ne (by omega))
  refine mt_astq (pc := 153) (q := 4) (ci := 3) (v := 107) (i := 70) rfl rfl dX10_init_153 (by decide) ((e9 70 (by decide)).trans f70) (by decide) hP9.2.2.1 (vp_in_nI (n := 1) (N := 3) (by decide) (by decide)) ?_
  obtain ⟨W13, hW13⟩ : ∃ W, W = hset m 70 (imE2 2) := ⟨_, rfl⟩
  refine mt_heq (h' := W13) (by rw [hW13]; show hset m 70 (.inl (4, 3, .inr (.inr (.inr (.inr (va_up (imC 1) 1 (some (71 + 36 * 1)))))))) = _; rw [imC_s]) ?_
  have hw13 : mm_wf 143 W13 := by rw [hW13]; exact mm_wf_set hwm (imC_ew (by decide))
  have e13 : ∀ j, j < 70 → j ≠ 0 → W13 j = W12 j := fun j y1 y2 => by rw [hW13, hset_ne (by omega)]; exact e9 j (by omega)
  have ep : ∀ j, 70 < j → j < 107 → W13 j = W12 j := fun j y1 y2 => by rw [hW13, hset_ne (by omega)]; exact e9 j y2
  have f0 : W13 0 = .inr (10, [.ref 1, .ref 3, .ref 9, .ref 15, .ref 19, .ref 23, .ref 27, .ref 31, .ref 33, .ref 34, .ref 70, .null, .null, .null, .null, .int 0, .int 0, .int 0, .int 0]) := by rw [hW13, hset_ne (by decide)]; exact (e9 0 (by decide)).trans f0
  have f1 : W13 1 = .inr (7, [.ref 2, .int 0, .int 0, .int 0, .int 0, .int 0, .int (-1)]) := (e13 1 (by decide) (by decide)).trans f1
  have f2 : W13 2 = .inl (1, 600, .inl (fun _ => 0)) := (e13 2 (by decide) (by decide)).trans f2
  have f3 : W13 3 = .inr (1, [.int 0, .int 0, .ref 4, .ref 5, .ref 6, .ref 7, .ref 8]) := (e13 3 (by decide) (by decide)).trans f3
  have f4 : W13 4 = .inl (0, 8, .inl (fun _ => 0)) := (e13 4 (by decide) (by decide)).trans f4
  have f5 : W13 5 = .inl (0, 8, .inl (fun _ => 0)) := (e13 5 (by decide) (by decide)).trans f5
  have f6 : W13 6 = .inl (0, 8, .inl (fun _ => 0)) := (e13 6 (by decide) (by decide)).trans f6
  have f7 : W13 7 = .inl (0, 6, .inl (fun _ => 0)) := (e13 7 (by decide) (by decide)).trans f7
  have f8 : W13 8 = .inl (0, 6, .inl (fun _ => 0)) := (e13 8 (by decide) (by decide)).trans f8
  have f9 : W13 9 = .inr (1, [.int 0, .int 0, .ref 10, .ref 11, .ref 12, .ref 13, .ref 14]) := (e13 9 (by decide) (by decide)).trans f9
  have f10 : W13 10 = .inl (0, 8, .inl (fun _ => 0)) := (e13 10 (by decide) (by decide)).trans f10
  have f11 : W13 11 = .inl (0, 8, .inl (fun _ => 0)) := (e13 11 (by decide) (by decide)).trans f11
  have f12 : W13 12 = .inl (0, 8, .inl (fun _ => 0)) := (e13 12 (by decide) (by decide)).trans f12
  have f13 : W13 13 = .inl (0, 6, .inl (fun _ => 0)) := (e13 13 (by decide) (by decide)).trans f13
  have f14 : W13 14 = .inl (0, 6, .inl (fun _ => 0)) := (e13 14 (by decide) (by decide)).trans f14
  have f15 : W13 15 = .inr (2, [.ref 16, .ref 17, .ref 18, .int (nI 9)]) := (e13 15 (by decide) (by decide)).trans f15
  have f16 : W13 16 = .inl (0, 150, .inl (va_cpy untF (fun _ => 0) 0 0 9)) := (e13 16 (by decide) (by decide)).trans f16
  have f17 : W13 17 = .inl (0, 8, .inl (fun _ => 0)) := (e13 17 (by decide) (by decide)).trans f17
  have f18 : W13 18 = .inl (0, 32, .inl (fun _ => 0)) := (e13 18 (by decide) (by decide)).trans f18
  have f19 : W13 19 = .inr (2, [.ref 20, .ref 21, .ref 22, .int (nI 9)]) := (e13 19 (by decide) (by decide)).trans f19
  have f20 : W13 20 = .inl (0, 150, .inl (va_cpy untF (fun _ => 0) 0 0 9)) := (e13 20 (by decide) (by decide)).trans f20
  have f21 : W13 21 = .inl (0, 8, .inl (fun _ => 0)) := (e13 21 (by decide) (by decide)).trans f21
  have f22 : W13 22 = .inl (0, 32, .inl (fun _ => 0)) := (e13 22 (by decide) (by decide)).trans f22
  have f23 : W13 23 = .inr (0, [.int 0, .ref 24, .ref 25, .ref 26]) := (e13 23 (by decide) (by decide)).trans f23
  have f24 : W13 24 = .inl (0, 6, .inl (fun _ => 0)) := (e13 24 (by decide) (by decide)).trans f24
  have f25 : W13 25 = .inl (0, 6, .inl (fun _ => 0)) := (e13 25 (by decide) (by decide)).trans f25
  have f26 : W13 26 = .inl (0, 6, .inl (fun _ => 0)) := (e13 26 (by decide) (by decide)).trans f26
  have f27 : W13 27 = .inr (0, [.int 0, .ref 28, .ref 29, .ref 30]) := (e13 27 (by decide) (by decide)).trans f27
  have f28 : W13 28 = .inl (0, 6, .inl (fun _ => 0)) := (e13 28 (by decide) (by decide)).trans f28
  have f29 : W13 29 = .inl (0, 6, .inl (fun _ => 0)) := (e13 29 (by decide) (by decide)).trans f29
  have f30 : W13 30 = .inl (0, 6, .inl (fun _ => 0)) := (e13 30 (by decide) (by decide)).trans f30
  have f31 : W13 31 = .inr (9, [.ref 32, .int 0, .int 0, .int 0, .int 0, .int 0, .int 0]) := (e13 31 (by decide) (by decide)).trans f31
  have f32 : W13 32 = .inl (0, 180, .inl (fun _ => 0)) := (e13 32 (by decide) (by decide)).trans f32
  have f33 : W13 33 = .inr (4, [.ref 3, .ref 15]) := (e13 33 (by decide) (by decide)).trans f33
  have g34 : PGd 34 W13 := PGd_fe g34 (fun j y1 y2 => e13 j (by omega) (by omega))
  have g71 : PGd 71 W13 := PGd_fe g71 (fun j y1 y2 => ep j (by omega) (by omega))
  have f70 : W13 70 = imE2 2 := by rw [hW13, hset_eq]
  have g107 : PGd 107 W13 := PGd_of hP9 (fun j y1 y2 => by rw [hW13, hset_ne (by omega)])
  refine mt_iinc (pc := 154) (c9 := 1) dX10_init_154 rfl (by decide) (Nat.le_of_ble_eq_true rfl) rfl ?_
  rw [show (nI 1 + 1 : Int32) = nI 2 from rfl]
  refine mt_goto (pc := 157) (tgt := 132) dX10_init_157 (by decide) ?_
  refine mt_iload_n (pc := 132) dX10_init_132 rfl ?_
  refine mt_aload_n (pc := 133) dX10_init_133 rfl ?_
  refine mt_get (pc := 134) gf_X10_69 dX10_init_134 (by decide) f0 rfl ?_
  refine mt_alen (pc := 137) dX10_init_137 (by decide) f70 (by decide) ?_
  refine mt_icmp_ge (pc := 138) (tgt := 160) dX10_init_138 (by decide) (fun c138 => absurd c138 (by decide)) (fun _ => ?_)
  refine mt_aload_n (pc := 141) dX10_init_141 rfl ?_
  refine mt_get (pc := 142) gf_X10_69 dX10_init_142 (by decide) f0 rfl ?_
  refine mt_iload_n (pc := 145) dX10_init_145 rfl ?_
  refine mt_new (pc := 146) nf_X10_62 dX10_init_146 (by decide) hw13 (fun v hv => by simp at hv; rcases hv with rfl | rfl <;> first | exact mm_vw_ref (by decide) | exact mm_vw_int _ _) (fun v hv => by simp at hv; rcases hv with rfl | rfl <;> first | exact mm_vw_ref (by decide) | exact mm_vw_int _ _) (Nat.le_of_ble_eq_true rfl) (Nat.le_of_ble_eq_true rfl) ?_
  refine mt_dup (pc := 149) dX10_init_149 rfl ?_
  have v13 : mm_wf 144 (hset W13 143 (.inr (3, [.null, .null, .int 0]))) := mm_wf_push hw13 (mm_ew_obj fun v hv => by simp at hv; rcases hv with rfl | rfl <;> first | exact mm_vw_null _ | exact mm_vw_int _ _)
  refine mt_callI (pc := 150) (av := []) (c_X3i (d := 6) (b := 143) (Nat.le_refl 6) (by decide) hao3 (hset_eq _ _ _) v13) cal_X3_init rfl ii_X3 ml_X10_64 dX10_init_150 (by show _ ≤ d; omega) ⟨(Nat.le_of_ble_eq_true rfl), (Nat.le_of_ble_eq_true rfl)⟩ rfl rfl (Nat.le_of_ble_eq_true rfl) (fun x n k hx => by simp at hx) (fun v hv => by simp at hv; rcases hv with rfl | rfl <;> first | exact mm_vw_ref (by decide) | exact mm_vw_int _ _) (fun v hv => by simp at hv; rcases hv with rfl | rfl | rfl <;> first | exact mm_vw_ref (by decide) | exact mm_vw_int _ _) ?_
  rintro v9 n9 m ⟨hv9, rfl, hP9⟩
  cases hv9
  have hwm := hP9.1
  have e9 : ∀ j, j < 143 → m j = W13 j := fun j hj => (hP9.2.1 j hj).trans (hset_ne (by omega))
  refine mt_astq (pc := 153) (q := 4) (ci := 3) (v := 143) (i := 70) rfl rfl dX10_init_153 (by decide) ((e9 70 (by decide)).trans f70) (by decide) hP9.2.2.1 (vp_in_nI (n := 2) (N := 3) (by decide) (by decide)) ?_
  obtain ⟨W14, hW14⟩ : ∃ W, W = hset m 70 (imE2 3) := ⟨_, rfl⟩
  refine mt_heq (h' := W14) (by rw [hW14]; show hset m 70 (.inl (4, 3, .inr (.inr (.inr (.inr (va_up (imC 2) 2 (some (71 + 36 * 2)))))))) = _; rw [imC_s]) ?_
  have hw14 : mm_wf 179 W14 := by rw [hW14]; exact mm_wf_set hwm (imC_ew (by decide))
  have e14 : ∀ j, j < 70 → j ≠ 0 → W14 j = W13 j := fun j y1 y2 => by rw [hW14, hset_ne (by omega)]; exact e9 j (by omega)
  have ep : ∀ j, 70 < j → j < 143 → W14 j = W13 j := fun j y1 y2 => by rw [hW14, hset_ne (by omega)]; exact e9 j y2
  have f0 : W14 0 = .inr (10, [.ref 1, .ref 3, .ref 9, .ref 15, .ref 19, .ref 23, .ref 27, .ref 31, .ref 33, .ref 34, .ref 70, .null, .null, .null, .null, .int 0, .int 0, .int 0, .int 0]) := by rw [hW14, hset_ne (by decide)]; exact (e9 0 (by decide)).trans f0
  have f1 : W14 1 = .inr (7, [.ref 2, .int 0, .int 0, .int 0, .int 0, .int 0, .int (-1)]) := (e14 1 (by decide) (by decide)).trans f1
  have f2 : W14 2 = .inl (1, 600, .inl (fun _ => 0)) := (e14 2 (by decide) (by decide)).trans f2
  have f3 : W14 3 = .inr (1, [.int 0, .int 0, .ref 4, .ref 5, .ref 6, .ref 7, .ref 8]) := (e14 3 (by decide) (by decide)).trans f3
  have f4 : W14 4 = .inl (0, 8, .inl (fun _ => 0)) := (e14 4 (by decide) (by decide)).trans f4
  have f5 : W14 5 = .inl (0, 8, .inl (fun _ => 0)) := (e14 5 (by decide) (by decide)).trans f5
  have f6 : W14 6 = .inl (0, 8, .inl (fun _ => 0)) := (e14 6 (by decide) (by decide)).trans f6
  have f7 : W14 7 = .inl (0, 6, .inl (fun _ => 0)) := (e14 7 (by decide) (by decide)).trans f7
  have f8 : W14 8 = .inl (0, 6, .inl (fun _ => 0)) := (e14 8 (by decide) (by decide)).trans f8
  have f9 : W14 9 = .inr (1, [.int 0, .int 0, .ref 10, .ref 11, .ref 12, .ref 13, .ref 14]) := (e14 9 (by decide) (by decide)).trans f9
  have f10 : W14 10 = .inl (0, 8, .inl (fun _ => 0)) := (e14 10 (by decide) (by decide)).trans f10
  have f11 : W14 11 = .inl (0, 8, .inl (fun _ => 0)) := (e14 11 (by decide) (by decide)).trans f11
  have f12 : W14 12 = .inl (0, 8, .inl (fun _ => 0)) := (e14 12 (by decide) (by decide)).trans f12
  have f13 : W14 13 = .inl (0, 6, .inl (fun _ => 0)) := (e14 13 (by decide) (by decide)).trans f13
  have f14 : W14 14 = .inl (0, 6, .inl (fun _ => 0)) := (e14 14 (by decide) (by decide)).trans f14
  have f15 : W14 15 = .inr (2, [.ref 16, .ref 17, .ref 18, .int (nI 9)]) := (e14 15 (by decide) (by decide)).trans f15
  have f16 : W14 16 = .inl (0, 150, .inl (va_cpy untF (fun _ => 0) 0 0 9)) := (e14 16 (by decide) (by decide)).trans f16
  have f17 : W14 17 = .inl (0, 8, .inl (fun _ => 0)) := (e14 17 (by decide) (by decide)).trans f17
  have f18 : W14 18 = .inl (0, 32, .inl (fun _ => 0)) := (e14 18 (by decide) (by decide)).trans f18
  have f19 : W14 19 = .inr (2, [.ref 20, .ref 21, .ref 22, .int (nI 9)]) := (e14 19 (by decide) (by decide)).trans f19
  have f20 : W14 20 = .inl (0, 150, .inl (va_cpy untF (fun _ => 0) 0 0 9)) := (e14 20 (by decide) (by decide)).trans f20
  have f21 : W14 21 = .inl (0, 8, .inl (fun _ => 0)) := (e14 21 (by decide) (by decide)).trans f21
  have f22 : W14 22 = .inl (0, 32, .inl (fun _ => 0)) := (e14 22 (by decide) (by decide)).trans f22
  have f23 : W14 23 = .inr (0, [.int 0, .ref 24, .ref 25, .ref 26]) := (e14 23 (by decide) (by decide)).trans f23
  have f24 : W14 24 = .inl (0, 6, .inl (fun _ => 0)) := (e14 24 (by decide) (by decide)).trans f24
  have f25 : W14 25 = .inl (0, 6, .inl (fun _ => 0)) := (e14 25 (by decide) (by decide)).trans f25
  have f26 : W14 26 = .inl (0, 6, .inl (fun _ => 0)) := (e14 26 (by decide) (by decide)).trans f26
  have f27 : W14 27 = .inr (0, [.int 0, .ref 28, .ref 29, .ref 30]) := (e14 27 (by decide) (by decide)).trans f27
  have f28 : W14 28 = .inl (0, 6, .inl (fun _ => 0)) := (e14 28 (by decide) (by decide)).trans f28
  have f29 : W14 29 = .inl (0, 6, .inl (fun _ => 0)) := (e14 29 (by decide) (by decide)).trans f29
  have f30 : W14 30 = .inl (0, 6, .inl (fun _ => 0)) := (e14 30 (by decide) (by decide)).trans f30
  have f31 : W14 31 = .inr (9, [.ref 32, .int 0, .int 0, .int 0, .int 0, .int 0, .int 0]) := (e14 31 (by decide) (by decide)).trans f31
  have f32 : W14 32 = .inl (0, 180, .inl (fun _ => 0)) := (e14 32 (by decide) (by decide)).trans f32
  have f33 : W14 33 = .inr (4, [.ref 3, .ref 15]) := (e14 33 (by decide) (by decide)).trans f33
  have g34 : PGd 34 W14 := PGd_fe g34 (fun j y1 y2 => e14 j (by omega) (by omega))
  have g71 : PGd 71 W14 := PGd_fe g71 (fun j y1 y2 => ep j (by omega) (by omega))
  have g107 : PGd 107 W14 := PGd_fe g107 (fun j y1 y2 => ep j (by omega) (by omega))
  have f70 : W14 70 = imE2 3 := by rw [hW14, hset_eq]
  have g143 : PGd 143 W14 := PGd_of hP9 (fun j y1 y2 => by rw [hW14, hset_ne (by omega)])
  refine mt_iinc (pc := 154) (c9 := 1) dX10_init_154 rfl (by decide) (Nat.le_of_ble_eq_true rfl) rfl ?_
  rw [show (nI 2 + 1 : Int32) = nI 3 from rfl]
  refine mt_goto (pc := 157) (tgt := 132) dX10_init_157 (by decide) ?_
  refine mt_iload_n (pc := 132) dX10_init_132 rfl ?_
  refine mt_aload_n (pc := 133) dX10_init_133 rfl ?_
  refine mt_get (pc := 134) gf_X10_69 dX10_init_134 (by decide) f0 rfl ?_
  refine mt_alen (pc := 137) dX10_init_137 (by decide) f70 (by decide) ?_
  refine mt_icmp_ge (pc := 138) (tgt := 160) dX10_init_138 (by decide) (fun _ => ?_) (fun c138 => absurd (by decide) c138)
  refine mt_aload_n (pc := 160) dX10_init_160 rfl ?_
  have v14 : mm_wf 180 (hset W14 179 (.inr (6, [.null]))) := mm_wf_push hw14 (mm_ew_obj (fun v hv => by simp at hv; first | (subst hv; first | exact mm_vw_null _ | exact mm_vw_int _ _) | (rcases hv with rfl | rfl <;> first | exact mm_vw_null _ | exact mm_vw_int _ _)))
  refine mt_mkO (pc := 161) (i := 0) (ci := 10) (fs := [.ref 1, .ref 3, .ref 9, .ref 15, .ref 19, .ref 23, .ref 27, .ref 31, .ref 33, .ref 34, .ref 70, .null, .null, .null, .null, .int 0, .int 0, .int 0, .int 0]) dX10_init_161 dX10_init_164 dX10_init_165 dX10_init_168 nf_X10_73 (fun v hv => by simp at hv; first | (subst hv; first | exact mm_vw_null _ | exact mm_vw_int _ _) | (rcases hv with rfl | rfl <;> first | exact mm_vw_null _ | exact mm_vw_int _ _)) (c_X6i (d := 4) (i := 179) (Nat.le_refl 4) (by decide) (by decide) (hset_eq _ _ _) v14) cal_X6_init rfl ii_X6 (Or.inr ⟨_, mn_X10_75⟩) pf_X10_76 rfl (by show _ ≤ d; omega) (Nat.le_of_ble_eq_true rfl) (Nat.le_of_ble_eq_true rfl) (fun x n k hx => by simp [mm_ret] at hx) (Nat.le_of_ble_eq_true rfl) (by decide) (by decide) hw14 (fun v hv => by simp at hv; rcases hv with rfl | rfl <;> first | exact mm_vw_ref (by decide) | exact mm_vw_int _ _) ?_
  rintro v9 n9 m ⟨hv9, rfl, hwm, hF, m0, m1⟩
  cases hv9
  have e9 : ∀ j, j < 179 → m j = W14 j := fun j hj => (hF j (by omega) (by omega)).trans (hset_ne (by omega))
  refine ⟨rfl, by decide, (e9 0 (by decide)).trans f0, hwm, fun hw15 => ?_⟩
  obtain ⟨W15, hW15⟩ : ∃ W, W = hset (m) 0 (.inr (10, [.ref 1, .ref 3, .ref 9, .ref 15, .ref 19, .ref 23, .ref 27, .ref 31, .ref 33, .ref 34, .ref 70, .ref 179, .null, .null, .null, .int 0, .int 0, .int 0, .int 0])) := ⟨_, rfl⟩
  change mm_wf 181 (hset (m) 0 (.inr (10, [.ref 1, .ref 3, .ref 9, .ref 15, .ref 19, .ref 23, .ref 27, .ref 31, .ref 33, .ref 34, .ref 70, .ref 179, .null, .null, .null, .int 0, .int 0, .int 0, .int 0]))) at hw15
  refine mt_heq (h' := W15) (by rw [hW15]; rfl) ?_
  rw [← hW15] at hw15
  have e15 : ∀ j, j < 179 → j ≠ 0 → W15 j = W14 j := fun j y1 y2 => by rw [hW15, hset_ne y2]; exact e9 j y1
  have f0 : W15 0 = .inr (10, [.ref 1, .ref 3, .ref 9, .ref 15, .ref 19, .ref 23, .ref 27, .ref 31, .ref 33, .ref 34, .ref 70, .ref 179, .null, .null, .null, .int 0, .int 0, .int 0, .int 0]) := by rw [hW15, hset_eq]
  have f1 : W15 1 = .inr (7, [.ref 2, .int 0, .int 0, .int 0, .int 0, .int 0, .int (-1)]) := (e15 1 (by decide) (by decide)).trans f1
  have f2 : W15 2 = .inl (1, 600, .inl (fun _ => 0)) := (e15 2 (by decide) (by decide)).trans f2
  have f3 : W15 3 = .inr (1, [.int 0, .int 0, .ref 4, .ref 5, .ref 6, .ref 7, .ref 8]) := (e15 3 (by decide) (by decide)).trans f3
  have f4 : W15 4 = .inl (0, 8, .inl (fun _ => 0)) := (e15 4 (by decide) (by decide)).trans f4
  have f5 : W15 5 = .inl (0, 8, .inl (fun _ => 0)) := (e15 5 (by decide) (by decide)).trans f5
  have f6 : W15 6 = .inl (0, 8, .inl (fun _ => 0)) := (e15 6 (by decide) (by decide)).trans f6
  have f7 : W15 7 = .inl (0, 6, .inl (fun _ => 0)) := (e15 7 (by decide) (by decide)).trans f7
  have f8 : W15 8 = .inl (0, 6, .inl (fun _ => 0)) := (e15 8 (by decide) (by decide)).trans f8
  have f9 : W15 9 = .inr (1, [.int 0, .int 0, .ref 10, .ref 11, .ref 12, .ref 13, .ref 14]) := (e15 9 (by decide) (by decide)).trans f9
  have f10 : W15 10 = .inl (0, 8, .inl (fun _ => 0)) := (e15 10 (by decide) (by decide)).trans f10
  have f11 : W15 11 = .inl (0, 8, .inl (fun _ => 0)) := (e15 11 (by decide) (by decide)).trans f11
  have f12 : W15 12 = .inl (0, 8, .inl (fun _ => 0)) := (e15 12 (by decide) (by decide)).trans f12
  have f13 : W15 13 = .inl (0, 6, .inl (fun _ => 0)) := (e15 13 (by decide) (by decide)).trans f13
  have f14 : W15 14 = .inl (0, 6, .inl (fun _ => 0)) := (e15 14 (by decide) (by decide)).trans f14
  have f15 : W15 15 = .inr (2, [.ref 16, .ref 17, .ref 18, .int (nI 9)]) := (e15 15 (by decide) (by decide)).trans f15
  have f16 : W15 16 = .inl (0, 150, .inl (va_cpy untF (fun _ => 0) 0 0 9)) := (e15 16 (by decide) (by decide)).trans f16
  have f17 : W15 17 = .inl (0, 8, .inl (fun _ => 0)) := (e15 17 (by decide) (by decide)).trans f17
  have f18 : W15 18 = .inl (0, 32, .inl (fun _ => 0)) := (e15 18 (by decide) (by decide)).trans f18
  have f19 : W15 19 = .inr (2, [.ref 20, .ref 21, .ref 22, .int (nI 9)]) := (e15 19 (by decide) (by decide)).trans f19
  have f20 : W15 20 = .inl (0, 150, .inl (va_cpy untF (fun _ => 0) 0 0 9)) := (e15 20 (by decide) (by decide)).trans f20
  have f21 : W15 21 = .inl (0, 8, .inl (fun _ => 0)) := (e15 21 (by decide) (by decide)).trans f21
  have f22 : W15 22 = .inl (0, 32, .inl (fun _ => 0)) := (e15 22 (by decide) (by decide)).trans f22
  have f23 : W15 23 = .inr (0, [.int 0, .ref 24, .ref 25, .ref 26]) := (e15 23 (by decide) (by decide)).trans f23
  have f24 : W15 24 = .inl (0, 6, .inl (fun _ => 0)) := (e15 24 (by decide) (by decide)).trans f24
  have f25 : W15 25 = .inl (0, 6, .inl (fun _ => 0)) := (e15 25 (by decide) (by decide)).trans f25
  have f26 : W15 26 = .inl (0, 6, .inl (fun _ => 0)) := (e15 26 (by decide) (by decide)).trans f26
  have f27 : W15 27 = .inr (0, [.int 0, .ref 28, .ref 29, .ref 30]) := (e15 27 (by decide) (by decide)).trans f27
  have f28 : W15 28 = .inl (0, 6, .inl (fun _ => 0)) := (e15 28 (by decide) (by decide)).trans f28
  have f29 : W15 29 = .inl (0, 6, .inl (fun _ => 0)) := (e15 29 (by decide) (by decide)).trans f29
  have f30 : W15 30 = .inl (0, 6, .inl (fun _ => 0)) := (e15 30 (by decide) (by decide)).trans f30
  have f31 : W15 31 = .inr (9, [.ref 32, .int 0, .int 0, .int 0, .int 0, .int 0, .int 0]) := (e15 31 (by decide) (by decide)).trans f31
  have f32 : W15 32 = .inl (0, 180, .inl (fun _ => 0)) := (e15 32 (by decide) (by decide)).trans f32
  have f33 : W15 33 = .inr (4, [.ref 3, .ref 15]) := (e15 33 (by decide) (by decide)).trans f33
  have f70 : W15 70 = imE2 3 := (e15 70 (by decide) (by decide)).trans f70
  have g34 : PGd 34 W15 := PGd_fe g34 (fun j y1 y2 => e15 j (by omega) (by omega))
  have g71 : PGd 71 W15 := PGd_fe g71 (fun j y1 y2 => e15 j (by omega) (by omega))
  have g107 : PGd 107 W15 := PGd_fe g107 (fun j y1 y2 => e15 j (by omega) (by omega))
  have g143 : PGd 143 W15 := PGd_fe g143 (fun j y1 y2 => e15 j (by omega) (by omega))
  have f179 : W15 179 = .inr (6, [.ref 180]) := by rw [hW15, hset_ne (by decide)]; exact m0
  have f180 : W15 180 = .inl (0, 84, .inl (fun _ => 0)) := by rw [hW15, hset_ne (by decide)]; exact m1
  refine mt_aload_n (pc := 171) dX10_init_171 rfl ?_
  have v15 : mm_wf 182 (hset W15 181 (.inr (5, [.null, .null, .null, .null, .int 0, .int 0]))) := mm_wf_push hw15 (mm_ew_obj (fun v hv => by simp at hv; first | (subst hv; first | exact mm_vw_null _ | exact mm_vw_int _ _) | (rcases hv with rfl | rfl <;> first | exact mm_vw_null _ | exact mm_vw_int _ _)))
  refine mt_mkO (pc := 172) (i := 0) (ci := 10) (fs := [.ref 1, .ref 3, .ref 9, .ref 15, .ref 19, .ref 23, .ref 27, .ref 31, .ref 33, .ref 34, .ref 70, .ref 179, .null, .null, .null, .int 0, .int 0, .int 0, .int 0]) dX10_init_172 dX10_init_175 dX10_init_176 dX10_init_179 nf_X10_80 (fun v hv => by simp at hv; first | (subst hv; first | exact mm_vw_null _ | exact mm_vw_int _ _) | (rcases hv with rfl | rfl <;> first | exact mm_vw_null _ | exact mm_vw_int _ _)) (c_X5i (d := 4) (i := 181) (Nat.le_refl 4) (by decide) (by decide) (hset_eq _ _ _) v15) cal_X5_init rfl ii_X5 (Or.inr ⟨_, mn_X10_82⟩) pf_X10_83 rfl (by show _ ≤ d; omega) (Nat.le_of_ble_eq_true rfl) (Nat.le_of_ble_eq_true rfl) (fun x n k hx => by simp [mm_ret] at hx) (Nat.le_of_ble_eq_true rfl) (by decide) (by decide) hw15 (fun v hv => by simp at hv; rcases hv with rfl | rfl <;> first | exact mm_vw_ref (by decide) | exact mm_vw_int _ _) ?_
  rintro v9 n9 m ⟨hv9, rfl, hwm, hF, m0, m1, m2, m3, m4⟩
  cases hv9
  have e9 : ∀ j, j < 181 → m j = W15 j := fun j hj => (hF j (by omega) (by omega)).trans (hset_ne (by omega))
  refine ⟨rfl, by decide, (e9 0 (by decide)).trans f0, hwm, fun hw16 => ?_⟩
  obtain ⟨W16, hW16⟩ : ∃ W, W = hset (m) 0 (.inr (10, [.ref 1, .ref 3, .ref 9, .ref 15, .ref 19, .ref 23, .ref 27, .ref 31, .ref 33, .ref 34, .ref 70, .ref 179, .ref 181, .null, .null, .int 0, .int 0, .int 0, .int 0])) := ⟨_, rfl⟩
  change mm_wf 186 (hset (m) 0 (.inr (10, [.ref 1, .ref 3, .ref 9, .ref 15, .ref 19, .ref 23, .ref 27, .ref 31, .ref 33, .ref 34, .ref 70, .ref 179, .ref 181, .null, .null, .int 0, .int 0, .int 0, .int 0]))) at hw16
  refine mt_heq (h' := W16) (by rw [hW16]; rfl) ?_
  rw [← hW16] at hw16
  have e16 : ∀ j, j < 181 → j ≠ 0 → W16 j = W15 j := fun j y1 y2 => by rw [hW16, hset_ne y2]; exact e9 j y1
  have f0 : W16 0 = .inr (10, [.ref 1, .ref 3, .ref 9, .ref 15, .ref 19, .ref 23, .ref 27, .ref 31, .ref 33, .ref 34, .ref 70, .ref 179, .ref 181, .null, .null, .int 0, .int 0, .int 0, .int 0]) := by rw [hW16, hset_eq]
  have f1 : W16 1 = .inr (7, [.ref 2, .int 0, .int 0, .int 0, .int 0, .int 0, .int (-1)]) := (e16 1 (by decide) (by decide)).trans f1
  have f2 : W16 2 = .inl (1, 600, .inl (fun _ => 0)) := (e16 2 (by decide) (by decide)).trans f2
  have f3 : W16 3 = .inr (1, [.int 0, .int 0, .ref 4, .ref 5, .ref 6, .ref 7, .ref 8]) := (e16 3 (by decide) (by decide)).trans f3
  have f4 : W16 4 = .inl (0, 8, .inl (fun _ => 0)) := (e16 4 (by decide) (by decide)).trans f4
  have f5 : W16 5 = .inl (0, 8, .inl (fun _ => 0)) := (e16 5 (by decide) (by decide)).trans f5
  have f6 : W16 6 = .inl (0, 8, .inl (fun _ => 0)) := (e16 6 (by decide) (by decide)).trans f6
  have f7 : W16 7 = .inl (0, 6, .inl (fun _ => 0)) := (e16 7 (by decide) (by decide)).trans f7
  have f8 : W16 8 = .inl (0, 6, .inl (fun _ => 0)) := (e16 8 (by decide) (by decide)).trans f8
  have f9 : W16 9 = .inr (1, [.int 0, .int 0, .ref 10, .ref 11, .ref 12, .ref 13, .ref 14]) := (e16 9 (by decide) (by decide)).trans f9
  have f10 : W16 10 = .inl (0, 8, .inl (fun _ => 0)) := (e16 10 (by decide) (by decide)).trans f10
  have f11 : W16 11 = .inl (0, 8, .inl (fun _ => 0)) := (e16 11 (by decide) (by decide)).trans f11
  have f12 : W16 12 = .inl (0, 8, .inl (fun _ => 0)) := (e16 12 (by decide) (by decide)).trans f12
  have f13 : W16 13 = .inl (0, 6, .inl (fun _ => 0)) := (e16 13 (by decide) (by decide)).trans f13
  have f14 : W16 14 = .inl (0, 6, .inl (fun _ => 0)) := (e16 14 (by decide) (by decide)).trans f14
  have f15 : W16 15 = .inr (2, [.ref 16, .ref 17, .ref 18, .int (nI 9)]) := (e16 15 (by decide) (by decide)).trans f15
  have f16 : W16 16 = .inl (0, 150, .inl (va_cpy untF (fun _ => 0) 0 0 9)) := (e16 16 (by decide) (by decide)).trans f16
  have f17 : W16 17 = .inl (0, 8, .inl (fun _ => 0)) := (e16 17 (by decide) (by decide)).trans f17
  have f18 : W16 18 = .inl (0, 32, .inl (fun _ => 0)) := (e16 18 (by decide) (by decide)).trans f18
  have f19 : W16 19 = .inr (2, [.ref 20, .ref 21, .ref 22, .int (nI 9)]) := (e16 19 (by decide) (by decide)).trans f19
  have f20 : W16 20 = .inl (0, 150, .inl (va_cpy untF (fun _ => 0) 0 0 9)) := (e16 20 (by decide) (by decide)).trans f20
  have f21 : W16 21 = .inl (0, 8, .inl (fun _ => 0)) := (e16 21 (by decide) (by decide)).trans f21
  have f22 : W16 22 = .inl (0, 32, .inl (fun _ => 0)) := (e16 22 (by decide) (by decide)).trans f22
  have f23 : W16 23 = .inr (0, [.int 0, .ref 24, .ref 25, .ref 26]) := (e16 23 (by decide) (by decide)).trans f23
  have f24 : W16 24 = .inl (0, 6, .inl (fun _ => 0)) := (e16 24 (by decide) (by decide)).trans f24
  have f25 : W16 25 = .inl (0, 6, .inl (fun _ => 0)) := (e16 25 (by decide) (by decide)).trans f25
  have f26 : W16 26 = .inl (0, 6, .inl (fun _ => 0)) := (e16 26 (by decide) (by decide)).trans f26
  have f27 : W16 27 = .inr (0, [.int 0, .ref 28, .ref 29, .ref 30]) := (e16 27 (by decide) (by decide)).trans f27
  have f28 : W16 28 = .inl (0, 6, .inl (fun _ => 0)) := (e16 28 (by decide) (by decide)).trans f28
  have f29 : W16 29 = .inl (0, 6, .inl (fun _ => 0)) := (e16 29 (by decide) (by decide)).trans f29
  have f30 : W16 30 = .inl (0, 6, .inl (fun _ => 0)) := (e16 30 (by decide) (by decide)).trans f30
  have f31 : W16 31 = .inr (9, [.ref 32, .int 0, .int 0, .int 0, .int 0, .int 0, .int 0]) := (e16 31 (by decide) (by decide)).trans f31
  have f32 : W16 32 = .inl (0, 180, .inl (fun _ => 0)) := (e16 32 (by decide) (by decide)).trans f32
  have f33 : W16 33 = .inr (4, [.ref 3, .ref 15]) := (e16 33 (by decide) (by decide)).trans f33
  have f70 : W16 70 = imE2 3 := (e16 70 (by decide) (by decide)).trans f70
  have f179 : W16 179 = .inr (6, [.ref 180]) := (e16 179 (by decide) (by decide)).trans f179
  have f180 : W16 180 = .inl (0, 84, .inl (fun _ => 0)) := (e16 180 (by decide) (by decide)).trans f180
  have g34 : PGd 34 W16 := PGd_fe g34 (fun j y1 y2 => e16 j (by omega) (by omega))
  have g71 : PGd 71 W16 := PGd_fe g71 (fun j y1 y2 => e16 j (by omega) (by omega))
  have g107 : PGd 107 W16 := PGd_fe g107 (fun j y1 y2 => e16 j (by omega) (by omega))
  have g143 : PGd 143 W16 := PGd_fe g143 (fun j y1 y2 => e16 j (by omega) (by omega))
  have f181 : W16 181 = .inr (5, [.ref 182, .ref 183, .ref 184, .ref 185, .int 0, .int 0]) := by rw [hW16, hset_ne (by decide)]; exact m0
  have f182 : W16 182 = .inl (0, 6, .inl (fun _ => 0)) := by rw [hW16, hset_ne (by decide)]; exact m1
  have f183 : W16 183 = .inl (0, 8, .inl (fun _ => 0)) := by rw [hW16, hset_ne (by decide)]; exact m2
  have f184 : W16 184 = .inl (0, 8, .inl (fun _ => 0)) := by rw [hW16, hset_ne (by decide)]; exact m3
  have f185 : W16 185 = .inl (0, 64, .inl (fun _ => 0)) := by rw [hW16, hset_ne (by decide)]; exact m4
  refine mt_aload_n (pc := 182) dX10_init_182 rfl ?_
  have v16 : mm_wf 187 (hset W16 186 (.inr (8, [.int 0]))) := mm_wf_push hw16 (mm_ew_obj (fun v hv => by simp at hv; first | (subst hv; first | exact mm_vw_null _ | exact mm_vw_int _ _) | (rcases hv with rfl | rfl <;> first | exact mm_vw_null _ | exact mm_vw_int _ _)))
  refine mt_mkO (pc := 183) (i := 0) (ci := 10) (fs := [.ref 1, .ref 3, .ref 9, .ref 15, .ref 19, .ref 23, .ref 27, .ref 31, .ref 33, .ref 34, .ref 70, .ref 179, .ref 181, .null, .null, .int 0, .int 0, .int 0, .int 0]) dX10_init_183 dX10_init_186 dX10_init_187 dX10_init_190 nf_X10_87 (fun v hv => by simp at hv; first | (subst hv; first | exact mm_vw_null _ | exact mm_vw_int _ _) | (rcases hv with rfl | rfl <;> first | exact mm_vw_null _ | exact mm_vw_int _ _)) (c_X8i (d := 4) (i := 186) (Nat.le_refl 4) (by decide)) cal_X8_init rfl ii_X8 (Or.inr ⟨_, mn_X10_89⟩) pf_X10_90 rfl (by show _ ≤ d; omega) (Nat.le_of_ble_eq_true rfl) (Nat.le_of_ble_eq_true rfl) (fun x n k hx => by simp [mm_ret] at hx) (Nat.le_of_ble_eq_true rfl) (by decide) (by decide) hw16 (fun v hv => by simp at hv; rcases hv with rfl | rfl <;> first | exact mm_vw_ref (by decide) | exact mm_vw_int _ _) ?_
  rintro v9 n9 m ⟨hv9, rfl, rfl⟩
  cases hv9
  have hwm := v16
  have e9 : ∀ j, j < 186 → hset W16 186 (.inr (8, [.int 0])) j = W16 j := fun j hj => hset_ne (by omega)
  refine ⟨rfl, by decide, (e9 0 (by decide)).trans f0, hwm, fun hw17 => ?_⟩
  obtain ⟨W17, hW17⟩ : ∃ W, W = hset (hset W16 186 (.inr (8, [.int 0]))) 0 (.inr (10, [.ref 1, .ref 3, .ref 9, .ref 15, .ref 19, .ref 23, .ref 27, .ref 31, .ref 33, .ref 34, .ref 70, .ref 179, .ref 181, .ref 186, .null, .int 0, .int 0, .int 0, .int 0])) := ⟨_, rfl⟩
  change mm_wf 187 (hset (hset W16 186 (.inr (8, [.int 0]))) 0 (.inr (10, [.ref 1, .ref 3, .ref 9, .ref 15, .ref 19, .ref 23, .ref 27, .ref 31, .ref 33, .ref 34, .ref 70, .ref 179, .ref 181, .ref 186, .null, .int 0, .int 0, .int 0, .int 0]))) at hw17
  refine mt_heq (h' := W17) (by rw [hW17]; rfl) ?_
  rw [← hW17] at hw17
  have e17 : ∀ j, j < 186 → j ≠ 0 → W17 j = W16 j := fun j y1 y2 => by rw [hW17, hset_ne y2]; exact e9 j y1
  have f0 : W17 0 = .inr (10, [.ref 1, .ref 3, .ref 9, .ref 15, .ref 19, .ref 23, .ref 27, .ref 31, .ref 33, .ref 34, .ref 70, .ref 179, .ref 181, .ref 186, .null, .int 0, .int 0, .int 0, .int 0]) := by rw [hW17, hset_eq]
  have f1 : W17 1 = .inr (7, [.ref 2, .int 0, .int 0, .int 0, .int 0, .int 0, .int (-1)]) := (e17 1 (by decide) (by decide)).trans f1
  have f2 : W17 2 = .inl (1, 600, .inl (fun _ => 0)) := (e17 2 (by decide) (by decide)).trans f2
  have f3 : W17 3 = .inr (1, [.int 0, .int 0, .ref 4, .ref 5, .ref 6, .ref 7, .ref 8]) := (e17 3 (by decide) (by decide)).trans f3
  have f4 : W17 4 = .inl (0, 8, .inl (fun _ => 0)) := (e17 4 (by decide) (by decide)).trans f4
  have f5 : W17 5 = .inl (0, 8, .inl (fun _ => 0)) := (e17 5 (by decide) (by decide)).trans f5
  have f6 : W17 6 = .inl (0, 8, .inl (fun _ => 0)) := (e17 6 (by decide) (by decide)).trans f6
  have f7 : W17 7 = .inl (0, 6, .inl (fun _ => 0)) := (e17 7 (by decide) (by decide)).trans f7
  have f8 : W17 8 = .inl (0, 6, .inl (fun _ => 0)) := (e17 8 (by decide) (by decide)).trans f8
  have f9 : W17 9 = .inr (1, [.int 0, .int 0, .ref 10, .ref 11, .ref 12, .ref 13, .ref 14]) := (e17 9 (by decide) (by decide)).trans f9
  have f10 : W17 10 = .inl (0, 8, .inl (fun _ => 0)) := (e17 10 (by decide) (by decide)).trans f10
  have f11 : W17 11 = .inl (0, 8, .inl (fun _ => 0)) := (e17 11 (by decide) (by decide)).trans f11
  have f12 : W17 12 = .inl (0, 8, .inl (fun _ => 0)) := (e17 12 (by decide) (by decide)).trans f12
  have f13 : W17 13 = .inl (0, 6, .inl (fun _ => 0)) := (e17 13 (by decide) (by decide)).trans f13
  have f14 : W17 14 = .inl (0, 6, .inl (fun _ => 0)) := (e17 14 (by decide) (by decide)).trans f14
  have f15 : W17 15 = .inr (2, [.ref 16, .ref 17, .ref 18, .int (nI 9)]) := (e17 15 (by decide) (by decide)).trans f15
  have f16 : W17 16 = .inl (0, 150, .inl (va_cpy untF (fun _ => 0) 0 0 9)) := (e17 16 (by decide) (by decide)).trans f16
  have f17 : W17 17 = .inl (0, 8, .inl (fun _ => 0)) := (e17 17 (by decide) (by decide)).trans f17
  have f18 : W17 18 = .inl (0, 32, .inl (fun _ => 0)) := (e17 18 (by decide) (by decide)).trans f18
  have f19 : W17 19 = .inr (2, [.ref 20, .ref 21, .ref 22, .int (nI 9)]) := (e17 19 (by decide) (by decide)).trans f19
  have f20 : W17 20 = .inl (0, 150, .inl (va_cpy untF (fun _ => 0) 0 0 9)) := (e17 20 (by decide) (by decide)).trans f20
  have f21 : W17 21 = .inl (0, 8, .inl (fun _ => 0)) := (e17 21 (by decide) (by decide)).trans f21
  have f22 : W17 22 = .inl (0, 32, .inl (fun _ => 0)) := (e17 22 (by decide) (by decide)).trans f22
  have f23 : W17 23 = .inr (0, [.int 0, .ref 24, .ref 25, .ref 26]) := (e17 23 (by decide) (by decide)).trans f23
  have f24 : W17 24 = .inl (0, 6, .inl (fun _ => 0)) := (e17 24 (by decide) (by decide)).trans f24
  have f25 : W17 25 = .inl (0, 6, .inl (fun _ => 0)) := (e17 25 (by decide) (by decide)).trans f25
  have f26 : W17 26 = .inl (0, 6, .inl (fun _ => 0)) := (e17 26 (by decide) (by decide)).trans f26
  have f27 : W17 27 = .inr (0, [.int 0, .ref 28, .ref 29, .ref 30]) := (e17 27 (by decide) (by decide)).trans f27
  have f28 : W17 28 = .inl (0, 6, .inl (fun _ => 0)) := (e17 28 (by decide) (by decide)).trans f28
  have f29 : W17 29 = .inl (0, 6, .inl (fun _ => 0)) := (e17 29 (by decide) (by decide)).trans f29
  have f30 : W17 30 = .inl (0, 6, .inl (fun _ => 0)) := (e17 30 (by decide) (by decide)).trans f30
  have f31 : W17 31 = .inr (9, [.ref 32, .int 0, .int 0, .int 0, .int 0, .int 0, .int 0]) := (e17 31 (by decide) (by decide)).trans f31
  have f32 : W17 32 = .inl (0, 180, .inl (fun _ => 0)) := (e17 32 (by decide) (by decide)).trans f32
  have f33 : W17 33 = .inr (4, [.ref 3, .ref 15]) := (e17 33 (by decide) (by decide)).trans f33
  have f70 : W17 70 = imE2 3 := (e17 70 (by decide) (by decide)).trans f70
  have f179 : W17 179 = .inr (6, [.ref 180]) := (e17 179 (by decide) (by decide)).trans f179
  have f180 : W17 180 = .inl (0, 84, .inl (fun _ => 0)) := (e17 180 (by decide) (by decide)).trans f180
  have f181 : W17 181 = .inr (5, [.ref 182, .ref 183, .ref 184, .ref 185, .int 0, .int 0]) := (e17 181 (by decide) (by decide)).trans f181
  have f182 : W17 182 = .inl (0, 6, .inl (fun _ => 0)) := (e17 182 (by decide) (by decide)).trans f182
  have f183 : W17 183 = .inl (0, 8, .inl (fun _ => 0)) := (e17 183 (by decide) (by decide)).trans f183
  have f184 : W17 184 = .inl (0, 8, .inl (fun _ => 0)) := (e17 184 (by decide) (by decide)).trans f184
  have f185 : W17 185 = .inl (0, 64, .inl (fun _ => 0)) := (e17 185 (by decide) (by decide)).trans f185
  have g34 : PGd 34 W17 := PGd_fe g34 (fun j y1 y2 => e17 j (by omega) (by omega))
  have g71 : PGd 71 W17 := PGd_fe g71 (fun j y1 y2 => e17 j (by omega) (by omega))
  have g107 : PGd 107 W17 := PGd_fe g107 (fun j y1 y2 => e17 j (by omega) (by omega))
  have g143 : PGd 143 W17 := PGd_fe g143 (fun j y1 y2 => e17 j (by omega) (by omega))
  have f186 : W17 186 = .inr (8, [.int 0]) := by rw [hW17, hset_ne (by decide), hset_eq]
  refine mt_aload_n (pc := 193) dX10_init_193 rfl ?_
  refine mt_bipush (pc := 194) (v := 10) dX10_init_194 (by decide) ?_
  refine mt_newai (pc := 196) (N := 10) ac_int dX10_init_196 (by decide) (by decide) (by decide) (by decide) hw17 (fun v hv => by rcases List.mem_singleton.mp hv with rfl; exact mm_vw_ref (by decide)) (fun v hv => by simp at hv; rcases hv with rfl | rfl <;> first | exact mm_vw_ref (by decide) | exact mm_vw_int _ _) (Nat.le_of_ble_eq_true rfl) (Nat.le_of_ble_eq_true rfl) ?_
  have v17 : mm_wf 188 (hset W17 187 (iaE 10 (fun _ => 0))) := mm_wf_push hw17 mm_ew_i
  refine mt_putr (pc := 198) pf_X10_94 rfl (fun _ => rfl) (fun _ => rfl) dX10_init_198 (by decide) ((hset_ne (by decide)).trans f0) (Nat.le_of_ble_eq_true rfl) ?_
  obtain ⟨W18, hW18⟩ : ∃ W, W = hset (hset W17 187 (iaE 10 (fun _ => 0))) 0 (.inr (10, [.ref 1, .ref 3, .ref 9, .ref 15, .ref 19, .ref 23, .ref 27, .ref 31, .ref 33, .ref 34, .ref 70, .ref 179, .ref 181, .ref 186, .ref 187, .int 0, .int 0, .int 0, .int 0])) := ⟨_, rfl⟩
  have hw18 : mm_wf 188 W18 := by rw [hW18]; exact mm_wf_set v17 (mm_ew_set (k := 14) (j := 187) (mm_wf_at v17 (by decide) ((hset_ne (by decide)).trans f0)) (Nat.le_refl _) (by decide))
  refine mt_heq (h' := W18) (by rw [hW18]; rfl) ?_
  have e18 : ∀ j, j < 187 → j ≠ 0 → W18 j = W17 j := fun j y1 y2 => by rw [hW18, hset_ne y2, hset_ne (by omega)]
  have f0 : W18 0 = .inr (10, [.ref 1, .ref 3, .ref 9, .ref 15, .ref 19, .ref 23, .ref 27, .ref 31, .ref 33, .ref 34, .ref 70, .ref 179, .ref 181, .ref 186, .ref 187, .int 0, .int 0, .int 0, .int 0]) := by rw [hW18, hset_eq]
  have f1 : W18 1 = .inr (7, [.ref 2, .int 0, .int 0, .int 0, .int 0, .int 0, .int (-1)]) := (e18 1 (by decide) (by decide)).trans f1
  have f2 : W18 2 = .inl (1, 600, .inl (fun _ => 0)) := (e18 2 (by decide) (by decide)).trans f2
  have f3 : W18 3 = .inr (1, [.int 0, .int 0, .ref 4, .ref 5, .ref 6, .ref 7, .ref 8]) := (e18 3 (by decide) (by decide)).trans f3
  have f4 : W18 4 = .inl (0, 8, .inl (fun _ => 0)) := (e18 4 (by decide) (by decide)).trans f4
  have f5 : W18 5 = .inl (0, 8, .inl (fun _ => 0)) := (e18 5 (by decide) (by decide)).trans f5
  have f6 : W18 6 = .inl (0, 8, .inl (fun _ => 0)) := (e18 6 (by decide) (by decide)).trans f6
  have f7 : W18 7 = .inl (0, 6, .inl (fun _ => 0)) := (e18 7 (by decide) (by decide)).trans f7
  have f8 : W18 8 = .inl (0, 6, .inl (fun _ => 0)) := (e18 8 (by decide) (by decide)).trans f8
  have f9 : W18 9 = .inr (1, [.int 0, .int 0, .ref 10, .ref 11, .ref 12, .ref 13, .ref 14]) := (e18 9 (by decide) (by decide)).trans f9
  have f10 : W18 10 = .inl (0, 8, .inl (fun _ => 0)) := (e18 10 (by decide) (by decide)).trans f10
  have f11 : W18 11 = .inl (0, 8, .inl (fun _ => 0)) := (e18 11 (by decide) (by decide)).trans f11
  have f12 : W18 12 = .inl (0, 8, .inl (fun _ => 0)) := (e18 12 (by decide) (by decide)).trans f12
  have f13 : W18 13 = .inl (0, 6, .inl (fun _ => 0)) := (e18 13 (by decide) (by decide)).trans f13
  have f14 : W18 14 = .inl (0, 6, .inl (fun _ => 0)) := (e18 14 (by decide) (by decide)).trans f14
  have f15 : W18 15 = .inr (2, [.ref 16, .ref 17, .ref 18, .int (nI 9)]) := (e18 15 (by decide) (by decide)).trans f15
  have f16 : W18 16 = .inl (0, 150, .inl (va_cpy untF (fun _ => 0) 0 0 9)) := (e18 16 (by decide) (by decide)).trans f16
  have f17 : W18 17 = .inl (0, 8, .inl (fun _ => 0)) := (e18 17 (by decide) (by decide)).trans f17
  have f18 : W18 18 = .inl (0, 32, .inl (fun _ => 0)) := (e18 18 (by decide) (by decide)).trans f18
  have f19 : W18 19 = .inr (2, [.ref 20, .ref 21, .ref 22, .int (nI 9)]) := (e18 19 (by decide) (by decide)).trans f19
  have f20 : W18 20 = .inl (0, 150, .inl (va_cpy untF (fun _ => 0) 0 0 9)) := (e18 20 (by decide) (by decide)).trans f20
  have f21 : W18 21 = .inl (0, 8, .inl (fun _ => 0)) := (e18 21 (by decide) (by decide)).trans f21
  have f22 : W18 22 = .inl (0, 32, .inl (fun _ => 0)) := (e18 22 (by decide) (by decide)).trans f22
  have f23 : W18 23 = .inr (0, [.int 0, .ref 24, .ref 25, .ref 26]) := (e18 23 (by decide) (by decide)).trans f23
  have f24 : W18 24 = .inl (0, 6, .inl (fun _ => 0)) := (e18 24 (by decide) (by decide)).trans f24
  have f25 : W18 25 = .inl (0, 6, .inl (fun _ => 0)) := (e18 25 (by decide) (by decide)).trans f25
  have f26 : W18 26 = .inl (0, 6, .inl (fun _ => 0)) := (e18 26 (by decide) (by decide)).trans f26
  have f27 : W18 27 = .inr (0, [.int 0, .ref 28, .ref 29, .ref 30]) := (e18 27 (by decide) (by decide)).trans f27
  have f28 : W18 28 = .inl (0, 6, .inl (fun _ => 0)) := (e18 28 (by decide) (by decide)).trans f28
  have f29 : W18 29 = .inl (0, 6, .inl (fun _ => 0)) := (e18 29 (by decide) (by decide)).trans f29
  have f30 : W18 30 = .inl (0, 6, .inl (fun _ => 0)) := (e18 30 (by decide) (by decide)).trans f30
  have f31 : W18 31 = .inr (9, [.ref 32, .int 0, .int 0, .int 0, .int 0, .int 0, .int 0]) := (e18 31 (by decide) (by decide)).trans f31
  have f32 : W18 32 = .inl (0, 180, .inl (fun _ => 0)) := (e18 32 (by decide) (by decide)).trans f32
  have f33 : W18 33 = .inr (4, [.ref 3, .ref 15]) := (e18 33 (by decide) (by decide)).trans f33
  have f70 : W18 70 = imE2 3 := (e18 70 (by decide) (by decide)).trans f70
  have f179 : W18 179 = .inr (6, [.ref 180]) := (e18 179 (by decide) (by decide)).trans f179
  have f180 : W18 180 = .inl (0, 84, .inl (fun _ => 0)) := (e18 180 (by decide) (by decide)).trans f180
  have f181 : W18 181 = .inr (5, [.ref 182, .ref 183, .ref 184, .ref 185, .int 0, .int 0]) := (e18 181 (by decide) (by decide)).trans f181
  have f182 : W18 182 = .inl (0, 6, .inl (fun _ => 0)) := (e18 182 (by decide) (by decide)).trans f182
  have f183 : W18 183 = .inl (0, 8, .inl (fun _ => 0)) := (e18 183 (by decide) (by decide)).trans f183
  have f184 : W18 184 = .inl (0, 8, .inl (fun _ => 0)) := (e18 184 (by decide) (by decide)).trans f184
  have f185 : W18 185 = .inl (0, 64, .inl (fun _ => 0)) := (e18 185 (by decide) (by decide)).trans f185
  have f186 : W18 186 = .inr (8, [.int 0]) := (e18 186 (by decide) (by decide)).trans f186
  have g34 : PGd 34 W18 := PGd_fe g34 (fun j y1 y2 => e18 j (by omega) (by omega))
  have g71 : PGd 71 W18 := PGd_fe g71 (fun j y1 y2 => e18 j (by omega) (by omega))
  have g107 : PGd 107 W18 := PGd_fe g107 (fun j y1 y2 => e18 j (by omega) (by omega))
  have g143 : PGd 143 W18 := PGd_fe g143 (fun j y1 y2 => e18 j (by omega) (by omega))
  have f187 : W18 187 = iaE 10 (fun _ => 0) := by rw [hW18, hset_ne (by decide), hset_eq]
  have hI : ∀ i, i < 3 → PG W18 (71 + 36 * i) pg00 := fun i hi => by
    rcases (show i = 0 ∨ i = 1 ∨ i = 2 by omega) with rfl | rfl | rfl
    · exact PGd_PG g71
    · exact PGd_PG g107
    · exact PGd_PG g143
  exact mt_vret rfl dX10_init_201 (Nat.le_of_ble_eq_true rfl) (Nat.le_of_ble_eq_true rfl) ⟨rfl, rfl, hw18, f0, ⟨f3, f4, f5, f6, f7, f8, by decide, by decide⟩, ⟨f15, ⟨_, f16, LW_unt⟩, ⟨_, f17⟩, _, f18⟩, unt_wf, ⟨f23, f24, f25, f26, by decide⟩, PGd_PG g34, RC_00, ⟨f33, f70, f179, ⟨_, f180, fun _ _ => rfl⟩, ⟨⟨_, _, f181⟩, ⟨_, f182⟩, ⟨_, f183⟩, ⟨_, f184⟩, _, f185⟩, ⟨_, f186⟩, _, f187⟩, ⟨_, _, _, _, f1⟩, f2, ⟨k00, f9, f10, f11, f12, f13, f14, by decide, by decide⟩, ⟨_, _, f19, f20⟩, ⟨bk00, f27, f28, f29, f30, by decide⟩, ⟨_, _, _, _, _, _, _, f31, f32⟩, hI, by decide, by decide, BY_00⟩
end CCD
