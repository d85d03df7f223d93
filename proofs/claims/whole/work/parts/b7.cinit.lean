/-! Constructors that make rows. -/
theorem mm_ew_seti {nx ci k : Nat} {x : Int32} {fs : List Value} (h : mm_ew nx (.inr (ci, fs))) : mm_ew nx (.inr (ci, fs.set k (.int x))) := by
  intro ad ad' cA h1 h2
  have e := h ad ad' cA h1 h2
  simp only [mm_re, Sum.inr.injEq, Prod.mk.injEq, true_and] at e ⊢
  rw [List.map_set, List.map_set, e]
  rfl
section CCA
variable {G : mm_G} {l : Launch} {d nx : Nat} {h : Nat → mm_E}
theorem c_X6i {i : Nat} (hd : 4 ≤ d) (hi : i < nx) (hl : nx < 900000) (hh : h i = .inr (6, [.null])) (hw : mm_wf nx h) : mm_Con G l yX6_init cX6_init 1 none d 1 84 [.ref i] nx h (fun o n m => o = .inl none ∧ n = nx + 1 ∧ mm_wf (nx + 1) m ∧ FRi nx i h m ∧ m i = .inr (6, [.ref nx]) ∧ m nx = .inl (0, 84, .inl (fun _ => 0))) := by
  have hw0 : mm_wf nx (hset h i (.inr (6, [.null]))) := by rw [hset_self hh]; exact hw
  refine mm_start (lo := [some (.ref i)]) pn_X6 rfl rfl (Nat.le_of_ble_eq_true rfl) ?_
  refine mt_aload_n (pc := 0) dX6_init_0 rfl ?_
  refine mt_objI (pc := 1) ol_X6 dX6_init_1 (by show 1 ≤ d; omega) (Nat.le_of_ble_eq_true rfl) ?_
  refine mt_heq (h' := hset h i (.inr (6, [.null]))) (hset_self hh).symm ?_
  refine mt_aload_n (pc := 4) dX6_init_4 rfl ?_
  refine mt_bipush (pc := 5) (v := 84) dX6_init_5 (by decide) ?_
  refine mt_mkI (pc := 7) (N := 84) dX6_init_7 dX6_init_9 pf_X6_11 rfl (by decide) (by decide) (by decide) (Nat.le_of_ble_eq_true rfl) (Nat.le_of_ble_eq_true rfl) (Nat.le_of_ble_eq_true rfl) (by omega) (by omega) hw0 (fun v hv => by simp at hv; subst hv; exact mm_vw_ref (by omega)) ?_
  intro hw1
  refine mt_vret rfl dX6_init_12 (Nat.le_of_ble_eq_true rfl) (Nat.le_of_ble_eq_true rfl) ⟨rfl, rfl, hw1, fun j h1 h2 => by repeat rw [hset_ne (by omega)], ?_, ?_⟩
  all_goals (repeat (first | exact hset_eq _ _ _ | rw [hset_ne (by omega)]))
theorem c_X7i {i : Nat} (hd : 4 ≤ d) (hi : i < nx) (hl : nx < 900000) (hh : h i = .inr (7, [.null, .int 0, .int 0, .int 0, .int 0, .int 0, .int 0])) (hw : mm_wf nx h) : mm_Con G l yX7_init cX7_init 1 none d 1 600 [.ref i] nx h (fun o n m => o = .inl none ∧ n = nx + 1 ∧ mm_wf (nx + 1) m ∧ FRi nx i h m ∧ m i = .inr (7, [.ref nx, .int 0, .int 0, .int 0, .int 0, .int 0, .int (-1)]) ∧ m nx = .inl (1, 600, .inl (fun _ => 0))) := by
  have hw0 : mm_wf nx (hset h i (.inr (7, [.null, .int 0, .int 0, .int 0, .int 0, .int 0, .int 0]))) := by rw [hset_self hh]; exact hw
  refine mm_start (lo := [some (.ref i)]) pn_X7 rfl rfl (Nat.le_of_ble_eq_true rfl) ?_
  refine mt_aload_n (pc := 0) dX7_init_0 rfl ?_
  refine mt_objI (pc := 1) ol_X7 dX7_init_1 (by show 1 ≤ d; omega) (Nat.le_of_ble_eq_true rfl) ?_
  refine mt_heq (h' := hset h i (.inr (7, [.null, .int 0, .int 0, .int 0, .int 0, .int 0, .int 0]))) (hset_self hh).symm ?_
  refine mt_aload_n (pc := 4) dX7_init_4 rfl ?_
  refine mt_sipush (pc := 5) (v := 600) dX7_init_5 (by decide) ?_
  refine mt_mkB (pc := 8) (N := 600) dX7_init_8 dX7_init_10 pf_X7_9 rfl (by decide) (by decide) (by decide) (Nat.le_of_ble_eq_true rfl) (Nat.le_of_ble_eq_true rfl) (Nat.le_of_ble_eq_true rfl) (by omega) (by omega) hw0 (fun v hv => by simp at hv; subst hv; exact mm_vw_ref (by omega)) ?_
  intro hw1
  refine mt_aload_n (pc := 13) dX7_init_13 rfl ?_
  refine mt_iconst (pc := 14) (v := (-1)) dX7_init_14 (by decide) ?_
  refine mt_puti2 (pc := 15) pf_X7_15 dX7_init_15 (by omega) (Nat.le_of_ble_eq_true rfl) ?_
  have hw9 := mm_wf_set (i := i) hw1 (mm_ew_seti (k := 6) (x := -1) (mm_wf_at hw1 (by omega) (hset_eq _ _ _)))
  rw [hset_hset] at hw9
  refine mt_vret rfl dX7_init_18 (Nat.le_of_ble_eq_true rfl) (Nat.le_of_ble_eq_true rfl) ⟨rfl, rfl, hw9, fun j h1 h2 => by repeat rw [hset_ne (by omega)], ?_, ?_⟩
  all_goals (repeat (first | exact hset_eq _ _ _ | rw [hset_ne (by omega)]))
theorem c_X1i {i : Nat} (hd : 4 ≤ d) (hi : i < nx) (hl : nx < 900000) (hh : h i = .inr (1, [.int 0, .int 0, .null, .null, .null, .null, .null])) (hw : mm_wf nx h) : mm_Con G l yX1_init cX1_init 1 none d 5 36 [.ref i] nx h (fun o n m => o = .inl none ∧ n = nx + 5 ∧ mm_wf (nx + 5) m ∧ FRi nx i h m ∧ m i = .inr (1, [.int 0, .int 0, .ref nx, .ref (nx + 1), .ref (nx + 2), .ref (nx + 3), .ref (nx + 4)]) ∧ m nx = .inl (0, 8, .inl (fun _ => 0)) ∧ m (nx + 1) = .inl (0, 8, .inl (fun _ => 0)) ∧ m (nx + 2) = .inl (0, 8, .inl (fun _ => 0)) ∧ m (nx + 3) = .inl (0, 6, .inl (fun _ => 0)) ∧ m (nx + 4) = .inl (0, 6, .inl (fun _ => 0))) := by
  have hw0 : mm_wf nx (hset h i (.inr (1, [.int 0, .int 0, .null, .null, .null, .null, .null]))) := by rw [hset_self hh]; exact hw
  refine mm_start (lo := [some (.ref i)]) pn_X1 rfl rfl (Nat.le_of_ble_eq_true rfl) ?_
  refine mt_aload_n (pc := 0) dX1_init_0 rfl ?_
  refine mt_objI (pc := 1) ol_X1 dX1_init_1 (by show 1 ≤ d; omega) (Nat.le_of_ble_eq_true rfl) ?_
  refine mt_heq (h' := hset h i (.inr (1, [.int 0, .int 0, .null, .null, .null, .null, .null]))) (hset_self hh).symm ?_
  refine mt_aload_n (pc := 4) dX1_init_4 rfl ?_
  refine mt_bipush (pc := 5) (v := 8) dX1_init_5 (by decide) ?_
  refine mt_mkI (pc := 7) (N := 8) dX1_init_7 dX1_init_9 pf_X1_9 rfl (by decide) (by decide) (by decide) (Nat.le_of_ble_eq_true rfl) (Nat.le_of_ble_eq_true rfl) (Nat.le_of_ble_eq_true rfl) (by omega) (by omega) hw0 (fun v hv => by simp at hv; subst hv; exact mm_vw_ref (by omega)) ?_
  intro hw1
  refine mt_aload_n (pc := 12) dX1_init_12 rfl ?_
  refine mt_bipush (pc := 13) (v := 8) dX1_init_13 (by decide) ?_
  refine mt_mkI (pc := 15) (N := 8) dX1_init_15 dX1_init_17 pf_X1_15 rfl (by decide) (by decide) (by decide) (Nat.le_of_ble_eq_true rfl) (Nat.le_of_ble_eq_true rfl) (Nat.le_of_ble_eq_true rfl) (by omega) (by omega) hw1 (fun v hv => by simp at hv; subst hv; exact mm_vw_ref (by omega)) ?_
  intro hw2
  refine mt_aload_n (pc := 20) dX1_init_20 rfl ?_
  refine mt_bipush (pc := 21) (v := 8) dX1_init_21 (by decide) ?_
  refine mt_mkI (pc := 23) (N := 8) dX1_init_23 dX1_init_25 pf_X1_18 rfl (by decide) (by decide) (by decide) (Nat.le_of_ble_eq_true rfl) (Nat.le_of_ble_eq_true rfl) (Nat.le_of_ble_eq_true rfl) (by omega) (by omega) hw2 (fun v hv => by simp at hv; subst hv; exact mm_vw_ref (by omega)) ?_
  intro hw3
  refine mt_aload_n (pc := 28) dX1_init_28 rfl ?_
  refine mt_bipush (pc := 29) (v := 6) dX1_init_29 (by decide) ?_
  refine mt_mkI (pc := 31) (N := 6) dX1_init_31 dX1_init_33 pf_X1_21 rfl (by decide) (by decide) (by decide) (Nat.le_of_ble_eq_true rfl) (Nat.le_of_ble_eq_true rfl) (Nat.le_of_ble_eq_true rfl) (by omega) (by omega) hw3 (fun v hv => by simp at hv; subst hv; exact mm_vw_ref (by omega)) ?_
  intro hw4
  refine mt_aload_n (pc := 36) dX1_init_36 rfl ?_
  refine mt_bipush (pc := 37) (v := 6) dX1_init_37 (by decide) ?_
  refine mt_mkI (pc := 39) (N := 6) dX1_init_39 dX1_init_41 pf_X1_24 rfl (by decide) (by decide) (by decide) (Nat.le_of_ble_eq_true rfl) (Nat.le_of_ble_eq_true rfl) (Nat.le_of_ble_eq_true rfl) (by omega) (by omega) hw4 (fun v hv => by simp at hv; subst hv; exact mm_vw_ref (by omega)) ?_
  intro hw5
  refine mt_vret rfl dX1_init_44 (Nat.le_of_ble_eq_true rfl) (Nat.le_of_ble_eq_true rfl) ⟨rfl, rfl, hw5, fun j h1 h2 => by repeat rw [hset_ne (by omega)], ?_, ?_, ?_, ?_, ?_, ?_⟩
  all_goals (repeat (first | exact hset_eq _ _ _ | rw [hset_ne (by omega)]))
theorem c_X0i {i : Nat} (hd : 4 ≤ d) (hi : i < nx) (hl : nx < 900000) (hh : h i = .inr (0, [.int 0, .null, .null, .null])) (hw : mm_wf nx h) : mm_Con G l yX0_init cX0_init 1 none d 3 18 [.ref i] nx h (fun o n m => o = .inl none ∧ n = nx + 3 ∧ mm_wf (nx + 3) m ∧ FRi nx i h m ∧ m i = .inr (0, [.int 0, .ref nx, .ref (nx + 1), .ref (nx + 2)]) ∧ m nx = .inl (0, 6, .inl (fun _ => 0)) ∧ m (nx + 1) = .inl (0, 6, .inl (fun _ => 0)) ∧ m (nx + 2) = .inl (0, 6, .inl (fun _ => 0))) := by
  have hw0 : mm_wf nx (hset h i (.inr (0, [.int 0, .null, .null, .null]))) := by rw [hset_self hh]; exact hw
  refine mm_start (lo := [some (.ref i)]) pn_X0 rfl rfl (Nat.le_of_ble_eq_true rfl) ?_
  refine mt_aload_n (pc := 0) dX0_init_0 rfl ?_
  refine mt_objI (pc := 1) ol_X0 dX0_init_1 (by show 1 ≤ d; omega) (Nat.le_of_ble_eq_true rfl) ?_
  refine mt_heq (h' := hset h i (.inr (0, [.int 0, .null, .null, .null]))) (hset_self hh).symm ?_
  refine mt_aload_n (pc := 4) dX0_init_4 rfl ?_
  refine mt_bipush (pc := 5) (v := 6) dX0_init_5 (by decide) ?_
  refine mt_mkI (pc := 7) (N := 6) dX0_init_7 dX0_init_9 pf_X0_9 rfl (by decide) (by decide) (by decide) (Nat.le_of_ble_eq_true rfl) (Nat.le_of_ble_eq_true rfl) (Nat.le_of_ble_eq_true rfl) (by omega) (by omega) hw0 (fun v hv => by simp at hv; subst hv; exact mm_vw_ref (by omega)) ?_
  intro hw1
  refine mt_aload_n (pc := 12) dX0_init_12 rfl ?_
  refine mt_bipush (pc := 13) (v := 6) dX0_init_13 (by decide) ?_
  refine mt_mkI (pc := 15) (N := 6) dX0_init_15 dX0_init_17 pf_X0_15 rfl (by decide) (by decide) (by decide) (Nat.le_of_ble_eq_true rfl) (Nat.le_of_ble_eq_true rfl) (Nat.le_of_ble_eq_true rfl) (by omega) (by omega) hw1 (fun v hv => by simp at hv; subst hv; exact mm_vw_ref (by omega)) ?_
  intro hw2
  refine mt_aload_n (pc := 20) dX0_init_20 rfl ?_
  refine mt_bipush (pc := 21) (v := 6) dX0_init_21 (by decide) ?_
  refine mt_mkI (pc := 23) (N := 6) dX0_init_23 dX0_init_25 pf_X0_18 rfl (by decide) (by decide) (by decide) (Nat.le_of_ble_eq_true rfl) (Nat.le_of_ble_eq_true rfl) (Nat.le_of_ble_eq_true rfl) (by omega) (by omega) hw2 (fun v hv => by simp at hv; subst hv; exact mm_vw_ref (by omega)) ?_
  intro hw3
  refine mt_vret rfl dX0_init_28 (Nat.le_of_ble_eq_true rfl) (Nat.le_of_ble_eq_true rfl) ⟨rfl, rfl, hw3, fun j h1 h2 => by repeat rw [hset_ne (by omega)], ?_, ?_, ?_, ?_⟩
  all_goals (repeat (first | exact hset_eq _ _ _ | rw [hset_ne (by omega)]))
theorem c_X9i {i : Nat} (hd : 4 ≤ d) (hi : i < nx) (hl : nx < 900000) (hh : h i = .inr (9, [.null, .int 0, .int 0, .int 0, .int 0, .int 0, .int 0])) (hw : mm_wf nx h) : mm_Con G l yX9_init cX9_init 1 none d 1 180 [.ref i] nx h (fun o n m => o = .inl none ∧ n = nx + 1 ∧ mm_wf (nx + 1) m ∧ FRi nx i h m ∧ m i = .inr (9, [.ref nx, .int 0, .int 0, .int 0, .int 0, .int 0, .int 0]) ∧ m nx = .inl (0, 180, .inl (fun _ => 0))) := by
  have hw0 : mm_wf nx (hset h i (.inr (9, [.null, .int 0, .int 0, .int 0, .int 0, .int 0, .int 0]))) := by rw [hset_self hh]; exact hw
  refine mm_start (lo := [some (.ref i)]) pn_X9 rfl rfl (Nat.le_of_ble_eq_true rfl) ?_
  refine mt_aload_n (pc := 0) dX9_init_0 rfl ?_
  refine mt_objI (pc := 1) ol_X9 dX9_init_1 (by show 1 ≤ d; omega) (Nat.le_of_ble_eq_true rfl) ?_
  refine mt_heq (h' := hset h i (.inr (9, [.null, .int 0, .int 0, .int 0, .int 0, .int 0, .int 0]))) (hset_self hh).symm ?_
  refine mt_aload_n (pc := 4) dX9_init_4 rfl ?_
  refine mt_sipush (pc := 5) (v := 180) dX9_init_5 (by decide) ?_
  refine mt_mkI (pc := 8) (N := 180) dX9_init_8 dX9_init_10 pf_X9_11 rfl (by decide) (by decide) (by decide) (Nat.le_of_ble_eq_true rfl) (Nat.le_of_ble_eq_true rfl) (Nat.le_of_ble_eq_true rfl) (by omega) (by omega) hw0 (fun v hv => by simp at hv; subst hv; exact mm_vw_ref (by omega)) ?_
  intro hw1
  refine mt_vret rfl dX9_init_13 (Nat.le_of_ble_eq_true rfl) (Nat.le_of_ble_eq_true rfl) ⟨rfl, rfl, hw1, fun j h1 h2 => by repeat rw [hset_ne (by omega)], ?_, ?_⟩
  all_goals (repeat (first | exact hset_eq _ _ _ | rw [hset_ne (by omega)]))
theorem c_X5i {i : Nat} (hd : 4 ≤ d) (hi : i < nx) (hl : nx < 900000) (hh : h i = .inr (5, [.null, .null, .null, .null, .int 0, .int 0])) (hw : mm_wf nx h) : mm_Con G l yX5_init cX5_init 1 none d 4 86 [.ref i] nx h (fun o n m => o = .inl none ∧ n = nx + 4 ∧ mm_wf (nx + 4) m ∧ FRi nx i h m ∧ m i = .inr (5, [.ref nx, .ref (nx + 1), .ref (nx + 2), .ref (nx + 3), .int 0, .int 0]) ∧ m nx = .inl (0, 6, .inl (fun _ => 0)) ∧ m (nx + 1) = .inl (0, 8, .inl (fun _ => 0)) ∧ m (nx + 2) = .inl (0, 8, .inl (fun _ => 0)) ∧ m (nx + 3) = .inl (0, 64, .inl (fun _ => 0))) := by
  have hw0 : mm_wf nx (hset h i (.inr (5, [.null, .null, .null, .null, .int 0, .int 0]))) := by rw [hset_self hh]; exact hw
  refine mm_start (lo := [some (.ref i)]) pn_X5 rfl rfl (Nat.le_of_ble_eq_true rfl) ?_
  refine mt_aload_n (pc := 0) dX5_init_0 rfl ?_
  refine mt_objI (pc := 1) ol_X5 dX5_init_1 (by show 1 ≤ d; omega) (Nat.le_of_ble_eq_true rfl) ?_
  refine mt_heq (h' := hset h i (.inr (5, [.null, .null, .null, .null, .int 0, .int 0]))) (hset_self hh).symm ?_
  refine mt_aload_n (pc := 4) dX5_init_4 rfl ?_
  refine mt_bipush (pc := 5) (v := 6) dX5_init_5 (by decide) ?_
  refine mt_mkI (pc := 7) (N := 6) dX5_init_7 dX5_init_9 pf_X5_9 rfl (by decide) (by decide) (by decide) (Nat.le_of_ble_eq_true rfl) (Nat.le_of_ble_eq_true rfl) (Nat.le_of_ble_eq_true rfl) (by omega) (by omega) hw0 (fun v hv => by simp at hv; subst hv; exact mm_vw_ref (by omega)) ?_
  intro hw1
  refine mt_aload_n (pc := 12) dX5_init_12 rfl ?_
  refine mt_bipush (pc := 13) (v := 8) dX5_init_13 (by decide) ?_
  refine mt_mkI (pc := 15) (N := 8) dX5_init_15 dX5_init_17 pf_X5_15 rfl (by decide) (by decide) (by decide) (Nat.le_of_ble_eq_true rfl) (Nat.le_of_ble_eq_true rfl) (Nat.le_of_ble_eq_true rfl) (by omega) (by omega) hw1 (fun v hv => by simp at hv; subst hv; exact mm_vw_ref (by omega)) ?_
  intro hw2
  refine mt_aload_n (pc := 20) dX5_init_20 rfl ?_
  refine mt_bipush (pc := 21) (v := 8) dX5_init_21 (by decide) ?_
  refine mt_mkI (pc := 23) (N := 8) dX5_init_23 dX5_init_25 pf_X5_18 rfl (by decide) (by decide) (by decide) (Nat.le_of_ble_eq_true rfl) (Nat.le_of_ble_eq_true rfl) (Nat.le_of_ble_eq_true rfl) (by omega) (by omega) hw2 (fun v hv => by simp at hv; subst hv; exact mm_vw_ref (by omega)) ?_
  intro hw3
  refine mt_aload_n (pc := 28) dX5_init_28 rfl ?_
  refine mt_bipush (pc := 29) (v := 64) dX5_init_29 (by decide) ?_
  refine mt_mkI (pc := 31) (N := 64) dX5_init_31 dX5_init_33 pf_X5_21 rfl (by decide) (by decide) (by decide) (Nat.le_of_ble_eq_true rfl) (Nat.le_of_ble_eq_true rfl) (Nat.le_of_ble_eq_true rfl) (by omega) (by omega) hw3 (fun v hv => by simp at hv; subst hv; exact mm_vw_ref (by omega)) ?_
  intro hw4
  refine mt_vret rfl dX5_init_36 (Nat.le_of_ble_eq_true rfl) (Nat.le_of_ble_eq_true rfl) ⟨rfl, rfl, hw4, fun j h1 h2 => by repeat rw [hset_ne (by omega)], ?_, ?_, ?_, ?_, ?_⟩
  all_goals (repeat (first | exact hset_eq _ _ _ | rw [hset_ne (by omega)]))
theorem c_X2i {i : Nat} (hd : 4 ≤ d) (hi : i < nx) (hl : nx < 900000) (hh : h i = .inr (2, [.null, .null, .null, .int 0])) (hw : mm_wf nx h) : mm_Con G l yX2_init cX2_init 1 none d 3 190 [.ref i] nx h (fun o n m => o = .inl none ∧ n = nx + 3 ∧ mm_wf (nx + 3) m ∧ FRi nx i h m ∧ m i = .inr (2, [.ref nx, .ref (nx + 1), .ref (nx + 2), .int (nI 9)]) ∧ m nx = .inl (0, 150, .inl (va_cpy untF (fun _ => 0) 0 0 9)) ∧ m (nx + 1) = .inl (0, 8, .inl (fun _ => 0)) ∧ m (nx + 2) = .inl (0, 32, .inl (fun _ => 0))) := by
  have hw0 : mm_wf nx (hset h i (.inr (2, [.null, .null, .null, .int 0]))) := by rw [hset_self hh]; exact hw
  refine mm_start (lo := [some (.ref i)]) pn_X2 rfl rfl (Nat.le_of_ble_eq_true rfl) ?_
  refine mt_aload_n (pc := 0) dX2_init_0 rfl ?_
  refine mt_objI (pc := 1) ol_X2 dX2_init_1 (by show 1 ≤ d; omega) (Nat.le_of_ble_eq_true rfl) ?_
  refine mt_heq (h' := hset h i (.inr (2, [.null, .null, .null, .int 0]))) (hset_self hh).symm ?_
  refine mt_aload_n (pc := 4) dX2_init_4 rfl ?_
  refine mt_sipush (pc := 5) (v := 150) dX2_init_5 (by decide) ?_
  refine mt_mkI (pc := 8) (N := 150) dX2_init_8 dX2_init_10 pf_X2_9 rfl (by decide) (by decide) (by decide) (Nat.le_of_ble_eq_true rfl) (Nat.le_of_ble_eq_true rfl) (Nat.le_of_ble_eq_true rfl) (by omega) (by omega) hw0 (fun v hv => by simp at hv; subst hv; exact mm_vw_ref (by omega)) ?_
  intro hw1
  refine mt_aload_n (pc := 13) dX2_init_13 rfl ?_
  refine mt_bipush (pc := 14) (v := 8) dX2_init_14 (by decide) ?_
  refine mt_mkI (pc := 16) (N := 8) dX2_init_16 dX2_init_18 pf_X2_15 rfl (by decide) (by decide) (by decide) (Nat.le_of_ble_eq_true rfl) (Nat.le_of_ble_eq_true rfl) (Nat.le_of_ble_eq_true rfl) (by omega) (by omega) hw1 (fun v hv => by simp at hv; subst hv; exact mm_vw_ref (by omega)) ?_
  intro hw2
  refine mt_aload_n (pc := 21) dX2_init_21 rfl ?_
  refine mt_bipush (pc := 22) (v := 32) dX2_init_22 (by decide) ?_
  refine mt_mkI (pc := 24) (N := 32) dX2_init_24 dX2_init_26 pf_X2_18 rfl (by decide) (by decide) (by decide) (Nat.le_of_ble_eq_true rfl) (Nat.le_of_ble_eq_true rfl) (Nat.le_of_ble_eq_true rfl) (by omega) (by omega) hw2 (fun v hv => by simp at hv; subst hv; exact mm_vw_ref (by omega)) ?_
  intro hw3
  refine mt_aload_n (pc := 29) dX2_init_29 rfl ?_
  refine mt_cV (pc := 30) (c_becomeUntold (d := 2) (s := i) (r := nx) (q := nx + 1) (t := nx + 2) (z := 0) (g := fun _ => 0) (n := 0) (Nat.le_refl 2) (by omega) (by omega) (by omega) (hset_eq _ _ _) (by (repeat rw [hset_ne (by omega)]); exact hset_eq _ _ _)) cal_X2_becomeUntold vir_X2_becomeUntold ml_X2_21 dX2_init_30 (by omega) (hset_eq _ _ _) (by show _ ≤ d; omega) ⟨(Nat.le_of_ble_eq_true rfl), (Nat.le_of_ble_eq_true rfl)⟩ rfl rfl (Nat.le_of_ble_eq_true rfl) ?_
  have hw9 := mm_wf_set (i := i) (e := .inr (2, [.ref nx, .ref (nx + 1), .ref (nx + 2), .int (nI 9)])) (mm_wf_set (i := nx) (e := iaE 150 (va_cpy untF (fun _ => 0) 0 0 9)) hw3 mm_ew_i) (mm_ew_seti (k := 3) (x := nI 9) (mm_wf_at hw3 (by omega) (hset_eq _ _ _)))
  refine mt_vret rfl dX2_init_33 (Nat.le_of_ble_eq_true rfl) (Nat.le_of_ble_eq_true rfl) ⟨rfl, rfl, hw9, fun j h1 h2 => by repeat rw [hset_ne (by omega)], ?_, ?_, ?_, ?_⟩
  all_goals (repeat (first | exact hset_eq _ _ _ | rw [hset_ne (by omega)]))
theorem c_X8i {i : Nat} (hd : 4 ≤ d) (hi : i < nx) : mm_Con G l yX8_init cX8_init 1 none d 0 0 [.ref i] nx h (mm_ret none nx h) := by
  refine mm_start (lo := [some (.ref i)]) pn_X8 rfl rfl (Nat.le_of_ble_eq_true rfl) ?_
  refine mt_aload_n (pc := 0) dX8_init_0 rfl ?_
  refine mt_objI (pc := 1) ol_X8 dX8_init_1 (by show 1 ≤ d; omega) (Nat.le_of_ble_eq_true rfl) ?_
  exact mt_vret rfl dX8_init_4 (Nat.le_of_ble_eq_true rfl) (Nat.le_of_ble_eq_true rfl) ⟨rfl, rfl, rfl⟩
end CCA
