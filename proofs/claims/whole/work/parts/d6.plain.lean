/-! The calls that never throw. -/
section LPL
variable {G : mm_G} {l : Launch} {L : Nat} {xs : Nat → Int32} {i kc ks : Nat} {h : Nat → mm_E} {g : MG} {A : MA} {b : Nat → Int32} {sz : Nat} {fp : Int32} {ic : Nat} {rs ne ia : Int32} {k : CS} {cs : List Nat} {bk : BS} {pg : PGS} {im : Nat → PGS}
/-- class and reference answer v; the class is left as it was -/
theorem p_ret {y : MethodName} {c : ByteArray} {nL : Nat} {rt : Option FieldType} {av : List Value} {v : Int32} {g' : MG} (hI : IVs h g A b sz fp ic rs ne ia k cs bk pg im) (hm : mm_Con G l y c nL rt 50 0 0 av 216 (mos h g A) (mm_ret (some (.int v)) 216 (mos h g' A))) (hM : MV h g' A b sz fp ic rs ne ia k cs bk pg im) :
    ∀ o n m, mm_ret (some (.int v)) 216 h o n m → ∃ v g A, o = .inl (some (.int v)) ∧ n = 216 ∧ m = mos m g A ∧ mm_Con G l y c nL rt 50 0 0 av 216 (mos m g A) (PE v) := by
  obtain ⟨hh, hC, -, F, hF⟩ := hI
  rintro o n m ⟨rfl, rfl, rfl⟩
  refine ⟨v, g, A, rfl, rfl, hh, con_imp hm ?_⟩
  rintro o2 n2 m2 ⟨rfl, rfl, rfl⟩
  exact ⟨rfl, rfl, IV_mk hC hM hF⟩
/-- the class is changed, the cells of the reference stay; then the reference is changed -/
theorem p_chg {y : MethodName} {c : ByteArray} {nL : Nat} {rt : Option FieldType} {av : List Value} {v : Int32} {g' : MG} {A' : MA} {b' : Nat → Int32} {sz' : Nat} {fp' : Int32} {ic' : Nat} {rs' ne' ia' : Int32} {k' : CS} {cs' : List Nat} {bk' : BS} {pg' : PGS} {im' : Nat → PGS} {Po : mm_P} (hI : IVs h g A b sz fp ic rs ne ia k cs bk pg im) (hP : ∀ o n m, Po o n m → o = .inl (some (.int v)) ∧ n = 216 ∧ FX h m ∧ CW m b' sz' fp' ic' rs' ne' ia' k' cs' bk' pg' im') (hm : ∀ m, mm_Con G l y c nL rt 50 0 0 av 216 (mos m g A) (mm_ret (some (.int v)) 216 (mos m g' A'))) (hM : MV h g' A' b' sz' fp' ic' rs' ne' ia' k' cs' bk' pg' im') :
    ∀ o n m, Po o n m → ∃ v g A, o = .inl (some (.int v)) ∧ n = 216 ∧ m = mos m g A ∧ mm_Con G l y c nL rt 50 0 0 av 216 (mos m g A) (PE v) := by
  obtain ⟨hh, -, -, F, hF⟩ := hI
  intro o n m hp
  obtain ⟨rfl, rfl, hX, hC⟩ := hP o n m hp
  refine ⟨v, g, A, rfl, rfl, mos_same hh (fun j h1 h2 => hX j h1), con_imp (hm m) ?_⟩
  rintro o2 n2 m2 ⟨rfl, rfl, rfl⟩
  exact ⟨rfl, rfl, IV_mk hC (hM.w (hX 213 (by decide))) ((hX 215 (by decide)).trans hF)⟩
theorem lq_feed (hS : SCX G L xs) (hL : L ≤ 4608) (hi : i + 9 ≤ L) (hr : kc + 8 ≤ 601024 ∧ ks + 48 ≤ 7293034) (hI : IVs h g A b sz fp ic rs ne ia k cs bk pg im) (kk : ∀ h' kc' ks', IV h' → kc' ≤ kc + 8 → ks' ≤ ks + 48 → mm_T (ML G l) RL cL_law_ 216 h' kc' ks' 2630 (LO i none none none) []) : mm_T (ML G l) RL cL_law_ 216 h kc ks 216 (LO i none none none) [] := by
  obtain ⟨en, pl, st, fk, hT⟩ := hI.cw.2.2.2.2.2.2.2.2.1
  have hB : h 2 = byE b := hI.cw.2.2.2.2.2.2.2.2.2.1
  by_cases hs : 600 < sz + 20
  · exact ld_feed hS hL hi hr hI.cw.1 (c_feedN (Nat.le_of_ble_eq_true rfl) (Nat.le_of_ble_eq_true rfl) hI.cw.1 hI.sq hs hT hB) (p_ret hI (n_feedN (Nat.le_of_ble_eq_true rfl) hI.g2 hI.sq hs) hI.mv.c0) kk
  · have hs2 : sz + 20 ≤ 600 := by omega
    refine ld_feed hS hL hi hr hI.cw.1 (c_feedY (Nat.le_of_ble_eq_true rfl) (Nat.le_of_ble_eq_true rfl) hI.cw.1 hs2 hT hB) (p_chg hI ?_ (fun m => n_feedY (h := m) (Nat.le_of_ble_eq_true rfl) hI.g2 hs2) hI.mv.feed) kk
    rintro o n m ⟨rfl, rfl, rfl⟩
    have e : ∀ j, j ≠ 1 → j ≠ 2 → (hset (hset h 2 (byE (fdB b sz (xs5 (xs (i + 1)) (xs (i + 2)) (xs (i + 3)) (xs (i + 4)) (xs (i + 5))) 20))) 1 (tpE (nI (sz + 20)) en pl st fk fp)) j = h j := fun j h1 h2 => (hset_ne h1).trans (hset_ne h2)
    exact ⟨rfl, rfl, fun j hj => e j (by omega) (by omega), hI.cw.c1 ((hset_ne (by decide)).trans (hset_eq _ _ _)) (hset_eq _ _ _) e hs2 (fdB_BY hI.yy)⟩
theorem lq_fault (hS : SCX G L xs) (hL : L ≤ 4608) (hi : i + 9 ≤ L) (hr : kc + 8 ≤ 601024 ∧ ks + 48 ≤ 7293034) (hI : IVs h g A b sz fp ic rs ne ia k cs bk pg im) (kk : ∀ h' kc' ks', IV h' → kc' ≤ kc + 8 → ks' ≤ ks + 48 → mm_T (ML G l) RL cL_law_ 216 h' kc' ks' 2630 (LO i none none none) []) : mm_T (ML G l) RL cL_law_ 216 h kc ks 513 (LO i none none none) [] := by
  obtain ⟨en, pl, st, fk, hT⟩ := hI.cw.2.2.2.2.2.2.2.2.1
  refine ld_fault hS hL hi hr hI.cw.1 (c_fault (Nat.le_of_ble_eq_true rfl) hI.cw.1 hT) (p_ret hI ?_ (hI.mv.c0 (z := 0))) kk
  have q := n_fault (G := G) (l := l) (d := 50) (nx := 216) (h := h) (g := g) (A := A) (Nat.le_of_ble_eq_true rfl)
  rw [hI.mv.2.2.1] at q
  exact q
theorem lq_undo (hS : SCX G L xs) (hL : L ≤ 4608) (hi : i + 9 ≤ L) (hr : kc + 8 ≤ 601024 ∧ ks + 48 ≤ 7293034) (hI : IVs h g A b sz fp ic rs ne ia k cs bk pg im) (kk : ∀ h' kc' ks', IV h' → kc' ≤ kc + 8 → ks' ≤ ks + 48 → mm_T (ML G l) RL cL_law_ 216 h' kc' ks' 2630 (LO i none none none) []) : mm_T (ML G l) RL cL_law_ 216 h kc ks 526 (LO i none none none) [] := by
  by_cases hw : pg.1 = 0
  · exact ld_undo hS hL hi hr hI.cw.1 (c_undo0 (Nat.le_of_ble_eq_true rfl) (Nat.le_of_ble_eq_true rfl) hI.cw hw) (p_ret hI (n_undo0 (Nat.le_of_ble_eq_true rfl) (by rw [hI.pq.2.1, hw]; rfl)) hI.mv.c0) kk
  · have hw2 : 0 < pg.1 := by omega
    exact ld_undo hS hL hi hr hI.cw.1 (c_undo (Nat.le_of_ble_eq_true rfl) (Nat.le_of_ble_eq_true rfl) hI.cw hw2 (hI.pq.2.2.2 (pg.1 - 1) (by omega)).2.1.1) (p_chg hI (fun o n m hp => hp) (fun m => n_undo (h := m) (Nat.le_of_ble_eq_true rfl) hI.pq.2.1 hw2 hI.pq.2.2.1) (hI.mv.undo hw2)) kk
theorem lq_image (hS : SCX G L xs) (hL : L ≤ 4608) (hi : i + 9 ≤ L) (hr : kc + 8 ≤ 601024 ∧ ks + 48 ≤ 7293034) (hI : IVs h g A b sz fp ic rs ne ia k cs bk pg im) (kk : ∀ h' kc' ks', IV h' → kc' ≤ kc + 8 → ks' ≤ ks + 48 → mm_T (ML G l) RL cL_law_ 216 h' kc' ks' 2630 (LO i none none none) []) : mm_T (ML G l) RL cL_law_ 216 h kc ks 2554 (LO i none none none) [] := by
  have h50 : g 50 = nI ic := hI.mv.2.2.2.2.2.2.2.2.2.2.1
  have hi3 : ic ≤ 3 := hI.cw.2.2.2.2.2.2.2.2.2.2.2.2.2.2.2.1
  by_cases hw : ic = 3
  · exact ld_image hS hL hi hr hI.cw.1 (c_image3 (Nat.le_of_ble_eq_true rfl) hI.cw hw) (p_ret hI (n_image3 (Nat.le_of_ble_eq_true rfl) (by rw [h50, hw]; rfl)) hI.mv.c0) kk
  · have hw2 : ic < 3 := by omega
    exact ld_image hS hL hi hr hI.cw.1 (c_image (Nat.le_of_ble_eq_true rfl) (Nat.le_of_ble_eq_true rfl) hI.cw hw2) (p_chg hI (fun o n m hp => hp) (fun m => n_image (h := m) (Nat.le_of_ble_eq_true rfl) (Nat.le_of_ble_eq_true rfl) h50 hw2) (hI.mv.image hw2)) kk
theorem lq_restore (hS : SCX G L xs) (hL : L ≤ 4608) (hi : i + 9 ≤ L) (hr : kc + 8 ≤ 601024 ∧ ks + 48 ≤ 7293034) (hI : IVs h g A b sz fp ic rs ne ia k cs bk pg im) (kk : ∀ h' kc' ks', IV h' → kc' ≤ kc + 8 → ks' ≤ ks + 48 → mm_T (ML G l) RL cL_law_ 216 h' kc' ks' 2630 (LO i none none none) []) : mm_T (ML G l) RL cL_law_ 216 h kc ks 2567 (LO i none none none) [] := by
  have h50 : g 50 = nI ic := hI.mv.2.2.2.2.2.2.2.2.2.2.1
  have hi3 : ic ≤ 3 := hI.cw.2.2.2.2.2.2.2.2.2.2.2.2.2.2.2.1
  by_cases hw : ic = 0
  · exact ld_restore hS hL hi hr hI.cw.1 (c_restore0 (Nat.le_of_ble_eq_true rfl) hI.cw hw) (p_ret hI (n_restore0 (Nat.le_of_ble_eq_true rfl) (by rw [h50, hw]; rfl)) hI.mv.c0) kk
  · have hw2 : 0 < ic := by omega
    exact ld_restore hS hL hi hr hI.cw.1 (c_restore (Nat.le_of_ble_eq_true rfl) (Nat.le_of_ble_eq_true rfl) hI.cw hw2 (hI.mv.2.2.2.2.2.2.2.2.2.2.2.1 (ic - 1) (by omega)).1.2.1.1) (p_chg hI (fun o n m hp => hp) (fun m => n_restore (h := m) (Nat.le_of_ble_eq_true rfl) (Nat.le_of_ble_eq_true rfl) h50 hw2 hi3) (hI.mv.restore hw2)) kk
theorem lq_status (hS : SCX G L xs) (hL : L ≤ 4608) (hi : i + 9 ≤ L) (hr : kc + 8 ≤ 601024 ∧ ks + 48 ≤ 7293034) (hI : IVs h g A b sz fp ic rs ne ia k cs bk pg im) (kk : ∀ h' kc' ks', IV h' → kc' ≤ kc + 8 → ks' ≤ ks + 48 → mm_T (ML G l) RL cL_law_ 216 h' kc' ks' 2630 (LO i none none none) []) : mm_T (ML G l) RL cL_law_ 216 h kc ks 2580 (LO i none none none) [] := by
  refine ld_status hS hL hi hr hI.cw.1 (c_status (Nat.le_of_ble_eq_true rfl) hI.cw.q) (p_ret hI ?_ (hI.mv.c0 (z := 0))) kk
  have q := n_status (G := G) (l := l) (d := 50) (nx := 216) (h := h) (g := g) (A := A) (x := xs (i + 1)) (Nat.le_of_ble_eq_true rfl) (Nat.le_of_ble_eq_true rfl)
  rw [hI.mv.2.2.2.1, hI.mv.2.2.2.2.1] at q
  exact q
theorem lq_count (hS : SCX G L xs) (hL : L ≤ 4608) (hi : i + 9 ≤ L) (hr : kc + 8 ≤ 601024 ∧ ks + 48 ≤ 7293034) (hI : IVs h g A b sz fp ic rs ne ia k cs bk pg im) (kk : ∀ h' kc' ks', IV h' → kc' ≤ kc + 8 → ks' ≤ ks + 48 → mm_T (ML G l) RL cL_law_ 216 h' kc' ks' 2630 (LO i none none none) []) : mm_T (ML G l) RL cL_law_ 216 h kc ks 2605 (LO i none none none) [] := by
  obtain ⟨en, pl, st, fk, hT⟩ := hI.cw.2.2.2.2.2.2.2.2.1
  refine ld_count hS hL hi hr hI.cw.1 (c_count (Nat.le_of_ble_eq_true rfl) hI.cw.1 hT hI.cw.2.2.2.2.2.1) (p_ret hI ?_ (hI.mv.c0 (z := 0))) kk
  have q := n_count (G := G) (l := l) (d := 50) (nx := 216) (h := h) (g := g) (A := A) (x := xs (i + 1)) (Nat.le_of_ble_eq_true rfl)
  rw [hI.mv.2.2.2.2.2.2.2.2.2.2.1, hI.g2, hI.pq.2.1] at q
  exact q
theorem lq_shut (hS : SCX G L xs) (hL : L ≤ 4608) (hi : i + 9 ≤ L) (hr : kc + 8 ≤ 601024 ∧ ks + 48 ≤ 7293034) (hI : IVs h g A b sz fp ic rs ne ia k cs bk pg im) (kk : ∀ h' kc' ks', IV h' → kc' ≤ kc + 8 → ks' ≤ ks + 48 → mm_T (ML G l) RL cL_law_ 216 h' kc' ks' 2630 (LO i none none none) []) : mm_T (ML G l) RL cL_law_ 216 h kc ks 1903 (LO i none none none) [] := by
  refine ld_shut hS hL hi hr hI.cw.1 (c_shut (Nat.le_of_ble_eq_true rfl) (Nat.le_of_ble_eq_true rfl) hI.cw.q) ?_ kk
  obtain ⟨F, hF⟩ := hI.2.2.2
  rintro o n m ⟨rfl, rfl, rfl⟩
  refine ⟨_, g, A, rfl, rfl, hI.1, con_imp (n_shut (Nat.le_of_ble_eq_true rfl) (Nat.le_of_ble_eq_true rfl) hI.mq hI.rr hI.ri) ?_⟩
  rintro o2 n2 m2 ⟨rfl, rfl, g', A', rfl, hg, hA⟩
  exact ⟨rfl, rfl, IV_mk hI.cw (hI.mv.q hg hA rfl) hF⟩
end LPL
