/-! The law's switch, its loop, its body. -/
section LLP
variable {G : mm_G} {l : Launch} {L : Nat} {xs : Nat → Int32} {i kc ks : Nat} {h : Nat → mm_E}
theorem law_switch {x : Int32} (hl : l.stackTraces = false) (hS : SCX G L xs) (hL : L ≤ 4608) (hi : i + 9 ≤ L) (hr : kc + 8 ≤ 601024 ∧ ks + 48 ≤ 7293034) (hnc : va_Nc (mm_exc 1) (mm_exc 0) (mm_s0 G)) (hIV : IV h) (kk : ∀ h' kc' ks', IV h' → kc' ≤ kc + 8 → ks' ≤ ks + 48 → mm_T (ML G l) RL cL_law_ 216 h' kc' ks' 2630 (LO i none none none) []) : mm_T (ML G l) RL cL_law_ 216 h kc ks 40 (LO i none none none) [.int x] := by
  obtain ⟨g, A, b, sz, fp, ic, rs, ne, ia, k, cs, bk, pg, im, hI⟩ := id hIV
  by_cases e0 : x = nI 0
  · rw [e0]
    exact mt_tableIn (pc := 40) (off := 176) (tgt := 216) dL_law__40 (by decide) (by decide) (by first | rfl | decide) rfl (lq_feed hS hL hi hr hI kk)
  by_cases e1 : x = nI 1
  · rw [e1]
    exact mt_tableIn (pc := 40) (off := 249) (tgt := 289) dL_law__40 (by decide) (by decide) (by first | rfl | decide) rfl (lq_county hl hS hL hi hr hnc hI kk)
  by_cases e2 : x = nI 2
  · rw [e2]
    exact mt_tableIn (pc := 40) (off := 305) (tgt := 345) dL_law__40 (by decide) (by decide) (by first | rfl | decide) rfl (lq_law hl hS hL hi hr hnc hI kk)
  by_cases e3 : x = nI 3
  · rw [e3]
    exact mt_tableIn (pc := 40) (off := 361) (tgt := 401) dL_law__40 (by decide) (by decide) (by first | rfl | decide) rfl (lq_work hl hS hL hi hr hnc hI kk)
  by_cases e4 : x = nI 4
  · rw [e4]
    exact mt_tableIn (pc := 40) (off := 417) (tgt := 457) dL_law__40 (by decide) (by decide) (by first | rfl | decide) rfl (lq_book hl hS hL hi hr hnc hI kk)
  by_cases e5 : x = nI 5
  · rw [e5]
    exact mt_tableIn (pc := 40) (off := 473) (tgt := 513) dL_law__40 (by decide) (by decide) (by first | rfl | decide) rfl (lq_fault hS hL hi hr hI kk)
  by_cases e6 : x = nI 6
  · rw [e6]
    exact mt_tableIn (pc := 40) (off := 486) (tgt := 526) dL_law__40 (by decide) (by decide) (by first | rfl | decide) rfl (lq_undo hS hL hi hr hI kk)
  by_cases e7 : x = nI 7
  · rw [e7]
    exact mt_tableIn (pc := 40) (off := 499) (tgt := 539) dL_law__40 (by decide) (by decide) (by first | rfl | decide) rfl (lq_told hl hS hL hi hr hnc hI kk)
  by_cases e8 : x = nI 8
  · rw [e8]
    exact mt_tableIn (pc := 40) (off := 555) (tgt := 595) dL_law__40 (by decide) (by decide) (by first | rfl | decide) rfl (lq_slab hl hS hL hi hr hnc hI kk)
  by_cases e9 : x = nI 9
  · rw [e9]
    exact mt_tableIn (pc := 40) (off := 623) (tgt := 663) dL_law__40 (by decide) (by decide) (by first | rfl | decide) rfl (lq_soul hl hS hL hi hr hnc hI kk)
  by_cases e10 : x = nI 10
  · rw [e10]
    exact mt_tableIn (pc := 40) (off := 691) (tgt := 731) dL_law__40 (by decide) (by decide) (by first | rfl | decide) rfl (lq_loan hl hS hL hi hr hnc hI kk)
  by_cases e11 : x = nI 11
  · rw [e11]
    exact mt_tableIn (pc := 40) (off := 759) (tgt := 799) dL_law__40 (by decide) (by decide) (by first | rfl | decide) rfl (lq_would hl hS hL hi hr hnc hI kk)
  by_cases e12 : x = nI 12
  · rw [e12]
    exact mt_tableIn (pc := 40) (off := 905) (tgt := 945) dL_law__40 (by decide) (by decide) (by first | rfl | decide) rfl (lq_lends hl hS hL hi hr hnc hI kk)
  by_cases e13 : x = nI 13
  · rw [e13]
    exact mt_tableIn (pc := 40) (off := 992) (tgt := 1032) dL_law__40 (by decide) (by decide) (by first | rfl | decide) rfl (lq_ahead hl hS hL hi hr hnc hI kk)
  by_cases e14 : x = nI 14
  · rw [e14]
    exact mt_tableIn (pc := 40) (off := 1060) (tgt := 1100) dL_law__40 (by decide) (by decide) (by first | rfl | decide) rfl (lq_cheapest hl hS hL hi hr hnc hI kk)
  by_cases e15 : x = nI 15
  · rw [e15]
    exact mt_tableIn (pc := 40) (off := 1152) (tgt := 1192) dL_law__40 (by decide) (by decide) (by first | rfl | decide) rfl (lq_clears hl hS hL hi hr hnc hI kk)
  by_cases e16 : x = nI 16
  · rw [e16]
    exact mt_tableIn (pc := 40) (off := 1208) (tgt := 1248) dL_law__40 (by decide) (by decide) (by first | rfl | decide) rfl (lq_comes hl hS hL hi hr hnc hI kk)
  by_cases e17 : x = nI 17
  · rw [e17]
    exact mt_tableIn (pc := 40) (off := 1264) (tgt := 1304) dL_law__40 (by decide) (by decide) (by first | rfl | decide) rfl (lq_serves hl hS hL hi hr hnc hI kk)
  by_cases e18 : x = nI 18
  · rw [e18]
    exact mt_tableIn (pc := 40) (off := 1320) (tgt := 1360) dL_law__40 (by decide) (by decide) (by first | rfl | decide) rfl (lq_served hl hS hL hi hr hnc hI kk)
  by_cases e19 : x = nI 19
  · rw [e19]
    exact mt_tableIn (pc := 40) (off := 1376) (tgt := 1416) dL_law__40 (by decide) (by decide) (by first | rfl | decide) rfl (lq_call hl hS hL hi hr hnc hI kk)
  by_cases e20 : x = nI 20
  · rw [e20]
    exact mt_tableIn (pc := 40) (off := 1432) (tgt := 1472) dL_law__40 (by decide) (by decide) (by first | rfl | decide) rfl (lq_run hl hS hL hi hr hnc hI kk)
  by_cases e21 : x = nI 21
  · rw [e21]
    exact mt_tableIn (pc := 40) (off := 1500) (tgt := 1540) dL_law__40 (by decide) (by decide) (by first | rfl | decide) rfl (lq_all hl hS hL hi hr hnc hI kk)
  by_cases e22 : x = nI 22
  · rw [e22]
    exact mt_tableIn (pc := 40) (off := 1591) (tgt := 1631) dL_law__40 (by decide) (by decide) (by first | rfl | decide) rfl (lq_saint hl hS hL hi hr hnc hI kk)
  by_cases e23 : x = nI 23
  · rw [e23]
    exact mt_tableIn (pc := 40) (off := 1671) (tgt := 1711) dL_law__40 (by decide) (by decide) (by first | rfl | decide) rfl (lq_candles hl hS hL hi hr hnc hI kk)
  by_cases e24 : x = nI 24
  · rw [e24]
    exact mt_tableIn (pc := 40) (off := 1751) (tgt := 1791) dL_law__40 (by decide) (by decide) (by first | rfl | decide) rfl (lq_richest hl hS hL hi hr hnc hI kk)
  by_cases e25 : x = nI 25
  · rw [e25]
    exact mt_tableIn (pc := 40) (off := 1807) (tgt := 1847) dL_law__40 (by decide) (by decide) (by first | rfl | decide) rfl (lq_next hl hS hL hi hr hnc hI kk)
  by_cases e26 : x = nI 26
  · rw [e26]
    exact mt_tableIn (pc := 40) (off := 1863) (tgt := 1903) dL_law__40 (by decide) (by decide) (by first | rfl | decide) rfl (lq_shut hS hL hi hr hI kk)
  by_cases e27 : x = nI 27
  · rw [e27]
    exact mt_tableIn (pc := 40) (off := 1876) (tgt := 1916) dL_law__40 (by decide) (by decide) (by first | rfl | decide) rfl (lq_kind hl hS hL hi hr hnc hI kk)
  by_cases e28 : x = nI 28
  · rw [e28]
    exact mt_tableIn (pc := 40) (off := 1944) (tgt := 1984) dL_law__40 (by decide) (by decide) (by first | rfl | decide) rfl (lq_worth hl hS hL hi hr hnc hI kk)
  by_cases e29 : x = nI 29
  · rw [e29]
    exact mt_tableIn (pc := 40) (off := 2000) (tgt := 2040) dL_law__40 (by decide) (by decide) (by first | rfl | decide) rfl (lq_broke hl hS hL hi hr hnc hI kk)
  by_cases e30 : x = nI 30
  · rw [e30]
    exact mt_tableIn (pc := 40) (off := 2056) (tgt := 2096) dL_law__40 (by decide) (by decide) (by first | rfl | decide) rfl (lq_late hl hS hL hi hr hnc hI kk)
  by_cases e31 : x = nI 31
  · rw [e31]
    exact mt_tableIn (pc := 40) (off := 2124) (tgt := 2164) dL_law__40 (by decide) (by decide) (by first | rfl | decide) rfl (lq_trust hl hS hL hi hr hnc hI kk)
  by_cases e32 : x = nI 32
  · rw [e32]
    exact mt_tableIn (pc := 40) (off := 2192) (tgt := 2232) dL_law__40 (by decide) (by decide) (by first | rfl | decide) rfl (lq_deepest hl hS hL hi hr hnc hI kk)
  by_cases e33 : x = nI 33
  · rw [e33]
    exact mt_tableIn (pc := 40) (off := 2248) (tgt := 2288) dL_law__40 (by decide) (by decide) (by first | rfl | decide) rfl (lq_poorest hl hS hL hi hr hnc hI kk)
  by_cases e34 : x = nI 34
  · rw [e34]
    exact mt_tableIn (pc := 40) (off := 2304) (tgt := 2344) dL_law__40 (by decide) (by decide) (by first | rfl | decide) rfl (lq_winter hl hS hL hi hr hnc hI kk)
  by_cases e35 : x = nI 35
  · rw [e35]
    exact mt_tableIn (pc := 40) (off := 2396) (tgt := 2436) dL_law__40 (by decide) (by decide) (by first | rfl | decide) rfl (lq_span hl hS hL hi hr hnc hI kk)
  by_cases e36 : x = nI 36
  · rw [e36]
    exact mt_tableIn (pc := 40) (off := 2514) (tgt := 2554) dL_law__40 (by decide) (by decide) (by first | rfl | decide) rfl (lq_image hS hL hi hr hI kk)
  by_cases e37 : x = nI 37
  · rw [e37]
    exact mt_tableIn (pc := 40) (off := 2527) (tgt := 2567) dL_law__40 (by decide) (by decide) (by first | rfl | decide) rfl (lq_restore hS hL hi hr hI kk)
  by_cases e38 : x = nI 38
  · rw [e38]
    exact mt_tableIn (pc := 40) (off := 2540) (tgt := 2580) dL_law__40 (by decide) (by decide) (by first | rfl | decide) rfl (lq_status hS hL hi hr hI kk)
  by_cases e39 : x = nI 39
  · rw [e39]
    exact mt_tableIn (pc := 40) (off := 2565) (tgt := 2605) dL_law__40 (by decide) (by decide) (by first | rfl | decide) rfl (lq_count hS hL hi hr hI kk)
  refine mt_tableOut (pc := 40) (tgt := 2630) dL_law__40 ?_ rfl (kk _ _ _ hIV (by omega) (by omega))
  by_cases h0 : x < 0
  · exact Or.inl (Int32.lt_iff_toInt_lt.mp h0)
  · obtain ⟨j, hj, rfl⟩ := nI_of h0
    refine Or.inr ?_
    rw [nI_toInt hj]
    by_cases h40 : j < 40
    · exfalso
      have hh : j = 0 ∨ j = 1 ∨ j = 2 ∨ j = 3 ∨ j = 4 ∨ j = 5 ∨ j = 6 ∨ j = 7 ∨ j = 8 ∨ j = 9 ∨ j = 10 ∨ j = 11 ∨ j = 12 ∨ j = 13 ∨ j = 14 ∨ j = 15 ∨ j = 16 ∨ j = 17 ∨ j = 18 ∨ j = 19 ∨ j = 20 ∨ j = 21 ∨ j = 22 ∨ j = 23 ∨ j = 24 ∨ j = 25 ∨ j = 26 ∨ j = 27 ∨ j = 28 ∨ j = 29 ∨ j = 30 ∨ j = 31 ∨ j = 32 ∨ j = 33 ∨ j = 34 ∨ j = 35 ∨ j = 36 ∨ j = 37 ∨ j = 38 ∨ j = 39 := by omega
      rcases hh with rfl | rfl | rfl | rfl | rfl | rfl | rfl | rfl | rfl | rfl | rfl | rfl | rfl | rfl | rfl | rfl | rfl | rfl | rfl | rfl | rfl | rfl | rfl | rfl | rfl | rfl | rfl | rfl | rfl | rfl | rfl | rfl | rfl | rfl | rfl | rfl | rfl | rfl | rfl | rfl
      · exact e0 rfl
      · exact e1 rfl
      · exact e2 rfl
      · exact e3 rfl
      · exact e4 rfl
      · exact e5 rfl
      · exact e6 rfl
      · exact e7 rfl
      · exact e8 rfl
      · exact e9 rfl
      · exact e10 rfl
      · exact e11 rfl
      · exact e12 rfl
      · exact e13 rfl
      · exact e14 rfl
      · exact e15 rfl
      · exact e16 rfl
      · exact e17 rfl
      · exact e18 rfl
      · exact e19 rfl
      · exact e20 rfl
      · exact e21 rfl
      · exact e22 rfl
      · exact e23 rfl
      · exact e24 rfl
      · exact e25 rfl
      · exact e26 rfl
      · exact e27 rfl
      · exact e28 rfl
      · exact e29 rfl
      · exact e30 rfl
      · exact e31 rfl
      · exact e32 rfl
      · exact e33 rfl
      · exact e34 rfl
      · exact e35 rfl
      · exact e36 rfl
      · exact e37 rfl
      · exact e38 rfl
      · exact e39 rfl
    · show (39 : Int) < (j : Int)
      omega
theorem idx_gt {L i : Nat} (hL : L ≤ 4608) (hi : i ≤ 5000) : (nI L - 9 < nI i) ↔ L < i + 9 := by
  have e : (nI L - 9).toInt = (L : Int) - 9 := by
    rw [Int32.toInt_sub, nI_toInt (by omega), show (9 : Int32).toInt = 9 from rfl]
    exact Int.bmod_eq_of_le (by omega) (by omega)
  rw [Int32.lt_iff_toInt_lt, e, nI_toInt (by omega)]
  omega
theorem law_loop (hl : l.stackTraces = false) (hS : SCX G L xs) (hL : L ≤ 4608) (hnc : va_Nc (mm_exc 1) (mm_exc 0) (mm_s0 G)) : ∀ (r i kc ks : Nat) (h : Nat → mm_E), IV h → L ≤ i + 9 * r + 8 → i ≤ 4617 → kc + 8 * r ≤ 601024 → ks + 48 * r ≤ 7293034 → mm_T (ML G l) RL cL_law_ 216 h kc ks 23 (LO i none none none) [] := by
  intro r
  induction r with
  | zero =>
    intro i kc ks h hIV h1 h2 h3 h4
    refine mt_iload (pc := 23) dL_law__23 rfl ?_
    refine mt_aload_n (pc := 25) dL_law__25 rfl ?_
    refine mt_slen (pc := 26) hS dL_law__26 ?_
    refine mt_bipush (pc := 27) (v := 9) dL_law__27 (by decide) ?_
    refine mt_isub (pc := 29) dL_law__29 ?_
    refine mt_icmp_gt (pc := 30) (tgt := 2636) dL_law__30 rfl (fun _ => ?_) (fun hz => absurd ((idx_gt hL (by omega)).mpr (by omega)) hz)
    refine mt_iconst (pc := 2636) (v := 1) dL_law__2636 (by decide) ?_
    exact mt_zret (pc := 2637) rfl (Or.inr rfl) dL_law__2637 (by show kc ≤ 601024; omega) (by show ks ≤ 7293034; omega) rfl
  | succ r ih =>
    intro i kc ks h hIV h1 h2 h3 h4
    refine mt_iload (pc := 23) dL_law__23 rfl ?_
    refine mt_aload_n (pc := 25) dL_law__25 rfl ?_
    refine mt_slen (pc := 26) hS dL_law__26 ?_
    refine mt_bipush (pc := 27) (v := 9) dL_law__27 (by decide) ?_
    refine mt_isub (pc := 29) dL_law__29 ?_
    refine mt_icmp_gt (pc := 30) (tgt := 2636) dL_law__30 rfl (fun _ => ?_) (fun hz => ?_)
    · refine mt_iconst (pc := 2636) (v := 1) dL_law__2636 (by decide) ?_
      exact mt_zret (pc := 2637) rfl (Or.inr rfl) dL_law__2637 (by show kc ≤ 601024; omega) (by show ks ≤ 7293034; omega) rfl
    · have hi : i + 9 ≤ L := Nat.le_of_not_lt fun q => hz ((idx_gt hL (by omega)).mpr q)
      refine mt_aload_n (pc := 33) dL_law__33 rfl ?_
      refine mt_iload (pc := 34) dL_law__34 rfl ?_
      refine mt_sald (pc := 36) hS (nI_in (by omega) (by omega)) dL_law__36 ?_
      refine mt_bipush (pc := 37) (v := 63) dL_law__37 (by decide) ?_
      refine mt_iand (pc := 39) dL_law__39 ?_
      refine law_switch hl hS hL hi ⟨by omega, by omega⟩ hnc hIV (fun h' kc' ks' hIV' q1 q2 => ?_)
      refine mt_iinc (pc := 2630) (c9 := nI 9) dL_law__2630 rfl (by decide) (Nat.le_of_ble_eq_true rfl) rfl ?_
      rw [nI_add]
      refine mt_goto (pc := 2633) (tgt := 23) dL_law__2633 rfl ?_
      exact ih (i + 9) kc' ks' h' hIV' (by omega) (by omega) (by omega) (by omega)
theorem mm_vw_ext {nx j : Nat} (h : 1000000 ≤ j) : mm_vw nx (.ref j) := fun ad ad' _ h2 => by simp [mm_rv, h2 j h]
theorem vw_none {nx : Nat} : ∀ v ∈ ([] : List Value), mm_vw nx v := fun v hv => absurd hv List.not_mem_nil
/-- the law, from its entry: class, reference, out, then the loop -/
theorem law_body (hl : l.stackTraces = false) (hS : SCX G L xs) (hL : L ≤ 4608) (hnc : va_Nc (mm_exc 1) (mm_exc 0) (mm_s0 G)) (hao3 : va_AO "CryptBank$State" (mm_s0 G)) (hao4 : va_AO "CryptBank$Page" (mm_s0 G)) : mm_T (ML G l) RL cL_law_ 0 h 0 0 0 [some (.ref 1004000), none, none, none, none, none, none, none] [] := by
  have hw0 : mm_wf 0 h := fun i hi => absurd hi (Nat.not_lt_zero i)
  have v0 : ∀ nx, mm_vw nx (.ref 1004000) := fun nx => mm_vw_ext (by decide)
  refine mt_new (pc := 0) nf_L_8 dL_law__0 (by decide) hw0 vw_none ?_ (Nat.le_of_ble_eq_true rfl) (Nat.le_of_ble_eq_true rfl) ?_
  · intro v hv
    simp only [List.mem_cons, Option.some.injEq, List.not_mem_nil, or_false, reduceCtorEq, false_or] at hv
    subst hv
    exact v0 _
  refine mt_dup (pc := 3) dL_law__3 rfl ?_
  have hw1 := mm_wf_push (e := .inr (10, [.null, .null, .null, .null, .null, .null, .null, .null, .null, .null, .null, .null, .null, .null, .null, .int 0, .int 0, .int 0, .int 0])) hw0 (mm_ew_obj (by
    intro v hv
    simp only [List.mem_cons, List.not_mem_nil, or_false] at hv
    rcases hv with rfl | rfl | rfl | rfl | rfl | rfl | rfl | rfl | rfl | rfl | rfl | rfl | rfl | rfl | rfl | rfl | rfl | rfl | rfl <;> first | exact mm_vw_null _ | exact mm_vw_int _ _))
  refine mt_callI (pc := 4) (st := [.ref 0]) (c_X10i (d := 50) (Nat.le_of_ble_eq_true rfl) hao3 hao4 (hset_eq _ _ _) hw1) cal_X10_init rfl ii_X10 ml_L_117 dL_law__4 (Nat.le_of_ble_eq_true rfl) ⟨Nat.le_of_ble_eq_true rfl, Nat.le_of_ble_eq_true rfl⟩ rfl rfl (Nat.le_of_ble_eq_true rfl) (fun x n m hp => by cases hp.1) ?_ ?_ ?_
  · intro v hv
    simp only [List.mem_cons, Option.some.injEq, List.not_mem_nil, or_false, reduceCtorEq, false_or] at hv
    subst hv
    exact v0 _
  · intro v hv
    cases List.mem_singleton.mp hv
    exact mm_vw_ref (by decide)
  rintro o n m ⟨e1, rfl, hw2, hC⟩
  cases e1
  refine mt_astore_n (pc := 7) (x := 0) dL_law__7 (Nat.le_of_ble_eq_true rfl) rfl ?_
  have hlo : ∀ nx, 1 ≤ nx → ∀ v, some v ∈ ([some (.ref 1004000), some (.ref 0), none, none, none, none, none, none] : List (Option Value)) → mm_vw nx v := by
    intro nx hn v hv
    simp only [List.mem_cons, Option.some.injEq, List.not_mem_nil, or_false, reduceCtorEq, false_or] at hv
    rcases hv with rfl | rfl
    · exact v0 _
    · exact mm_vw_ref hn
  refine mt_new (pc := 8) nf_L_118 dL_law__8 (by decide) hw2 vw_none (hlo 188 (by decide)) (Nat.le_of_ble_eq_true rfl) (Nat.le_of_ble_eq_true rfl) ?_
  refine mt_dup (pc := 11) dL_law__11 rfl ?_
  have hw3 := mm_wf_push (e := .inr (11, [.int 0, .null, .int 0, .int 0, .int 0, .int 0, .int 0, .int 0, .int 0, .null, .null, .null, .null, .null, .null, .null, .int 0, .int 0, .int 0, .int 0, .null, .null, .null, .null, .null, .int 0, .int 0, .null, .null, .null, .int 0, .int 0, .int 0, .int 0, .int 0, .int 0, .null, .null, .null, .null, .null, .int 0, .null, .null, .null, .int 0, .int 0, .null, .int 0, .null, .int 0])) hw2 (mm_ew_obj (by
    intro v hv
    simp only [List.mem_cons, List.not_mem_nil, or_false] at hv
    rcases hv with rfl | rfl | rfl | rfl | rfl | rfl | rfl | rfl | rfl | rfl | rfl | rfl | rfl | rfl | rfl | rfl | rfl | rfl | rfl | rfl | rfl | rfl | rfl | rfl | rfl | rfl | rfl | rfl | rfl | rfl | rfl | rfl | rfl | rfl | rfl | rfl | rfl | rfl | rfl | rfl | rfl | rfl | rfl | rfl | rfl | rfl | rfl | rfl | rfl | rfl | rfl <;> first | exact mm_vw_null _ | exact mm_vw_int _ _))
  refine mt_callI (pc := 12) (st := [.ref 188]) (c_X11i (d := 50) (Nat.le_of_ble_eq_true rfl) (hset_eq _ _ _) hw3) cal_X11_init rfl ii_X11 ml_L_120 dL_law__12 (Nat.le_of_ble_eq_true rfl) ⟨Nat.le_of_ble_eq_true rfl, Nat.le_of_ble_eq_true rfl⟩ rfl rfl (Nat.le_of_ble_eq_true rfl) (fun x n m hp => by cases hp.1) (hlo 189 (by decide)) ?_ ?_
  · intro v hv
    cases List.mem_singleton.mp hv
    exact mm_vw_ref (by decide)
  rintro o n m2 ⟨e1, rfl, hw4, W, f, rfl, hf, hlow, h213⟩
  cases e1
  refine mt_astore_n (pc := 15) (x := 188) dL_law__15 (Nat.le_of_ble_eq_true rfl) rfl ?_
  refine mt_iconst (pc := 16) (v := 1) dL_law__16 (by decide) ?_
  refine mt_newal (pc := 17) (N := 1) ac_long dL_law__17 (by decide) (by decide) (by decide) (by decide) hw4 vw_none ?_ (Nat.le_of_ble_eq_true rfl) (Nat.le_of_ble_eq_true rfl) ?_
  · intro v hv
    simp only [List.set, List.mem_cons, Option.some.injEq, List.not_mem_nil, or_false, reduceCtorEq, false_or] at hv
    rcases hv with rfl | rfl | rfl
    · exact v0 _
    · exact mm_vw_ref (by decide)
    · exact mm_vw_ref (by decide)
  refine mt_astore_n (pc := 19) (x := 215) dL_law__19 (Nat.le_of_ble_eq_true rfl) rfl ?_
  refine mt_iconst (pc := 20) (v := nI 0) dL_law__20 (by decide) ?_
  refine mt_istore (pc := 21) (x := nI 0) dL_law__21 (Nat.le_of_ble_eq_true rfl) rfl ?_
  refine law_loop hl hS hL hnc 512 0 _ _ _ ?_ (by omega) (by omega) (Nat.le_of_ble_eq_true rfl) (Nat.le_of_ble_eq_true rfl)
  have hW : ∀ j, j < 188 → W j = m j := fun j hj => (hlow j hj).trans (hset_ne (by omega))
  have e215 : hset (mos W (setG (upd (upd (upd (fun _ => 0) 8 (-1)) 16 0) 17 0) 0 0) (updR (setA (fun _ _ => 0)) 205 f)) 215 (.inl (2, 1, .inr (.inl (fun _ => 0)))) = mos (hset W 215 (ouE (fun _ => 0))) (setG (upd (upd (upd (fun _ => 0) 8 (-1)) 16 0) 17 0) 0 0) (updR (setA (fun _ _ => 0)) 205 f) := by
    funext j
    by_cases hj : j = 215
    · subst hj
      rw [hset_eq, mos_n (by decide) (by decide), hset_eq]
      rfl
    · rw [hset_ne hj]
      unfold mos
      rw [hset_ne hj]
  rw [e215]
  exact IV_mk (CW_lo hC (fun j hj => (hset_ne (by omega)).trans (hW j hj))) (MV_00 hf ((hset_ne (by decide)).trans h213)) (hset_eq _ _ _)
end LLP
