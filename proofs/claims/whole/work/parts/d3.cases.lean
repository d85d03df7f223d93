/-! The cases of the law's switch. -/
def PE (v : Int32) : mm_P := fun o n m => o = .inl (some (.int v)) ∧ n = 216 ∧ IV m
section LCS
variable {G : mm_G} {l : Launch} {L : Nat} {xs : Nat → Int32} {i kc ks : Nat} {h : Nat → mm_E} {fs : List Value} {Po : mm_P}
theorem ld_feed (hS : SCX G L xs) (hL : L ≤ 4608) (hi : i + 9 ≤ L) (hr : kc + 8 ≤ 601024 ∧ ks + 48 ≤ 7293034) (h0 : h 0 = .inr (10, fs)) (hC : mm_Con G l yX10_feed cX10_feed 6 (some .int) 50 0 0 [.ref 0, .int (xs (i + 1)), .int (xs (i + 2)), .int (xs (i + 3)), .int (xs (i + 4)), .int (xs (i + 5))] 216 h Po) (hmid : ∀ o n m, Po o n m → ∃ v g A, o = .inl (some (.int v)) ∧ n = 216 ∧ m = mos m g A ∧ mm_Con G l yX11_feed cX11_feed 8 (some .int) 50 0 0 [.ref 188, .int (xs (i + 1)), .int (xs (i + 2)), .int (xs (i + 3)), .int (xs (i + 4)), .int (xs (i + 5))] 216 (mos m g A) (PE v)) (kk : ∀ h' kc' ks', IV h' → kc' ≤ kc + 8 → ks' ≤ ks + 48 → mm_T (ML G l) RL cL_law_ 216 h' kc' ks' 2630 (LO i none none none) []) : mm_T (ML G l) RL cL_law_ 216 h kc ks 216 (LO i none none none) [] := by
  have hr1 : kc + 0 ≤ 601024 ∧ ks + 0 ≤ 7293034 := ⟨by omega, by omega⟩
  refine mt_aload_n (pc := 216) dL_law__216 rfl ?_
  refine mt_sc (pc := 217) (kN := 1) hS (by omega) hL rfl rfl rfl dL_law__217 dL_law__218 dL_law__220 dL_law__221 dL_law__222 ?_
  refine mt_sc (pc := 223) (kN := 2) hS (by omega) hL rfl rfl rfl dL_law__223 dL_law__224 dL_law__226 dL_law__227 dL_law__228 ?_
  refine mt_sc (pc := 229) (kN := 3) hS (by omega) hL rfl rfl rfl dL_law__229 dL_law__230 dL_law__232 dL_law__233 dL_law__234 ?_
  refine mt_sc (pc := 235) (kN := 4) hS (by omega) hL rfl rfl rfl dL_law__235 dL_law__236 dL_law__238 dL_law__239 dL_law__240 ?_
  refine mt_sc (pc := 241) (kN := 5) hS (by omega) hL rfl rfl rfl dL_law__241 dL_law__242 dL_law__244 dL_law__245 dL_law__246 ?_
  refine mt_aV (pc := 247) hC cal_X10_feed vir_X10_feed ml_L_121 dL_law__247 (by decide) h0 (Nat.le_of_ble_eq_true rfl) hr1 rfl rfl (Nat.le_of_ble_eq_true rfl) (fun x n m hp => by obtain ⟨_, _, _, e, _⟩ := hmid _ _ _ hp; cases e) (fun o n m hp => ?_)
  obtain ⟨v, g, A, e, hn, hmos, hN⟩ := hmid _ _ _ hp
  cases e
  refine ⟨hn, ?_⟩
  refine mt_heq hmos ?_
  refine mt_aload_n (pc := 250) dL_law__250 rfl ?_
  refine mt_sc (pc := 251) (kN := 1) hS (by omega) hL rfl rfl rfl dL_law__251 dL_law__252 dL_law__254 dL_law__255 dL_law__256 ?_
  refine mt_sc (pc := 257) (kN := 2) hS (by omega) hL rfl rfl rfl dL_law__257 dL_law__258 dL_law__260 dL_law__261 dL_law__262 ?_
  refine mt_sc (pc := 263) (kN := 3) hS (by omega) hL rfl rfl rfl dL_law__263 dL_law__264 dL_law__266 dL_law__267 dL_law__268 ?_
  refine mt_sc (pc := 269) (kN := 4) hS (by omega) hL rfl rfl rfl dL_law__269 dL_law__270 dL_law__272 dL_law__273 dL_law__274 ?_
  refine mt_sc (pc := 275) (kN := 5) hS (by omega) hL rfl rfl rfl dL_law__275 dL_law__276 dL_law__278 dL_law__279 dL_law__280 ?_
  refine mt_aV (pc := 281) (st := [.int v]) hN cal_X11_feed vir_X11_feed ml_L_125 dL_law__281 (by decide) (mos_o m g A) (Nat.le_of_ble_eq_true rfl) hr1 rfl rfl (Nat.le_of_ble_eq_true rfl) (fun x n m hp => by cases hp.1) (fun o2 n2 m2 hp2 => ?_)
  obtain ⟨e2, hn2, hIV⟩ := hp2
  cases e2
  exact ⟨hn2, mt_icmp_eq (pc := 284) (tgt := 2630) dL_law__284 rfl (fun _ => kk _ _ _ hIV (by omega) (by omega)) (fun z => absurd rfl z)⟩
theorem lc_county (hS : SCX G L xs) (hL : L ≤ 4608) (hi : i + 9 ≤ L) (hr : kc + 8 ≤ 601024 ∧ ks + 48 ≤ 7293034) (hnc : va_Nc (mm_exc 1) (mm_exc 0) (mm_s0 G)) (h0 : h 0 = .inr (10, fs)) (hC : mm_Con G l yX10_county cX10_county 2 (some .int) 50 1 6 [.ref 0, .int (xs (i + 1))] 216 h Po) (hO : WO 216 Po) (hX : ∀ x n m, Po (.inr x) n m → x = 1) (hmid : ∀ o n m, P_w 1 cvI Po (.inl o) n m → n = 216 ∧ ∃ kk, o = some (.int kk) ∧ ∃ g A, m = mos m g A ∧ mm_Con G l yX11_county cX11_county 4 (some .int) 50 0 0 [.ref 188, .int (xs (i + 1))] 216 (mos m g A) (PQE kk cvI)) (kk : ∀ h' kc' ks', IV h' → kc' ≤ kc + 8 → ks' ≤ ks + 48 → mm_T (ML G l) RL cL_law_ 216 h' kc' ks' 2630 (LO i none none none) []) : mm_T (ML G l) RL cL_law_ 216 h kc ks 289 (LO i none none none) [] := by
  have hr1 : kc + 1 ≤ 601024 ∧ ks + 6 ≤ 7293034 := ⟨by omega, by omega⟩
  refine mt_aload_n (pc := 289) dL_law__289 rfl ?_
  refine mt_sc (pc := 290) (kN := 1) hS (by omega) hL rfl rfl rfl dL_law__290 dL_law__291 dL_law__293 dL_law__294 dL_law__295 ?_
  refine mt_aload_n (pc := 296) dL_law__296 rfl ?_
  refine mt_aSW (pc := 297) (w_county hC (Nat.le_refl _) h0 hnc hO hX) calW_L_county sta_L_county ml_L_126 dL_law__297 (Nat.le_of_ble_eq_true rfl) hr1 rfl rfl (Nat.le_of_ble_eq_true rfl) (fun x n m hp => (P_w_nox hp).elim) (fun o n m hp => ?_)
  obtain ⟨rfl, kk9, rfl, g, A, hmos, hN⟩ := hmid o n m hp
  refine ⟨rfl, ?_⟩
  refine mt_istore (pc := 300) (x := kk9) dL_law__300 (Nat.le_of_ble_eq_true rfl) rfl ?_
  refine mt_heq hmos ?_
  refine mt_aload_n (pc := 302) dL_law__302 rfl ?_
  refine mt_sc (pc := 303) (kN := 1) hS (by omega) hL rfl rfl rfl dL_law__303 dL_law__304 dL_law__306 dL_law__307 dL_law__308 ?_
  refine mt_aV (pc := 309) hN cal_X11_county vir_X11_county ml_L_131 dL_law__309 (by decide) (mos_o m g A) (Nat.le_of_ble_eq_true rfl) hr1 rfl rfl (Nat.le_of_ble_eq_true rfl) (fun x n m hp => by obtain ⟨_, e, _⟩ := hp; cases e) (fun o2 n2 m2 hp2 => ?_)
  obtain ⟨o3, e3, hn2, bb, W, g', A', F, rfl, rfl, hg, hF, hv, hIV⟩ := hp2
  cases e3
  refine ⟨hn2, ?_⟩
  exact lt_tail (pc := 312) (tgt := 2630) (by decide) (Nat.le_of_ble_eq_true rfl) hr1 rfl hg hF hv dL_law__312 dL_law__314 dL_law__315 dL_law__318 dL_law__320 dL_law__325 dL_law__327 dL_law__330 dL_law__331 dL_law__332 dL_law__333 dL_law__335 dL_law__336 dL_law__337 dL_law__342 rfl (kk _ _ _ hIV (by omega) (by omega)) rfl
theorem lc_law (hS : SCX G L xs) (hL : L ≤ 4608) (hi : i + 9 ≤ L) (hr : kc + 8 ≤ 601024 ∧ ks + 48 ≤ 7293034) (hnc : va_Nc (mm_exc 1) (mm_exc 0) (mm_s0 G)) (h0 : h 0 = .inr (10, fs)) (hC : mm_Con G l yX10_law cX10_law 2 (some .int) 50 1 6 [.ref 0, .int (xs (i + 1))] 216 h Po) (hO : WO 216 Po) (hX : ∀ x n m, Po (.inr x) n m → x = 1) (hmid : ∀ o n m, P_w 1 cvI Po (.inl o) n m → n = 216 ∧ ∃ kk, o = some (.int kk) ∧ ∃ g A, m = mos m g A ∧ mm_Con G l yX11_law cX11_law 3 (some .int) 50 0 0 [.ref 188, .int (xs (i + 1))] 216 (mos m g A) (PQE kk cvI)) (kk : ∀ h' kc' ks', IV h' → kc' ≤ kc + 8 → ks' ≤ ks + 48 → mm_T (ML G l) RL cL_law_ 216 h' kc' ks' 2630 (LO i none none none) []) : mm_T (ML G l) RL cL_law_ 216 h kc ks 345 (LO i none none none) [] := by
  have hr1 : kc + 1 ≤ 601024 ∧ ks + 6 ≤ 7293034 := ⟨by omega, by omega⟩
  refine mt_aload_n (pc := 345) dL_law__345 rfl ?_
  refine mt_sc (pc := 346) (kN := 1) hS (by omega) hL rfl rfl rfl dL_law__346 dL_law__347 dL_law__349 dL_law__350 dL_law__351 ?_
  refine mt_aload_n (pc := 352) dL_law__352 rfl ?_
  refine mt_aSW (pc := 353) (w_law hC (Nat.le_refl _) h0 hnc hO hX) calW_L_law sta_L_law ml_L_136 dL_law__353 (Nat.le_of_ble_eq_true rfl) hr1 rfl rfl (Nat.le_of_ble_eq_true rfl) (fun x n m hp => (P_w_nox hp).elim) (fun o n m hp => ?_)
  obtain ⟨rfl, kk9, rfl, g, A, hmos, hN⟩ := hmid o n m hp
  refine ⟨rfl, ?_⟩
  refine mt_istore (pc := 356) (x := kk9) dL_law__356 (Nat.le_of_ble_eq_true rfl) rfl ?_
  refine mt_heq hmos ?_
  refine mt_aload_n (pc := 358) dL_law__358 rfl ?_
  refine mt_sc (pc := 359) (kN := 1) hS (by omega) hL rfl rfl rfl dL_law__359 dL_law__360 dL_law__362 dL_law__363 dL_law__364 ?_
  refine mt_aV (pc := 365) hN cal_X11_law vir_X11_law ml_L_138 dL_law__365 (by decide) (mos_o m g A) (Nat.le_of_ble_eq_true rfl) hr1 rfl rfl (Nat.le_of_ble_eq_true rfl) (fun x n m hp => by obtain ⟨_, e, _⟩ := hp; cases e) (fun o2 n2 m2 hp2 => ?_)
  obtain ⟨o3, e3, hn2, bb, W, g', A', F, rfl, rfl, hg, hF, hv, hIV⟩ := hp2
  cases e3
  refine ⟨hn2, ?_⟩
  exact lt_tail (pc := 368) (tgt := 2630) (by decide) (Nat.le_of_ble_eq_true rfl) hr1 rfl hg hF hv dL_law__368 dL_law__370 dL_law__371 dL_law__374 dL_law__376 dL_law__381 dL_law__383 dL_law__386 dL_law__387 dL_law__388 dL_law__389 dL_law__391 dL_law__392 dL_law__393 dL_law__398 rfl (kk _ _ _ hIV (by omega) (by omega)) rfl
theorem lc_work (hS : SCX G L xs) (hL : L ≤ 4608) (hi : i + 9 ≤ L) (hr : kc + 8 ≤ 601024 ∧ ks + 48 ≤ 7293034) (hnc : va_Nc (mm_exc 1) (mm_exc 0) (mm_s0 G)) (h0 : h 0 = .inr (10, fs)) (hC : mm_Con G l yX10_work cX10_work 2 (some .int) 50 1 6 [.ref 0, .int (xs (i + 1))] 216 h Po) (hO : WO 216 Po) (hX : ∀ x n m, Po (.inr x) n m → x = 1) (hmid : ∀ o n m, P_w 1 cvI Po (.inl o) n m → n = 216 ∧ ∃ kk, o = some (.int kk) ∧ ∃ g A, m = mos m g A ∧ mm_Con G l yX11_work cX11_work 4 (some .int) 50 0 0 [.ref 188, .int (xs (i + 1))] 216 (mos m g A) (PQE kk cvI)) (kk : ∀ h' kc' ks', IV h' → kc' ≤ kc + 8 → ks' ≤ ks + 48 → mm_T (ML G l) RL cL_law_ 216 h' kc' ks' 2630 (LO i none none none) []) : mm_T (ML G l) RL cL_law_ 216 h kc ks 401 (LO i none none none) [] := by
  have hr1 : kc + 1 ≤ 601024 ∧ ks + 6 ≤ 7293034 := ⟨by omega, by omega⟩
  refine mt_aload_n (pc := 401) dL_law__401 rfl ?_
  refine mt_sc (pc := 402) (kN := 1) hS (by omega) hL rfl rfl rfl dL_law__402 dL_law__403 dL_law__405 dL_law__406 dL_law__407 ?_
  refine mt_aload_n (pc := 408) dL_law__408 rfl ?_
  refine mt_aSW (pc := 409) (w_work hC (Nat.le_refl _) h0 hnc hO hX) calW_L_work sta_L_work ml_L_139 dL_law__409 (Nat.le_of_ble_eq_true rfl) hr1 rfl rfl (Nat.le_of_ble_eq_true rfl) (fun x n m hp => (P_w_nox hp).elim) (fun o n m hp => ?_)
  obtain ⟨rfl, kk9, rfl, g, A, hmos, hN⟩ := hmid o n m hp
  refine ⟨rfl, ?_⟩
  refine mt_istore (pc := 412) (x := kk9) dL_law__412 (Nat.le_of_ble_eq_true rfl) rfl ?_
  refine mt_heq hmos ?_
  refine mt_aload_n (pc := 414) dL_law__414 rfl ?_
  refine mt_sc (pc := 415) (kN := 1) hS (by omega) hL rfl rfl rfl dL_law__415 dL_law__416 dL_law__418 dL_law__419 dL_law__420 ?_
  refine mt_aV (pc := 421) hN cal_X11_work vir_X11_work ml_L_141 dL_law__421 (by decide) (mos_o m g A) (Nat.le_of_ble_eq_true rfl) hr1 rfl rfl (Nat.le_of_ble_eq_true rfl) (fun x n m hp => by obtain ⟨_, e, _⟩ := hp; cases e) (fun o2 n2 m2 hp2 => ?_)
  obtain ⟨o3, e3, hn2, bb, W, g', A', F, rfl, rfl, hg, hF, hv, hIV⟩ := hp2
  cases e3
  refine ⟨hn2, ?_⟩
  exact lt_tail (pc := 424) (tgt := 2630) (by decide) (Nat.le_of_ble_eq_true rfl) hr1 rfl hg hF hv dL_law__424 dL_law__426 dL_law__427 dL_law__430 dL_law__432 dL_law__437 dL_law__439 dL_law__442 dL_law__443 dL_law__444 dL_law__445 dL_law__447 dL_law__448 dL_law__449 dL_law__454 rfl (kk _ _ _ hIV (by omega) (by omega)) rfl
theorem lc_book (hS : SCX G L xs) (hL : L ≤ 4608) (hi : i + 9 ≤ L) (hr : kc + 8 ≤ 601024 ∧ ks + 48 ≤ 7293034) (hnc : va_Nc (mm_exc 1) (mm_exc 0) (mm_s0 G)) (h0 : h 0 = .inr (10, fs)) (hC : mm_Con G l yX10_book cX10_book 2 (some .int) 50 1 6 [.ref 0, .int (xs (i + 1))] 216 h Po) (hO : WO 216 Po) (hX : ∀ x n m, Po (.inr x) n m → x = 1) (hmid : ∀ o n m, P_w 1 cvI Po (.inl o) n m → n = 216 ∧ ∃ kk, o = some (.int kk) ∧ ∃ g A, m = mos m g A ∧ mm_Con G l yX11_book cX11_book 7 (some .int) 50 0 0 [.ref 188, .int (xs (i + 1))] 216 (mos m g A) (PQE kk cvI)) (kk : ∀ h' kc' ks', IV h' → kc' ≤ kc + 8 → ks' ≤ ks + 48 → mm_T (ML G l) RL cL_law_ 216 h' kc' ks' 2630 (LO i none none none) []) : mm_T (ML G l) RL cL_law_ 216 h kc ks 457 (LO i none none none) [] := by
  have hr1 : kc + 1 ≤ 601024 ∧ ks + 6 ≤ 7293034 := ⟨by omega, by omega⟩
  refine mt_aload_n (pc := 457) dL_law__457 rfl ?_
  refine mt_sc (pc := 458) (kN := 1) hS (by omega) hL rfl rfl rfl dL_law__458 dL_law__459 dL_law__461 dL_law__462 dL_law__463 ?_
  refine mt_aload_n (pc := 464) dL_law__464 rfl ?_
  refine mt_aSW (pc := 465) (w_book hC (Nat.le_refl _) h0 hnc hO hX) calW_L_book sta_L_book ml_L_142 dL_law__465 (Nat.le_of_ble_eq_true rfl) hr1 rfl rfl (Nat.le_of_ble_eq_true rfl) (fun x n m hp => (P_w_nox hp).elim) (fun o n m hp => ?_)
  obtain ⟨rfl, kk9, rfl, g, A, hmos, hN⟩ := hmid o n m hp
  refine ⟨rfl, ?_⟩
  refine mt_istore (pc := 468) (x := kk9) dL_law__468 (Nat.le_of_ble_eq_true rfl) rfl ?_
  refine mt_heq hmos ?_
  refine mt_aload_n (pc := 470) dL_law__470 rfl ?_
  refine mt_sc (pc := 471) (kN := 1) hS (by omega) hL rfl rfl rfl dL_law__471 dL_law__472 dL_law__474 dL_law__475 dL_law__476 ?_
  refine mt_aV (pc := 477) hN cal_X11_book vir_X11_book ml_L_144 dL_law__477 (by decide) (mos_o m g A) (Nat.le_of_ble_eq_true rfl) hr1 rfl rfl (Nat.le_of_ble_eq_true rfl) (fun x n m hp => by obtain ⟨_, e, _⟩ := hp; cases e) (fun o2 n2 m2 hp2 => ?_)
  obtain ⟨o3, e3, hn2, bb, W, g', A', F, rfl, rfl, hg, hF, hv, hIV⟩ := hp2
  cases e3
  refine ⟨hn2, ?_⟩
  exact lt_tail (pc := 480) (tgt := 2630) (by decide) (Nat.le_of_ble_eq_true rfl) hr1 rfl hg hF hv dL_law__480 dL_law__482 dL_law__483 dL_law__486 dL_law__488 dL_law__493 dL_law__495 dL_law__498 dL_law__499 dL_law__500 dL_law__501 dL_law__503 dL_law__504 dL_law__505 dL_law__510 rfl (kk _ _ _ hIV (by omega) (by omega)) rfl
theorem ld_fault (hS : SCX G L xs) (hL : L ≤ 4608) (hi : i + 9 ≤ L) (hr : kc + 8 ≤ 601024 ∧ ks + 48 ≤ 7293034) (h0 : h 0 = .inr (10, fs)) (hC : mm_Con G l yX10_fault cX10_fault 1 (some .int) 50 0 0 [.ref 0] 216 h Po) (hmid : ∀ o n m, Po o n m → ∃ v g A, o = .inl (some (.int v)) ∧ n = 216 ∧ m = mos m g A ∧ mm_Con G l yX11_fault cX11_fault 1 (some .int) 50 0 0 [.ref 188] 216 (mos m g A) (PE v)) (kk : ∀ h' kc' ks', IV h' → kc' ≤ kc + 8 → ks' ≤ ks + 48 → mm_T (ML G l) RL cL_law_ 216 h' kc' ks' 2630 (LO i none none none) []) : mm_T (ML G l) RL cL_law_ 216 h kc ks 513 (LO i none none none) [] := by
  have hr1 : kc + 0 ≤ 601024 ∧ ks + 0 ≤ 7293034 := ⟨by omega, by omega⟩
  refine mt_aload_n (pc := 513) dL_law__513 rfl ?_
  refine mt_aV (pc := 514) hC cal_X10_fault vir_X10_fault ml_L_145 dL_law__514 (by decide) h0 (Nat.le_of_ble_eq_true rfl) hr1 rfl rfl (Nat.le_of_ble_eq_true rfl) (fun x n m hp => by obtain ⟨_, _, _, e, _⟩ := hmid _ _ _ hp; cases e) (fun o n m hp => ?_)
  obtain ⟨v, g, A, e, hn, hmos, hN⟩ := hmid _ _ _ hp
  cases e
  refine ⟨hn, ?_⟩
  refine mt_heq hmos ?_
  refine mt_aload_n (pc := 517) dL_law__517 rfl ?_
  refine mt_aV (pc := 518) (st := [.int v]) hN cal_X11_fault vir_X11_fault ml_L_148 dL_law__518 (by decide) (mos_o m g A) (Nat.le_of_ble_eq_true rfl) hr1 rfl rfl (Nat.le_of_ble_eq_true rfl) (fun x n m hp => by cases hp.1) (fun o2 n2 m2 hp2 => ?_)
  obtain ⟨e2, hn2, hIV⟩ := hp2
  cases e2
  exact ⟨hn2, mt_icmp_eq (pc := 521) (tgt := 2630) dL_law__521 rfl (fun _ => kk _ _ _ hIV (by omega) (by omega)) (fun z => absurd rfl z)⟩
theorem ld_undo (hS : SCX G L xs) (hL : L ≤ 4608) (hi : i + 9 ≤ L) (hr : kc + 8 ≤ 601024 ∧ ks + 48 ≤ 7293034) (h0 : h 0 = .inr (10, fs)) (hC : mm_Con G l yX10_undo cX10_undo 1 (some .int) 50 0 0 [.ref 0] 216 h Po) (hmid : ∀ o n m, Po o n m → ∃ v g A, o = .inl (some (.int v)) ∧ n = 216 ∧ m = mos m g A ∧ mm_Con G l yX11_undo cX11_undo 2 (some .int) 50 0 0 [.ref 188] 216 (mos m g A) (PE v)) (kk : ∀ h' kc' ks', IV h' → kc' ≤ kc + 8 → ks' ≤ ks + 48 → mm_T (ML G l) RL cL_law_ 216 h' kc' ks' 2630 (LO i none none none) []) : mm_T (ML G l) RL cL_law_ 216 h kc ks 526 (LO i none none none) [] := by
  have hr1 : kc + 0 ≤ 601024 ∧ ks + 0 ≤ 7293034 := ⟨by omega, by omega⟩
  refine mt_aload_n (pc := 526) dL_law__526 rfl ?_
  refine mt_aV (pc := 527) hC cal_X10_undo vir_X10_undo ml_L_149 dL_law__527 (by decide) h0 (Nat.le_of_ble_eq_true rfl) hr1 rfl rfl (Nat.le_of_ble_eq_true rfl) (fun x n m hp => by obtain ⟨_, _, _, e, _⟩ := hmid _ _ _ hp; cases e) (fun o n m hp => ?_)
  obtain ⟨v, g, A, e, hn, hmos, hN⟩ := hmid _ _ _ hp
  cases e
  refine ⟨hn, ?_⟩
  refine mt_heq hmos ?_
  refine mt_aload_n (pc := 530) dL_law__530 rfl ?_
  refine mt_aV (pc := 531) (st := [.int v]) hN cal_X11_undo vir_X11_undo ml_L_152 dL_law__531 (by decide) (mos_o m g A) (Nat.le_of_ble_eq_true rfl) hr1 rfl rfl (Nat.le_of_ble_eq_true rfl) (fun x n m hp => by cases hp.1) (fun o2 n2 m2 hp2 => ?_)
  obtain ⟨e2, hn2, hIV⟩ := hp2
  cases e2
  exact ⟨hn2, mt_icmp_eq (pc := 534) (tgt := 2630) dL_law__534 rfl (fun _ => kk _ _ _ hIV (by omega) (by omega)) (fun z => absurd rfl z)⟩
theorem lc_told (hS : SCX G L xs) (hL : L ≤ 4608) (hi : i + 9 ≤ L) (hr : kc + 8 ≤ 601024 ∧ ks + 48 ≤ 7293034) (hnc : va_Nc (mm_exc 1) (mm_exc 0) (mm_s0 G)) (h0 : h 0 = .inr (10, fs)) (hC : mm_Con G l yX10_told cX10_told 3 (some .int) 50 8 48 [.ref 0, .int (xs (i + 1))] 216 h Po) (hO : WO 216 Po) (hX : ∀ x n m, Po (.inr x) n m → x = 1) (hmid : ∀ o n m, P_w 1 cvI Po (.inl o) n m → n = 216 ∧ ∃ kk, o = some (.int kk) ∧ ∃ g A, m = mos m g A ∧ mm_Con G l yX11_told cX11_told 2 (some .int) 50 0 0 [.ref 188, .int (xs (i + 1))] 216 (mos m g A) (PQE kk cvI)) (kk : ∀ h' kc' ks', IV h' → kc' ≤ kc + 8 → ks' ≤ ks + 48 → mm_T (ML G l) RL cL_law_ 216 h' kc' ks' 2630 (LO i none none none) []) : mm_T (ML G l) RL cL_law_ 216 h kc ks 539 (LO i none none none) [] := by
  have hr1 : kc + 8 ≤ 601024 ∧ ks + 48 ≤ 7293034 := ⟨by omega, by omega⟩
  refine mt_aload_n (pc := 539) dL_law__539 rfl ?_
  refine mt_sc (pc := 540) (kN := 1) hS (by omega) hL rfl rfl rfl dL_law__540 dL_law__541 dL_law__543 dL_law__544 dL_law__545 ?_
  refine mt_aload_n (pc := 546) dL_law__546 rfl ?_
  refine mt_aSW (pc := 547) (w_told hC (Nat.le_refl _) h0 hnc hO hX) calW_L_told sta_L_told ml_L_153 dL_law__547 (Nat.le_of_ble_eq_true rfl) hr1 rfl rfl (Nat.le_of_ble_eq_true rfl) (fun x n m hp => (P_w_nox hp).elim) (fun o n m hp => ?_)
  obtain ⟨rfl, kk9, rfl, g, A, hmos, hN⟩ := hmid o n m hp
  refine ⟨rfl, ?_⟩
  refine mt_istore (pc := 550) (x := kk9) dL_law__550 (Nat.le_of_ble_eq_true rfl) rfl ?_
  refine mt_heq hmos ?_
  refine mt_aload_n (pc := 552) dL_law__552 rfl ?_
  refine mt_sc (pc := 553) (kN := 1) hS (by omega) hL rfl rfl rfl dL_law__553 dL_law__554 dL_law__556 dL_law__557 dL_law__558 ?_
  refine mt_aV (pc := 559) hN cal_X11_told vir_X11_told ml_L_155 dL_law__559 (by decide) (mos_o m g A) (Nat.le_of_ble_eq_true rfl) hr1 rfl rfl (Nat.le_of_ble_eq_true rfl) (fun x n m hp => by obtain ⟨_, e, _⟩ := hp; cases e) (fun o2 n2 m2 hp2 => ?_)
  obtain ⟨o3, e3, hn2, bb, W, g', A', F, rfl, rfl, hg, hF, hv, hIV⟩ := hp2
  cases e3
  refine ⟨hn2, ?_⟩
  exact lt_tail (pc := 562) (tgt := 2630) (by decide) (Nat.le_of_ble_eq_true rfl) hr1 rfl hg hF hv dL_law__562 dL_law__564 dL_law__565 dL_law__568 dL_law__570 dL_law__575 dL_law__577 dL_law__580 dL_law__581 dL_law__582 dL_law__583 dL_law__585 dL_law__586 dL_law__587 dL_law__592 rfl (kk _ _ _ hIV (by omega) (by omega)) rfl
theorem lc_slab (hS : SCX G L xs) (hL : L ≤ 4608) (hi : i + 9 ≤ L) (hr : kc + 8 ≤ 601024 ∧ ks + 48 ≤ 7293034) (hnc : va_Nc (mm_exc 1) (mm_exc 0) (mm_s0 G)) (h0 : h 0 = .inr (10, fs)) (hC : mm_Con G l yX10_slab cX10_slab 4 (some .int) 50 8 48 [.ref 0, .int (xs (i + 1)), .int (xs (i + 2))] 216 h Po) (hO : WO 216 Po) (hX : ∀ x n m, Po (.inr x) n m → x = 0 ∨ x = 1) (hmid : ∀ o n m, P_w 2 cvI Po (.inl o) n m → n = 216 ∧ ∃ kk, o = some (.int kk) ∧ ∃ g A, m = mos m g A ∧ mm_Con G l yX11_slab cX11_slab 5 (some .int) 50 0 0 [.ref 188, .int (xs (i + 1)), .int (xs (i + 2))] 216 (mos m g A) (PQE kk cvI)) (kk : ∀ h' kc' ks', IV h' → kc' ≤ kc + 8 → ks' ≤ ks + 48 → mm_T (ML G l) RL cL_law_ 216 h' kc' ks' 2630 (LO i none none none) []) : mm_T (ML G l) RL cL_law_ 216 h kc ks 595 (LO i none none none) [] := by
  have hr1 : kc + 8 ≤ 601024 ∧ ks + 48 ≤ 7293034 := ⟨by omega, by omega⟩
  refine mt_aload_n (pc := 595) dL_law__595 rfl ?_
  refine mt_sc (pc := 596) (kN := 1) hS (by omega) hL rfl rfl rfl dL_law__596 dL_law__597 dL_law__599 dL_law__600 dL_law__601 ?_
  refine mt_sc (pc := 602) (kN := 2) hS (by omega) hL rfl rfl rfl dL_law__602 dL_law__603 dL_law__605 dL_law__606 dL_law__607 ?_
  refine mt_aload_n (pc := 608) dL_law__608 rfl ?_
  refine mt_aSW (pc := 609) (w_slab hC (Nat.le_refl _) h0 hnc hO hX) calW_L_slab sta_L_slab ml_L_156 dL_law__609 (Nat.le_of_ble_eq_true rfl) hr1 rfl rfl (Nat.le_of_ble_eq_true rfl) (fun x n m hp => (P_w_nox hp).elim) (fun o n m hp => ?_)
  obtain ⟨rfl, kk9, rfl, g, A, hmos, hN⟩ := hmid o n m hp
  refine ⟨rfl, ?_⟩
  refine mt_istore (pc := 612) (x := kk9) dL_law__612 (Nat.le_of_ble_eq_true rfl) rfl ?_
  refine mt_heq hmos ?_
  refine mt_aload_n (pc := 614) dL_law__614 rfl ?_
  refine mt_sc (pc := 615) (kN := 1) hS (by omega) hL rfl rfl rfl dL_law__615 dL_law__616 dL_law__618 dL_law__619 dL_law__620 ?_
  refine mt_sc (pc := 621) (kN := 2) hS (by omega) hL rfl rfl rfl dL_law__621 dL_law__622 dL_law__624 dL_law__625 dL_law__626 ?_
  refine mt_aV (pc := 627) hN cal_X11_slab vir_X11_slab ml_L_159 dL_law__627 (by decide) (mos_o m g A) (Nat.le_of_ble_eq_true rfl) hr1 rfl rfl (Nat.le_of_ble_eq_true rfl) (fun x n m hp => by obtain ⟨_, e, _⟩ := hp; cases e) (fun o2 n2 m2 hp2 => ?_)
  obtain ⟨o3, e3, hn2, bb, W, g', A', F, rfl, rfl, hg, hF, hv, hIV⟩ := hp2
  cases e3
  refine ⟨hn2, ?_⟩
  exact lt_tail (pc := 630) (tgt := 2630) (by decide) (Nat.le_of_ble_eq_true rfl) hr1 rfl hg hF hv dL_law__630 dL_law__632 dL_law__633 dL_law__636 dL_law__638 dL_law__643 dL_law__645 dL_law__648 dL_law__649 dL_law__650 dL_law__651 dL_law__653 dL_law__654 dL_law__655 dL_law__660 rfl (kk _ _ _ hIV (by omega) (by omega)) rfl
theorem lc_soul (hS : SCX G L xs) (hL : L ≤ 4608) (hi : i + 9 ≤ L) (hr : kc + 8 ≤ 601024 ∧ ks + 48 ≤ 7293034) (hnc : va_Nc (mm_exc 1) (mm_exc 0) (mm_s0 G)) (h0 : h 0 = .inr (10, fs)) (hC : mm_Con G l yX10_soul cX10_soul 4 (some .int) 50 8 48 [.ref 0, .int (xs (i + 1)), .int (xs (i + 2))] 216 h Po) (hO : WO 216 Po) (hX : ∀ x n m, Po (.inr x) n m → x = 0 ∨ x = 1) (hmid : ∀ o n m, P_w 2 cvI Po (.inl o) n m → n = 216 ∧ ∃ kk, o = some (.int kk) ∧ ∃ g A, m = mos m g A ∧ mm_Con G l yX11_soul cX11_soul 6 (some .int) 50 0 0 [.ref 188, .int (xs (i + 1)), .int (xs (i + 2))] 216 (mos m g A) (PQE kk cvI)) (kk : ∀ h' kc' ks', IV h' → kc' ≤ kc + 8 → ks' ≤ ks + 48 → mm_T (ML G l) RL cL_law_ 216 h' kc' ks' 2630 (LO i none none none) []) : mm_T (ML G l) RL cL_law_ 216 h kc ks 663 (LO i none none none) [] := by
  have hr1 : kc + 8 ≤ 601024 ∧ ks + 48 ≤ 7293034 := ⟨by omega, by omega⟩
  refine mt_aload_n (pc := 663) dL_law__663 rfl ?_
  refine mt_sc (pc := 664) (kN := 1) hS (by omega) hL rfl rfl rfl dL_law__664 dL_law__665 dL_law__667 dL_law__668 dL_law__669 ?_
  refine mt_sc (pc := 670) (kN := 2) hS (by omega) hL rfl rfl rfl dL_law__670 dL_law__671 dL_law__673 dL_law__674 dL_law__675 ?_
  refine mt_aload_n (pc := 676) dL_law__676 rfl ?_
  refine mt_aSW (pc := 677) (w_soul hC (Nat.le_refl _) h0 hnc hO hX) calW_L_soul sta_L_soul ml_L_160 dL_law__677 (Nat.le_of_ble_eq_true rfl) hr1 rfl rfl (Nat.le_of_ble_eq_true rfl) (fun x n m hp => (P_w_nox hp).elim) (fun o n m hp => ?_)
  obtain ⟨rfl, kk9, rfl, g, A, hmos, hN⟩ := hmid o n m hp
  refine ⟨rfl, ?_⟩
  refine mt_istore (pc := 680) (x := kk9) dL_law__680 (Nat.le_of_ble_eq_true rfl) rfl ?_
  refine mt_heq hmos ?_
  refine mt_aload_n (pc := 682) dL_law__682 rfl ?_
  refine mt_sc (pc := 683) (kN := 1) hS (by omega) hL rfl rfl rfl dL_law__683 dL_law__684 dL_law__686 dL_law__687 dL_law__688 ?_
  refine mt_sc (pc := 689) (kN := 2) hS (by omega) hL rfl rfl rfl dL_law__689 dL_law__690 dL_law__692 dL_law__693 dL_law__694 ?_
  refine mt_aV (pc := 695) hN cal_X11_soul vir_X11_soul ml_L_162 dL_law__695 (by decide) (mos_o m g A) (Nat.le_of_ble_eq_true rfl) hr1 rfl rfl (Nat.le_of_ble_eq_true rfl) (fun x n m hp => by obtain ⟨_, e, _⟩ := hp; cases e) (fun o2 n2 m2 hp2 => ?_)
  obtain ⟨o3, e3, hn2, bb, W, g', A', F, rfl, rfl, hg, hF, hv, hIV⟩ := hp2
  cases e3
  refine ⟨hn2, ?_⟩
  exact lt_tail (pc := 698) (tgt := 2630) (by decide) (Nat.le_of_ble_eq_true rfl) hr1 rfl hg hF hv dL_law__698 dL_law__700 dL_law__701 dL_law__704 dL_law__706 dL_law__711 dL_law__713 dL_law__716 dL_law__717 dL_law__718 dL_law__719 dL_law__721 dL_law__722 dL_law__723 dL_law__728 rfl (kk _ _ _ hIV (by omega) (by omega)) rfl
theorem lc_loan (hS : SCX G L xs) (hL : L ≤ 4608) (hi : i + 9 ≤ L) (hr : kc + 8 ≤ 601024 ∧ ks + 48 ≤ 7293034) (hnc : va_Nc (mm_exc 1) (mm_exc 0) (mm_s0 G)) (h0 : h 0 = .inr (10, fs)) (hC : mm_Con G l yX10_loan cX10_loan 3 (some .int) 50 8 48 [.ref 0, .int (xs (i + 1)), .int (xs (i + 2))] 216 h Po) (hO : WO 216 Po) (hX : ∀ x n m, Po (.inr x) n m → x = 0 ∨ x = 1) (hmid : ∀ o n m, P_w 2 cvI Po (.inl o) n m → n = 216 ∧ ∃ kk, o = some (.int kk) ∧ ∃ g A, m = mos m g A ∧ mm_Con G l yX11_loan cX11_loan 3 (some .int) 50 0 0 [.ref 188, .int (xs (i + 1)), .int (xs (i + 2))] 216 (mos m g A) (PQE kk cvI)) (kk : ∀ h' kc' ks', IV h' → kc' ≤ kc + 8 → ks' ≤ ks + 48 → mm_T (ML G l) RL cL_law_ 216 h' kc' ks' 2630 (LO i none none none) []) : mm_T (ML G l) RL cL_law_ 216 h kc ks 731 (LO i none none none) [] := by
  have hr1 : kc + 8 ≤ 601024 ∧ ks + 48 ≤ 7293034 := ⟨by omega, by omega⟩
  refine mt_aload_n (pc := 731) dL_law__731 rfl ?_
  refine mt_sc (pc := 732) (kN := 1) hS (by omega) hL rfl rfl rfl dL_law__732 dL_law__733 dL_law__735 dL_law__736 dL_law__737 ?_
  refine mt_sc (pc := 738) (kN := 2) hS (by omega) hL rfl rfl rfl dL_law__738 dL_law__739 dL_law__741 dL_law__742 dL_law__743 ?_
  refine mt_aload_n (pc := 744) dL_law__744 rfl ?_
  refine mt_aSW (pc := 745) (w_loan hC (Nat.le_refl _) h0 hnc hO hX) calW_L_loan sta_L_loan ml_L_163 dL_law__745 (Nat.le_of_ble_eq_true rfl) hr1 rfl rfl (Nat.le_of_ble_eq_true rfl) (fun x n m hp => (P_w_nox hp).elim) (fun o n m hp => ?_)
  obtain ⟨rfl, kk9, rfl, g, A, hmos, hN⟩ := hmid o n m hp
  refine ⟨rfl, ?_⟩
  refine mt_istore (pc := 748) (x := kk9) dL_law__748 (Nat.le_of_ble_eq_true rfl) rfl ?_
  refine mt_heq hmos ?_
  refine mt_aload_n (pc := 750) dL_law__750 rfl ?_
  refine mt_sc (pc := 751) (kN := 1) hS (by omega) hL rfl rfl rfl dL_law__751 dL_law__752 dL_law__754 dL_law__755 dL_law__756 ?_
  refine mt_sc (pc := 757) (kN := 2) hS (by omega) hL rfl rfl rfl dL_law__757 dL_law__758 dL_law__760 dL_law__761 dL_law__762 ?_
  refine mt_aV (pc := 763) hN cal_X11_loan vir_X11_loan ml_L_165 dL_law__763 (by decide) (mos_o m g A) (Nat.le_of_ble_eq_true rfl) hr1 rfl rfl (Nat.le_of_ble_eq_true rfl) (fun x n m hp => by obtain ⟨_, e, _⟩ := hp; cases e) (fun o2 n2 m2 hp2 => ?_)
  obtain ⟨o3, e3, hn2, bb, W, g', A', F, rfl, rfl, hg, hF, hv, hIV⟩ := hp2
  cases e3
  refine ⟨hn2, ?_⟩
  exact lt_tail (pc := 766) (tgt := 2630) (by decide) (Nat.le_of_ble_eq_true rfl) hr1 rfl hg hF hv dL_law__766 dL_law__768 dL_law__769 dL_law__772 dL_law__774 dL_law__779 dL_law__781 dL_law__784 dL_law__785 dL_law__786 dL_law__787 dL_law__789 dL_law__790 dL_law__791 dL_law__796 rfl (kk _ _ _ hIV (by omega) (by omega)) rfl
theorem lc_would (hS : SCX G L xs) (hL : L ≤ 4608) (hi : i + 9 ≤ L) (hr : kc + 8 ≤ 601024 ∧ ks + 48 ≤ 7293034) (hnc : va_Nc (mm_exc 1) (mm_exc 0) (mm_s0 G)) (h0 : h 0 = .inr (10, fs)) (hC : mm_Con G l yX10_would cX10_would 9 (some .int) 50 8 48 [.ref 0, .int (xs (i + 1)), .int (xs (i + 2)), .int (xs (i + 3)), .int (xs (i + 4)), .int (xs (i + 5)), .int (xs (i + 6)), .int (xs (i + 7)), .int (xs (i + 8))] 216 h Po) (hO : WO 216 Po) (hX : ∀ x n m, Po (.inr x) n m → x = 1) (hmid : ∀ o n m, P_w 1 cvI Po (.inl o) n m → n = 216 ∧ ∃ kk, o = some (.int kk) ∧ ∃ g A, m = mos m g A ∧ mm_Con G l yX11_would cX11_would 9 (some .int) 50 0 0 [.ref 188, .int (xs (i + 1)), .int (xs (i + 2)), .int (xs (i + 3)), .int (xs (i + 4)), .int (xs (i + 5)), .int (xs (i + 6)), .int (xs (i + 7)), .int (xs (i + 8))] 216 (mos m g A) (PQE kk cvI)) (kk : ∀ h' kc' ks', IV h' → kc' ≤ kc + 8 → ks' ≤ ks + 48 → mm_T (ML G l) RL cL_law_ 216 h' kc' ks' 2630 (LO i none none none) []) : mm_T (ML G l) RL cL_law_ 216 h kc ks 799 (LO i none none none) [] := by
  have hr1 : kc + 8 ≤ 601024 ∧ ks + 48 ≤ 7293034 := ⟨by omega, by omega⟩
  refine mt_aload_n (pc := 799) dL_law__799 rfl ?_
  refine mt_sc (pc := 800) (kN := 1) hS (by omega) hL rfl rfl rfl dL_law__800 dL_law__801 dL_law__803 dL_law__804 dL_law__805 ?_
  refine mt_sc (pc := 806) (kN := 2) hS (by omega) hL rfl rfl rfl dL_law__806 dL_law__807 dL_law__809 dL_law__810 dL_law__811 ?_
  refine mt_sc (pc := 812) (kN := 3) hS (by omega) hL rfl rfl rfl dL_law__812 dL_law__813 dL_law__815 dL_law__816 dL_law__817 ?_
  refine mt_sc (pc := 818) (kN := 4) hS (by omega) hL rfl rfl rfl dL_law__818 dL_law__819 dL_law__821 dL_law__822 dL_law__823 ?_
  refine mt_sc (pc := 824) (kN := 5) hS (by omega) hL rfl rfl rfl dL_law__824 dL_law__825 dL_law__827 dL_law__828 dL_law__829 ?_
  refine mt_scB (pc := 830) (kN := 6) hS (by omega) hL rfl rfl rfl dL_law__830 dL_law__831 dL_law__833 dL_law__835 dL_law__836 ?_
  refine mt_scB (pc := 837) (kN := 7) hS (by omega) hL rfl rfl rfl dL_law__837 dL_law__838 dL_law__840 dL_law__842 dL_law__843 ?_
  refine mt_scB (pc := 844) (kN := 8) hS (by omega) hL rfl rfl rfl dL_law__844 dL_law__845 dL_law__847 dL_law__849 dL_law__850 ?_
  refine mt_aload_n (pc := 851) dL_law__851 rfl ?_
  refine mt_aSW (pc := 852) (w_would hC (Nat.le_refl _) h0 hnc hO hX) calW_L_would sta_L_would ml_L_166 dL_law__852 (Nat.le_of_ble_eq_true rfl) hr1 rfl rfl (Nat.le_of_ble_eq_true rfl) (fun x n m hp => (P_w_nox hp).elim) (fun o n m hp => ?_)
  obtain ⟨rfl, kk9, rfl, g, A, hmos, hN⟩ := hmid o n m hp
  refine ⟨rfl, ?_⟩
  refine mt_istore (pc := 855) (x := kk9) dL_law__855 (Nat.le_of_ble_eq_true rfl) rfl ?_
  refine mt_heq hmos ?_
  refine mt_aload_n (pc := 857) dL_law__857 rfl ?_
  refine mt_sc (pc := 858) (kN := 1) hS (by omega) hL rfl rfl rfl dL_law__858 dL_law__859 dL_law__861 dL_law__862 dL_law__863 ?_
  refine mt_sc (pc := 864) (kN := 2) hS (by omega) hL rfl rfl rfl dL_law__864 dL_law__865 dL_law__867 dL_law__868 dL_law__869 ?_
  refine mt_sc (pc := 870) (kN := 3) hS (by omega) hL rfl rfl rfl dL_law__870 dL_law__871 dL_law__873 dL_law__874 dL_law__875 ?_
  refine mt_sc (pc := 876) (kN := 4) hS (by omega) hL rfl rfl rfl dL_law__876 dL_law__877 dL_law__879 dL_law__880 dL_law__881 ?_
  refine mt_sc (pc := 882) (kN := 5) hS (by omega) hL rfl rfl rfl dL_law__882 dL_law__883 dL_law__885 dL_law__886 dL_law__887 ?_
  refine mt_scB (pc := 888) (kN := 6) hS (by omega) hL rfl rfl rfl dL_law__888 dL_law__889 dL_law__891 dL_law__893 dL_law__894 ?_
  refine mt_scB (pc := 895) (kN := 7) hS (by omega) hL rfl rfl rfl dL_law__895 dL_law__896 dL_law__898 dL_law__900 dL_law__901 ?_
  refine mt_scB (pc := 902) (kN := 8) hS (by omega) hL rfl rfl rfl dL_law__902 dL_law__903 dL_law__905 dL_law__907 dL_law__908 ?_
  refine mt_aV (pc := 909) hN cal_X11_would vir_X11_would ml_L_169 dL_law__909 (by decide) (mos_o m g A) (Nat.le_of_ble_eq_true rfl) hr1 rfl rfl (Nat.le_of_ble_eq_true rfl) (fun x n m hp => by obtain ⟨_, e, _⟩ := hp; cases e) (fun o2 n2 m2 hp2 => ?_)
  obtain ⟨o3, e3, hn2, bb, W, g', A', F, rfl, rfl, hg, hF, hv, hIV⟩ := hp2
  cases e3
  refine ⟨hn2, ?_⟩
  exact lt_tail (pc := 912) (tgt := 2630) (by decide) (Nat.le_of_ble_eq_true rfl) hr1 rfl hg hF hv dL_law__912 dL_law__914 dL_law__915 dL_law__918 dL_law__920 dL_law__925 dL_law__927 dL_law__930 dL_law__931 dL_law__932 dL_law__933 dL_law__935 dL_law__936 dL_law__937 dL_law__942 rfl (kk _ _ _ hIV (by omega) (by omega)) rfl
theorem lc_lends (hS : SCX G L xs) (hL : L ≤ 4608) (hi : i + 9 ≤ L) (hr : kc + 8 ≤ 601024 ∧ ks + 48 ≤ 7293034) (hnc : va_Nc (mm_exc 1) (mm_exc 0) (mm_s0 G)) (h0 : h 0 = .inr (10, fs)) (hC : mm_Con G l yX10_lends cX10_lends 4 (some .boolean) 50 8 48 [.ref 0, .int (xs (i + 1)), .int (xs (i + 2)), .int (xs (i + 3))] 216 h Po) (hO : WO 216 Po) (hX : ∀ x n m, Po (.inr x) n m → x = 0 ∨ x = 1) (hmid : ∀ o n m, P_w 2 cvZ Po (.inl o) n m → n = 216 ∧ ∃ kk, o = some (.int kk) ∧ ∃ g A, m = mos m g A ∧ mm_Con G l yX11_lends cX11_lends 4 (some .boolean) 50 0 0 [.ref 188, .int (xs (i + 1)), .int (xs (i + 2)), .int (xs (i + 3))] 216 (mos m g A) (PQE kk cvZ)) (kk : ∀ h' kc' ks', IV h' → kc' ≤ kc + 8 → ks' ≤ ks + 48 → mm_T (ML G l) RL cL_law_ 216 h' kc' ks' 2630 (LO i none none none) []) : mm_T (ML G l) RL cL_law_ 216 h kc ks 945 (LO i none none none) [] := by
  have hr1 : kc + 8 ≤ 601024 ∧ ks + 48 ≤ 7293034 := ⟨by omega, by omega⟩
  refine mt_aload_n (pc := 945) dL_law__945 rfl ?_
  refine mt_sc (pc := 946) (kN := 1) hS (by omega) hL rfl rfl rfl dL_law__946 dL_law__947 dL_law__949 dL_law__950 dL_law__951 ?_
  refine mt_sc (pc := 952) (kN := 2) hS (by omega) hL rfl rfl rfl dL_law__952 dL_law__953 dL_law__955 dL_law__956 dL_law__957 ?_
  refine mt_sc (pc := 958) (kN := 3) hS (by omega) hL rfl rfl rfl dL_law__958 dL_law__959 dL_law__961 dL_law__962 dL_law__963 ?_
  refine mt_aload_n (pc := 964) dL_law__964 rfl ?_
  refine mt_aSW (pc := 965) (w_lends hC (Nat.le_refl _) h0 hnc hO hX) calW_L_lends sta_L_lends ml_L_170 dL_law__965 (Nat.le_of_ble_eq_true rfl) hr1 rfl rfl (Nat.le_of_ble_eq_true rfl) (fun x n m hp => (P_w_nox hp).elim) (fun o n m hp => ?_)
  obtain ⟨rfl, kk9, rfl, g, A, hmos, hN⟩ := hmid o n m hp
  refine ⟨rfl, ?_⟩
  refine mt_istore (pc := 968) (x := kk9) dL_law__968 (Nat.le_of_ble_eq_true rfl) rfl ?_
  refine mt_heq hmos ?_
  refine mt_aload_n (pc := 970) dL_law__970 rfl ?_
  refine mt_sc (pc := 971) (kN := 1) hS (by omega) hL rfl rfl rfl dL_law__971 dL_law__972 dL_law__974 dL_law__975 dL_law__976 ?_
  refine mt_sc (pc := 977) (kN := 2) hS (by omega) hL rfl rfl rfl dL_law__977 dL_law__978 dL_law__980 dL_law__981 dL_law__982 ?_
  refine mt_sc (pc := 983) (kN := 3) hS (by omega) hL rfl rfl rfl dL_law__983 dL_law__984 dL_law__986 dL_law__987 dL_law__988 ?_
  refine mt_aV (pc := 989) hN cal_X11_lends vir_X11_lends ml_L_173 dL_law__989 (by decide) (mos_o m g A) (Nat.le_of_ble_eq_true rfl) hr1 rfl rfl (Nat.le_of_ble_eq_true rfl) (fun x n m hp => by obtain ⟨_, e, _⟩ := hp; cases e) (fun o2 n2 m2 hp2 => ?_)
  obtain ⟨o3, e3, hn2, bb, W, g', A', F, rfl, rfl, hg, hF, hv, hIV⟩ := hp2
  cases e3
  refine ⟨hn2, ?_⟩
  have k2 : mm_T (ML G l) RL cL_law_ 216 (mos W g' A') (kc + 8) (ks + 48) 1029 (LO i (some (.int kk9)) (some (.int bb)) none) [] := by
    refine mt_goto (pc := 1029) (tgt := 2630) dL_law__1029 rfl ?_
    exact mt_fg (lo' := LO i none none none) ⟨rfl, rfl, rfl, rfl, rfl, trivial⟩ (kk _ _ _ hIV (by omega) (by omega))
  refine mt_istore (pc := 992) (x := bb) dL_law__992 (Nat.le_of_ble_eq_true rfl) rfl ?_
  refine mt_aload_n (pc := 994) dL_law__994 rfl ?_
  refine mt_cV (pc := 995) (n_thrown (d := 9) (by decide)) cal_X11_thrown vir_X11_thrown ml_L_132 dL_law__995 (by decide) (mos_o W g' A') (Nat.le_of_ble_eq_true rfl) hr1 rfl rfl (Nat.le_of_ble_eq_true rfl) ?_
  refine mt_iload (pc := 998) dL_law__998 rfl ?_
  refine mt_icmp_eq (pc := 1000) (tgt := 1005) dL_law__1000 rfl (fun _ => ?_) (fun z => absurd hg z)
  refine mt_iload (pc := 1005) dL_law__1005 rfl ?_
  refine mt_if_ne (pc := 1007) (tgt := 1029) dL_law__1007 rfl (fun _ => k2) (fun hz => ?_)
  refine mt_aload_n (pc := 1010) dL_law__1010 rfl ?_
  refine mt_iconst (pc := 1011) dL_law__1011 rfl ?_
  refine mt_lald (pc := 1012) dL_law__1012 (by decide) ((mos_n (by decide) (by decide)).trans hF) (by unfold vp_in; decide) ?_
  refine mt_iload (pc := 1013) dL_law__1013 rfl ?_
  refine mt_if_eq (pc := 1015) (tgt := 1022) dL_law__1015 rfl (fun hb => ?_) (fun hb => ?_)
  · refine mt_lconst (pc := 1022) dL_law__1022 rfl ?_
    refine mt_lcmp (pc := 1023) dL_law__1023 ?_
    exact mt_if_eq (pc := 1024) (tgt := 1029) dL_law__1024 rfl (fun _ => k2) (fun z => absurd (lcmp_ne ((hv hz).trans (if_pos hb))) z)
  · refine mt_lconst (pc := 1018) dL_law__1018 rfl ?_
    refine mt_goto (pc := 1019) (tgt := 1023) dL_law__1019 rfl ?_
    refine mt_lcmp (pc := 1023) dL_law__1023 ?_
    exact mt_if_eq (pc := 1024) (tgt := 1029) dL_law__1024 rfl (fun _ => k2) (fun z => absurd (lcmp_ne ((hv hz).trans (if_neg hb))) z)
theorem lc_ahead (hS : SCX G L xs) (hL : L ≤ 4608) (hi : i + 9 ≤ L) (hr : kc + 8 ≤ 601024 ∧ ks + 48 ≤ 7293034) (hnc : va_Nc (mm_exc 1) (mm_exc 0) (mm_s0 G)) (h0 : h 0 = .inr (10, fs)) (hC : mm_Con G l yX10_ahead cX10_ahead 4 (some .int) 50 8 48 [.ref 0, .int (xs (i + 1)), .int (xs (i + 2))] 216 h Po) (hO : WO 216 Po) (hX : ∀ x n m, Po (.inr x) n m → x = 1) (hmid : ∀ o n m, P_w 1 cvI Po (.inl o) n m → n = 216 ∧ ∃ kk, o = some (.int kk) ∧ ∃ g A, m = mos m g A ∧ mm_Con G l yX11_ahead cX11_ahead 4 (some .int) 50 0 0 [.ref 188, .int (xs (i + 1)), .int (xs (i + 2))] 216 (mos m g A) (PQE kk cvI)) (kk : ∀ h' kc' ks', IV h' → kc' ≤ kc + 8 → ks' ≤ ks + 48 → mm_T (ML G l) RL cL_law_ 216 h' kc' ks' 2630 (LO i none none none) []) : mm_T (ML G l) RL cL_law_ 216 h kc ks 1032 (LO i none none none) [] := by
  have hr1 : kc + 8 ≤ 601024 ∧ ks + 48 ≤ 7293034 := ⟨by omega, by omega⟩
  refine mt_aload_n (pc := 1032) dL_law__1032 rfl ?_
  refine mt_sc (pc := 1033) (kN := 1) hS (by omega) hL rfl rfl rfl dL_law__1033 dL_law__1034 dL_law__1036 dL_law__1037 dL_law__1038 ?_
  refine mt_sc (pc := 1039) (kN := 2) hS (by omega) hL rfl rfl rfl dL_law__1039 dL_law__1040 dL_law__1042 dL_law__1043 dL_law__1044 ?_
  refine mt_aload_n (pc := 1045) dL_law__1045 rfl ?_
  refine mt_aSW (pc := 1046) (w_ahead hC (Nat.le_refl _) h0 hnc hO hX) calW_L_ahead sta_L_ahead ml_L_174 dL_law__1046 (Nat.le_of_ble_eq_true rfl) hr1 rfl rfl (Nat.le_of_ble_eq_true rfl) (fun x n m hp => (P_w_nox hp).elim) (fun o n m hp => ?_)
  obtain ⟨rfl, kk9, rfl, g, A, hmos, hN⟩ := hmid o n m hp
  refine ⟨rfl, ?_⟩
  refine mt_istore (pc := 1049) (x := kk9) dL_law__1049 (Nat.le_of_ble_eq_true rfl) rfl ?_
  refine mt_heq hmos ?_
  refine mt_aload_n (pc := 1051) dL_law__1051 rfl ?_
  refine mt_sc (pc := 1052) (kN := 1) hS (by omega) hL rfl rfl rfl dL_law__1052 dL_law__1053 dL_law__1055 dL_law__1056 dL_law__1057 ?_
  refine mt_sc (pc := 1058) (kN := 2) hS (by omega) hL rfl rfl rfl dL_law__1058 dL_law__1059 dL_law__1061 dL_law__1062 dL_law__1063 ?_
  refine mt_aV (pc := 1064) hN cal_X11_ahead vir_X11_ahead ml_L_176 dL_law__1064 (by decide) (mos_o m g A) (Nat.le_of_ble_eq_true rfl) hr1 rfl rfl (Nat.le_of_ble_eq_true rfl) (fun x n m hp => by obtain ⟨_, e, _⟩ := hp; cases e) (fun o2 n2 m2 hp2 => ?_)
  obtain ⟨o3, e3, hn2, bb, W, g', A', F, rfl, rfl, hg, hF, hv, hIV⟩ := hp2
  cases e3
  refine ⟨hn2, ?_⟩
  exact lt_tail (pc := 1067) (tgt := 2630) (by decide) (Nat.le_of_ble_eq_true rfl) hr1 rfl hg hF hv dL_law__1067 dL_law__1069 dL_law__1070 dL_law__1073 dL_law__1075 dL_law__1080 dL_law__1082 dL_law__1085 dL_law__1086 dL_law__1087 dL_law__1088 dL_law__1090 dL_law__1091 dL_law__1092 dL_law__1097 rfl (kk _ _ _ hIV (by omega) (by omega)) rfl
theorem lc_cheapest (hS : SCX G L xs) (hL : L ≤ 4608) (hi : i + 9 ≤ L) (hr : kc + 8 ≤ 601024 ∧ ks + 48 ≤ 7293034) (hnc : va_Nc (mm_exc 1) (mm_exc 0) (mm_s0 G)) (h0 : h 0 = .inr (10, fs)) (hC : mm_Con G l yX10_cheapest cX10_cheapest 9 (some .int) 50 8 48 [.ref 0, .int (xs (i + 1)), .int (xs (i + 2)), .int (xs (i + 3)), .int (xs (i + 4))] 216 h Po) (hO : WO 216 Po) (hX : ∀ x n m, Po (.inr x) n m → x = 0 ∨ x = 1) (hmid : ∀ o n m, P_w 2 cvI Po (.inl o) n m → n = 216 ∧ ∃ kk, o = some (.int kk) ∧ ∃ g A, m = mos m g A ∧ mm_Con G l yX11_cheapest cX11_cheapest 9 (some .int) 50 0 0 [.ref 188, .int (xs (i + 1)), .int (xs (i + 2)), .int (xs (i + 3)), .int (xs (i + 4))] 216 (mos m g A) (PQE kk cvI)) (kk : ∀ h' kc' ks', IV h' → kc' ≤ kc + 8 → ks' ≤ ks + 48 → mm_T (ML G l) RL cL_law_ 216 h' kc' ks' 2630 (LO i none none none) []) : mm_T (ML G l) RL cL_law_ 216 h kc ks 1100 (LO i none none none) [] := by
  have hr1 : kc + 8 ≤ 601024 ∧ ks + 48 ≤ 7293034 := ⟨by omega, by omega⟩
  refine mt_aload_n (pc := 1100) dL_law__1100 rfl ?_
  refine mt_sc (pc := 1101) (kN := 1) hS (by omega) hL rfl rfl rfl dL_law__1101 dL_law__1102 dL_law__1104 dL_law__1105 dL_law__1106 ?_
  refine mt_sc (pc := 1107) (kN := 2) hS (by omega) hL rfl rfl rfl dL_law__1107 dL_law__1108 dL_law__1110 dL_law__1111 dL_law__1112 ?_
  refine mt_sc (pc := 1113) (kN := 3) hS (by omega) hL rfl rfl rfl dL_law__1113 dL_law__1114 dL_law__1116 dL_law__1117 dL_law__1118 ?_
  refine mt_sc (pc := 1119) (kN := 4) hS (by omega) hL rfl rfl rfl dL_law__1119 dL_law__1120 dL_law__1122 dL_law__1123 dL_law__1124 ?_
  refine mt_aload_n (pc := 1125) dL_law__1125 rfl ?_
  refine mt_aSW (pc := 1126) (w_cheapest hC (Nat.le_refl _) h0 hnc hO hX) calW_L_cheapest sta_L_cheapest ml_L_177 dL_law__1126 (Nat.le_of_ble_eq_true rfl) hr1 rfl rfl (Nat.le_of_ble_eq_true rfl) (fun x n m hp => (P_w_nox hp).elim) (fun o n m hp => ?_)
  obtain ⟨rfl, kk9, rfl, g, A, hmos, hN⟩ := hmid o n m hp
  refine ⟨rfl, ?_⟩
  refine mt_istore (pc := 1129) (x := kk9) dL_law__1129 (Nat.le_of_ble_eq_true rfl) rfl ?_
  refine mt_heq hmos ?_
  refine mt_aload_n (pc := 1131) dL_law__1131 rfl ?_
  refine mt_sc (pc := 1132) (kN := 1) hS (by omega) hL rfl rfl rfl dL_law__1132 dL_law__1133 dL_law__1135 dL_law__1136 dL_law__1137 ?_
  refine mt_sc (pc := 1138) (kN := 2) hS (by omega) hL rfl rfl rfl dL_law__1138 dL_law__1139 dL_law__1141 dL_law__1142 dL_law__1143 ?_
  refine mt_sc (pc := 1144) (kN := 3) hS (by omega) hL rfl rfl rfl dL_law__1144 dL_law__1145 dL_law__1147 dL_law__1148 dL_law__1149 ?_
  refine mt_sc (pc := 1150) (kN := 4) hS (by omega) hL rfl rfl rfl dL_law__1150 dL_law__1151 dL_law__1153 dL_law__1154 dL_law__1155 ?_
  refine mt_aV (pc := 1156) hN cal_X11_cheapest vir_X11_cheapest ml_L_180 dL_law__1156 (by decide) (mos_o m g A) (Nat.le_of_ble_eq_true rfl) hr1 rfl rfl (Nat.le_of_ble_eq_true rfl) (fun x n m hp => by obtain ⟨_, e, _⟩ := hp; cases e) (fun o2 n2 m2 hp2 => ?_)
  obtain ⟨o3, e3, hn2, bb, W, g', A', F, rfl, rfl, hg, hF, hv, hIV⟩ := hp2
  cases e3
  refine ⟨hn2, ?_⟩
  exact lt_tail (pc := 1159) (tgt := 2630) (by decide) (Nat.le_of_ble_eq_true rfl) hr1 rfl hg hF hv dL_law__1159 dL_law__1161 dL_law__1162 dL_law__1165 dL_law__1167 dL_law__1172 dL_law__1174 dL_law__1177 dL_law__1178 dL_law__1179 dL_law__1180 dL_law__1182 dL_law__1183 dL_law__1184 dL_law__1189 rfl (kk _ _ _ hIV (by omega) (by omega)) rfl
theorem lc_clears (hS : SCX G L xs) (hL : L ≤ 4608) (hi : i + 9 ≤ L) (hr : kc + 8 ≤ 601024 ∧ ks + 48 ≤ 7293034) (hnc : va_Nc (mm_exc 1) (mm_exc 0) (mm_s0 G)) (h0 : h 0 = .inr (10, fs)) (hC : mm_Con G l yX10_clears cX10_clears 6 (some .int) 50 8 48 [.ref 0, .int (xs (i + 1))] 216 h Po) (hO : WO 216 Po) (hX : ∀ x n m, Po (.inr x) n m → x = 0) (hmid : ∀ o n m, P_w 1 cvI Po (.inl o) n m → n = 216 ∧ ∃ kk, o = some (.int kk) ∧ ∃ g A, m = mos m g A ∧ mm_Con G l yX11_clears cX11_clears 7 (some .int) 50 0 0 [.ref 188, .int (xs (i + 1))] 216 (mos m g A) (PQE kk cvI)) (kk : ∀ h' kc' ks', IV h' → kc' ≤ kc + 8 → ks' ≤ ks + 48 → mm_T (ML G l) RL cL_law_ 216 h' kc' ks' 2630 (LO i none none none) []) : mm_T (ML G l) RL cL_law_ 216 h kc ks 1192 (LO i none none none) [] := by
  have hr1 : kc + 8 ≤ 601024 ∧ ks + 48 ≤ 7293034 := ⟨by omega, by omega⟩
  refine mt_aload_n (pc := 1192) dL_law__1192 rfl ?_
  refine mt_sc (pc := 1193) (kN := 1) hS (by omega) hL rfl rfl rfl dL_law__1193 dL_law__1194 dL_law__1196 dL_law__1197 dL_law__1198 ?_
  refine mt_aload_n (pc := 1199) dL_law__1199 rfl ?_
  refine mt_aSW (pc := 1200) (w_clears hC (Nat.le_refl _) h0 hnc hO hX) calW_L_clears sta_L_clears ml_L_181 dL_law__1200 (Nat.le_of_ble_eq_true rfl) hr1 rfl rfl (Nat.le_of_ble_eq_true rfl) (fun x n m hp => (P_w_nox hp).elim) (fun o n m hp => ?_)
  obtain ⟨rfl, kk9, rfl, g, A, hmos, hN⟩ := hmid o n m hp
  refine ⟨rfl, ?_⟩
  refine mt_istore (pc := 1203) (x := kk9) dL_law__1203 (Nat.le_of_ble_eq_true rfl) rfl ?_
  refine mt_heq hmos ?_
  refine mt_aload_n (pc := 1205) dL_law__1205 rfl ?_
  refine mt_sc (pc := 1206) (kN := 1) hS (by omega) hL rfl rfl rfl dL_law__1206 dL_law__1207 dL_law__1209 dL_law__1210 dL_law__1211 ?_
  refine mt_aV (pc := 1212) hN cal_X11_clears vir_X11_clears ml_L_183 dL_law__1212 (by decide) (mos_o m g A) (Nat.le_of_ble_eq_true rfl) hr1 rfl rfl (Nat.le_of_ble_eq_true rfl) (fun x n m hp => by obtain ⟨_, e, _⟩ := hp; cases e) (fun o2 n2 m2 hp2 => ?_)
  obtain ⟨o3, e3, hn2, bb, W, g', A', F, rfl, rfl, hg, hF, hv, hIV⟩ := hp2
  cases e3
  refine ⟨hn2, ?_⟩
  exact lt_tail (pc := 1215) (tgt := 2630) (by decide) (Nat.le_of_ble_eq_true rfl) hr1 rfl hg hF hv dL_law__1215 dL_law__1217 dL_law__1218 dL_law__1221 dL_law__1223 dL_law__1228 dL_law__1230 dL_law__1233 dL_law__1234 dL_law__1235 dL_law__1236 dL_law__1238 dL_law__1239 dL_law__1240 dL_law__1245 rfl (kk _ _ _ hIV (by omega) (by omega)) rfl
theorem lc_comes (hS : SCX G L xs) (hL : L ≤ 4608) (hi : i + 9 ≤ L) (hr : kc + 8 ≤ 601024 ∧ ks + 48 ≤ 7293034) (hnc : va_Nc (mm_exc 1) (mm_exc 0) (mm_s0 G)) (h0 : h 0 = .inr (10, fs)) (hC : mm_Con G l yX10_comes cX10_comes 4 (some .int) 50 8 48 [.ref 0, .int (xs (i + 1))] 216 h Po) (hO : WO 216 Po) (hX : ∀ x n m, Po (.inr x) n m → x = 1) (hmid : ∀ o n m, P_w 1 cvI Po (.inl o) n m → n = 216 ∧ ∃ kk, o = some (.int kk) ∧ ∃ g A, m = mos m g A ∧ mm_Con G l yX11_comes cX11_comes 4 (some .int) 50 0 0 [.ref 188, .int (xs (i + 1))] 216 (mos m g A) (PQE kk cvI)) (kk : ∀ h' kc' ks', IV h' → kc' ≤ kc + 8 → ks' ≤ ks + 48 → mm_T (ML G l) RL cL_law_ 216 h' kc' ks' 2630 (LO i none none none) []) : mm_T (ML G l) RL cL_law_ 216 h kc ks 1248 (LO i none none none) [] := by
  have hr1 : kc + 8 ≤ 601024 ∧ ks + 48 ≤ 7293034 := ⟨by omega, by omega⟩
  refine mt_aload_n (pc := 1248) dL_law__1248 rfl ?_
  refine mt_sc (pc := 1249) (kN := 1) hS (by omega) hL rfl rfl rfl dL_law__1249 dL_law__1250 dL_law__1252 dL_law__1253 dL_law__1254 ?_
  refine mt_aload_n (pc := 1255) dL_law__1255 rfl ?_
  refine mt_aSW (pc := 1256) (w_comes hC (Nat.le_refl _) h0 hnc hO hX) calW_L_comes sta_L_comes ml_L_184 dL_law__1256 (Nat.le_of_ble_eq_true rfl) hr1 rfl rfl (Nat.le_of_ble_eq_true rfl) (fun x n m hp => (P_w_nox hp).elim) (fun o n m hp => ?_)
  obtain ⟨rfl, kk9, rfl, g, A, hmos, hN⟩ := hmid o n m hp
  refine ⟨rfl, ?_⟩
  refine mt_istore (pc := 1259) (x := kk9) dL_law__1259 (Nat.le_of_ble_eq_true rfl) rfl ?_
  refine mt_heq hmos ?_
  refine mt_aload_n (pc := 1261) dL_law__1261 rfl ?_
  refine mt_sc (pc := 1262) (kN := 1) hS (by omega) hL rfl rfl rfl dL_law__1262 dL_law__1263 dL_law__1265 dL_law__1266 dL_law__1267 ?_
  refine mt_aV (pc := 1268) hN cal_X11_comes vir_X11_comes ml_L_186 dL_law__1268 (by decide) (mos_o m g A) (Nat.le_of_ble_eq_true rfl) hr1 rfl rfl (Nat.le_of_ble_eq_true rfl) (fun x n m hp => by obtain ⟨_, e, _⟩ := hp; cases e) (fun o2 n2 m2 hp2 => ?_)
  obtain ⟨o3, e3, hn2, bb, W, g', A', F, rfl, rfl, hg, hF, hv, hIV⟩ := hp2
  cases e3
  refine ⟨hn2, ?_⟩
  exact lt_tail (pc := 1271) (tgt := 2630) (by decide) (Nat.le_of_ble_eq_true rfl) hr1 rfl hg hF hv dL_law__1271 dL_law__1273 dL_law__1274 dL_law__1277 dL_law__1279 dL_law__1284 dL_law__1286 dL_law__1289 dL_law__1290 dL_law__1291 dL_law__1292 dL_law__1294 dL_law__1295 dL_law__1296 dL_law__1301 rfl (kk _ _ _ hIV (by omega) (by omega)) rfl
theorem lc_serves (hS : SCX G L xs) (hL : L ≤ 4608) (hi : i + 9 ≤ L) (hr : kc + 8 ≤ 601024 ∧ ks + 48 ≤ 7293034) (hnc : va_Nc (mm_exc 1) (mm_exc 0) (mm_s0 G)) (h0 : h 0 = .inr (10, fs)) (hC : mm_Con G l yX10_serves cX10_serves 2 (some .int) 50 8 48 [.ref 0, .int (xs (i + 1))] 216 h Po) (hO : WO 216 Po) (hX : ∀ x n m, Po (.inr x) n m → x = 1) (hmid : ∀ o n m, P_w 1 cvI Po (.inl o) n m → n = 216 ∧ ∃ kk, o = some (.int kk) ∧ ∃ g A, m = mos m g A ∧ mm_Con G l yX11_serves cX11_serves 2 (some .int) 50 0 0 [.ref 188, .int (xs (i + 1))] 216 (mos m g A) (PQE kk cvI)) (kk : ∀ h' kc' ks', IV h' → kc' ≤ kc + 8 → ks' ≤ ks + 48 → mm_T (ML G l) RL cL_law_ 216 h' kc' ks' 2630 (LO i none none none) []) : mm_T (ML G l) RL cL_law_ 216 h kc ks 1304 (LO i none none none) [] := by
  have hr1 : kc + 8 ≤ 601024 ∧ ks + 48 ≤ 7293034 := ⟨by omega, by omega⟩
  refine mt_aload_n (pc := 1304) dL_law__1304 rfl ?_
  refine mt_sc (pc := 1305) (kN := 1) hS (by omega) hL rfl rfl rfl dL_law__1305 dL_law__1306 dL_law__1308 dL_law__1309 dL_law__1310 ?_
  refine mt_aload_n (pc := 1311) dL_law__1311 rfl ?_
  refine mt_aSW (pc := 1312) (w_serves hC (Nat.le_refl _) h0 hnc hO hX) calW_L_serves sta_L_serves ml_L_187 dL_law__1312 (Nat.le_of_ble_eq_true rfl) hr1 rfl rfl (Nat.le_of_ble_eq_true rfl) (fun x n m hp => (P_w_nox hp).elim) (fun o n m hp => ?_)
  obtain ⟨rfl, kk9, rfl, g, A, hmos, hN⟩ := hmid o n m hp
  refine ⟨rfl, ?_⟩
  refine mt_istore (pc := 1315) (x := kk9) dL_law__1315 (Nat.le_of_ble_eq_true rfl) rfl ?_
  refine mt_heq hmos ?_
  refine mt_aload_n (pc := 1317) dL_law__1317 rfl ?_
  refine mt_sc (pc := 1318) (kN := 1) hS (by omega) hL rfl rfl rfl dL_law__1318 dL_law__1319 dL_law__1321 dL_law__1322 dL_law__1323 ?_
  refine mt_aV (pc := 1324) hN cal_X11_serves vir_X11_serves ml_L_189 dL_law__1324 (by decide) (mos_o m g A) (Nat.le_of_ble_eq_true rfl) hr1 rfl rfl (Nat.le_of_ble_eq_true rfl) (fun x n m hp => by obtain ⟨_, e, _⟩ := hp; cases e) (fun o2 n2 m2 hp2 => ?_)
  obtain ⟨o3, e3, hn2, bb, W, g', A', F, rfl, rfl, hg, hF, hv, hIV⟩ := hp2
  cases e3
  refine ⟨hn2, ?_⟩
  exact lt_tail (pc := 1327) (tgt := 2630) (by decide) (Nat.le_of_ble_eq_true rfl) hr1 rfl hg hF hv dL_law__1327 dL_law__1329 dL_law__1330 dL_law__1333 dL_law__1335 dL_law__1340 dL_law__1342 dL_law__1345 dL_law__1346 dL_law__1347 dL_law__1348 dL_law__1350 dL_law__1351 dL_law__1352 dL_law__1357 rfl (kk _ _ _ hIV (by omega) (by omega)) rfl
theorem lc_served (hS : SCX G L xs) (hL : L ≤ 4608) (hi : i + 9 ≤ L) (hr : kc + 8 ≤ 601024 ∧ ks + 48 ≤ 7293034) (hnc : va_Nc (mm_exc 1) (mm_exc 0) (mm_s0 G)) (h0 : h 0 = .inr (10, fs)) (hC : mm_Con G l yX10_served cX10_served 2 (some .int) 50 8 48 [.ref 0, .int (xs (i + 1))] 216 h Po) (hO : WO 216 Po) (hX : ∀ x n m, Po (.inr x) n m → x = 0) (hmid : ∀ o n m, P_w 1 cvI Po (.inl o) n m → n = 216 ∧ ∃ kk, o = some (.int kk) ∧ ∃ g A, m = mos m g A ∧ mm_Con G l yX11_served cX11_served 2 (some .int) 50 0 0 [.ref 188, .int (xs (i + 1))] 216 (mos m g A) (PQE kk cvI)) (kk : ∀ h' kc' ks', IV h' → kc' ≤ kc + 8 → ks' ≤ ks + 48 → mm_T (ML G l) RL cL_law_ 216 h' kc' ks' 2630 (LO i none none none) []) : mm_T (ML G l) RL cL_law_ 216 h kc ks 1360 (LO i none none none) [] := by
  have hr1 : kc + 8 ≤ 601024 ∧ ks + 48 ≤ 7293034 := ⟨by omega, by omega⟩
  refine mt_aload_n (pc := 1360) dL_law__1360 rfl ?_
  refine mt_sc (pc := 1361) (kN := 1) hS (by omega) hL rfl rfl rfl dL_law__1361 dL_law__1362 dL_law__1364 dL_law__1365 dL_law__1366 ?_
  refine mt_aload_n (pc := 1367) dL_law__1367 rfl ?_
  refine mt_aSW (pc := 1368) (w_served hC (Nat.le_refl _) h0 hnc hO hX) calW_L_served sta_L_served ml_L_190 dL_law__1368 (Nat.le_of_ble_eq_true rfl) hr1 rfl rfl (Nat.le_of_ble_eq_true rfl) (fun x n m hp => (P_w_nox hp).elim) (fun o n m hp => ?_)
  obtain ⟨rfl, kk9, rfl, g, A, hmos, hN⟩ := hmid o n m hp
  refine ⟨rfl, ?_⟩
  refine mt_istore (pc := 1371) (x := kk9) dL_law__1371 (Nat.le_of_ble_eq_true rfl) rfl ?_
  refine mt_heq hmos ?_
  refine mt_aload_n (pc := 1373) dL_law__1373 rfl ?_
  refine mt_sc (pc := 1374) (kN := 1) hS (by omega) hL rfl rfl rfl dL_law__1374 dL_law__1375 dL_law__1377 dL_law__1378 dL_law__1379 ?_
  refine mt_aV (pc := 1380) hN cal_X11_served vir_X11_served ml_L_192 dL_law__1380 (by decide) (mos_o m g A) (Nat.le_of_ble_eq_true rfl) hr1 rfl rfl (Nat.le_of_ble_eq_true rfl) (fun x n m hp => by obtain ⟨_, e, _⟩ := hp; cases e) (fun o2 n2 m2 hp2 => ?_)
  obtain ⟨o3, e3, hn2, bb, W, g', A', F, rfl, rfl, hg, hF, hv, hIV⟩ := hp2
  cases e3
  refine ⟨hn2, ?_⟩
  exact lt_tail (pc := 1383) (tgt := 2630) (by decide) (Nat.le_of_ble_eq_true rfl) hr1 rfl hg hF hv dL_law__1383 dL_law__1385 dL_law__1386 dL_law__1389 dL_law__1391 dL_law__1396 dL_law__1398 dL_law__1401 dL_law__1402 dL_law__1403 dL_law__1404 dL_law__1406 dL_law__1407 dL_law__1408 dL_law__1413 rfl (kk _ _ _ hIV (by omega) (by omega)) rfl
theorem lc_call (hS : SCX G L xs) (hL : L ≤ 4608) (hi : i + 9 ≤ L) (hr : kc + 8 ≤ 601024 ∧ ks + 48 ≤ 7293034) (hnc : va_Nc (mm_exc 1) (mm_exc 0) (mm_s0 G)) (h0 : h 0 = .inr (10, fs)) (hC : mm_Con G l yX10_call cX10_call 2 (some .int) 50 8 48 [.ref 0, .int (xs (i + 1))] 216 h Po) (hO : WO 216 Po) (hX : ∀ x n m, Po (.inr x) n m → x = 1) (hmid : ∀ o n m, P_w 1 cvI Po (.inl o) n m → n = 216 ∧ ∃ kk, o = some (.int kk) ∧ ∃ g A, m = mos m g A ∧ mm_Con G l yX11_call cX11_call 7 (some .int) 50 0 0 [.ref 188, .int (xs (i + 1))] 216 (mos m g A) (PQE kk cvI)) (kk : ∀ h' kc' ks', IV h' → kc' ≤ kc + 8 → ks' ≤ ks + 48 → mm_T (ML G l) RL cL_law_ 216 h' kc' ks' 2630 (LO i none none none) []) : mm_T (ML G l) RL cL_law_ 216 h kc ks 1416 (LO i none none none) [] := by
  have hr1 : kc + 8 ≤ 601024 ∧ ks + 48 ≤ 7293034 := ⟨by omega, by omega⟩
  refine mt_aload_n (pc := 1416) dL_law__1416 rfl ?_
  refine mt_sc (pc := 1417) (kN := 1) hS (by omega) hL rfl rfl rfl dL_law__1417 dL_law__1418 dL_law__1420 dL_law__1421 dL_law__1422 ?_
  refine mt_aload_n (pc := 1423) dL_law__1423 rfl ?_
  refine mt_aSW (pc := 1424) (w_call hC (Nat.le_refl _) h0 hnc hO hX) calW_L_call sta_L_call ml_L_193 dL_law__1424 (Nat.le_of_ble_eq_true rfl) hr1 rfl rfl (Nat.le_of_ble_eq_true rfl) (fun x n m hp => (P_w_nox hp).elim) (fun o n m hp => ?_)
  obtain ⟨rfl, kk9, rfl, g, A, hmos, hN⟩ := hmid o n m hp
  refine ⟨rfl, ?_⟩
  refine mt_istore (pc := 1427) (x := kk9) dL_law__1427 (Nat.le_of_ble_eq_true rfl) rfl ?_
  refine mt_heq hmos ?_
  refine mt_aload_n (pc := 1429) dL_law__1429 rfl ?_
  refine mt_sc (pc := 1430) (kN := 1) hS (by omega) hL rfl rfl rfl dL_law__1430 dL_law__1431 dL_law__1433 dL_law__1434 dL_law__1435 ?_
  refine mt_aV (pc := 1436) hN cal_X11_call vir_X11_call ml_L_195 dL_law__1436 (by decide) (mos_o m g A) (Nat.le_of_ble_eq_true rfl) hr1 rfl rfl (Nat.le_of_ble_eq_true rfl) (fun x n m hp => by obtain ⟨_, e, _⟩ := hp; cases e) (fun o2 n2 m2 hp2 => ?_)
  obtain ⟨o3, e3, hn2, bb, W, g', A', F, rfl, rfl, hg, hF, hv, hIV⟩ := hp2
  cases e3
  refine ⟨hn2, ?_⟩
  exact lt_tail (pc := 1439) (tgt := 2630) (by decide) (Nat.le_of_ble_eq_true rfl) hr1 rfl hg hF hv dL_law__1439 dL_law__1441 dL_law__1442 dL_law__1445 dL_law__1447 dL_law__1452 dL_law__1454 dL_law__1457 dL_law__1458 dL_law__1459 dL_law__1460 dL_law__1462 dL_law__1463 dL_law__1464 dL_law__1469 rfl (kk _ _ _ hIV (by omega) (by omega)) rfl
theorem lc_run (hS : SCX G L xs) (hL : L ≤ 4608) (hi : i + 9 ≤ L) (hr : kc + 8 ≤ 601024 ∧ ks + 48 ≤ 7293034) (hnc : va_Nc (mm_exc 1) (mm_exc 0) (mm_s0 G)) (h0 : h 0 = .inr (10, fs)) (hC : mm_Con G l yX10_run cX10_run 3 (some .int) 50 8 48 [.ref 0, .int (xs (i + 1)), .int (xs (i + 2))] 216 h Po) (hO : WO 216 Po) (hX : ∀ x n m, Po (.inr x) n m → x = 0) (hmid : ∀ o n m, P_w 1 cvI Po (.inl o) n m → n = 216 ∧ ∃ kk, o = some (.int kk) ∧ ∃ g A, m = mos m g A ∧ mm_Con G l yX11_run cX11_run 3 (some .int) 50 0 0 [.ref 188, .int (xs (i + 1)), .int (xs (i + 2))] 216 (mos m g A) (PQE kk cvI)) (kk : ∀ h' kc' ks', IV h' → kc' ≤ kc + 8 → ks' ≤ ks + 48 → mm_T (ML G l) RL cL_law_ 216 h' kc' ks' 2630 (LO i none none none) []) : mm_T (ML G l) RL cL_law_ 216 h kc ks 1472 (LO i none none none) [] := by
  have hr1 : kc + 8 ≤ 601024 ∧ ks + 48 ≤ 7293034 := ⟨by omega, by omega⟩
  refine mt_aload_n (pc := 1472) dL_law__1472 rfl ?_
  refine mt_sc (pc := 1473) (kN := 1) hS (by omega) hL rfl rfl rfl dL_law__1473 dL_law__1474 dL_law__1476 dL_law__1477 dL_law__1478 ?_
  refine mt_sc (pc := 1479) (kN := 2) hS (by omega) hL rfl rfl rfl dL_law__1479 dL_law__1480 dL_law__1482 dL_law__1483 dL_law__1484 ?_
  refine mt_aload_n (pc := 1485) dL_law__1485 rfl ?_
  refine mt_aSW (pc := 1486) (w_run hC (Nat.le_refl _) h0 hnc hO hX) calW_L_run sta_L_run ml_L_196 dL_law__1486 (Nat.le_of_ble_eq_true rfl) hr1 rfl rfl (Nat.le_of_ble_eq_true rfl) (fun x n m hp => (P_w_nox hp).elim) (fun o n m hp => ?_)
  obtain ⟨rfl, kk9, rfl, g, A, hmos, hN⟩ := hmid o n m hp
  refine ⟨rfl, ?_⟩
  refine mt_istore (pc := 1489) (x := kk9) dL_law__1489 (Nat.le_of_ble_eq_true rfl) rfl ?_
  refine mt_heq hmos ?_
  refine mt_aload_n (pc := 1491) dL_law__1491 rfl ?_
  refine mt_sc (pc := 1492) (kN := 1) hS (by omega) hL rfl rfl rfl dL_law__1492 dL_law__1493 dL_law__1495 dL_law__1496 dL_law__1497 ?_
  refine mt_sc (pc := 1498) (kN := 2) hS (by omega) hL rfl rfl rfl dL_law__1498 dL_law__1499 dL_law__1501 dL_law__1502 dL_law__1503 ?_
  refine mt_aV (pc := 1504) hN cal_X11_run vir_X11_run ml_L_198 dL_law__1504 (by decide) (mos_o m g A) (Nat.le_of_ble_eq_true rfl) hr1 rfl rfl (Nat.le_of_ble_eq_true rfl) (fun x n m hp => by obtain ⟨_, e, _⟩ := hp; cases e) (fun o2 n2 m2 hp2 => ?_)
  obtain ⟨o3, e3, hn2, bb, W, g', A', F, rfl, rfl, hg, hF, hv, hIV⟩ := hp2
  cases e3
  refine ⟨hn2, ?_⟩
  exact lt_tail (pc := 1507) (tgt := 2630) (by decide) (Nat.le_of_ble_eq_true rfl) hr1 rfl hg hF hv dL_law__1507 dL_law__1509 dL_law__1510 dL_law__1513 dL_law__1515 dL_law__1520 dL_law__1522 dL_law__1525 dL_law__1526 dL_law__1527 dL_law__1528 dL_law__1530 dL_law__1531 dL_law__1532 dL_law__1537 rfl (kk _ _ _ hIV (by omega) (by omega)) rfl
theorem lc_all (hS : SCX G L xs) (hL : L ≤ 4608) (hi : i + 9 ≤ L) (hr : kc + 8 ≤ 601024 ∧ ks + 48 ≤ 7293034) (hnc : va_Nc (mm_exc 1) (mm_exc 0) (mm_s0 G)) (h0 : h 0 = .inr (10, fs)) (hC : mm_Con G l yX10_all cX10_all 10 (some .long) 50 8 48 [.ref 0, .int (xs (i + 1)), .int (xs (i + 2)), .int (xs (i + 3)), .int (xs (i + 4))] 216 h Po) (hO : WOL 216 Po) (hX : ∀ x n m, Po (.inr x) n m → x = 1) (hmid : ∀ o n m, P_w 1 cvL Po (.inl o) n m → n = 216 ∧ ∃ kk, o = some (.int kk) ∧ ∃ g A, m = mos m g A ∧ mm_Con G l yX11_all cX11_all 10 (some .long) 50 0 0 [.ref 188, .int (xs (i + 1)), .int (xs (i + 2)), .int (xs (i + 3)), .int (xs (i + 4))] 216 (mos m g A) (PQL kk)) (kk : ∀ h' kc' ks', IV h' → kc' ≤ kc + 8 → ks' ≤ ks + 48 → mm_T (ML G l) RL cL_law_ 216 h' kc' ks' 2630 (LO i none none none) []) : mm_T (ML G l) RL cL_law_ 216 h kc ks 1540 (LO i none none none) [] := by
  have hr1 : kc + 8 ≤ 601024 ∧ ks + 48 ≤ 7293034 := ⟨by omega, by omega⟩
  refine mt_aload_n (pc := 1540) dL_law__1540 rfl ?_
  refine mt_sc (pc := 1541) (kN := 1) hS (by omega) hL rfl rfl rfl dL_law__1541 dL_law__1542 dL_law__1544 dL_law__1545 dL_law__1546 ?_
  refine mt_sc (pc := 1547) (kN := 2) hS (by omega) hL rfl rfl rfl dL_law__1547 dL_law__1548 dL_law__1550 dL_law__1551 dL_law__1552 ?_
  refine mt_sc (pc := 1553) (kN := 3) hS (by omega) hL rfl rfl rfl dL_law__1553 dL_law__1554 dL_law__1556 dL_law__1557 dL_law__1558 ?_
  refine mt_sc (pc := 1559) (kN := 4) hS (by omega) hL rfl rfl rfl dL_law__1559 dL_law__1560 dL_law__1562 dL_law__1563 dL_law__1564 ?_
  refine mt_aload_n (pc := 1565) dL_law__1565 rfl ?_
  refine mt_aSW (pc := 1566) (w_all hC (Nat.le_refl _) h0 hnc hO hX) calW_L_all sta_L_all ml_L_199 dL_law__1566 (Nat.le_of_ble_eq_true rfl) hr1 rfl rfl (Nat.le_of_ble_eq_true rfl) (fun x n m hp => (P_w_nox hp).elim) (fun o n m hp => ?_)
  obtain ⟨rfl, kk9, rfl, g, A, hmos, hN⟩ := hmid o n m hp
  refine ⟨rfl, ?_⟩
  refine mt_istore (pc := 1569) (x := kk9) dL_law__1569 (Nat.le_of_ble_eq_true rfl) rfl ?_
  refine mt_heq hmos ?_
  refine mt_aload_n (pc := 1571) dL_law__1571 rfl ?_
  refine mt_sc (pc := 1572) (kN := 1) hS (by omega) hL rfl rfl rfl dL_law__1572 dL_law__1573 dL_law__1575 dL_law__1576 dL_law__1577 ?_
  refine mt_sc (pc := 1578) (kN := 2) hS (by omega) hL rfl rfl rfl dL_law__1578 dL_law__1579 dL_law__1581 dL_law__1582 dL_law__1583 ?_
  refine mt_sc (pc := 1584) (kN := 3) hS (by omega) hL rfl rfl rfl dL_law__1584 dL_law__1585 dL_law__1587 dL_law__1588 dL_law__1589 ?_
  refine mt_sc (pc := 1590) (kN := 4) hS (by omega) hL rfl rfl rfl dL_law__1590 dL_law__1591 dL_law__1593 dL_law__1594 dL_law__1595 ?_
  refine mt_aV (pc := 1596) hN cal_X11_all vir_X11_all ml_L_201 dL_law__1596 (by decide) (mos_o m g A) (Nat.le_of_ble_eq_true rfl) hr1 rfl rfl (Nat.le_of_ble_eq_true rfl) (fun x n m hp => by obtain ⟨_, e, _⟩ := hp; cases e) (fun o2 n2 m2 hp2 => ?_)
  obtain ⟨o3, e3, hn2, bb, W, g', A', F, rfl, rfl, hg, hF, hv, hIV⟩ := hp2
  cases e3
  refine ⟨hn2, ?_⟩
  have k2 : mm_T (ML G l) RL cL_law_ 216 (mos W g' A') (kc + 8) (ks + 48) 1628 (LO i (some (.int kk9)) (some (.long bb)) none) [] := by
    refine mt_goto (pc := 1628) (tgt := 2630) dL_law__1628 rfl ?_
    exact mt_fg (lo' := LO i none none none) ⟨rfl, rfl, rfl, rfl, rfl, trivial⟩ (kk _ _ _ hIV (by omega) (by omega))
  refine mt_lstore (pc := 1599) (x := bb) dL_law__1599 (Nat.le_of_ble_eq_true rfl) rfl ?_
  refine mt_aload_n (pc := 1601) dL_law__1601 rfl ?_
  refine mt_cV (pc := 1602) (n_thrown (d := 9) (by decide)) cal_X11_thrown vir_X11_thrown ml_L_132 dL_law__1602 (by decide) (mos_o W g' A') (Nat.le_of_ble_eq_true rfl) hr1 rfl rfl (Nat.le_of_ble_eq_true rfl) ?_
  refine mt_iload (pc := 1605) dL_law__1605 rfl ?_
  refine mt_icmp_eq (pc := 1607) (tgt := 1612) dL_law__1607 rfl (fun _ => ?_) (fun z => absurd hg z)
  refine mt_iload (pc := 1612) dL_law__1612 rfl ?_
  refine mt_if_ne (pc := 1614) (tgt := 1628) dL_law__1614 rfl (fun _ => k2) (fun hz => ?_)
  refine mt_aload_n (pc := 1617) dL_law__1617 rfl ?_
  refine mt_iconst (pc := 1618) dL_law__1618 rfl ?_
  refine mt_lald (pc := 1619) dL_law__1619 (by decide) ((mos_n (by decide) (by decide)).trans hF) (by unfold vp_in; decide) ?_
  refine mt_lload (pc := 1620) dL_law__1620 rfl ?_
  refine mt_lcmp (pc := 1622) dL_law__1622 ?_
  exact mt_if_eq (pc := 1623) (tgt := 1628) dL_law__1623 rfl (fun _ => k2) (fun z => absurd (lcmp_ne (hv hz)) z)
theorem lc_saint (hS : SCX G L xs) (hL : L ≤ 4608) (hi : i + 9 ≤ L) (hr : kc + 8 ≤ 601024 ∧ ks + 48 ≤ 7293034) (hnc : va_Nc (mm_exc 1) (mm_exc 0) (mm_s0 G)) (h0 : h 0 = .inr (10, fs)) (hC : mm_Con G l yX10_saint cX10_saint 9 (some .int) 50 8 48 [.ref 0, .int (xs (i + 1)), .int (xs (i + 2)), .int (xs (i + 3))] 216 h Po) (hO : WO 216 Po) (hX : ∀ x n m, Po (.inr x) n m → x = 1) (hmid : ∀ o n m, P_w 1 cvI Po (.inl o) n m → n = 216 ∧ ∃ kk, o = some (.int kk) ∧ ∃ g A, m = mos m g A ∧ mm_Con G l yX11_saint cX11_saint 9 (some .int) 50 0 0 [.ref 188, .int (xs (i + 1)), .int (xs (i + 2)), .int (xs (i + 3))] 216 (mos m g A) (PQE kk cvI)) (kk : ∀ h' kc' ks', IV h' → kc' ≤ kc + 8 → ks' ≤ ks + 48 → mm_T (ML G l) RL cL_law_ 216 h' kc' ks' 2630 (LO i none none none) []) : mm_T (ML G l) RL cL_law_ 216 h kc ks 1631 (LO i none none none) [] := by
  have hr1 : kc + 8 ≤ 601024 ∧ ks + 48 ≤ 7293034 := ⟨by omega, by omega⟩
  refine mt_aload_n (pc := 1631) dL_law__1631 rfl ?_
  refine mt_sc (pc := 1632) (kN := 1) hS (by omega) hL rfl rfl rfl dL_law__1632 dL_law__1633 dL_law__1635 dL_law__1636 dL_law__1637 ?_
  refine mt_sc (pc := 1638) (kN := 2) hS (by omega) hL rfl rfl rfl dL_law__1638 dL_law__1639 dL_law__1641 dL_law__1642 dL_law__1643 ?_
  refine mt_sc (pc := 1644) (kN := 3) hS (by omega) hL rfl rfl rfl dL_law__1644 dL_law__1645 dL_law__1647 dL_law__1648 dL_law__1649 ?_
  refine mt_aload_n (pc := 1650) dL_law__1650 rfl ?_
  refine mt_aSW (pc := 1651) (w_saint hC (Nat.le_refl _) h0 hnc hO hX) calW_L_saint sta_L_saint ml_L_202 dL_law__1651 (Nat.le_of_ble_eq_true rfl) hr1 rfl rfl (Nat.le_of_ble_eq_true rfl) (fun x n m hp => (P_w_nox hp).elim) (fun o n m hp => ?_)
  obtain ⟨rfl, kk9, rfl, g, A, hmos, hN⟩ := hmid o n m hp
  refine ⟨rfl, ?_⟩
  refine mt_istore (pc := 1654) (x := kk9) dL_law__1654 (Nat.le_of_ble_eq_true rfl) rfl ?_
  refine mt_heq hmos ?_
  refine mt_aload_n (pc := 1656) dL_law__1656 rfl ?_
  refine mt_sc (pc := 1657) (kN := 1) hS (by omega) hL rfl rfl rfl dL_law__1657 dL_law__1658 dL_law__1660 dL_law__1661 dL_law__1662 ?_
  refine mt_sc (pc := 1663) (kN := 2) hS (by omega) hL rfl rfl rfl dL_law__1663 dL_law__1664 dL_law__1666 dL_law__1667 dL_law__1668 ?_
  refine mt_sc (pc := 1669) (kN := 3) hS (by omega) hL rfl rfl rfl dL_law__1669 dL_law__1670 dL_law__1672 dL_law__1673 dL_law__1674 ?_
  refine mt_aV (pc := 1675) hN cal_X11_saint vir_X11_saint ml_L_204 dL_law__1675 (by decide) (mos_o m g A) (Nat.le_of_ble_eq_true rfl) hr1 rfl rfl (Nat.le_of_ble_eq_true rfl) (fun x n m hp => by obtain ⟨_, e, _⟩ := hp; cases e) (fun o2 n2 m2 hp2 => ?_)
  obtain ⟨o3, e3, hn2, bb, W, g', A', F, rfl, rfl, hg, hF, hv, hIV⟩ := hp2
  cases e3
  refine ⟨hn2, ?_⟩
  exact lt_tail (pc := 1678) (tgt := 2630) (by decide) (Nat.le_of_ble_eq_true rfl) hr1 rfl hg hF hv dL_law__1678 dL_law__1680 dL_law__1681 dL_law__1684 dL_law__1686 dL_law__1691 dL_law__1693 dL_law__1696 dL_law__1697 dL_law__1698 dL_law__1699 dL_law__1701 dL_law__1702 dL_law__1703 dL_law__1708 rfl (kk _ _ _ hIV (by omega) (by omega)) rfl
theorem lc_candles (hS : SCX G L xs) (hL : L ≤ 4608) (hi : i + 9 ≤ L) (hr : kc + 8 ≤ 601024 ∧ ks + 48 ≤ 7293034) (hnc : va_Nc (mm_exc 1) (mm_exc 0) (mm_s0 G)) (h0 : h 0 = .inr (10, fs)) (hC : mm_Con G l yX10_candles cX10_candles 5 (some .int) 50 8 48 [.ref 0, .int (xs (i + 1)), .int (xs (i + 2)), .int (xs (i + 3))] 216 h Po) (hO : WO 216 Po) (hX : ∀ x n m, Po (.inr x) n m → x = 0 ∨ x = 1) (hmid : ∀ o n m, P_w 2 cvI Po (.inl o) n m → n = 216 ∧ ∃ kk, o = some (.int kk) ∧ ∃ g A, m = mos m g A ∧ mm_Con G l yX11_candles cX11_candles 5 (some .int) 50 0 0 [.ref 188, .int (xs (i + 1)), .int (xs (i + 2)), .int (xs (i + 3))] 216 (mos m g A) (PQE kk cvI)) (kk : ∀ h' kc' ks', IV h' → kc' ≤ kc + 8 → ks' ≤ ks + 48 → mm_T (ML G l) RL cL_law_ 216 h' kc' ks' 2630 (LO i none none none) []) : mm_T (ML G l) RL cL_law_ 216 h kc ks 1711 (LO i none none none) [] := by
  have hr1 : kc + 8 ≤ 601024 ∧ ks + 48 ≤ 7293034 := ⟨by omega, by omega⟩
  refine mt_aload_n (pc := 1711) dL_law__1711 rfl ?_
  refine mt_sc (pc := 1712) (kN := 1) hS (by omega) hL rfl rfl rfl dL_law__1712 dL_law__1713 dL_law__1715 dL_law__1716 dL_law__1717 ?_
  refine mt_sc (pc := 1718) (kN := 2) hS (by omega) hL rfl rfl rfl dL_law__1718 dL_law__1719 dL_law__1721 dL_law__1722 dL_law__1723 ?_
  refine mt_sc (pc := 1724) (kN := 3) hS (by omega) hL rfl rfl rfl dL_law__1724 dL_law__1725 dL_law__1727 dL_law__1728 dL_law__1729 ?_
  refine mt_aload_n (pc := 1730) dL_law__1730 rfl ?_
  refine mt_aSW (pc := 1731) (w_candles hC (Nat.le_refl _) h0 hnc hO hX) calW_L_candles sta_L_candles ml_L_205 dL_law__1731 (Nat.le_of_ble_eq_true rfl) hr1 rfl rfl (Nat.le_of_ble_eq_true rfl) (fun x n m hp => (P_w_nox hp).elim) (fun o n m hp => ?_)
  obtain ⟨rfl, kk9, rfl, g, A, hmos, hN⟩ := hmid o n m hp
  refine ⟨rfl, ?_⟩
  refine mt_istore (pc := 1734) (x := kk9) dL_law__1734 (Nat.le_of_ble_eq_true rfl) rfl ?_
  refine mt_heq hmos ?_
  refine mt_aload_n (pc := 1736) dL_law__1736 rfl ?_
  refine mt_sc (pc := 1737) (kN := 1) hS (by omega) hL rfl rfl rfl dL_law__1737 dL_law__1738 dL_law__1740 dL_law__1741 dL_law__1742 ?_
  refine mt_sc (pc := 1743) (kN := 2) hS (by omega) hL rfl rfl rfl dL_law__1743 dL_law__1744 dL_law__1746 dL_law__1747 dL_law__1748 ?_
  refine mt_sc (pc := 1749) (kN := 3) hS (by omega) hL rfl rfl rfl dL_law__1749 dL_law__1750 dL_law__1752 dL_law__1753 dL_law__1754 ?_
  refine mt_aV (pc := 1755) hN cal_X11_candles vir_X11_candles ml_L_207 dL_law__1755 (by decide) (mos_o m g A) (Nat.le_of_ble_eq_true rfl) hr1 rfl rfl (Nat.le_of_ble_eq_true rfl) (fun x n m hp => by obtain ⟨_, e, _⟩ := hp; cases e) (fun o2 n2 m2 hp2 => ?_)
  obtain ⟨o3, e3, hn2, bb, W, g', A', F, rfl, rfl, hg, hF, hv, hIV⟩ := hp2
  cases e3
  refine ⟨hn2, ?_⟩
  exact lt_tail (pc := 1758) (tgt := 2630) (by decide) (Nat.le_of_ble_eq_true rfl) hr1 rfl hg hF hv dL_law__1758 dL_law__1760 dL_law__1761 dL_law__1764 dL_law__1766 dL_law__1771 dL_law__1773 dL_law__1776 dL_law__1777 dL_law__1778 dL_law__1779 dL_law__1781 dL_law__1782 dL_law__1783 dL_law__1788 rfl (kk _ _ _ hIV (by omega) (by omega)) rfl
theorem lc_richest (hS : SCX G L xs) (hL : L ≤ 4608) (hi : i + 9 ≤ L) (hr : kc + 8 ≤ 601024 ∧ ks + 48 ≤ 7293034) (hnc : va_Nc (mm_exc 1) (mm_exc 0) (mm_s0 G)) (h0 : h 0 = .inr (10, fs)) (hC : mm_Con G l yX10_richest cX10_richest 5 (some .int) 50 8 48 [.ref 0, .int (xs (i + 1))] 216 h Po) (hO : WO 216 Po) (hX : ∀ x n m, Po (.inr x) n m → x = 1) (hmid : ∀ o n m, P_w 1 cvI Po (.inl o) n m → n = 216 ∧ ∃ kk, o = some (.int kk) ∧ ∃ g A, m = mos m g A ∧ mm_Con G l yX11_richest cX11_richest 4 (some .int) 50 0 0 [.ref 188, .int (xs (i + 1))] 216 (mos m g A) (PQE kk cvI)) (kk : ∀ h' kc' ks', IV h' → kc' ≤ kc + 8 → ks' ≤ ks + 48 → mm_T (ML G l) RL cL_law_ 216 h' kc' ks' 2630 (LO i none none none) []) : mm_T (ML G l) RL cL_law_ 216 h kc ks 1791 (LO i none none none) [] := by
  have hr1 : kc + 8 ≤ 601024 ∧ ks + 48 ≤ 7293034 := ⟨by omega, by omega⟩
  refine mt_aload_n (pc := 1791) dL_law__1791 rfl ?_
  refine mt_sc (pc := 1792) (kN := 1) hS (by omega) hL rfl rfl rfl dL_law__1792 dL_law__1793 dL_law__1795 dL_law__1796 dL_law__1797 ?_
  refine mt_aload_n (pc := 1798) dL_law__1798 rfl ?_
  refine mt_aSW (pc := 1799) (w_richest hC (Nat.le_refl _) h0 hnc hO hX) calW_L_richest sta_L_richest ml_L_208 dL_law__1799 (Nat.le_of_ble_eq_true rfl) hr1 rfl rfl (Nat.le_of_ble_eq_true rfl) (fun x n m hp => (P_w_nox hp).elim) (fun o n m hp => ?_)
  obtain ⟨rfl, kk9, rfl, g, A, hmos, hN⟩ := hmid o n m hp
  refine ⟨rfl, ?_⟩
  refine mt_istore (pc := 1802) (x := kk9) dL_law__1802 (Nat.le_of_ble_eq_true rfl) rfl ?_
  refine mt_heq hmos ?_
  refine mt_aload_n (pc := 1804) dL_law__1804 rfl ?_
  refine mt_sc (pc := 1805) (kN := 1) hS (by omega) hL rfl rfl rfl dL_law__1805 dL_law__1806 dL_law__1808 dL_law__1809 dL_law__1810 ?_
  refine mt_aV (pc := 1811) hN cal_X11_richest vir_X11_richest ml_L_210 dL_law__1811 (by decide) (mos_o m g A) (Nat.le_of_ble_eq_true rfl) hr1 rfl rfl (Nat.le_of_ble_eq_true rfl) (fun x n m hp => by obtain ⟨_, e, _⟩ := hp; cases e) (fun o2 n2 m2 hp2 => ?_)
  obtain ⟨o3, e3, hn2, bb, W, g', A', F, rfl, rfl, hg, hF, hv, hIV⟩ := hp2
  cases e3
  refine ⟨hn2, ?_⟩
  exact lt_tail (pc := 1814) (tgt := 2630) (by decide) (Nat.le_of_ble_eq_true rfl) hr1 rfl hg hF hv dL_law__1814 dL_law__1816 dL_law__1817 dL_law__1820 dL_law__1822 dL_law__1827 dL_law__1829 dL_law__1832 dL_law__1833 dL_law__1834 dL_law__1835 dL_law__1837 dL_law__1838 dL_law__1839 dL_law__1844 rfl (kk _ _ _ hIV (by omega) (by omega)) rfl
theorem lc_next (hS : SCX G L xs) (hL : L ≤ 4608) (hi : i + 9 ≤ L) (hr : kc + 8 ≤ 601024 ∧ ks + 48 ≤ 7293034) (hnc : va_Nc (mm_exc 1) (mm_exc 0) (mm_s0 G)) (h0 : h 0 = .inr (10, fs)) (hC : mm_Con G l yX10_next cX10_next 7 (some .int) 50 8 48 [.ref 0, .int (xs (i + 1))] 216 h Po) (hO : WO 216 Po) (hX : ∀ x n m, Po (.inr x) n m → x = 1) (hmid : ∀ o n m, P_w 1 cvI Po (.inl o) n m → n = 216 ∧ ∃ kk, o = some (.int kk) ∧ ∃ g A, m = mos m g A ∧ mm_Con G l yX11_next cX11_next 4 (some .int) 50 0 0 [.ref 188, .int (xs (i + 1))] 216 (mos m g A) (PQE kk cvI)) (kk : ∀ h' kc' ks', IV h' → kc' ≤ kc + 8 → ks' ≤ ks + 48 → mm_T (ML G l) RL cL_law_ 216 h' kc' ks' 2630 (LO i none none none) []) : mm_T (ML G l) RL cL_law_ 216 h kc ks 1847 (LO i none none none) [] := by
  have hr1 : kc + 8 ≤ 601024 ∧ ks + 48 ≤ 7293034 := ⟨by omega, by omega⟩
  refine mt_aload_n (pc := 1847) dL_law__1847 rfl ?_
  refine mt_sc (pc := 1848) (kN := 1) hS (by omega) hL rfl rfl rfl dL_law__1848 dL_law__1849 dL_law__1851 dL_law__1852 dL_law__1853 ?_
  refine mt_aload_n (pc := 1854) dL_law__1854 rfl ?_
  refine mt_aSW (pc := 1855) (w_next hC (Nat.le_refl _) h0 hnc hO hX) calW_L_next sta_L_next ml_L_211 dL_law__1855 (Nat.le_of_ble_eq_true rfl) hr1 rfl rfl (Nat.le_of_ble_eq_true rfl) (fun x n m hp => (P_w_nox hp).elim) (fun o n m hp => ?_)
  obtain ⟨rfl, kk9, rfl, g, A, hmos, hN⟩ := hmid o n m hp
  refine ⟨rfl, ?_⟩
  refine mt_istore (pc := 1858) (x := kk9) dL_law__1858 (Nat.le_of_ble_eq_true rfl) rfl ?_
  refine mt_heq hmos ?_
  refine mt_aload_n (pc := 1860) dL_law__1860 rfl ?_
  refine mt_sc (pc := 1861) (kN := 1) hS (by omega) hL rfl rfl rfl dL_law__1861 dL_law__1862 dL_law__1864 dL_law__1865 dL_law__1866 ?_
  refine mt_aV (pc := 1867) hN cal_X11_next vir_X11_next ml_L_213 dL_law__1867 (by decide) (mos_o m g A) (Nat.le_of_ble_eq_true rfl) hr1 rfl rfl (Nat.le_of_ble_eq_true rfl) (fun x n m hp => by obtain ⟨_, e, _⟩ := hp; cases e) (fun o2 n2 m2 hp2 => ?_)
  obtain ⟨o3, e3, hn2, bb, W, g', A', F, rfl, rfl, hg, hF, hv, hIV⟩ := hp2
  cases e3
  refine ⟨hn2, ?_⟩
  exact lt_tail (pc := 1870) (tgt := 2630) (by decide) (Nat.le_of_ble_eq_true rfl) hr1 rfl hg hF hv dL_law__1870 dL_law__1872 dL_law__1873 dL_law__1876 dL_law__1878 dL_law__1883 dL_law__1885 dL_law__1888 dL_law__1889 dL_law__1890 dL_law__1891 dL_law__1893 dL_law__1894 dL_law__1895 dL_law__1900 rfl (kk _ _ _ hIV (by omega) (by omega)) rfl
theorem ld_shut (hS : SCX G L xs) (hL : L ≤ 4608) (hi : i + 9 ≤ L) (hr : kc + 8 ≤ 601024 ∧ ks + 48 ≤ 7293034) (h0 : h 0 = .inr (10, fs)) (hC : mm_Con G l yX10_shut cX10_shut 3 (some .int) 50 0 0 [.ref 0] 216 h Po) (hmid : ∀ o n m, Po o n m → ∃ v g A, o = .inl (some (.int v)) ∧ n = 216 ∧ m = mos m g A ∧ mm_Con G l yX11_shut cX11_shut 5 (some .int) 50 0 0 [.ref 188] 216 (mos m g A) (PE v)) (kk : ∀ h' kc' ks', IV h' → kc' ≤ kc + 8 → ks' ≤ ks + 48 → mm_T (ML G l) RL cL_law_ 216 h' kc' ks' 2630 (LO i none none none) []) : mm_T (ML G l) RL cL_law_ 216 h kc ks 1903 (LO i none none none) [] := by
  have hr1 : kc + 0 ≤ 601024 ∧ ks + 0 ≤ 7293034 := ⟨by omega, by omega⟩
  refine mt_aload_n (pc := 1903) dL_law__1903 rfl ?_
  refine mt_aV (pc := 1904) hC cal_X10_shut vir_X10_shut ml_L_214 dL_law__1904 (by decide) h0 (Nat.le_of_ble_eq_true rfl) hr1 rfl rfl (Nat.le_of_ble_eq_true rfl) (fun x n m hp => by obtain ⟨_, _, _, e, _⟩ := hmid _ _ _ hp; cases e) (fun o n m hp => ?_)
  obtain ⟨v, g, A, e, hn, hmos, hN⟩ := hmid _ _ _ hp
  cases e
  refine ⟨hn, ?_⟩
  refine mt_heq hmos ?_
  refine mt_aload_n (pc := 1907) dL_law__1907 rfl ?_
  refine mt_aV (pc := 1908) (st := [.int v]) hN cal_X11_shut vir_X11_shut ml_L_217 dL_law__1908 (by decide) (mos_o m g A) (Nat.le_of_ble_eq_true rfl) hr1 rfl rfl (Nat.le_of_ble_eq_true rfl) (fun x n m hp => by cases hp.1) (fun o2 n2 m2 hp2 => ?_)
  obtain ⟨e2, hn2, hIV⟩ := hp2
  cases e2
  exact ⟨hn2, mt_icmp_eq (pc := 1911) (tgt := 2630) dL_law__1911 rfl (fun _ => kk _ _ _ hIV (by omega) (by omega)) (fun z => absurd rfl z)⟩
theorem lc_kind (hS : SCX G L xs) (hL : L ≤ 4608) (hi : i + 9 ≤ L) (hr : kc + 8 ≤ 601024 ∧ ks + 48 ≤ 7293034) (hnc : va_Nc (mm_exc 1) (mm_exc 0) (mm_s0 G)) (h0 : h 0 = .inr (10, fs)) (hC : mm_Con G l yX10_kind cX10_kind 5 (some .int) 50 8 48 [.ref 0, .int (xs (i + 1)), .int (xs (i + 2))] 216 h Po) (hO : WO 216 Po) (hX : ∀ x n m, Po (.inr x) n m → x = 1) (hmid : ∀ o n m, P_w 1 cvI Po (.inl o) n m → n = 216 ∧ ∃ kk, o = some (.int kk) ∧ ∃ g A, m = mos m g A ∧ mm_Con G l yX11_kind cX11_kind 5 (some .int) 50 0 0 [.ref 188, .int (xs (i + 1)), .int (xs (i + 2))] 216 (mos m g A) (PQE kk cvI)) (kk : ∀ h' kc' ks', IV h' → kc' ≤ kc + 8 → ks' ≤ ks + 48 → mm_T (ML G l) RL cL_law_ 216 h' kc' ks' 2630 (LO i none none none) []) : mm_T (ML G l) RL cL_law_ 216 h kc ks 1916 (LO i none none none) [] := by
  have hr1 : kc + 8 ≤ 601024 ∧ ks + 48 ≤ 7293034 := ⟨by omega, by omega⟩
  refine mt_aload_n (pc := 1916) dL_law__1916 rfl ?_
  refine mt_sc (pc := 1917) (kN := 1) hS (by omega) hL rfl rfl rfl dL_law__1917 dL_law__1918 dL_law__1920 dL_law__1921 dL_law__1922 ?_
  refine mt_sc (pc := 1923) (kN := 2) hS (by omega) hL rfl rfl rfl dL_law__1923 dL_law__1924 dL_law__1926 dL_law__1927 dL_law__1928 ?_
  refine mt_aload_n (pc := 1929) dL_law__1929 rfl ?_
  refine mt_aSW (pc := 1930) (w_kind hC (Nat.le_refl _) h0 hnc hO hX) calW_L_kind sta_L_kind ml_L_218 dL_law__1930 (Nat.le_of_ble_eq_true rfl) hr1 rfl rfl (Nat.le_of_ble_eq_true rfl) (fun x n m hp => (P_w_nox hp).elim) (fun o n m hp => ?_)
  obtain ⟨rfl, kk9, rfl, g, A, hmos, hN⟩ := hmid o n m hp
  refine ⟨rfl, ?_⟩
  refine mt_istore (pc := 1933) (x := kk9) dL_law__1933 (Nat.le_of_ble_eq_true rfl) rfl ?_
  refine mt_heq hmos ?_
  refine mt_aload_n (pc := 1935) dL_law__1935 rfl ?_
  refine mt_sc (pc := 1936) (kN := 1) hS (by omega) hL rfl rfl rfl dL_law__1936 dL_law__1937 dL_law__1939 dL_law__1940 dL_law__1941 ?_
  refine mt_sc (pc := 1942) (kN := 2) hS (by omega) hL rfl rfl rfl dL_law__1942 dL_law__1943 dL_law__1945 dL_law__1946 dL_law__1947 ?_
  refine mt_aV (pc := 1948) hN cal_X11_kind vir_X11_kind ml_L_220 dL_law__1948 (by decide) (mos_o m g A) (Nat.le_of_ble_eq_true rfl) hr1 rfl rfl (Nat.le_of_ble_eq_true rfl) (fun x n m hp => by obtain ⟨_, e, _⟩ := hp; cases e) (fun o2 n2 m2 hp2 => ?_)
  obtain ⟨o3, e3, hn2, bb, W, g', A', F, rfl, rfl, hg, hF, hv, hIV⟩ := hp2
  cases e3
  refine ⟨hn2, ?_⟩
  exact lt_tail (pc := 1951) (tgt := 2630) (by decide) (Nat.le_of_ble_eq_true rfl) hr1 rfl hg hF hv dL_law__1951 dL_law__1953 dL_law__1954 dL_law__1957 dL_law__1959 dL_law__1964 dL_law__1966 dL_law__1969 dL_law__1970 dL_law__1971 dL_law__1972 dL_law__1974 dL_law__1975 dL_law__1976 dL_law__1981 rfl (kk _ _ _ hIV (by omega) (by omega)) rfl
theorem lc_worth (hS : SCX G L xs) (hL : L ≤ 4608) (hi : i + 9 ≤ L) (hr : kc + 8 ≤ 601024 ∧ ks + 48 ≤ 7293034) (hnc : va_Nc (mm_exc 1) (mm_exc 0) (mm_s0 G)) (h0 : h 0 = .inr (10, fs)) (hC : mm_Con G l yX10_worth cX10_worth 2 (some .int) 50 8 48 [.ref 0, .int (xs (i + 1))] 216 h Po) (hO : WO 216 Po) (hX : ∀ x n m, Po (.inr x) n m → x = 0) (hmid : ∀ o n m, P_w 1 cvI Po (.inl o) n m → n = 216 ∧ ∃ kk, o = some (.int kk) ∧ ∃ g A, m = mos m g A ∧ mm_Con G l yX11_worth cX11_worth 2 (some .int) 50 0 0 [.ref 188, .int (xs (i + 1))] 216 (mos m g A) (PQE kk cvI)) (kk : ∀ h' kc' ks', IV h' → kc' ≤ kc + 8 → ks' ≤ ks + 48 → mm_T (ML G l) RL cL_law_ 216 h' kc' ks' 2630 (LO i none none none) []) : mm_T (ML G l) RL cL_law_ 216 h kc ks 1984 (LO i none none none) [] := by
  have hr1 : kc + 8 ≤ 601024 ∧ ks + 48 ≤ 7293034 := ⟨by omega, by omega⟩
  refine mt_aload_n (pc := 1984) dL_law__1984 rfl ?_
  refine mt_sc (pc := 1985) (kN := 1) hS (by omega) hL rfl rfl rfl dL_law__1985 dL_law__1986 dL_law__1988 dL_law__1989 dL_law__1990 ?_
  refine mt_aload_n (pc := 1991) dL_law__1991 rfl ?_
  refine mt_aSW (pc := 1992) (w_worth hC (Nat.le_refl _) h0 hnc hO hX) calW_L_worth sta_L_worth ml_L_221 dL_law__1992 (Nat.le_of_ble_eq_true rfl) hr1 rfl rfl (Nat.le_of_ble_eq_true rfl) (fun x n m hp => (P_w_nox hp).elim) (fun o n m hp => ?_)
  obtain ⟨rfl, kk9, rfl, g, A, hmos, hN⟩ := hmid o n m hp
  refine ⟨rfl, ?_⟩
  refine mt_istore (pc := 1995) (x := kk9) dL_law__1995 (Nat.le_of_ble_eq_true rfl) rfl ?_
  refine mt_heq hmos ?_
  refine mt_aload_n (pc := 1997) dL_law__1997 rfl ?_
  refine mt_sc (pc := 1998) (kN := 1) hS (by omega) hL rfl rfl rfl dL_law__1998 dL_law__1999 dL_law__2001 dL_law__2002 dL_law__2003 ?_
  refine mt_aV (pc := 2004) hN cal_X11_worth vir_X11_worth ml_L_223 dL_law__2004 (by decide) (mos_o m g A) (Nat.le_of_ble_eq_true rfl) hr1 rfl rfl (Nat.le_of_ble_eq_true rfl) (fun x n m hp => by obtain ⟨_, e, _⟩ := hp; cases e) (fun o2 n2 m2 hp2 => ?_)
  obtain ⟨o3, e3, hn2, bb, W, g', A', F, rfl, rfl, hg, hF, hv, hIV⟩ := hp2
  cases e3
  refine ⟨hn2, ?_⟩
  exact lt_tail (pc := 2007) (tgt := 2630) (by decide) (Nat.le_of_ble_eq_true rfl) hr1 rfl hg hF hv dL_law__2007 dL_law__2009 dL_law__2010 dL_law__2013 dL_law__2015 dL_law__2020 dL_law__2022 dL_law__2025 dL_law__2026 dL_law__2027 dL_law__2028 dL_law__2030 dL_law__2031 dL_law__2032 dL_law__2037 rfl (kk _ _ _ hIV (by omega) (by omega)) rfl
theorem lc_broke (hS : SCX G L xs) (hL : L ≤ 4608) (hi : i + 9 ≤ L) (hr : kc + 8 ≤ 601024 ∧ ks + 48 ≤ 7293034) (hnc : va_Nc (mm_exc 1) (mm_exc 0) (mm_s0 G)) (h0 : h 0 = .inr (10, fs)) (hC : mm_Con G l yX10_broke cX10_broke 3 (some .int) 50 8 48 [.ref 0, .int (xs (i + 1))] 216 h Po) (hO : WO 216 Po) (hX : ∀ x n m, Po (.inr x) n m → x = 0) (hmid : ∀ o n m, P_w 1 cvI Po (.inl o) n m → n = 216 ∧ ∃ kk, o = some (.int kk) ∧ ∃ g A, m = mos m g A ∧ mm_Con G l yX11_broke cX11_broke 3 (some .int) 50 0 0 [.ref 188, .int (xs (i + 1))] 216 (mos m g A) (PQE kk cvI)) (kk : ∀ h' kc' ks', IV h' → kc' ≤ kc + 8 → ks' ≤ ks + 48 → mm_T (ML G l) RL cL_law_ 216 h' kc' ks' 2630 (LO i none none none) []) : mm_T (ML G l) RL cL_law_ 216 h kc ks 2040 (LO i none none none) [] := by
  have hr1 : kc + 8 ≤ 601024 ∧ ks + 48 ≤ 7293034 := ⟨by omega, by omega⟩
  refine mt_aload_n (pc := 2040) dL_law__2040 rfl ?_
  refine mt_sc (pc := 2041) (kN := 1) hS (by omega) hL rfl rfl rfl dL_law__2041 dL_law__2042 dL_law__2044 dL_law__2045 dL_law__2046 ?_
  refine mt_aload_n (pc := 2047) dL_law__2047 rfl ?_
  refine mt_aSW (pc := 2048) (w_broke hC (Nat.le_refl _) h0 hnc hO hX) calW_L_broke sta_L_broke ml_L_224 dL_law__2048 (Nat.le_of_ble_eq_true rfl) hr1 rfl rfl (Nat.le_of_ble_eq_true rfl) (fun x n m hp => (P_w_nox hp).elim) (fun o n m hp => ?_)
  obtain ⟨rfl, kk9, rfl, g, A, hmos, hN⟩ := hmid o n m hp
  refine ⟨rfl, ?_⟩
  refine mt_istore (pc := 2051) (x := kk9) dL_law__2051 (Nat.le_of_ble_eq_true rfl) rfl ?_
  refine mt_heq hmos ?_
  refine mt_aload_n (pc := 2053) dL_law__2053 rfl ?_
  refine mt_sc (pc := 2054) (kN := 1) hS (by omega) hL rfl rfl rfl dL_law__2054 dL_law__2055 dL_law__2057 dL_law__2058 dL_law__2059 ?_
  refine mt_aV (pc := 2060) hN cal_X11_broke vir_X11_broke ml_L_226 dL_law__2060 (by decide) (mos_o m g A) (Nat.le_of_ble_eq_true rfl) hr1 rfl rfl (Nat.le_of_ble_eq_true rfl) (fun x n m hp => by obtain ⟨_, e, _⟩ := hp; cases e) (fun o2 n2 m2 hp2 => ?_)
  obtain ⟨o3, e3, hn2, bb, W, g', A', F, rfl, rfl, hg, hF, hv, hIV⟩ := hp2
  cases e3
  refine ⟨hn2, ?_⟩
  exact lt_tail (pc := 2063) (tgt := 2630) (by decide) (Nat.le_of_ble_eq_true rfl) hr1 rfl hg hF hv dL_law__2063 dL_law__2065 dL_law__2066 dL_law__2069 dL_law__2071 dL_law__2076 dL_law__2078 dL_law__2081 dL_law__2082 dL_law__2083 dL_law__2084 dL_law__2086 dL_law__2087 dL_law__2088 dL_law__2093 rfl (kk _ _ _ hIV (by omega) (by omega)) rfl
theorem lc_late (hS : SCX G L xs) (hL : L ≤ 4608) (hi : i + 9 ≤ L) (hr : kc + 8 ≤ 601024 ∧ ks + 48 ≤ 7293034) (hnc : va_Nc (mm_exc 1) (mm_exc 0) (mm_s0 G)) (h0 : h 0 = .inr (10, fs)) (hC : mm_Con G l yX10_late cX10_late 5 (some .int) 50 8 48 [.ref 0, .int (xs (i + 1)), .int (xs (i + 2))] 216 h Po) (hO : WO 216 Po) (hX : ∀ x n m, Po (.inr x) n m → x = 0 ∨ x = 1) (hmid : ∀ o n m, P_w 2 cvI Po (.inl o) n m → n = 216 ∧ ∃ kk, o = some (.int kk) ∧ ∃ g A, m = mos m g A ∧ mm_Con G l yX11_late cX11_late 3 (some .int) 50 0 0 [.ref 188, .int (xs (i + 1)), .int (xs (i + 2))] 216 (mos m g A) (PQE kk cvI)) (kk : ∀ h' kc' ks', IV h' → kc' ≤ kc + 8 → ks' ≤ ks + 48 → mm_T (ML G l) RL cL_law_ 216 h' kc' ks' 2630 (LO i none none none) []) : mm_T (ML G l) RL cL_law_ 216 h kc ks 2096 (LO i none none none) [] := by
  have hr1 : kc + 8 ≤ 601024 ∧ ks + 48 ≤ 7293034 := ⟨by omega, by omega⟩
  refine mt_aload_n (pc := 2096) dL_law__2096 rfl ?_
  refine mt_sc (pc := 2097) (kN := 1) hS (by omega) hL rfl rfl rfl dL_law__2097 dL_law__2098 dL_law__2100 dL_law__2101 dL_law__2102 ?_
  refine mt_sc (pc := 2103) (kN := 2) hS (by omega) hL rfl rfl rfl dL_law__2103 dL_law__2104 dL_law__2106 dL_law__2107 dL_law__2108 ?_
  refine mt_aload_n (pc := 2109) dL_law__2109 rfl ?_
  refine mt_aSW (pc := 2110) (w_late hC (Nat.le_refl _) h0 hnc hO hX) calW_L_late sta_L_late ml_L_227 dL_law__2110 (Nat.le_of_ble_eq_true rfl) hr1 rfl rfl (Nat.le_of_ble_eq_true rfl) (fun x n m hp => (P_w_nox hp).elim) (fun o n m hp => ?_)
  obtain ⟨rfl, kk9, rfl, g, A, hmos, hN⟩ := hmid o n m hp
  refine ⟨rfl, ?_⟩
  refine mt_istore (pc := 2113) (x := kk9) dL_law__2113 (Nat.le_of_ble_eq_true rfl) rfl ?_
  refine mt_heq hmos ?_
  refine mt_aload_n (pc := 2115) dL_law__2115 rfl ?_
  refine mt_sc (pc := 2116) (kN := 1) hS (by omega) hL rfl rfl rfl dL_law__2116 dL_law__2117 dL_law__2119 dL_law__2120 dL_law__2121 ?_
  refine mt_sc (pc := 2122) (kN := 2) hS (by omega) hL rfl rfl rfl dL_law__2122 dL_law__2123 dL_law__2125 dL_law__2126 dL_law__2127 ?_
  refine mt_aV (pc := 2128) hN cal_X11_late vir_X11_late ml_L_229 dL_law__2128 (by decide) (mos_o m g A) (Nat.le_of_ble_eq_true rfl) hr1 rfl rfl (Nat.le_of_ble_eq_true rfl) (fun x n m hp => by obtain ⟨_, e, _⟩ := hp; cases e) (fun o2 n2 m2 hp2 => ?_)
  obtain ⟨o3, e3, hn2, bb, W, g', A', F, rfl, rfl, hg, hF, hv, hIV⟩ := hp2
  cases e3
  refine ⟨hn2, ?_⟩
  exact lt_tail (pc := 2131) (tgt := 2630) (by decide) (Nat.le_of_ble_eq_true rfl) hr1 rfl hg hF hv dL_law__2131 dL_law__2133 dL_law__2134 dL_law__2137 dL_law__2139 dL_law__2144 dL_law__2146 dL_law__2149 dL_law__2150 dL_law__2151 dL_law__2152 dL_law__2154 dL_law__2155 dL_law__2156 dL_law__2161 rfl (kk _ _ _ hIV (by omega) (by omega)) rfl
theorem lc_trust (hS : SCX G L xs) (hL : L ≤ 4608) (hi : i + 9 ≤ L) (hr : kc + 8 ≤ 601024 ∧ ks + 48 ≤ 7293034) (hnc : va_Nc (mm_exc 1) (mm_exc 0) (mm_s0 G)) (h0 : h 0 = .inr (10, fs)) (hC : mm_Con G l yX10_trust cX10_trust 5 (some .int) 50 8 48 [.ref 0, .int (xs (i + 1)), .int (xs (i + 2))] 216 h Po) (hO : WO 216 Po) (hX : ∀ x n m, Po (.inr x) n m → x = 0 ∨ x = 1) (hmid : ∀ o n m, P_w 2 cvI Po (.inl o) n m → n = 216 ∧ ∃ kk, o = some (.int kk) ∧ ∃ g A, m = mos m g A ∧ mm_Con G l yX11_trust cX11_trust 5 (some .int) 50 0 0 [.ref 188, .int (xs (i + 1)), .int (xs (i + 2))] 216 (mos m g A) (PQE kk cvI)) (kk : ∀ h' kc' ks', IV h' → kc' ≤ kc + 8 → ks' ≤ ks + 48 → mm_T (ML G l) RL cL_law_ 216 h' kc' ks' 2630 (LO i none none none) []) : mm_T (ML G l) RL cL_law_ 216 h kc ks 2164 (LO i none none none) [] := by
  have hr1 : kc + 8 ≤ 601024 ∧ ks + 48 ≤ 7293034 := ⟨by omega, by omega⟩
  refine mt_aload_n (pc := 2164) dL_law__2164 rfl ?_
  refine mt_sc (pc := 2165) (kN := 1) hS (by omega) hL rfl rfl rfl dL_law__2165 dL_law__2166 dL_law__2168 dL_law__2169 dL_law__2170 ?_
  refine mt_sc (pc := 2171) (kN := 2) hS (by omega) hL rfl rfl rfl dL_law__2171 dL_law__2172 dL_law__2174 dL_law__2175 dL_law__2176 ?_
  refine mt_aload_n (pc := 2177) dL_law__2177 rfl ?_
  refine mt_aSW (pc := 2178) (w_trust hC (Nat.le_refl _) h0 hnc hO hX) calW_L_trust sta_L_trust ml_L_230 dL_law__2178 (Nat.le_of_ble_eq_true rfl) hr1 rfl rfl (Nat.le_of_ble_eq_true rfl) (fun x n m hp => (P_w_nox hp).elim) (fun o n m hp => ?_)
  obtain ⟨rfl, kk9, rfl, g, A, hmos, hN⟩ := hmid o n m hp
  refine ⟨rfl, ?_⟩
  refine mt_istore (pc := 2181) (x := kk9) dL_law__2181 (Nat.le_of_ble_eq_true rfl) rfl ?_
  refine mt_heq hmos ?_
  refine mt_aload_n (pc := 2183) dL_law__2183 rfl ?_
  refine mt_sc (pc := 2184) (kN := 1) hS (by omega) hL rfl rfl rfl dL_law__2184 dL_law__2185 dL_law__2187 dL_law__2188 dL_law__2189 ?_
  refine mt_sc (pc := 2190) (kN := 2) hS (by omega) hL rfl rfl rfl dL_law__2190 dL_law__2191 dL_law__2193 dL_law__2194 dL_law__2195 ?_
  refine mt_aV (pc := 2196) hN cal_X11_trust vir_X11_trust ml_L_232 dL_law__2196 (by decide) (mos_o m g A) (Nat.le_of_ble_eq_true rfl) hr1 rfl rfl (Nat.le_of_ble_eq_true rfl) (fun x n m hp => by obtain ⟨_, e, _⟩ := hp; cases e) (fun o2 n2 m2 hp2 => ?_)
  obtain ⟨o3, e3, hn2, bb, W, g', A', F, rfl, rfl, hg, hF, hv, hIV⟩ := hp2
  cases e3
  refine ⟨hn2, ?_⟩
  exact lt_tail (pc := 2199) (tgt := 2630) (by decide) (Nat.le_of_ble_eq_true rfl) hr1 rfl hg hF hv dL_law__2199 dL_law__2201 dL_law__2202 dL_law__2205 dL_law__2207 dL_law__2212 dL_law__2214 dL_law__2217 dL_law__2218 dL_law__2219 dL_law__2220 dL_law__2222 dL_law__2223 dL_law__2224 dL_law__2229 rfl (kk _ _ _ hIV (by omega) (by omega)) rfl
theorem lc_deepest (hS : SCX G L xs) (hL : L ≤ 4608) (hi : i + 9 ≤ L) (hr : kc + 8 ≤ 601024 ∧ ks + 48 ≤ 7293034) (hnc : va_Nc (mm_exc 1) (mm_exc 0) (mm_s0 G)) (h0 : h 0 = .inr (10, fs)) (hC : mm_Con G l yX10_deepest cX10_deepest 6 (some .int) 50 8 48 [.ref 0, .int (xs (i + 1))] 216 h Po) (hO : WO 216 Po) (hX : ∀ x n m, Po (.inr x) n m → x = 1) (hmid : ∀ o n m, P_w 1 cvI Po (.inl o) n m → n = 216 ∧ ∃ kk, o = some (.int kk) ∧ ∃ g A, m = mos m g A ∧ mm_Con G l yX11_deepest cX11_deepest 4 (some .int) 50 0 0 [.ref 188, .int (xs (i + 1))] 216 (mos m g A) (PQE kk cvI)) (kk : ∀ h' kc' ks', IV h' → kc' ≤ kc + 8 → ks' ≤ ks + 48 → mm_T (ML G l) RL cL_law_ 216 h' kc' ks' 2630 (LO i none none none) []) : mm_T (ML G l) RL cL_law_ 216 h kc ks 2232 (LO i none none none) [] := by
  have hr1 : kc + 8 ≤ 601024 ∧ ks + 48 ≤ 7293034 := ⟨by omega, by omega⟩
  refine mt_aload_n (pc := 2232) dL_law__2232 rfl ?_
  refine mt_sc (pc := 2233) (kN := 1) hS (by omega) hL rfl rfl rfl dL_law__2233 dL_law__2234 dL_law__2236 dL_law__2237 dL_law__2238 ?_
  refine mt_aload_n (pc := 2239) dL_law__2239 rfl ?_
  refine mt_aSW (pc := 2240) (w_deepest hC (Nat.le_refl _) h0 hnc hO hX) calW_L_deepest sta_L_deepest ml_L_233 dL_law__2240 (Nat.le_of_ble_eq_true rfl) hr1 rfl rfl (Nat.le_of_ble_eq_true rfl) (fun x n m hp => (P_w_nox hp).elim) (fun o n m hp => ?_)
  obtain ⟨rfl, kk9, rfl, g, A, hmos, hN⟩ := hmid o n m hp
  refine ⟨rfl, ?_⟩
  refine mt_istore (pc := 2243) (x := kk9) dL_law__2243 (Nat.le_of_ble_eq_true rfl) rfl ?_
  refine mt_heq hmos ?_
  refine mt_aload_n (pc := 2245) dL_law__2245 rfl ?_
  refine mt_sc (pc := 2246) (kN := 1) hS (by omega) hL rfl rfl rfl dL_law__2246 dL_law__2247 dL_law__2249 dL_law__2250 dL_law__2251 ?_
  refine mt_aV (pc := 2252) hN cal_X11_deepest vir_X11_deepest ml_L_235 dL_law__2252 (by decide) (mos_o m g A) (Nat.le_of_ble_eq_true rfl) hr1 rfl rfl (Nat.le_of_ble_eq_true rfl) (fun x n m hp => by obtain ⟨_, e, _⟩ := hp; cases e) (fun o2 n2 m2 hp2 => ?_)
  obtain ⟨o3, e3, hn2, bb, W, g', A', F, rfl, rfl, hg, hF, hv, hIV⟩ := hp2
  cases e3
  refine ⟨hn2, ?_⟩
  exact lt_tail (pc := 2255) (tgt := 2630) (by decide) (Nat.le_of_ble_eq_true rfl) hr1 rfl hg hF hv dL_law__2255 dL_law__2257 dL_law__2258 dL_law__2261 dL_law__2263 dL_law__2268 dL_law__2270 dL_law__2273 dL_law__2274 dL_law__2275 dL_law__2276 dL_law__2278 dL_law__2279 dL_law__2280 dL_law__2285 rfl (kk _ _ _ hIV (by omega) (by omega)) rfl
theorem lc_poorest (hS : SCX G L xs) (hL : L ≤ 4608) (hi : i + 9 ≤ L) (hr : kc + 8 ≤ 601024 ∧ ks + 48 ≤ 7293034) (hnc : va_Nc (mm_exc 1) (mm_exc 0) (mm_s0 G)) (h0 : h 0 = .inr (10, fs)) (hC : mm_Con G l yX10_poorest cX10_poorest 6 (some .int) 50 8 48 [.ref 0, .int (xs (i + 1))] 216 h Po) (hO : WO 216 Po) (hX : ∀ x n m, Po (.inr x) n m → x = 1) (hmid : ∀ o n m, P_w 1 cvI Po (.inl o) n m → n = 216 ∧ ∃ kk, o = some (.int kk) ∧ ∃ g A, m = mos m g A ∧ mm_Con G l yX11_poorest cX11_poorest 4 (some .int) 50 0 0 [.ref 188, .int (xs (i + 1))] 216 (mos m g A) (PQE kk cvI)) (kk : ∀ h' kc' ks', IV h' → kc' ≤ kc + 8 → ks' ≤ ks + 48 → mm_T (ML G l) RL cL_law_ 216 h' kc' ks' 2630 (LO i none none none) []) : mm_T (ML G l) RL cL_law_ 216 h kc ks 2288 (LO i none none none) [] := by
  have hr1 : kc + 8 ≤ 601024 ∧ ks + 48 ≤ 7293034 := ⟨by omega, by omega⟩
  refine mt_aload_n (pc := 2288) dL_law__2288 rfl ?_
  refine mt_sc (pc := 2289) (kN := 1) hS (by omega) hL rfl rfl rfl dL_law__2289 dL_law__2290 dL_law__2292 dL_law__2293 dL_law__2294 ?_
  refine mt_aload_n (pc := 2295) dL_law__2295 rfl ?_
  refine mt_aSW (pc := 2296) (w_poorest hC (Nat.le_refl _) h0 hnc hO hX) calW_L_poorest sta_L_poorest ml_L_236 dL_law__2296 (Nat.le_of_ble_eq_true rfl) hr1 rfl rfl (Nat.le_of_ble_eq_true rfl) (fun x n m hp => (P_w_nox hp).elim) (fun o n m hp => ?_)
  obtain ⟨rfl, kk9, rfl, g, A, hmos, hN⟩ := hmid o n m hp
  refine ⟨rfl, ?_⟩
  refine mt_istore (pc := 2299) (x := kk9) dL_law__2299 (Nat.le_of_ble_eq_true rfl) rfl ?_
  refine mt_heq hmos ?_
  refine mt_aload_n (pc := 2301) dL_law__2301 rfl ?_
  refine mt_sc (pc := 2302) (kN := 1) hS (by omega) hL rfl rfl rfl dL_law__2302 dL_law__2303 dL_law__2305 dL_law__2306 dL_law__2307 ?_
  refine mt_aV (pc := 2308) hN cal_X11_poorest vir_X11_poorest ml_L_238 dL_law__2308 (by decide) (mos_o m g A) (Nat.le_of_ble_eq_true rfl) hr1 rfl rfl (Nat.le_of_ble_eq_true rfl) (fun x n m hp => by obtain ⟨_, e, _⟩ := hp; cases e) (fun o2 n2 m2 hp2 => ?_)
  obtain ⟨o3, e3, hn2, bb, W, g', A', F, rfl, rfl, hg, hF, hv, hIV⟩ := hp2
  cases e3
  refine ⟨hn2, ?_⟩
  exact lt_tail (pc := 2311) (tgt := 2630) (by decide) (Nat.le_of_ble_eq_true rfl) hr1 rfl hg hF hv dL_law__2311 dL_law__2313 dL_law__2314 dL_law__2317 dL_law__2319 dL_law__2324 dL_law__2326 dL_law__2329 dL_law__2330 dL_law__2331 dL_law__2332 dL_law__2334 dL_law__2335 dL_law__2336 dL_law__2341 rfl (kk _ _ _ hIV (by omega) (by omega)) rfl
theorem lc_winter (hS : SCX G L xs) (hL : L ≤ 4608) (hi : i + 9 ≤ L) (hr : kc + 8 ≤ 601024 ∧ ks + 48 ≤ 7293034) (hnc : va_Nc (mm_exc 1) (mm_exc 0) (mm_s0 G)) (h0 : h 0 = .inr (10, fs)) (hC : mm_Con G l yX10_winter cX10_winter 5 (some .int) 50 8 48 [.ref 0, .int (xs (i + 1)), .int (xs (i + 2)), .int (xs (i + 3)), .int (xs (i + 4))] 216 h Po) (hO : WO 216 Po) (hX : ∀ x n m, Po (.inr x) n m → x = 1) (hmid : ∀ o n m, P_w 1 cvI Po (.inl o) n m → n = 216 ∧ ∃ kk, o = some (.int kk) ∧ ∃ g A, m = mos m g A ∧ mm_Con G l yX11_winter cX11_winter 5 (some .int) 50 0 0 [.ref 188, .int (xs (i + 1)), .int (xs (i + 2)), .int (xs (i + 3)), .int (xs (i + 4))] 216 (mos m g A) (PQE kk cvI)) (kk : ∀ h' kc' ks', IV h' → kc' ≤ kc + 8 → ks' ≤ ks + 48 → mm_T (ML G l) RL cL_law_ 216 h' kc' ks' 2630 (LO i none none none) []) : mm_T (ML G l) RL cL_law_ 216 h kc ks 2344 (LO i none none none) [] := by
  have hr1 : kc + 8 ≤ 601024 ∧ ks + 48 ≤ 7293034 := ⟨by omega, by omega⟩
  refine mt_aload_n (pc := 2344) dL_law__2344 rfl ?_
  refine mt_sc (pc := 2345) (kN := 1) hS (by omega) hL rfl rfl rfl dL_law__2345 dL_law__2346 dL_law__2348 dL_law__2349 dL_law__2350 ?_
  refine mt_sc (pc := 2351) (kN := 2) hS (by omega) hL rfl rfl rfl dL_law__2351 dL_law__2352 dL_law__2354 dL_law__2355 dL_law__2356 ?_
  refine mt_sc (pc := 2357) (kN := 3) hS (by omega) hL rfl rfl rfl dL_law__2357 dL_law__2358 dL_law__2360 dL_law__2361 dL_law__2362 ?_
  refine mt_sc (pc := 2363) (kN := 4) hS (by omega) hL rfl rfl rfl dL_law__2363 dL_law__2364 dL_law__2366 dL_law__2367 dL_law__2368 ?_
  refine mt_aload_n (pc := 2369) dL_law__2369 rfl ?_
  refine mt_aSW (pc := 2370) (w_winter hC (Nat.le_refl _) h0 hnc hO hX) calW_L_winter sta_L_winter ml_L_239 dL_law__2370 (Nat.le_of_ble_eq_true rfl) hr1 rfl rfl (Nat.le_of_ble_eq_true rfl) (fun x n m hp => (P_w_nox hp).elim) (fun o n m hp => ?_)
  obtain ⟨rfl, kk9, rfl, g, A, hmos, hN⟩ := hmid o n m hp
  refine ⟨rfl, ?_⟩
  refine mt_istore (pc := 2373) (x := kk9) dL_law__2373 (Nat.le_of_ble_eq_true rfl) rfl ?_
  refine mt_heq hmos ?_
  refine mt_aload_n (pc := 2375) dL_law__2375 rfl ?_
  refine mt_sc (pc := 2376) (kN := 1) hS (by omega) hL rfl rfl rfl dL_law__2376 dL_law__2377 dL_law__2379 dL_law__2380 dL_law__2381 ?_
  refine mt_sc (pc := 2382) (kN := 2) hS (by omega) hL rfl rfl rfl dL_law__2382 dL_law__2383 dL_law__2385 dL_law__2386 dL_law__2387 ?_
  refine mt_sc (pc := 2388) (kN := 3) hS (by omega) hL rfl rfl rfl dL_law__2388 dL_law__2389 dL_law__2391 dL_law__2392 dL_law__2393 ?_
  refine mt_sc (pc := 2394) (kN := 4) hS (by omega) hL rfl rfl rfl dL_law__2394 dL_law__2395 dL_law__2397 dL_law__2398 dL_law__2399 ?_
  refine mt_aV (pc := 2400) hN cal_X11_winter vir_X11_winter ml_L_241 dL_law__2400 (by decide) (mos_o m g A) (Nat.le_of_ble_eq_true rfl) hr1 rfl rfl (Nat.le_of_ble_eq_true rfl) (fun x n m hp => by obtain ⟨_, e, _⟩ := hp; cases e) (fun o2 n2 m2 hp2 => ?_)
  obtain ⟨o3, e3, hn2, bb, W, g', A', F, rfl, rfl, hg, hF, hv, hIV⟩ := hp2
  cases e3
  refine ⟨hn2, ?_⟩
  exact lt_tail (pc := 2403) (tgt := 2630) (by decide) (Nat.le_of_ble_eq_true rfl) hr1 rfl hg hF hv dL_law__2403 dL_law__2405 dL_law__2406 dL_law__2409 dL_law__2411 dL_law__2416 dL_law__2418 dL_law__2421 dL_law__2422 dL_law__2423 dL_law__2424 dL_law__2426 dL_law__2427 dL_law__2428 dL_law__2433 rfl (kk _ _ _ hIV (by omega) (by omega)) rfl
theorem lc_span (hS : SCX G L xs) (hL : L ≤ 4608) (hi : i + 9 ≤ L) (hr : kc + 8 ≤ 601024 ∧ ks + 48 ≤ 7293034) (hnc : va_Nc (mm_exc 1) (mm_exc 0) (mm_s0 G)) (h0 : h 0 = .inr (10, fs)) (hC : mm_Con G l yX10_span cX10_span 12 (some .int) 50 8 48 [.ref 0, .int (xs (i + 1)), .int (xs (i + 2)), .int (xs (i + 3)), .int (xs (i + 4)), .int (xs (i + 5)), .int (xs (i + 6))] 216 h Po) (hO : WO 216 Po) (hX : ∀ x n m, Po (.inr x) n m → x = 1) (hmid : ∀ o n m, P_w 1 cvI Po (.inl o) n m → n = 216 ∧ ∃ kk, o = some (.int kk) ∧ ∃ g A, m = mos m g A ∧ mm_Con G l yX11_span cX11_span 12 (some .int) 50 0 0 [.ref 188, .int (xs (i + 1)), .int (xs (i + 2)), .int (xs (i + 3)), .int (xs (i + 4)), .int (xs (i + 5)), .int (xs (i + 6))] 216 (mos m g A) (PQE kk cvI)) (kk : ∀ h' kc' ks', IV h' → kc' ≤ kc + 8 → ks' ≤ ks + 48 → mm_T (ML G l) RL cL_law_ 216 h' kc' ks' 2630 (LO i none none none) []) : mm_T (ML G l) RL cL_law_ 216 h kc ks 2436 (LO i none none none) [] := by
  have hr1 : kc + 8 ≤ 601024 ∧ ks + 48 ≤ 7293034 := ⟨by omega, by omega⟩
  refine mt_aload_n (pc := 2436) dL_law__2436 rfl ?_
  refine mt_sc (pc := 2437) (kN := 1) hS (by omega) hL rfl rfl rfl dL_law__2437 dL_law__2438 dL_law__2440 dL_law__2441 dL_law__2442 ?_
  refine mt_sc (pc := 2443) (kN := 2) hS (by omega) hL rfl rfl rfl dL_law__2443 dL_law__2444 dL_law__2446 dL_law__2447 dL_law__2448 ?_
  refine mt_sc (pc := 2449) (kN := 3) hS (by omega) hL rfl rfl rfl dL_law__2449 dL_law__2450 dL_law__2452 dL_law__2453 dL_law__2454 ?_
  refine mt_sc (pc := 2455) (kN := 4) hS (by omega) hL rfl rfl rfl dL_law__2455 dL_law__2456 dL_law__2458 dL_law__2459 dL_law__2460 ?_
  refine mt_sc (pc := 2461) (kN := 5) hS (by omega) hL rfl rfl rfl dL_law__2461 dL_law__2462 dL_law__2464 dL_law__2465 dL_law__2466 ?_
  refine mt_scB (pc := 2467) (kN := 6) hS (by omega) hL rfl rfl rfl dL_law__2467 dL_law__2468 dL_law__2470 dL_law__2472 dL_law__2473 ?_
  refine mt_aload_n (pc := 2474) dL_law__2474 rfl ?_
  refine mt_aSW (pc := 2475) (w_span hC (Nat.le_refl _) h0 hnc hO hX) calW_L_span sta_L_span ml_L_242 dL_law__2475 (Nat.le_of_ble_eq_true rfl) hr1 rfl rfl (Nat.le_of_ble_eq_true rfl) (fun x n m hp => (P_w_nox hp).elim) (fun o n m hp => ?_)
  obtain ⟨rfl, kk9, rfl, g, A, hmos, hN⟩ := hmid o n m hp
  refine ⟨rfl, ?_⟩
  refine mt_istore (pc := 2478) (x := kk9) dL_law__2478 (Nat.le_of_ble_eq_true rfl) rfl ?_
  refine mt_heq hmos ?_
  refine mt_aload_n (pc := 2480) dL_law__2480 rfl ?_
  refine mt_sc (pc := 2481) (kN := 1) hS (by omega) hL rfl rfl rfl dL_law__2481 dL_law__2482 dL_law__2484 dL_law__2485 dL_law__2486 ?_
  refine mt_sc (pc := 2487) (kN := 2) hS (by omega) hL rfl rfl rfl dL_law__2487 dL_law__2488 dL_law__2490 dL_law__2491 dL_law__2492 ?_
  refine mt_sc (pc := 2493) (kN := 3) hS (by omega) hL rfl rfl rfl dL_law__2493 dL_law__2494 dL_law__2496 dL_law__2497 dL_law__2498 ?_
  refine mt_sc (pc := 2499) (kN := 4) hS (by omega) hL rfl rfl rfl dL_law__2499 dL_law__2500 dL_law__2502 dL_law__2503 dL_law__2504 ?_
  refine mt_sc (pc := 2505) (kN := 5) hS (by omega) hL rfl rfl rfl dL_law__2505 dL_law__2506 dL_law__2508 dL_law__2509 dL_law__2510 ?_
  refine mt_scB (pc := 2511) (kN := 6) hS (by omega) hL rfl rfl rfl dL_law__2511 dL_law__2512 dL_law__2514 dL_law__2516 dL_law__2517 ?_
  refine mt_aV (pc := 2518) hN cal_X11_span vir_X11_span ml_L_245 dL_law__2518 (by decide) (mos_o m g A) (Nat.le_of_ble_eq_true rfl) hr1 rfl rfl (Nat.le_of_ble_eq_true rfl) (fun x n m hp => by obtain ⟨_, e, _⟩ := hp; cases e) (fun o2 n2 m2 hp2 => ?_)
  obtain ⟨o3, e3, hn2, bb, W, g', A', F, rfl, rfl, hg, hF, hv, hIV⟩ := hp2
  cases e3
  refine ⟨hn2, ?_⟩
  exact lt_tail (pc := 2521) (tgt := 2630) (by decide) (Nat.le_of_ble_eq_true rfl) hr1 rfl hg hF hv dL_law__2521 dL_law__2523 dL_law__2524 dL_law__2527 dL_law__2529 dL_law__2534 dL_law__2536 dL_law__2539 dL_law__2540 dL_law__2541 dL_law__2542 dL_law__2544 dL_law__2545 dL_law__2546 dL_law__2551 rfl (kk _ _ _ hIV (by omega) (by omega)) rfl
theorem ld_image (hS : SCX G L xs) (hL : L ≤ 4608) (hi : i + 9 ≤ L) (hr : kc + 8 ≤ 601024 ∧ ks + 48 ≤ 7293034) (h0 : h 0 = .inr (10, fs)) (hC : mm_Con G l yX10_image cX10_image 1 (some .int) 50 0 0 [.ref 0] 216 h Po) (hmid : ∀ o n m, Po o n m → ∃ v g A, o = .inl (some (.int v)) ∧ n = 216 ∧ m = mos m g A ∧ mm_Con G l yX11_image cX11_image 1 (some .int) 50 0 0 [.ref 188] 216 (mos m g A) (PE v)) (kk : ∀ h' kc' ks', IV h' → kc' ≤ kc + 8 → ks' ≤ ks + 48 → mm_T (ML G l) RL cL_law_ 216 h' kc' ks' 2630 (LO i none none none) []) : mm_T (ML G l) RL cL_law_ 216 h kc ks 2554 (LO i none none none) [] := by
  have hr1 : kc + 0 ≤ 601024 ∧ ks + 0 ≤ 7293034 := ⟨by omega, by omega⟩
  refine mt_aload_n (pc := 2554) dL_law__2554 rfl ?_
  refine mt_aV (pc := 2555) hC cal_X10_image vir_X10_image ml_L_246 dL_law__2555 (by decide) h0 (Nat.le_of_ble_eq_true rfl) hr1 rfl rfl (Nat.le_of_ble_eq_true rfl) (fun x n m hp => by obtain ⟨_, _, _, e, _⟩ := hmid _ _ _ hp; cases e) (fun o n m hp => ?_)
  obtain ⟨v, g, A, e, hn, hmos, hN⟩ := hmid _ _ _ hp
  cases e
  refine ⟨hn, ?_⟩
  refine mt_heq hmos ?_
  refine mt_aload_n (pc := 2558) dL_law__2558 rfl ?_
  refine mt_aV (pc := 2559) (st := [.int v]) hN cal_X11_image vir_X11_image ml_L_249 dL_law__2559 (by decide) (mos_o m g A) (Nat.le_of_ble_eq_true rfl) hr1 rfl rfl (Nat.le_of_ble_eq_true rfl) (fun x n m hp => by cases hp.1) (fun o2 n2 m2 hp2 => ?_)
  obtain ⟨e2, hn2, hIV⟩ := hp2
  cases e2
  exact ⟨hn2, mt_icmp_eq (pc := 2562) (tgt := 2630) dL_law__2562 rfl (fun _ => kk _ _ _ hIV (by omega) (by omega)) (fun z => absurd rfl z)⟩
theorem ld_restore (hS : SCX G L xs) (hL : L ≤ 4608) (hi : i + 9 ≤ L) (hr : kc + 8 ≤ 601024 ∧ ks + 48 ≤ 7293034) (h0 : h 0 = .inr (10, fs)) (hC : mm_Con G l yX10_restore cX10_restore 1 (some .int) 50 0 0 [.ref 0] 216 h Po) (hmid : ∀ o n m, Po o n m → ∃ v g A, o = .inl (some (.int v)) ∧ n = 216 ∧ m = mos m g A ∧ mm_Con G l yX11_restore cX11_restore 1 (some .int) 50 0 0 [.ref 188] 216 (mos m g A) (PE v)) (kk : ∀ h' kc' ks', IV h' → kc' ≤ kc + 8 → ks' ≤ ks + 48 → mm_T (ML G l) RL cL_law_ 216 h' kc' ks' 2630 (LO i none none none) []) : mm_T (ML G l) RL cL_law_ 216 h kc ks 2567 (LO i none none none) [] := by
  have hr1 : kc + 0 ≤ 601024 ∧ ks + 0 ≤ 7293034 := ⟨by omega, by omega⟩
  refine mt_aload_n (pc := 2567) dL_law__2567 rfl ?_
  refine mt_aV (pc := 2568) hC cal_X10_restore vir_X10_restore ml_L_250 dL_law__2568 (by decide) h0 (Nat.le_of_ble_eq_true rfl) hr1 rfl rfl (Nat.le_of_ble_eq_true rfl) (fun x n m hp => by obtain ⟨_, _, _, e, _⟩ := hmid _ _ _ hp; cases e) (fun o n m hp => ?_)
  obtain ⟨v, g, A, e, hn, hmos, hN⟩ := hmid _ _ _ hp
  cases e
  refine ⟨hn, ?_⟩
  refine mt_heq hmos ?_
  refine mt_aload_n (pc := 2571) dL_law__2571 rfl ?_
  refine mt_aV (pc := 2572) (st := [.int v]) hN cal_X11_restore vir_X11_restore ml_L_253 dL_law__2572 (by decide) (mos_o m g A) (Nat.le_of_ble_eq_true rfl) hr1 rfl rfl (Nat.le_of_ble_eq_true rfl) (fun x n m hp => by cases hp.1) (fun o2 n2 m2 hp2 => ?_)
  obtain ⟨e2, hn2, hIV⟩ := hp2
  cases e2
  exact ⟨hn2, mt_icmp_eq (pc := 2575) (tgt := 2630) dL_law__2575 rfl (fun _ => kk _ _ _ hIV (by omega) (by omega)) (fun z => absurd rfl z)⟩
theorem ld_status (hS : SCX G L xs) (hL : L ≤ 4608) (hi : i + 9 ≤ L) (hr : kc + 8 ≤ 601024 ∧ ks + 48 ≤ 7293034) (h0 : h 0 = .inr (10, fs)) (hC : mm_Con G l yX10_status cX10_status 2 (some .int) 50 0 0 [.ref 0, .int (xs (i + 1))] 216 h Po) (hmid : ∀ o n m, Po o n m → ∃ v g A, o = .inl (some (.int v)) ∧ n = 216 ∧ m = mos m g A ∧ mm_Con G l yX11_status cX11_status 2 (some .int) 50 0 0 [.ref 188, .int (xs (i + 1))] 216 (mos m g A) (PE v)) (kk : ∀ h' kc' ks', IV h' → kc' ≤ kc + 8 → ks' ≤ ks + 48 → mm_T (ML G l) RL cL_law_ 216 h' kc' ks' 2630 (LO i none none none) []) : mm_T (ML G l) RL cL_law_ 216 h kc ks 2580 (LO i none none none) [] := by
  have hr1 : kc + 0 ≤ 601024 ∧ ks + 0 ≤ 7293034 := ⟨by omega, by omega⟩
  refine mt_aload_n (pc := 2580) dL_law__2580 rfl ?_
  refine mt_sc (pc := 2581) (kN := 1) hS (by omega) hL rfl rfl rfl dL_law__2581 dL_law__2582 dL_law__2584 dL_law__2585 dL_law__2586 ?_
  refine mt_aV (pc := 2587) hC cal_X10_status vir_X10_status ml_L_254 dL_law__2587 (by decide) h0 (Nat.le_of_ble_eq_true rfl) hr1 rfl rfl (Nat.le_of_ble_eq_true rfl) (fun x n m hp => by obtain ⟨_, _, _, e, _⟩ := hmid _ _ _ hp; cases e) (fun o n m hp => ?_)
  obtain ⟨v, g, A, e, hn, hmos, hN⟩ := hmid _ _ _ hp
  cases e
  refine ⟨hn, ?_⟩
  refine mt_heq hmos ?_
  refine mt_aload_n (pc := 2590) dL_law__2590 rfl ?_
  refine mt_sc (pc := 2591) (kN := 1) hS (by omega) hL rfl rfl rfl dL_law__2591 dL_law__2592 dL_law__2594 dL_law__2595 dL_law__2596 ?_
  refine mt_aV (pc := 2597) (st := [.int v]) hN cal_X11_status vir_X11_status ml_L_257 dL_law__2597 (by decide) (mos_o m g A) (Nat.le_of_ble_eq_true rfl) hr1 rfl rfl (Nat.le_of_ble_eq_true rfl) (fun x n m hp => by cases hp.1) (fun o2 n2 m2 hp2 => ?_)
  obtain ⟨e2, hn2, hIV⟩ := hp2
  cases e2
  exact ⟨hn2, mt_icmp_eq (pc := 2600) (tgt := 2630) dL_law__2600 rfl (fun _ => kk _ _ _ hIV (by omega) (by omega)) (fun z => absurd rfl z)⟩
theorem ld_count (hS : SCX G L xs) (hL : L ≤ 4608) (hi : i + 9 ≤ L) (hr : kc + 8 ≤ 601024 ∧ ks + 48 ≤ 7293034) (h0 : h 0 = .inr (10, fs)) (hC : mm_Con G l yX10_count cX10_count 2 (some .int) 50 0 0 [.ref 0, .int (xs (i + 1))] 216 h Po) (hmid : ∀ o n m, Po o n m → ∃ v g A, o = .inl (some (.int v)) ∧ n = 216 ∧ m = mos m g A ∧ mm_Con G l yX11_count cX11_count 2 (some .int) 50 0 0 [.ref 188, .int (xs (i + 1))] 216 (mos m g A) (PE v)) (kk : ∀ h' kc' ks', IV h' → kc' ≤ kc + 8 → ks' ≤ ks + 48 → mm_T (ML G l) RL cL_law_ 216 h' kc' ks' 2630 (LO i none none none) []) : mm_T (ML G l) RL cL_law_ 216 h kc ks 2605 (LO i none none none) [] := by
  have hr1 : kc + 0 ≤ 601024 ∧ ks + 0 ≤ 7293034 := ⟨by omega, by omega⟩
  refine mt_aload_n (pc := 2605) dL_law__2605 rfl ?_
  refine mt_sc (pc := 2606) (kN := 1) hS (by omega) hL rfl rfl rfl dL_law__2606 dL_law__2607 dL_law__2609 dL_law__2610 dL_law__2611 ?_
  refine mt_aV (pc := 2612) hC cal_X10_count vir_X10_count ml_L_258 dL_law__2612 (by decide) h0 (Nat.le_of_ble_eq_true rfl) hr1 rfl rfl (Nat.le_of_ble_eq_true rfl) (fun x n m hp => by obtain ⟨_, _, _, e, _⟩ := hmid _ _ _ hp; cases e) (fun o n m hp => ?_)
  obtain ⟨v, g, A, e, hn, hmos, hN⟩ := hmid _ _ _ hp
  cases e
  refine ⟨hn, ?_⟩
  refine mt_heq hmos ?_
  refine mt_aload_n (pc := 2615) dL_law__2615 rfl ?_
  refine mt_sc (pc := 2616) (kN := 1) hS (by omega) hL rfl rfl rfl dL_law__2616 dL_law__2617 dL_law__2619 dL_law__2620 dL_law__2621 ?_
  refine mt_aV (pc := 2622) (st := [.int v]) hN cal_X11_count vir_X11_count ml_L_261 dL_law__2622 (by decide) (mos_o m g A) (Nat.le_of_ble_eq_true rfl) hr1 rfl rfl (Nat.le_of_ble_eq_true rfl) (fun x n m hp => by cases hp.1) (fun o2 n2 m2 hp2 => ?_)
  obtain ⟨e2, hn2, hIV⟩ := hp2
  cases e2
  exact ⟨hn2, mt_icmp_eq (pc := 2625) (tgt := 2630) dL_law__2625 rfl (fun _ => kk _ _ _ hIV (by omega) (by omega)) (fun z => absurd rfl z)⟩
end LCS
