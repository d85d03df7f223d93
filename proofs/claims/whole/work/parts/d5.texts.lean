/-! The texts, all, and the calls that never throw. -/
section LTX
variable {G : mm_G} {l : Launch} {L : Nat} {xs : Nat → Int32} {i kc ks : Nat} {h : Nat → mm_E} {g : MG} {A : MA} {b : Nat → Int32} {sz : Nat} {fp : Int32} {ic : Nat} {rs ne ia : Int32} {k : CS} {cs : List Nat} {bk : BS} {pg : PGS} {im : Nat → PGS}
/-- what a text's promise keeps -/
def TXP (h : Nat → mm_E) (Po : mm_P) : Prop := ∀ o n m, Po o n m → n = 216 ∧ (∃ w, o = .inl (some (.int w))) ∧ FX h m
theorem TXP.wo {Po : mm_P} (hP : TXP h Po) (hF : ∃ F, h 215 = ouE F) : WO 216 Po := by
  intro v n m hp
  obtain ⟨rfl, ⟨w, e⟩, hf⟩ := hP _ _ _ hp
  cases e
  obtain ⟨F, hF⟩ := hF
  exact ⟨rfl, ⟨w, rfl⟩, F, (hf 215 (by decide)).trans hF⟩
theorem TXP.x {Po : mm_P} (hP : TXP h Po) {P : Nat → Prop} : ∀ x n m, Po (.inr x) n m → P x := by
  intro x n m hp
  obtain ⟨-, ⟨w, e⟩, -⟩ := hP _ _ _ hp
  cases e
theorem TXP_tx {α : Type} {z : (Nat × Nat) ⊕ α} {v : α → Int32} {Bad : Int32 → (Nat → mm_E) → Prop} {Good : α → (Nat → mm_E) → Prop} : TXP h (P_tx z v Bad Good 216 h) := by
  intro o n m hp
  obtain ⟨hn, hf, hp⟩ := hp
  rcases z with y | a
  · exact ⟨hn, ⟨_, hp.1⟩, hf⟩
  · exact ⟨hn, ⟨_, hp.1⟩, hf⟩
theorem t_all {y : MethodName} {c : ByteArray} {nL : Nat} {rt : Option FieldType} {av : List Value} {c1 : Int32} {Po : mm_P} {Pm : (Nat → mm_E) → mm_P} (hI : IVs h g A b sz fp ic rs ne ia k cs bk pg im) (hP : TXP h Po) (hm : ∀ m, mm_Con G l y c nL rt 50 0 0 av 216 (mos m g A) (Pm m))
    (hend : ∀ w m0 m o2 n2 m2, Po (.inl (some (.int w))) 216 m0 → m 213 = h 213 → (∀ j, j < 188 → m j = m0 j) → (∃ F, m 215 = ouE F) → Pm m o2 n2 m2 → o2 = .inl (some (.int w)) ∧ n2 = 216 ∧ ∃ g' A', m2 = mos m g' A' ∧ g' 0 = 0 ∧ IV (mos m g' A')) :
    ∀ o n m, P_w c1 cvI Po (.inl o) n m → n = 216 ∧ ∃ kk, o = some (.int kk) ∧ ∃ g A, m = mos m g A ∧ mm_Con G l y c nL rt 50 0 0 av 216 (mos m g A) (PQE kk cvI) := by
  intro o n m hw
  rcases hw with ⟨x, hq, e⟩ | ⟨v, m0, F, hq, hF, e, hm0⟩
  · obtain ⟨-, ⟨w, e1⟩, -⟩ := hP _ _ _ hq
    cases e1
  · cases e
    obtain ⟨hn, ⟨w, e1⟩, hf⟩ := hP _ _ _ hq
    cases e1
    subst hn
    have hj : ∀ j, j ≠ 215 → m j = m0 j := fun j h2 => by rw [hm0, hset_ne h2]
    have h215 : m 215 = ouE (vp_updL F 0 (cvI (.int w))) := by rw [hm0]; exact hset_eq _ _ _
    refine ⟨rfl, 0, rfl, g, A, mos_same hI.1 (fun j h1 h2 => (hj j (by omega)).trans (hf j h1)), con_imp (hm m) ?_⟩
    intro o2 n2 m2 hp2
    obtain ⟨e2, hn2, g', A', e3, hg, hIV⟩ := hend w m0 m o2 n2 m2 hq ((hj 213 (by decide)).trans (hf 213 (by decide))) (fun j hj2 => hj j (by omega)) ⟨_, h215⟩ hp2
    subst e3
    exact ⟨_, e2, hn2, w, m, g', A', _, rfl, rfl, hg, h215, fun _ => if_pos rfl, hIV⟩
/-- a text refused outright is a question refused -/
theorem thr_q {y : MethodName} {c : ByteArray} {nL : Nat} {rt : Option FieldType} {av : List Value} {mc ms : Nat} {x0 x1 x2 x3 : Int32} {d nx : Nat} (hC : mm_Con G l y c nL rt d mc ms av nx h (mm_thr 1 nx (hset h 0 (bmp 1 x0 x1 x2 x3)))) : mm_Con G l y c nL rt d mc ms av nx h (P_q (.inl 1) x0 x1 x2 x3 nx h) := con_imp hC (fun o n m hq => ⟨hq.2.1, hq.1, hq.2.2⟩)
theorem ret_mq {y : MethodName} {c : ByteArray} {nL : Nat} {rt : Option FieldType} {av : List Value} {mc ms : Nat} {d nx : Nat} (hC : mm_Con G l y c nL rt d mc ms av nx (mos h g A) (mm_ret (some (.int 0)) nx (mos h (upd g 0 1) (updR A 189 (upd (A 189) 1 (A 189 1 + 1)))))) : mm_Con G l y c nL rt d mc ms av nx (mos h g A) (P_mq 1 1 (.inl 1) nx h g A) := con_imp hC (fun o n m hq => ⟨hq.2.1, hq.1, hq.2.2⟩)
theorem x_11 {P : Nat → Prop} (h : P 1) : ∀ x, (Sum.inl 1 : Nat ⊕ Int32) = .inl x → P x := xr_l h
/-- a length that is told: within what is fed, and within a bound -/
theorem len_in {z : Int32} {sz N : Nat} (hz : ¬ z < 0 ∧ ¬ nI sz < z ∧ ¬ nI N < z) (hs : sz ≤ 600) (hN : N ≤ 600) : ∃ e, e ≤ sz ∧ e ≤ N ∧ z = nI e := by
  obtain ⟨j, hj, rfl⟩ := nI_of hz.1
  exact ⟨j, Nat.le_of_not_lt fun q => hz.2.1 (nI_lt q hj), Nat.le_of_not_lt fun q => hz.2.2 (nI_lt q hj), rfl⟩
theorem IVs.sq (hI : IVs h g A b sz fp ic rs ne ia k cs bk pg im) : sz ≤ 600 := hI.cw.2.2.2.2.2.2.2.2.2.2.2.2.2.2.2.2.1
theorem IVs.yy (hI : IVs h g A b sz fp ic rs ne ia k cs bk pg im) : BY b := hI.cw.2.2.2.2.2.2.2.2.2.2.2.2.2.2.2.2.2
theorem IVs.tp (hI : IVs h g A b sz fp ic rs ne ia k cs bk pg im) : TP (A 190) b := hI.mv.1
theorem IVs.g2 (hI : IVs h g A b sz fp ic rs ne ia k cs bk pg im) : g 2 = nI sz := hI.mv.2.1
theorem IVs.cr (hI : IVs h g A b sz fp ic rs ne ia k cs bk pg im) : ∃ K, CR h K := hI.cw.2.2.2.2.2.2.2.2.2.2.1
theorem IVs.br (hI : IVs h g A b sz fp ic rs ne ia k cs bk pg im) : ∃ K, BR h K := hI.cw.2.2.2.2.2.2.2.2.2.2.2.2.1
theorem nI0_of {x : Int32} (h : x = 0) : x = nI 0 := h.trans nI_0.symm
theorem lq_county (hl : l.stackTraces = false) (hS : SCX G L xs) (hL : L ≤ 4608) (hi : i + 9 ≤ L) (hr : kc + 8 ≤ 601024 ∧ ks + 48 ≤ 7293034) (hnc : va_Nc (mm_exc 1) (mm_exc 0) (mm_s0 G)) (hI : IVs h g A b sz fp ic rs ne ia k cs bk pg im) (kk : ∀ h' kc' ks', IV h' → kc' ≤ kc + 8 → ks' ≤ ks + 48 → mm_T (ML G l) RL cL_law_ 216 h' kc' ks' 2630 (LO i none none none) []) : mm_T (ML G l) RL cL_law_ 216 h kc ks 289 (LO i none none none) [] := by
  by_cases hz : ¬ xs (i + 1) < 0 ∧ ¬ nI sz < xs (i + 1) ∧ ¬ nI 600 < xs (i + 1)
  · obtain ⟨e, he, -, hze⟩ := len_in hz hI.sq (Nat.le_refl _)
    obtain ⟨K, wCR⟩ := hI.cr
    refine lc_county hS hL hi hr hnc hI.cw.1 (by rw [hze]; exact c_county hl (Nat.le_of_ble_eq_true rfl) (Nat.le_of_ble_eq_true rfl) hI.cw wCR he) (TXP_tx.wo hI.2.2.2) TXP_tx.x (t_all hI TXP_tx (fun m => by rw [hze]; exact n_county (h := m) (k0 := (0, 0, K.2.2)) (Nat.le_of_ble_eq_true rfl) (Nat.le_of_ble_eq_true rfl) hI.tp hI.yy hI.g2 hI.sq he rfl rfl) ?_) kk
    intro w m0 m o2 n2 m2 hq h213 hj hF hp
    obtain ⟨F, hF⟩ := hF
    obtain ⟨-, -, hq⟩ := hq
    obtain ⟨hn2, g', A', e2, hg0, hg2, hp⟩ := hp
    generalize cntS b e 61 0 0 (0, 0, K.2.2) = z at hq hp
    rcases z with y | c
    · obtain ⟨e1, hB⟩ := hq
      cases e1
      exact ⟨hp.1, hn2, g', A', e2, hg0, IV_mk (CW_lo hB hj) (hI.mv.kp hp.2.2.1 hp.2.2.2 (nI0_of hg2) hp.2.1 h213) hF⟩
    · obtain ⟨e1, k', hAG, hB⟩ := hq
      cases e1
      obtain ⟨p1, p8, p18, p19, p26, p31, p32, p41, p50, pM, pR, a189, a190⟩ := hp
      exact ⟨p1, hn2, g', A', e2, hg0, IV_mk (CW_lo hB hj) (hI.mv.county hAG hg2 p8 p18 p19 p26 p31 p32 p41 p50 pM pR a189 a190 h213) hF⟩
  · refine lc_county hS hL hi hr hnc hI.cw.1 (thr_q (c_countyN hl (Nat.le_of_ble_eq_true rfl) (Nat.le_of_ble_eq_true rfl) hI.cw hz)) (WO_q hI.2.2.2) (X_q (P := fun x => x = 1) (x_11 rfl)) (q_all hI (x_11 (Or.inr rfl)) (by decide) (fun m => ret_mq (n_countyN (h := m) (Nat.le_of_ble_eq_true rfl) (Nat.le_of_ble_eq_true rfl) hI.g2 ?_))) kk
    intro q
    refine hz ⟨q.1, q.2, fun z => ?_⟩
    obtain ⟨j, hj, ej⟩ := nI_of q.1
    rw [ej] at q z
    have h1 := (nI_ltI (by decide) hj).mp z
    have hs := hI.sq
    exact q.2 (nI_lt (by omega) hj)
theorem lq_law (hl : l.stackTraces = false) (hS : SCX G L xs) (hL : L ≤ 4608) (hi : i + 9 ≤ L) (hr : kc + 8 ≤ 601024 ∧ ks + 48 ≤ 7293034) (hnc : va_Nc (mm_exc 1) (mm_exc 0) (mm_s0 G)) (hI : IVs h g A b sz fp ic rs ne ia k cs bk pg im) (kk : ∀ h' kc' ks', IV h' → kc' ≤ kc + 8 → ks' ≤ ks + 48 → mm_T (ML G l) RL cL_law_ 216 h' kc' ks' 2630 (LO i none none none) []) : mm_T (ML G l) RL cL_law_ 216 h kc ks 345 (LO i none none none) [] := by
  by_cases hz : ¬ xs (i + 1) < 0 ∧ ¬ nI sz < xs (i + 1) ∧ ¬ nI 150 < xs (i + 1)
  · obtain ⟨e, he, he2, hze⟩ := len_in hz hI.sq (by decide)
    refine lc_law hS hL hi hr hnc hI.cw.1 (by rw [hze]; exact c_law hl (Nat.le_of_ble_eq_true rfl) (Nat.le_of_ble_eq_true rfl) hI.cw he he2) (TXP_tx.wo hI.2.2.2) TXP_tx.x (t_all hI TXP_tx (fun m => by rw [hze]; exact n_law (h := m) (Nat.le_of_ble_eq_true rfl) (Nat.le_of_ble_eq_true rfl) hI.tp hI.yy hI.g2 hI.sq he he2) ?_) kk
    intro w m0 m o2 n2 m2 hq h213 hj hF hp
    obtain ⟨F, hF⟩ := hF
    obtain ⟨-, -, hq⟩ := hq
    obtain ⟨hn2, g', A', e2, hg0, hg2, hp⟩ := hp
    generalize hzz : lawS b e = z at hq hp
    rcases z with y | c
    · obtain ⟨e1, hB⟩ := hq
      cases e1
      exact ⟨hp.1, hn2, g', A', e2, hg0, IV_mk (CW_lo hB hj) (hI.mv.kp hp.2.2.1 hp.2.2.2 (nI0_of hg2) hp.2.1 h213) hF⟩
    · obtain ⟨e1, hB⟩ := hq
      cases e1
      obtain ⟨p1, p8, pg, pM, pA⟩ := hp
      exact ⟨p1, hn2, g', A', e2, hg0, IV_mk (CW_lo hB hj) (hI.mv.law hg2 p8 pg pM pA (lawS_n hzz) (lawS_wf hI.yy he2 hzz) (lawS_k hI.yy hzz) h213) hF⟩
  · exact lc_law hS hL hi hr hnc hI.cw.1 (thr_q (c_lawN hl (Nat.le_of_ble_eq_true rfl) (Nat.le_of_ble_eq_true rfl) hI.cw hz)) (WO_q hI.2.2.2) (X_q (P := fun x => x = 1) (x_11 rfl)) (q_all hI (x_11 (Or.inr rfl)) (by decide) (fun m => ret_mq (n_lawN (h := m) (Nat.le_of_ble_eq_true rfl) (Nat.le_of_ble_eq_true rfl) hI.g2 hz))) kk
theorem lq_book (hl : l.stackTraces = false) (hS : SCX G L xs) (hL : L ≤ 4608) (hi : i + 9 ≤ L) (hr : kc + 8 ≤ 601024 ∧ ks + 48 ≤ 7293034) (hnc : va_Nc (mm_exc 1) (mm_exc 0) (mm_s0 G)) (hI : IVs h g A b sz fp ic rs ne ia k cs bk pg im) (kk : ∀ h' kc' ks', IV h' → kc' ≤ kc + 8 → ks' ≤ ks + 48 → mm_T (ML G l) RL cL_law_ 216 h' kc' ks' 2630 (LO i none none none) []) : mm_T (ML G l) RL cL_law_ 216 h kc ks 457 (LO i none none none) [] := by
  by_cases hz : ¬ xs (i + 1) < 0 ∧ ¬ nI sz < xs (i + 1) ∧ ¬ nI 60 < xs (i + 1)
  · obtain ⟨e, he, he2, hze⟩ := len_in hz hI.sq (by decide)
    obtain ⟨K, wBR⟩ := hI.br
    refine lc_book hS hL hi hr hnc hI.cw.1 (by rw [hze]; exact c_book hl (Nat.le_of_ble_eq_true rfl) (Nat.le_of_ble_eq_true rfl) hI.cw wBR he he2) (TXP_tx.wo hI.2.2.2) TXP_tx.x (t_all hI TXP_tx (fun m => by rw [hze]; exact n_book (h := m) (K0 := (0, K.2)) (Nat.le_of_ble_eq_true rfl) (Nat.le_of_ble_eq_true rfl) hI.tp hI.yy hI.g2 hI.sq he he2 hI.mq.2.1 hI.mq.2.2.1.2.1 rfl) ?_) kk
    intro w m0 m o2 n2 m2 hq h213 hj hF hp
    obtain ⟨F, hF⟩ := hF
    obtain ⟨-, -, hq⟩ := hq
    obtain ⟨hn2, g', A', e2, hg0, hg2, hp⟩ := hp
    generalize bokS b e (nI k.2.1) 7 0 (0, K.2) = z at hq hp
    rcases z with y | c
    · obtain ⟨e1, hB⟩ := hq
      cases e1
      exact ⟨hp.1, hn2, g', A', e2, hg0, IV_mk (CW_lo hB hj) (hI.mv.kp hp.2.2.1 hp.2.2.2 (nI0_of hg2) hp.2.1 h213) hF⟩
    · obtain ⟨e1, hB⟩ := hq
      cases e1
      obtain ⟨p1, p8, pg, pM, pA⟩ := hp
      exact ⟨p1, hn2, g', A', e2, hg0, IV_mk (CW_lo hB hj) (hI.mv.book hg2 p8 pg pM pA h213) hF⟩
  · exact lc_book hS hL hi hr hnc hI.cw.1 (thr_q (c_bookN hl (Nat.le_of_ble_eq_true rfl) (Nat.le_of_ble_eq_true rfl) hI.cw hz)) (WO_q hI.2.2.2) (X_q (P := fun x => x = 1) (x_11 rfl)) (q_all hI (x_11 (Or.inr rfl)) (by decide) (fun m => ret_mq (n_bookN (h := m) (Nat.le_of_ble_eq_true rfl) (Nat.le_of_ble_eq_true rfl) hI.g2 hz))) kk
theorem lq_work (hl : l.stackTraces = false) (hS : SCX G L xs) (hL : L ≤ 4608) (hi : i + 9 ≤ L) (hr : kc + 8 ≤ 601024 ∧ ks + 48 ≤ 7293034) (hnc : va_Nc (mm_exc 1) (mm_exc 0) (mm_s0 G)) (hI : IVs h g A b sz fp ic rs ne ia k cs bk pg im) (kk : ∀ h' kc' ks', IV h' → kc' ≤ kc + 8 → ks' ≤ ks + 48 → mm_T (ML G l) RL cL_law_ 216 h' kc' ks' 2630 (LO i none none none) []) : mm_T (ML G l) RL cL_law_ 216 h kc ks 401 (LO i none none none) [] := by
  by_cases hz : ¬ xs (i + 1) < 0 ∧ ¬ nI sz < xs (i + 1) ∧ ¬ nI 150 < xs (i + 1)
  · obtain ⟨e, he, he2, hze⟩ := len_in hz hI.sq (by decide)
    by_cases hw : pg.1 = 16
    · have h31 : g 31 = 16 := by rw [hI.pq.2.1, hw]; rfl
      have hT : TXP h (fun o n m => n = 216 ∧ FX h m ∧ o = .inl (some (.int (-20))) ∧ CW m b 0 (-1) ic rs ne ia k cs bk pg im) := fun o n m hp => ⟨hp.1, ⟨_, hp.2.2.1⟩, hp.2.1⟩
      refine lc_work hS hL hi hr hnc hI.cw.1 (by rw [hze]; exact c_work16 hl (Nat.le_of_ble_eq_true rfl) (Nat.le_of_ble_eq_true rfl) hI.cw he he2 hw) (hT.wo hI.2.2.2) hT.x (t_all hI hT (fun m => by rw [hze]; exact n_work16 (h := m) (Nat.le_of_ble_eq_true rfl) (Nat.le_of_ble_eq_true rfl) hI.g2 hI.sq he he2 h31) ?_) kk
      intro w m0 m o2 n2 m2 hq h213 hj hF hp
      obtain ⟨F, hF⟩ := hF
      obtain ⟨-, -, e1, hB⟩ := hq
      cases e1
      obtain ⟨p1, hn2, g', e2, hg0, hg2, hg8, hg⟩ := hp
      exact ⟨p1, hn2, g', A, e2, hg0, IV_mk (CW_lo hB hj) (hI.mv.kp hg ⟨rfl, rfl, rfl, rfl, rfl, rfl, rfl, rfl, rfl, rfl, rfl⟩ (nI0_of hg2) hg8 h213) hF⟩
    · have hw2 : pg.1 < 16 := Nat.lt_of_le_of_ne hI.pq.2.2.1 hw
      refine lc_work hS hL hi hr hnc hI.cw.1 (by rw [hze]; exact c_work hl (Nat.le_of_ble_eq_true rfl) (Nat.le_of_ble_eq_true rfl) hI.cw he he2 hw2) (TXP_tx.wo hI.2.2.2) TXP_tx.x (t_all hI TXP_tx (fun m => by rw [hze]; exact n_work (h := m) (Nat.le_of_ble_eq_true rfl) (Nat.le_of_ble_eq_true rfl) hI.tp hI.yy hI.g2 hI.sq he he2 hI.pq.2.1 hw2 hI.mq hI.rr hI.rj) ?_) kk
      intro w m0 m o2 n2 m2 hq h213 hj hF hp
      obtain ⟨F, hF⟩ := hF
      obtain ⟨-, -, hq⟩ := hq
      obtain ⟨hn2, g', A', e2, hg0, hg2, hp⟩ := hp
      generalize wokS b e k.2.1 k.1 6 0 0 = z at hq hp
      rcases z with y | a
      · obtain ⟨e1, hB⟩ := hq
        cases e1
        exact ⟨hp.1, hn2, g', A', e2, hg0, IV_mk (CW_lo hB hj) (hI.mv.kp hp.2.2.1 hp.2.2.2 (nI0_of hg2) hp.2.1 h213) hF⟩
      · obtain ⟨e1, hB⟩ := hq
        obtain ⟨p1, p8, pgg, pR, pJ, pA⟩ := hp
        cases e1
        exact ⟨p1, hn2, g', A', e2, hg0, IV_mk (CW_lo (hB pJ.1.1) hj) (hI.mv.work hw2 hg2 p8 pgg pR pJ pA h213) hF⟩
  · exact lc_work hS hL hi hr hnc hI.cw.1 (thr_q (c_workN hl (Nat.le_of_ble_eq_true rfl) (Nat.le_of_ble_eq_true rfl) hI.cw hz)) (WO_q hI.2.2.2) (X_q (P := fun x => x = 1) (x_11 rfl)) (q_all hI (x_11 (Or.inr rfl)) (by decide) (fun m => ret_mq (n_workN (h := m) (Nat.le_of_ble_eq_true rfl) (Nat.le_of_ble_eq_true rfl) hI.g2 hz))) kk
theorem allR_x {a1 a2 a3 a4 : Int32} {x : Nat} (hx : allR a1 a2 a3 a4 = .inl x) : x = 1 := by
  unfold allR at hx
  split at hx
  · cases hx
  · cases hx
    rfl
theorem lq_all (hl : l.stackTraces = false) (hS : SCX G L xs) (hL : L ≤ 4608) (hi : i + 9 ≤ L) (hr : kc + 8 ≤ 601024 ∧ ks + 48 ≤ 7293034) (hnc : va_Nc (mm_exc 1) (mm_exc 0) (mm_s0 G)) (hI : IVs h g A b sz fp ic rs ne ia k cs bk pg im) (kk : ∀ h' kc' ks', IV h' → kc' ≤ kc + 8 → ks' ≤ ks + 48 → mm_T (ML G l) RL cL_law_ 216 h' kc' ks' 2630 (LO i none none none) []) : mm_T (ML G l) RL cL_law_ 216 h kc ks 1540 (LO i none none none) [] := by
  obtain ⟨hh, hC, hM, F0, hF0⟩ := id hI
  obtain ⟨Fb, hFb⟩ := hM.2.2.2.2.2.2.2.2.2.2.2.2
  refine lc_all hS hL hi hr hnc hC.1 (c_all hl (Nat.le_of_ble_eq_true rfl) (Nat.le_of_ble_eq_true rfl) hC.1) ?_ ?_ ?_ kk
  · rintro v n m ⟨rfl, ⟨x, -, e, -⟩ | ⟨w, -, e, rfl⟩⟩
    · cases e
    · cases e
      exact ⟨rfl, ⟨w, rfl⟩, F0, hF0⟩
  · rintro x n m ⟨-, ⟨y, e0, e, -⟩ | ⟨w, -, e, -⟩⟩
    · cases e
      exact allR_x e0
    · cases e
  · intro o n m hw
    rcases hw with ⟨x, ⟨hn, hq⟩, e⟩ | ⟨v, m0, F, ⟨hn, hq⟩, hF, e, hm0⟩
    · rcases hq with ⟨y, e0, e1, e2⟩ | ⟨w, -, e1, -⟩
      · cases e1
        cases e
        obtain rfl := allR_x e0
        have hj : ∀ j, j ≠ 0 → m j = h j := fun j hj => by rw [e2]; exact hset_ne hj
        refine ⟨hn, _, rfl, g, A, mos_same hh (fun j h1 h2 => hj j (by omega)), con_imp (n_all (h := m) (F0 := Fb) (Nat.le_of_ble_eq_true rfl) (Nat.le_of_ble_eq_true rfl) ((hj 213 (by decide)).trans hFb)) ?_⟩
        rintro o2 n2 m2 ⟨hn2, hp⟩
        rw [e0] at hp
        obtain ⟨e3, e4⟩ := hp
        subst e3 e4
        exact ⟨_, rfl, hn2, 0, m, _, _, F0, rfl, rfl, upd_eq _ _ _, (hj 215 (by decide)).trans hF0, fun z => absurd z (by decide), IV_mk (by rw [e2]; exact hC.b1) ((hM.b1 (z := 1)).w (hj 213 (by decide))) ((hj 215 (by decide)).trans hF0)⟩
      · cases e1
    · rcases hq with ⟨y, -, e1, -⟩ | ⟨w, e0, e1, e2⟩
      · cases e1
      · cases e1
        cases e
        subst e2
        have hj : ∀ j, j ≠ 215 → m j = m0 j := fun j h2 => by rw [hm0, hset_ne h2]
        have h215 : m 215 = ouE (vp_updL F 0 w) := by rw [hm0]; exact hset_eq _ _ _
        refine ⟨hn, 0, rfl, g, A, mos_same hh (fun j h1 h2 => hj j (by omega)), con_imp (n_all (h := m) (F0 := Fb) (Nat.le_of_ble_eq_true rfl) (Nat.le_of_ble_eq_true rfl) ((hj 213 (by decide)).trans hFb)) ?_⟩
        rintro o2 n2 m2 ⟨hn2, hp⟩
        rw [e0] at hp
        obtain ⟨e3, F3, e4⟩ := hp
        subst e3 e4
        have hC2 : CW (hset m 213 (bkE F3)) b sz fp ic rs ne ia k cs bk pg im := CW_lo hC (fun j hj2 => (hset_ne (by omega)).trans (hj j (by omega)))
        have hM2 : MV (hset m 213 (bkE F3)) (upd g 0 0) A b sz fp ic rs ne ia k cs bk pg im := by
          obtain ⟨m1, m2, m3, m4, m5, m6, m10, m11, m12, m13, m14, m15, -⟩ := hM
          exact ⟨m1, m2, m3, m4, m5, m6, m10, m11, m12, m13, m14, m15, F3, hset_eq _ _ _⟩
        have h2 : (hset m 213 (bkE F3)) 215 = ouE (vp_updL F 0 w) := (hset_ne (by decide)).trans h215
        exact ⟨_, rfl, hn2, w, _, _, _, _, rfl, rfl, upd_eq _ _ _, h2, fun _ => if_pos rfl, IV_mk hC2 hM2 h2⟩
end LTX
