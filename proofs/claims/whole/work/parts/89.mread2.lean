/-! The reference reads a STEP. -/
theorem WSt.of2 {e : Nat} {g0 : MG} {A0 : MA} {g g' : MG} {A : MA} {x x' : rsW} {y : (Nat × Nat) ⊕ Nat} (h : WSt e g0 A0 g A x) (hP : PST e g g' y) (h1 : ∀ w, y = .inl w → x' = .inl w) (h2 : ∀ q, y = .inr q → ∃ a, x = .inr a ∧ 5 * a.2.length ≤ q + 1 ∧ x' = .inr (q, a.2)) : WSt e g0 A0 g' A x' := by
  refine ⟨fun j a1 a2 a3 a4 => (hP.1 j a1 a2 a3).trans (h.1 j a1 a2 a3 a4), h.2.1, h.2.2.1, ?_⟩
  have h3 := hP.2.2
  rcases y with w | q
  · rw [h1 w rfl]
    exact h3
  · obtain ⟨a, rfl, hq, rfl⟩ := h2 q rfl
    have h4 := h.2.2.2
    exact ⟨h3.1, h3.2.1, h3.2.2, (hP.1 30 (by decide) (by decide) (by decide)).trans h4.2.2.2.1, h4.2.2.2.2.1, hq⟩
theorem pl_st {b : Nat → Int32} {e so sl o p : Nat} {T : Nat → Nat → rsW} {g0 : MG} {A0 : MA} {g g' : MG} {A : MA} {ss : List ST} {t : ST} {r : Nat} {y : (Nat × Nat) ⊕ Nat} (hb : BY b) (hT : GdW e so sl T) (hso : so ≤ 8) (hsl : sl ≤ 8) (hp : p ≤ e) (hl : 5 * ss.length ≤ p) (hL : WSt e g0 A0 g A (.inr (r, ss))) (hP : PST e g g' y) (hst : stepS b e so sl T o ss.length (sk b e p) (lt b e (sk b e p)) = sbind y fun q => .inr (q, [t])) :
    WSt e g0 A0 g' A (sbind y fun q => .inr (q, ss)) ∧ (∀ a, (sbind y fun q => (.inr (q, ss) : rsW)) = .inr a → 5 * a.2.length + 5 ≤ a.1 + 1) ∧ (sbind (sbind y fun q => (.inr (q, ss) : rsW)) fun a => (.inr (a.1, a.2 ++ [t]) : rsW)) = sbind (stepS b e so sl T o ss.length (sk b e p) (lt b e (sk b e p))) fun z => .inr (z.1, ss ++ z.2) := by
  have hs := sk_le (b := b) hp
  have hq : ∀ q, y = .inr q → 5 + sk b e p ≤ q + 1 := fun q hq => by
    rw [hq] at hst
    have := stepS_le hb hT hso hsl (ltf_le _ _ hs.2).2 hst
    exact this.2.2.1
  refine ⟨hL.of2 hP (fun w hw => by rw [hw]; rfl) (fun q hy => ⟨_, rfl, by have := hq q hy; show 5 * ss.length ≤ q + 1; omega, by rw [hy]; rfl⟩), fun a ha => ?_, ?_⟩
  · rcases y with w | q
    · cases ha
    · cases ha
      have := hq q rfl
      show 5 * ss.length + 5 ≤ q + 1
      omega
  · rw [hst]
    rcases y with w | q <;> rfl
/-- what a reader promises -/
def P_wrd (e : Nat) (g0 : MG) (A0 : MA) (X : rsW) (nx : Nat) (h : Nat → mm_E) : mm_P := fun q n m => q = .inl none ∧ n = nx ∧ ∃ g' A', m = mos h g' A' ∧ WSt e g0 A0 g' A' X
def CRd (G : mm_G) (l : Launch) (b : Nat → Int32) (e so sl d o : Nat) (T : Nat → Nat → rsW) : Prop := ∀ (nx : Nat) (h : Nat → mm_E) (g0 : MG) (A0 : MA) (g : MG) (A : MA) (p : Nat) (ss : List ST), 215 ≤ nx → TP (A0 190) b → WSt e g0 A0 g A (.inr (p, ss)) → 5 * ss.length ≤ p → g0 7 = nI o → g0 19 = nI so → g0 18 = nI sl → mm_Con G l yX11_readStep cX11_readStep 5 none d 0 0 [.ref 188] nx (mos h g A) (P_wrd e g0 A0 (apW (.inr (p, ss)) (rdS b e so sl T o)) nx h)
theorem lop_end {b : Nat → Int32} {e so sl o q p : Nat} {T : Nat → Nat → rsW} {ss : List ST} (hb : BY b) (hp : p ≤ e) (h : atEnd b e o p) : apW (.inr (p, ss)) (lopS b e so sl T o (q + 1)) = .inr (sk b e p, ss) := by
  simp only [apW, sbind]
  rw [lop_rd hb hp, if_pos h]
  simp
theorem lop_bad {b : Nat → Int32} {e so sl o q p : Nat} {T : Nat → Nat → rsW} {ss : List ST} {y : Nat × Nat} (hb : BY b) (hp : p ≤ e) (h : ¬ atEnd b e o p) (hy : rdS b e so sl T o ss.length p = .inl y) : apW (.inr (p, ss)) (lopS b e so sl T o (q + 1)) = .inl y := by
  simp only [apW, sbind]
  rw [lop_rd hb hp, if_neg h, hy]
  rfl
theorem lop_some {b : Nat → Int32} {e so sl o q p : Nat} {T : Nat → Nat → rsW} {ss : List ST} {a : Nat × List ST} (hb : BY b) (hp : p ≤ e) (h : ¬ atEnd b e o p) (hy : rdS b e so sl T o ss.length p = .inr a) : apW (.inr (p, ss)) (lopS b e so sl T o (q + 1)) = apW (.inr (a.1, ss ++ a.2)) (lopS b e so sl T o q) := by
  simp only [apW, sbind]
  rw [lop_rd hb hp, if_neg h, hy, List.length_append]
  simp only [sbind]
  cases lopS b e so sl T o q (ss.length + a.2.length) a.1 with
  | inl y => rfl
  | inr z => simp only [List.append_assoc]
section MRE
variable {G : mm_G} {l : Launch} {d nx : Nat} {h : Nat → mm_E} {g : MG} {A : MA} {b : Nat → Int32} {Po : mm_P} {e so sl : Nat} {g0 : MG} {A0 : MA}
theorem t_rd346 {x : rsW} {o p : Nat} {T : Nat → Nat → rsW} {ss : List ST} (hd : 2 ≤ d) (hx : 215 ≤ nx) (hb : BY b) (he : e ≤ 150) (hT : TP (A0 190) b) (hL : WSt e g0 A0 g A x) (hX : x = sbind (stepS b e so sl T o ss.length (sk b e p) (lt b e (sk b e p))) fun z => .inr (z.1, ss ++ z.2)) : mm_T (G, l, yX11_readStep, 5, none, d, 0, 0, (P_wrd e g0 A0 (apW (.inr (p, ss)) (rdS b e so sl T o)) nx h), nx) RX11 cX11_readStep nx (mos h g A) 0 0 346 [some (.ref 188), none, none, none, none] [] := by
  have eX : apW (.inr (p, ss)) (rdS b e so sl T o) = apC b e x 59 := by
    rw [hX]
    simp only [apW, sbind, rdS, apC]
    cases stepS b e so sl T o ss.length (sk b e p) (lt b e (sk b e p)) with
    | inl y => rfl
    | inr z =>
      simp only [sbind]
      cases signS b e z.1 59 with
      | inl y => rfl
      | inr y => rfl
  rw [eX]
  refine mt_aload_n (pc := 346) dX11_readStep_346 rfl ?_
  refine mt_bipush (pc := 347) (v := 59) dX11_readStep_347 (by decide) ?_
  refine mt_aV (pc := 349) (n_sign (d := 1) (c := 59) (by decide) (by decide) (Nat.le_refl 1) hx (hL.tp hT) hb (by omega) hL.pst) cal_X11_sign vir_X11_sign ml_X11_213 dX11_readStep_349 (by omega) (mos_o _ _ _) (by first | assumption | (show _ ≤ d; omega)) ⟨(Nat.le_of_ble_eq_true rfl), (Nat.le_of_ble_eq_true rfl)⟩ rfl rfl (Nat.le_of_ble_eq_true rfl) ?_ ?_
  · rintro x9 n9 k9 h9
    obtain ⟨⟨⟩, -⟩ := h9
  · rintro v9 n9 k9 ⟨⟨⟩, rfl, g1, rfl, hP⟩
    refine ⟨rfl, ?_⟩
    exact mt_vret rfl dX11_readStep_352 (Nat.le_of_ble_eq_true rfl) (Nat.le_of_ble_eq_true rfl) ⟨rfl, rfl, g1, A, rfl, hL.sign (by decide) hP⟩
theorem x_rd276 {y : Nat × Nat} {w v f : Int32} (hd : 1 ≤ d) (hx : 215 ≤ nx) (hL : WSt e g0 A0 g A (.inl y)) (kk : mm_T (G, l, yX11_readStep, 5, none, d, 0, 0, Po, nx) RX11 cX11_readStep nx (mos h g A) 0 0 299 [some (.ref 188), some (.int w), some (.int v), some (.int f), none] []) : mm_T (G, l, yX11_readStep, 5, none, d, 0, 0, Po, nx) RX11 cX11_readStep nx (mos h g A) 0 0 276 [some (.ref 188), some (.int w), some (.int v), some (.int f), none] [] := by
  refine mt_aload_n (pc := 276) dX11_readStep_276 rfl ?_
  refine mt_cV (pc := 277) (n_fineN (d := 0) hx hL.nf) cal_X11_fine vir_X11_fine ml_X11_134 dX11_readStep_277 (by omega) (mos_o _ _ _) (by first | assumption | (show _ ≤ d; omega)) ⟨(Nat.le_of_ble_eq_true rfl), (Nat.le_of_ble_eq_true rfl)⟩ rfl rfl (Nat.le_of_ble_eq_true rfl) ?_
  refine mt_if_eq (pc := 280) (tgt := 299) dX11_readStep_280 (by decide) (fun c280 => ?_) (fun c280 => ?_)
  · exact kk
  · exact absurd rfl c280
theorem l_rd276 {U : Nat → Nat → rsW} {o D : Nat} {w v f : Int32} (hD : D + 1 ≤ d) (hx : 215 ≤ nx) (he : e ≤ 150) (hso : so ≤ 8) (hsl : sl ≤ 8) (hb : BY b) (ho : ¬ o = 0) (hT : TP (A0 190) b) (hc : CRd G l b e so sl D o U) (hGd : GdW e so sl U) (h7 : g0 7 = nI o) (h19 : g0 19 = nI so) (h18 : g0 18 = nI sl) : ∀ (q p : Nat) (ss : List ST) (g : MG) (A : MA), e < p + 5 * q → 5 * ss.length ≤ p → WSt e g0 A0 g A (.inr (p, ss)) → (∀ g' A', WSt e g0 A0 g' A' (apW (.inr (p, ss)) (lopS b e so sl U o q)) → mm_T (G, l, yX11_readStep, 5, none, d, 0, 0, Po, nx) RX11 cX11_readStep nx (mos h g' A') 0 0 299 [some (.ref 188), some (.int w), some (.int v), some (.int f), none] []) → mm_T (G, l, yX11_readStep, 5, none, d, 0, 0, Po, nx) RX11 cX11_readStep nx (mos h g A) 0 0 276 [some (.ref 188), some (.int w), some (.int v), some (.int f), none] [] := by
  intro q
  induction q with
  | zero =>
    intro p ss g A hq hl hL kk
    have := hL.2.2.2.2.2.1
    dsimp only at this
    omega
  | succ q ih =>
    intro p ss g A hq hl hL kk
    obtain ⟨h5, h4, h6, -, -, -⟩ := hL.2.2.2
    dsimp only at h4 h6
    have h3 := hL.e
    have hTA := hL.tp hT
    have hsk := sk_le (b := b) h6
    have hat : atEnd b e o p ↔ pk b e p = 93 := by unfold atEnd; rw [if_neg ho]
    have hL0 := hL.at hsk.1 hsk.2
    refine mt_aload_n (pc := 276) dX11_readStep_276 rfl ?_
    refine mt_cV (pc := 277) (n_fineY (d := 0) hx h5) cal_X11_fine vir_X11_fine ml_X11_134 dX11_readStep_277 (by omega) (mos_o _ _ _) (by first | assumption | (show _ ≤ d; omega)) ⟨(Nat.le_of_ble_eq_true rfl), (Nat.le_of_ble_eq_true rfl)⟩ rfl rfl (Nat.le_of_ble_eq_true rfl) ?_
    refine mt_if_eq (pc := 280) (tgt := 299) dX11_readStep_280 (by decide) (fun c280 => ?_) (fun c280 => ?_)
    · exact absurd c280 (by decide)
    · skip
      refine mt_aload_n (pc := 283) dX11_readStep_283 rfl ?_
      refine mt_cV (pc := 284) (n_here (d := 0) hx hTA hb h3 (by omega) h4 h6) cal_X11_here vir_X11_here ml_X11_117 dX11_readStep_284 (by omega) (mos_o _ _ _) (by first | assumption | (show _ ≤ d; omega)) ⟨(Nat.le_of_ble_eq_true rfl), (Nat.le_of_ble_eq_true rfl)⟩ rfl rfl (Nat.le_of_ble_eq_true rfl) ?_
      refine mt_bipush (pc := 287) (v := 93) dX11_readStep_287 (by decide) ?_
      refine mt_icmp_eq (pc := 289) (tgt := 299) dX11_readStep_289 (by decide) (fun c289 => ?_) (fun c289 => ?_)
      · have c := (hrk_pk (by decide) (by decide)).mp c289
        rw [lop_end hb h6 (hat.mpr c)] at kk
        exact kk _ A hL0
      · skip
        have c : ¬ atEnd b e o p := fun z => c289 ((hrk_pk (by decide) (by decide)).mpr (hat.mp z))
        refine mt_aload_n (pc := 292) dX11_readStep_292 rfl ?_
        refine mt_aV (pc := 293) (hc nx h g0 A0 _ A _ _ hx hT hL0 (by omega) h7 h19 h18) cal_X11_readStep vir_X11_readStep ml_X11_290 dX11_readStep_293 (by omega) (mos_o _ _ _) hD ⟨(Nat.le_of_ble_eq_true rfl), (Nat.le_of_ble_eq_true rfl)⟩ rfl rfl (Nat.le_of_ble_eq_true rfl) ?_ ?_
        · rintro x9 n9 k9 h9
          obtain ⟨⟨⟩, -⟩ := h9
        · rintro v9 n9 k9 ⟨⟨⟩, rfl, g2, A2, rfl, hL2⟩
          refine ⟨rfl, ?_⟩
          refine mt_goto (pc := 296) (tgt := 276) dX11_readStep_296 (by decide) ?_
          rw [show apW (.inr (sk b e p, ss)) (rdS b e so sl U o) = apW (.inr (p, ss)) (rdS b e so sl U o) by simp only [apW, sbind, rd_sk h6]] at hL2
          rcases hX : rdS b e so sl U o ss.length p with y | a
          · rw [lop_bad hb h6 c hX] at kk
            have eY : apW (.inr (p, ss)) (rdS b e so sl U o) = .inl y := by simp only [apW, sbind, hX]
            rw [eY] at hL2
            exact x_rd276 (by omega) hx hL2 (kk g2 A2 hL2)
          · rw [lop_some hb h6 c hX] at kk
            have eY : apW (.inr (p, ss)) (rdS b e so sl U o) = .inr (a.1, ss ++ a.2) := by simp only [apW, sbind, hX]
            rw [eY] at hL2
            have hpr := rd_prog hb hGd hso hsl h6 hX
            exact ih a.1 (ss ++ a.2) g2 A2 (by omega) (by rw [List.length_append]; omega) hL2 kk
theorem t_rd299b {y : Nat × Nat} {o : Nat} {w v f : Int32} (hd : 2 ≤ d) (hx : 215 ≤ nx) (hb : BY b) (he : e ≤ 150) (hT : TP (A0 190) b) (h7 : g0 7 = nI o) (hL : WSt e (upd g0 7 (nI (o + 1))) A0 g A (.inl y)) (kk : ∀ g' A', WSt e g0 A0 g' A' (.inl y) → mm_T (G, l, yX11_readStep, 5, none, d, 0, 0, Po, nx) RX11 cX11_readStep nx (mos h g' A') 0 0 346 [some (.ref 188), none, none, none, none] []) : mm_T (G, l, yX11_readStep, 5, none, d, 0, 0, Po, nx) RX11 cX11_readStep nx (mos h g A) 0 0 299 [some (.ref 188), some (.int w), some (.int v), some (.int f), none] [] := by
  have hTA := hL.tp (b := b) hT
  refine mt_aload_n (pc := 299) dX11_readStep_299 rfl ?_
  refine mt_bipush (pc := 300) (v := 93) dX11_readStep_300 (by decide) ?_
  refine mt_aV (pc := 302) (n_sign (d := 1) (c := 93) (by decide) (by decide) (Nat.le_refl 1) hx hTA hb (by omega) hL.pst) cal_X11_sign vir_X11_sign ml_X11_213 dX11_readStep_302 (by omega) (mos_o _ _ _) (by first | assumption | (show _ ≤ d; omega)) ⟨(Nat.le_of_ble_eq_true rfl), (Nat.le_of_ble_eq_true rfl)⟩ rfl rfl (Nat.le_of_ble_eq_true rfl) ?_ ?_
  · rintro x9 n9 k9 h9
    obtain ⟨⟨⟩, -⟩ := h9
  · rintro v9 n9 k9 ⟨⟨⟩, rfl, g1, rfl, hP⟩
    refine ⟨rfl, ?_⟩
    have hL1 : WSt e (upd g0 7 (nI (o + 1))) A0 g1 A (.inl y) := hL.sign (b := b) (c := 93) (by decide) hP
    have e7 : g1 7 = nI (o + 1) := (hL1.1 7 (by decide) (by decide) (by decide) (by decide)).trans (upd_eq _ _ _)
    have hL2 : WSt e g0 A0 (upd g1 7 (nI (o + 1 - 1))) A (.inl y) := by
      have := hL1.up (nI (o + 1 - 1))
      rw [upd_upd, upd_self (by rw [h7]; rfl)] at this
      exact this
    refine mt_aload_n (pc := 305) dX11_readStep_305 rfl ?_
    refine mt_dup (pc := 306) dX11_readStep_306 rfl ?_
    refine mt_mgetI (pc := 307) (x := nI (o + 1)) gf_X11_145 dX11_readStep_307 hx rfl e7 ?_
    refine mt_iconst (pc := 310) (v := 1) dX11_readStep_310 (by decide) ?_
    refine mt_isubN (pc := 311) (a := o + 1) (b := 1) dX11_readStep_311 rfl rfl (by omega) ?_
    refine mt_mput (pc := 312) pf_X11_145 dX11_readStep_312 hx rfl ?_
    refine mt_aload_n (pc := 315) dX11_readStep_315 rfl ?_
    refine mt_cV (pc := 316) (n_fineN (d := 0) hx hL2.nf) cal_X11_fine vir_X11_fine ml_X11_134 dX11_readStep_316 (by omega) (mos_o _ _ _) (by first | assumption | (show _ ≤ d; omega)) ⟨(Nat.le_of_ble_eq_true rfl), (Nat.le_of_ble_eq_true rfl)⟩ rfl rfl (Nat.le_of_ble_eq_true rfl) ?_
    refine mt_if_eq (pc := 319) (tgt := 334) dX11_readStep_319 (by decide) (fun c319 => ?_) (fun c319 => ?_)
    · skip
      refine mt_goto (pc := 334) (tgt := 346) dX11_readStep_334 (by decide) ?_
      exact mt_fg (by repeat (first | exact trivial | refine ⟨rfl, ?_⟩ | rfl)) (kk _ A hL2)
    · exact absurd rfl c319
theorem t_rd299 {o z x : Nat} {ss zs : List ST} {w v : Int32} (hd : 2 ≤ d) (hx : 215 ≤ nx) (hb : BY b) (he : e ≤ 150) (hT : TP (A0 190) b) (h7 : g0 7 = nI o) (hL : WSt e (upd g0 7 (nI (o + 1))) A0 g A (.inr (z, ss ++ (6, [x], 0) :: zs))) (kk : ∀ g' A', WSt e g0 A0 g' A' (sbind (signS b e z 93) fun u => .inr (u, ss ++ (6, [x], ss.length + 1 + zs.length) :: zs)) → mm_T (G, l, yX11_readStep, 5, none, d, 0, 0, Po, nx) RX11 cX11_readStep nx (mos h g' A') 0 0 346 [some (.ref 188), none, none, none, none] []) : mm_T (G, l, yX11_readStep, 5, none, d, 0, 0, Po, nx) RX11 cX11_readStep nx (mos h g A) 0 0 299 [some (.ref 188), some (.int w), some (.int v), some (.int (nI (5 * ss.length))), none] [] := by
  have hTA := hL.tp (b := b) hT
  rcases hs : signS b e z 93 with y | u
  · rw [hs] at kk
    refine mt_aload_n (pc := 299) dX11_readStep_299 rfl ?_
    refine mt_bipush (pc := 300) (v := 93) dX11_readStep_300 (by decide) ?_
    refine mt_aV (pc := 302) (n_sign (d := 1) (c := 93) (by decide) (by decide) (Nat.le_refl 1) hx hTA hb (by omega) hL.pst) cal_X11_sign vir_X11_sign ml_X11_213 dX11_readStep_302 (by omega) (mos_o _ _ _) (by first | assumption | (show _ ≤ d; omega)) ⟨(Nat.le_of_ble_eq_true rfl), (Nat.le_of_ble_eq_true rfl)⟩ rfl rfl (Nat.le_of_ble_eq_true rfl) ?_ ?_
    · rintro x9 n9 k9 h9
      obtain ⟨⟨⟩, -⟩ := h9
    · rintro v9 n9 k9 ⟨⟨⟩, rfl, g1, rfl, hP⟩
      refine ⟨rfl, ?_⟩
      have hL1 : WSt e (upd g0 7 (nI (o + 1))) A0 g1 A (.inl y) := by
        have := hL.sign (b := b) (c := 93) (by decide) hP
        simp only [apC, sbind, hs] at this
        exact this
      have e7 : g1 7 = nI (o + 1) := (hL1.1 7 (by decide) (by decide) (by decide) (by decide)).trans (upd_eq _ _ _)
      have hL2 : WSt e g0 A0 (upd g1 7 (nI (o + 1 - 1))) A (.inl y) := by
        have := hL1.up (nI (o + 1 - 1))
        rw [upd_upd, upd_self (by rw [h7]; rfl)] at this
        exact this
      refine mt_aload_n (pc := 305) dX11_readStep_305 rfl ?_
      refine mt_dup (pc := 306) dX11_readStep_306 rfl ?_
      refine mt_mgetI (pc := 307) (x := nI (o + 1)) gf_X11_145 dX11_readStep_307 hx rfl e7 ?_
      refine mt_iconst (pc := 310) (v := 1) dX11_readStep_310 (by decide) ?_
      refine mt_isubN (pc := 311) (a := o + 1) (b := 1) dX11_readStep_311 rfl rfl (by omega) ?_
      refine mt_mput (pc := 312) pf_X11_145 dX11_readStep_312 hx rfl ?_
      refine mt_aload_n (pc := 315) dX11_readStep_315 rfl ?_
      refine mt_cV (pc := 316) (n_fineN (d := 0) hx hL2.nf) cal_X11_fine vir_X11_fine ml_X11_134 dX11_readStep_316 (by omega) (mos_o _ _ _) (by first | assumption | (show _ ≤ d; omega)) ⟨(Nat.le_of_ble_eq_true rfl), (Nat.le_of_ble_eq_true rfl)⟩ rfl rfl (Nat.le_of_ble_eq_true rfl) ?_
      refine mt_if_eq (pc := 319) (tgt := 334) dX11_readStep_319 (by decide) (fun c319 => ?_) (fun c319 => ?_)
      · skip
        refine mt_goto (pc := 334) (tgt := 346) dX11_readStep_334 (by decide) ?_
        exact mt_fg (by repeat (first | exact trivial | refine ⟨rfl, ?_⟩ | rfl)) (kk _ A hL2)
      · exact absurd rfl c319
  · rw [hs] at kk
    refine mt_aload_n (pc := 299) dX11_readStep_299 rfl ?_
    refine mt_bipush (pc := 300) (v := 93) dX11_readStep_300 (by decide) ?_
    refine mt_aV (pc := 302) (n_sign (d := 1) (c := 93) (by decide) (by decide) (Nat.le_refl 1) hx hTA hb (by omega) hL.pst) cal_X11_sign vir_X11_sign ml_X11_213 dX11_readStep_302 (by omega) (mos_o _ _ _) (by first | assumption | (show _ ≤ d; omega)) ⟨(Nat.le_of_ble_eq_true rfl), (Nat.le_of_ble_eq_true rfl)⟩ rfl rfl (Nat.le_of_ble_eq_true rfl) ?_ ?_
    · rintro x9 n9 k9 h9
      obtain ⟨⟨⟩, -⟩ := h9
    · rintro v9 n9 k9 ⟨⟨⟩, rfl, g1, rfl, hP⟩
      refine ⟨rfl, ?_⟩
      have hL1 : WSt e (upd g0 7 (nI (o + 1))) A0 g1 A (.inr (u, ss ++ (6, [x], 0) :: zs)) := by
        have := hL.sign (b := b) (c := 93) (by decide) hP
        simp only [apC, sbind, hs] at this
        exact this
      have e7 : g1 7 = nI (o + 1) := (hL1.1 7 (by decide) (by decide) (by decide) (by decide)).trans (upd_eq _ _ _)
      have hL2 : WSt e g0 A0 (upd g1 7 (nI (o + 1 - 1))) A (.inr (u, ss ++ (6, [x], 0) :: zs)) := by
        have := hL1.up (nI (o + 1 - 1))
        rw [upd_upd, upd_self (by rw [h7]; rfl)] at this
        exact this
      obtain ⟨k5, k4, k6, k30, kM, kl⟩ := hL2.2.2.2
      dsimp only at k4 k6 k30 kM kl
      have elen : (ss ++ (6, [x], 0) :: zs : List ST).length = ss.length + 1 + zs.length := by simp; omega
      have elen2 : (ss ++ (6, [x], ss.length + 1 + zs.length) :: zs : List ST).length = ss.length + 1 + zs.length := by simp; omega
      rw [elen] at k30 kl
      refine mt_aload_n (pc := 305) dX11_readStep_305 rfl ?_
      refine mt_dup (pc := 306) dX11_readStep_306 rfl ?_
      refine mt_mgetI (pc := 307) (x := nI (o + 1)) gf_X11_145 dX11_readStep_307 hx rfl e7 ?_
      refine mt_iconst (pc := 310) (v := 1) dX11_readStep_310 (by decide) ?_
      refine mt_isubN (pc := 311) (a := o + 1) (b := 1) dX11_readStep_311 rfl rfl (by omega) ?_
      refine mt_mput (pc := 312) pf_X11_145 dX11_readStep_312 hx rfl ?_
      refine mt_aload_n (pc := 315) dX11_readStep_315 rfl ?_
      refine mt_cV (pc := 316) (n_fineY (d := 0) hx k5) cal_X11_fine vir_X11_fine ml_X11_134 dX11_readStep_316 (by omega) (mos_o _ _ _) (by first | assumption | (show _ ≤ d; omega)) ⟨(Nat.le_of_ble_eq_true rfl), (Nat.le_of_ble_eq_true rfl)⟩ rfl rfl (Nat.le_of_ble_eq_true rfl) ?_
      refine mt_if_eq (pc := 319) (tgt := 334) dX11_readStep_319 (by decide) (fun c319 => ?_) (fun c319 => ?_)
      · exact absurd c319 (by decide)
      · skip
        refine mt_aload_n (pc := 322) dX11_readStep_322 rfl ?_
        refine mt_mget (pc := 323) gf_X11_59 dX11_readStep_323 hx rfl ?_
        refine mt_iload_n (pc := 326) dX11_readStep_326 rfl ?_
        refine mt_iconst (pc := 327) (v := 2) dX11_readStep_327 (by decide) ?_
        refine mt_iaddN (pc := 328) (a := 5 * ss.length) (b := 2) dX11_readStep_328 rfl rfl ?_
        refine mt_aload_n (pc := 329) dX11_readStep_329 rfl ?_
        refine mt_mgetI (pc := 330) (x := nI (5 * (ss.length + 1 + zs.length))) gf_X11_271 dX11_readStep_330 hx rfl k30 ?_
        refine mt_mast (pc := 333) (i := 203) (j := (5 * ss.length) + 2) dX11_readStep_333 hx rfl rfl (by show _ < 250; omega) ?_
        refine mt_goto (pc := 334) (tgt := 346) dX11_readStep_334 (by decide) ?_
        exact mt_fg (by repeat (first | exact trivial | refine ⟨rfl, ?_⟩ | rfl)) (kk _ _ ⟨hL2.1, hL2.2.1, fun j hj => (updR_ne hj).trans (hL2.2.2.1 j hj), k5, k4, k6, by dsimp only; rw [elen2]; exact k30, by dsimp only; rw [updR_eq]; exact MSt_patch kM, by dsimp only; rw [elen2]; exact kl⟩)
theorem t_rdBad {y : Nat × Nat} {o : Nat} {w v : Int32} (hd : 2 ≤ d) (hx : 215 ≤ nx) (hb : BY b) (he : e ≤ 150) (hT : TP (A0 190) b) (h7 : g0 7 = nI o) (hL : WSt e (upd g0 7 (nI (o + 1))) A0 g A (.inl y)) (kk : ∀ g' A', WSt e g0 A0 g' A' (.inl y) → mm_T (G, l, yX11_readStep, 5, none, d, 0, 0, Po, nx) RX11 cX11_readStep nx (mos h g' A') 0 0 346 [some (.ref 188), none, none, none, none] []) : mm_T (G, l, yX11_readStep, 5, none, d, 0, 0, Po, nx) RX11 cX11_readStep nx (mos h g A) 0 0 261 [some (.ref 188), some (.int w), some (.int v), none, none] [] := by
  refine mt_aload_n (pc := 261) dX11_readStep_261 rfl ?_
  refine mt_mget (pc := 262) gf_X11_271 dX11_readStep_262 hx rfl ?_
  refine mt_istore_n (pc := 265) dX11_readStep_265 (Nat.le_of_ble_eq_true rfl) rfl ?_
  refine mt_aload_n (pc := 266) dX11_readStep_266 rfl ?_
  refine mt_bipush (pc := 267) (v := 6) dX11_readStep_267 (by decide) ?_
  refine mt_iload_n (pc := 269) dX11_readStep_269 rfl ?_
  refine mt_iconst (pc := 270) (v := 0) dX11_readStep_270 (by decide) ?_
  refine mt_iconst (pc := 271) (v := 0) dX11_readStep_271 (by decide) ?_
  refine mt_iconst (pc := 272) (v := 0) dX11_readStep_272 (by decide) ?_
  refine mt_aV (pc := 273) (n_tells (d := 1) (x := .inl y) (t := (6, [], 0)) (Nat.le_refl 1) hx he hL (by decide) (fun a ha => by cases ha) rfl (fun j z hz => by cases hz) (fun _ => rfl)) cal_X11_tellsStep vir_X11_tellsStep ml_X11_274 dX11_readStep_273 (by omega) (mos_o _ _ _) (by first | assumption | (show _ ≤ d; omega)) ⟨(Nat.le_of_ble_eq_true rfl), (Nat.le_of_ble_eq_true rfl)⟩ rfl rfl (Nat.le_of_ble_eq_true rfl) ?_ ?_
  · rintro x9 n9 k9 h9
    obtain ⟨⟨⟩, -⟩ := h9
  · rintro v9 n9 k9 ⟨⟨⟩, rfl, g1, A1, rfl, hL1⟩
    refine ⟨rfl, ?_⟩
    exact x_rd276 (by omega) hx hL1 (t_rd299b hd hx hb he hT h7 hL1 kk)
theorem hv4 (v1 v2 v3 v4 : Nat) (j y : Nat) (h : ([v1, v2, v3, v4] : List Nat)[j]? = some y) : ([nI v1, nI v2, nI v3, nI v4] : List Int32)[j]? = some (nI y) := by
  rw [show ([nI v1, nI v2, nI v3, nI v4] : List Int32) = [v1, v2, v3, v4].map nI from rfl, List.getElem?_map, h]
  rfl
theorem hv1 (v1 : Nat) (j y : Nat) (h : ([v1] : List Nat)[j]? = some y) : ([nI v1, 0, 0, 0] : List Int32)[j]? = some (nI y) := by
  match j, h with
  | 0, h => cases h; rfl
theorem hv2 (v1 v2 : Nat) (j y : Nat) (h : ([v1, v2] : List Nat)[j]? = some y) : ([nI v1, nI v2, 0, 0] : List Int32)[j]? = some (nI y) := by
  match j, h with
  | 0, h => cases h; rfl
  | 1, h => cases h; rfl
theorem s_1 {b : Nat → Int32} {e r : Nat} {lw hi : Int32} {c : Nat} : (sbind (numS b e r lw hi) fun x => (.inr (x.2, [(c, [x.1], 0)]) : rsW)) = sbind (rpN (nmS b e (.inr r) lw hi)) fun q => .inr (q, [(c, [nv (nmS b e (.inr r) lw hi)], 0)]) := by
  simp only [nmS, sbind]
  cases numS b e r lw hi <;> rfl
theorem s_2 {b : Nat → Int32} {e r : Nat} {lw hi lw2 hi2 : Int32} {c : Nat} : (sbind (numS b e r lw hi) fun x => sbind (numS b e x.2 lw2 hi2) fun y => (.inr (y.2, [(c, [x.1, y.1], 0)]) : rsW)) = sbind (rpN (nmS b e (rpN (nmS b e (.inr r) lw hi)) lw2 hi2)) fun q => .inr (q, [(c, [nv (nmS b e (.inr r) lw hi), nv (nmS b e (rpN (nmS b e (.inr r) lw hi)) lw2 hi2)], 0)]) := by
  simp only [nmS, sbind]
  cases numS b e r lw hi with
  | inl y => rfl
  | inr x =>
    simp only [rpN]
    cases numS b e x.2 lw2 hi2 <;> rfl
theorem s_4 {b : Nat → Int32} {e r : Nat} {l1 h1 l2 h2 l3 h3 l4 h4 : Int32} {c : Nat} : (sbind (numS b e r l1 h1) fun x => sbind (numS b e x.2 l2 h2) fun y => sbind (numS b e y.2 l3 h3) fun z => sbind (numS b e z.2 l4 h4) fun w => (.inr (w.2, [(c, [x.1, y.1, z.1, w.1], 0)]) : rsW)) = sbind (rpN (nmS b e (rpN (nmS b e (rpN (nmS b e (rpN (nmS b e (.inr r) l1 h1)) l2 h2)) l3 h3)) l4 h4)) fun q => .inr (q, [(c, [nv (nmS b e (.inr r) l1 h1), nv (nmS b e (rpN (nmS b e (.inr r) l1 h1)) l2 h2), nv (nmS b e (rpN (nmS b e (rpN (nmS b e (.inr r) l1 h1)) l2 h2)) l3 h3), nv (nmS b e (rpN (nmS b e (rpN (nmS b e (rpN (nmS b e (.inr r) l1 h1)) l2 h2)) l3 h3)) l4 h4)], 0)]) := by
  simp only [nmS, sbind]
  cases numS b e r l1 h1 with
  | inl y => rfl
  | inr x =>
    simp only [rpN]
    cases numS b e x.2 l2 h2 with
    | inl y => rfl
    | inr y =>
      simp only [rpN]
      cases numS b e y.2 l3 h3 with
      | inl y => rfl
      | inr z =>
        simp only [rpN]
        cases numS b e z.2 l4 h4 <;> rfl
theorem n_rd {T : Nat → Nat → rsW} {U : Nat → Nat → rsW} {o D : Nat} (hD : D + 1 ≤ d) (hD5 : 5 ≤ d) (ho : o ≤ 6) (he : e ≤ 150) (hso : so ≤ 6) (hsl : sl ≤ 8) (hb : BY b) (hGd : GdW e so sl T) (hGU : GdW e so sl U) (hTU : o < 6 → T = lopS b e so sl U (o + 1) 150) (hc : o < 6 → CRd G l b e so sl D (o + 1) U) : CRd G l b e so sl d o T := by
  intro nx h g0 A0 g A p ss hx hT hL hl h7 h19 h18
  obtain ⟨h5, h4, h6, h30, hM, -⟩ := hL.2.2.2
  dsimp only at h4 h6 h30 hM
  have h3 := hL.e
  have hTA := hL.tp hT
  have hsk := sk_le (b := b) h6
  have hlt : sk b e p ≤ lt b e (sk b e p) ∧ lt b e (sk b e p) ≤ e := ltf_le _ _ hsk.2
  have f19 : g 19 = nI so := (hL.1 19 (by decide) (by decide) (by decide) (by decide)).trans h19
  have f18 : g 18 = nI sl := (hL.1 18 (by decide) (by decide) (by decide) (by decide)).trans h18
  have hLs := hL.at hsk.1 hsk.2
  have hL1 : WSt e g0 A0 (upd g 4 (nI (lt b e (sk b e p)))) A (.inr (lt b e (sk b e p), ss)) := hL.at (Nat.le_trans hsk.1 hlt.1) hlt.2
  have hso1 := (sub1_hi (n := so) (by omega)).1
  have hsl1 := (sub1_hi (n := sl) (by omega)).1
  refine mm_start (lo := [some (.ref 188), none, none, none, none]) pn_X11 rfl rfl (Nat.le_of_ble_eq_true rfl) ?_
  by_cases hw11 : WD b (sk b e p) (lt b e (sk b e p)) 11
  · skip
    have hw : WD b (sk b e p) (lt b e (sk b e p)) 11 := hw11
    have hwv : wvI b (sk b e p) (lt b e (sk b e p)) = nI (ofN 11) := (wk_of hsk.2 (by decide) (by decide)).mpr hw
    have no : ∀ j, 11 ≤ j → j ≤ 17 → j ≠ 11 → ¬ WD b (sk b e p) (lt b e (sk b e p)) j := fun j a1 a2 a3 => WD_1 hsk.2 (by decide) (by decide) hw a1 a2 a3
    have hst : stepS b e so sl T o ss.length (sk b e p) (lt b e (sk b e p)) = sbind (.inr (lt b e (sk b e p))) fun q => .inr (q, [(5, [], 0)]) := by
      unfold stepS
      rw [if_neg (no 12 (by decide) (by decide) (by decide)), if_neg (no 13 (by decide) (by decide) (by decide)), if_neg (no 14 (by decide) (by decide) (by decide)), if_neg (no 15 (by decide) (by decide) (by decide)), if_neg (no 16 (by decide) (by decide) (by decide)), if_pos hw]
      rfl
    obtain ⟨hq1, hq2, hq3⟩ := pl_st hb hGd (by omega) hsl h6 hl hL1 hL1.pst hst
    refine mt_aload_n (pc := 0) dX11_readStep_0 rfl ?_
    refine mt_cV (pc := 1) (n_word (d := 1) (Nat.le_refl 1) hx hTA hb h3 (by omega) h4 h6) cal_X11_word vir_X11_word ml_X11_201 dX11_readStep_1 (by omega) (mos_o _ _ _) (by first | assumption | (show _ ≤ d; omega)) ⟨(Nat.le_of_ble_eq_true rfl), (Nat.le_of_ble_eq_true rfl)⟩ rfl rfl (Nat.le_of_ble_eq_true rfl) ?_
    rw [hwv]
    refine mt_istore_n (pc := 4) dX11_readStep_4 (Nat.le_of_ble_eq_true rfl) rfl ?_
    refine mt_iload_n (pc := 5) dX11_readStep_5 rfl ?_
    refine mt_ldcS (pc := 6) (j := 11) (tx := "night") (by decide +kernel) dX11_readStep_6 ?_
    refine mt_cS (pc := 8) (n_of (d := 4) (j := 11) (Nat.le_refl 4) (by decide) (by decide) (by decide)) cal_X11_of sta_X11_of ml_X11_180 dX11_readStep_8 (by first | assumption | (show _ ≤ d; omega)) ⟨(Nat.le_of_ble_eq_true rfl), (Nat.le_of_ble_eq_true rfl)⟩ rfl rfl (Nat.le_of_ble_eq_true rfl) ?_
    refine mt_icmp_ne (pc := 11) (tgt := 30) dX11_readStep_11 (by decide) (fun c11 => ?_) (fun c11 => ?_)
    · exact absurd rfl c11
    · skip
      refine mt_aload_n (pc := 14) dX11_readStep_14 rfl ?_
      refine mt_cV (pc := 15) (n_pass (d := 1) (p := sk b e p) (Nat.le_refl 1) hx hTA hb h3 (by omega) (upd_eq _ _ _) hsk.2) cal_X11_pass vir_X11_pass ml_X11_207 dX11_readStep_15 (by omega) (mos_o _ _ _) (by first | assumption | (show _ ≤ d; omega)) ⟨(Nat.le_of_ble_eq_true rfl), (Nat.le_of_ble_eq_true rfl)⟩ rfl rfl (Nat.le_of_ble_eq_true rfl) ?_
      rw [upd_upd]
      refine mt_aload_n (pc := 18) dX11_readStep_18 rfl ?_
      refine mt_iconst (pc := 19) (v := 5) dX11_readStep_19 (by decide) ?_
      refine mt_iconst (pc := 20) (v := 0) dX11_readStep_20 (by decide) ?_
      refine mt_iconst (pc := 21) (v := 0) dX11_readStep_21 (by decide) ?_
      refine mt_iconst (pc := 22) (v := 0) dX11_readStep_22 (by decide) ?_
      refine mt_iconst (pc := 23) (v := 0) dX11_readStep_23 (by decide) ?_
      refine mt_aV (pc := 24) (n_tells (d := 1) (t := (5, [], 0)) (Nat.le_refl 1) hx he hq1 (by decide) hq2 rfl (fun j z hz => by cases hz) (fun z => by cases z)) cal_X11_tellsStep vir_X11_tellsStep ml_X11_274 dX11_readStep_24 (by omega) (mos_o _ _ _) (by first | assumption | (show _ ≤ d; omega)) ⟨(Nat.le_of_ble_eq_true rfl), (Nat.le_of_ble_eq_true rfl)⟩ rfl rfl (Nat.le_of_ble_eq_true rfl) ?_ ?_
      · rintro x9 n9 k9 h9
        obtain ⟨⟨⟩, -⟩ := h9
      · rintro v9 n9 k9 ⟨⟨⟩, rfl, gf, Af, rfl, hLf⟩
        refine ⟨rfl, ?_⟩
        refine mt_goto (pc := 27) (tgt := 346) dX11_readStep_27 (by decide) ?_
        exact mt_fg (by repeat (first | exact trivial | refine ⟨rfl, ?_⟩ | rfl)) (t_rd346 (by omega) hx hb he hT hLf (hq3))
  by_cases hw12 : WD b (sk b e p) (lt b e (sk b e p)) 12
  · skip
    have hw : WD b (sk b e p) (lt b e (sk b e p)) 12 := hw12
    have hwv : wvI b (sk b e p) (lt b e (sk b e p)) = nI (ofN 12) := (wk_of hsk.2 (by decide) (by decide)).mpr hw
    have no : ∀ j, 11 ≤ j → j ≤ 17 → j ≠ 12 → ¬ WD b (sk b e p) (lt b e (sk b e p)) j := fun j a1 a2 a3 => WD_1 hsk.2 (by decide) (by decide) hw a1 a2 a3
    have hst : stepS b e so sl T o ss.length (sk b e p) (lt b e (sk b e p)) = sbind (rpN (nmS b e (rpN (nmS b e (rpN (nmS b e (rpN (nmS b e (.inr (lt b e (sk b e p))) 0 (nI so - 1))) 0 (nI sl - 1))) 1 60)) 1 40)) fun q => .inr (q, [(0, [nv (nmS b e (.inr (lt b e (sk b e p))) 0 (nI so - 1)), nv (nmS b e (rpN (nmS b e (.inr (lt b e (sk b e p))) 0 (nI so - 1))) 0 (nI sl - 1)), nv (nmS b e (rpN (nmS b e (rpN (nmS b e (.inr (lt b e (sk b e p))) 0 (nI so - 1))) 0 (nI sl - 1))) 1 60), nv (nmS b e (rpN (nmS b e (rpN (nmS b e (rpN (nmS b e (.inr (lt b e (sk b e p))) 0 (nI so - 1))) 0 (nI sl - 1))) 1 60)) 1 40)], 0)]) := by
      rw [← s_4]
      unfold stepS
      rw [if_pos hw]
    refine mt_aload_n (pc := 0) dX11_readStep_0 rfl ?_
    refine mt_cV (pc := 1) (n_word (d := 1) (Nat.le_refl 1) hx hTA hb h3 (by omega) h4 h6) cal_X11_word vir_X11_word ml_X11_201 dX11_readStep_1 (by omega) (mos_o _ _ _) (by first | assumption | (show _ ≤ d; omega)) ⟨(Nat.le_of_ble_eq_true rfl), (Nat.le_of_ble_eq_true rfl)⟩ rfl rfl (Nat.le_of_ble_eq_true rfl) ?_
    rw [hwv]
    refine mt_istore_n (pc := 4) dX11_readStep_4 (Nat.le_of_ble_eq_true rfl) rfl ?_
    refine mt_iload_n (pc := 5) dX11_readStep_5 rfl ?_
    refine mt_ldcS (pc := 6) (j := 11) (tx := "night") (by decide +kernel) dX11_readStep_6 ?_
    refine mt_cS (pc := 8) (n_of (d := 4) (j := 11) (Nat.le_refl 4) (by decide) (by decide) (by decide)) cal_X11_of sta_X11_of ml_X11_180 dX11_readStep_8 (by first | assumption | (show _ ≤ d; omega)) ⟨(Nat.le_of_ble_eq_true rfl), (Nat.le_of_ble_eq_true rfl)⟩ rfl rfl (Nat.le_of_ble_eq_true rfl) ?_
    refine mt_icmp_ne (pc := 11) (tgt := 30) dX11_readStep_11 (by decide) (fun c11 => ?_) (fun c11 => ?_)
    · skip
      refine mt_iload_n (pc := 30) dX11_readStep_30 rfl ?_
      refine mt_ldcSw (pc := 31) (j := 12) (tx := "lend") (by decide +kernel) dX11_readStep_31 ?_
      refine mt_cS (pc := 34) (n_of (d := 4) (j := 12) (Nat.le_refl 4) (by decide) (by decide) (by decide)) cal_X11_of sta_X11_of ml_X11_180 dX11_readStep_34 (by first | assumption | (show _ ≤ d; omega)) ⟨(Nat.le_of_ble_eq_true rfl), (Nat.le_of_ble_eq_true rfl)⟩ rfl rfl (Nat.le_of_ble_eq_true rfl) ?_
      refine mt_icmp_ne (pc := 37) (tgt := 96) dX11_readStep_37 (by decide) (fun c37 => ?_) (fun c37 => ?_)
      · exact absurd rfl c37
      · skip
        refine mt_aload_n (pc := 40) dX11_readStep_40 rfl ?_
        refine mt_cV (pc := 41) (n_pass (d := 1) (p := sk b e p) (Nat.le_refl 1) hx hTA hb h3 (by omega) (upd_eq _ _ _) hsk.2) cal_X11_pass vir_X11_pass ml_X11_207 dX11_readStep_41 (by omega) (mos_o _ _ _) (by first | assumption | (show _ ≤ d; omega)) ⟨(Nat.le_of_ble_eq_true rfl), (Nat.le_of_ble_eq_true rfl)⟩ rfl rfl (Nat.le_of_ble_eq_true rfl) ?_
        rw [upd_upd]
        refine mt_aload_n (pc := 44) dX11_readStep_44 rfl ?_
        refine mt_iconst (pc := 45) (v := 0) dX11_readStep_45 (by decide) ?_
        refine mt_aload_n (pc := 46) dX11_readStep_46 rfl ?_
        refine mt_mgetI (pc := 47) (x := nI so) gf_X11_157 dX11_readStep_47 hx rfl f19 ?_
        refine mt_iconst (pc := 50) (v := 1) dX11_readStep_50 (by decide) ?_
        refine mt_isub (pc := 51) dX11_readStep_51 ?_
        refine mt_aV (pc := 52) (n_rnum (d := 1) (lw := 0) (hi := nI so - 1) (by decide) hso1 (Nat.le_refl 1) hx hTA hb (by omega) hL1.pst) cal_X11_readNumber vir_X11_readNumber ml_X11_186 dX11_readStep_52 (by omega) (mos_o _ _ _) (by first | assumption | (show _ ≤ d; omega)) ⟨(Nat.le_of_ble_eq_true rfl), (Nat.le_of_ble_eq_true rfl)⟩ rfl rfl (Nat.le_of_ble_eq_true rfl) ?_ ?_
        · rintro x9 n9 k9 h9
          obtain ⟨⟨⟩, -⟩ := h9
        · rintro v9 n9 k9 ⟨⟨⟩, rfl, g1, rfl, hP1⟩
          refine ⟨rfl, ?_⟩
          refine mt_istore_n (pc := 55) dX11_readStep_55 (Nat.le_of_ble_eq_true rfl) rfl ?_
          refine mt_aload_n (pc := 56) dX11_readStep_56 rfl ?_
          refine mt_iconst (pc := 57) (v := 0) dX11_readStep_57 (by decide) ?_
          refine mt_aload_n (pc := 58) dX11_readStep_58 rfl ?_
          refine mt_mgetI (pc := 59) (x := nI sl) gf_X11_154 dX11_readStep_59 hx rfl ((hP1.1 18 (by decide) (by decide) (by decide)).trans f18) ?_
          refine mt_iconst (pc := 62) (v := 1) dX11_readStep_62 (by decide) ?_
          refine mt_isub (pc := 63) dX11_readStep_63 ?_
          refine mt_aV (pc := 64) (n_rnum (d := 1) (lw := 0) (hi := nI sl - 1) (by decide) hsl1 (Nat.le_refl 1) hx hTA hb (by omega) hP1) cal_X11_readNumber vir_X11_readNumber ml_X11_186 dX11_readStep_64 (by omega) (mos_o _ _ _) (by first | assumption | (show _ ≤ d; omega)) ⟨(Nat.le_of_ble_eq_true rfl), (Nat.le_of_ble_eq_true rfl)⟩ rfl rfl (Nat.le_of_ble_eq_true rfl) ?_ ?_
          · rintro x9 n9 k9 h9
            obtain ⟨⟨⟩, -⟩ := h9
          · rintro v9 n9 k9 ⟨⟨⟩, rfl, g2, rfl, hP2⟩
            refine ⟨rfl, ?_⟩
            refine mt_istore_n (pc := 67) dX11_readStep_67 (Nat.le_of_ble_eq_true rfl) rfl ?_
            refine mt_aload_n (pc := 68) dX11_readStep_68 rfl ?_
            refine mt_iconst (pc := 69) (v := 1) dX11_readStep_69 (by decide) ?_
            refine mt_bipush (pc := 70) (v := 60) dX11_readStep_70 (by decide) ?_
            refine mt_aV (pc := 72) (n_rnum (d := 1) (lw := 1) (hi := 60) (by decide) (by decide) (Nat.le_refl 1) hx hTA hb (by omega) hP2) cal_X11_readNumber vir_X11_readNumber ml_X11_186 dX11_readStep_72 (by omega) (mos_o _ _ _) (by first | assumption | (show _ ≤ d; omega)) ⟨(Nat.le_of_ble_eq_true rfl), (Nat.le_of_ble_eq_true rfl)⟩ rfl rfl (Nat.le_of_ble_eq_true rfl) ?_ ?_
            · rintro x9 n9 k9 h9
              obtain ⟨⟨⟩, -⟩ := h9
            · rintro v9 n9 k9 ⟨⟨⟩, rfl, g3, rfl, hP3⟩
              refine ⟨rfl, ?_⟩
              refine mt_istore (pc := 75) dX11_readStep_75 (Nat.le_of_ble_eq_true rfl) rfl ?_
              refine mt_aload_n (pc := 77) dX11_readStep_77 rfl ?_
              refine mt_iconst (pc := 78) (v := 0) dX11_readStep_78 (by decide) ?_
              refine mt_iload_n (pc := 79) dX11_readStep_79 rfl ?_
              refine mt_iload_n (pc := 80) dX11_readStep_80 rfl ?_
              refine mt_iload (pc := 81) dX11_readStep_81 rfl ?_
              refine mt_aload_n (pc := 83) dX11_readStep_83 rfl ?_
              refine mt_iconst (pc := 84) (v := 1) dX11_readStep_84 (by decide) ?_
              refine mt_bipush (pc := 85) (v := 40) dX11_readStep_85 (by decide) ?_
              refine mt_aV (pc := 87) (n_rnum (d := 1) (lw := 1) (hi := 40) (by decide) (by decide) (Nat.le_refl 1) hx hTA hb (by omega) hP3) cal_X11_readNumber vir_X11_readNumber ml_X11_186 dX11_readStep_87 (by omega) (mos_o _ _ _) (by first | assumption | (show _ ≤ d; omega)) ⟨(Nat.le_of_ble_eq_true rfl), (Nat.le_of_ble_eq_true rfl)⟩ rfl rfl (Nat.le_of_ble_eq_true rfl) ?_ ?_
              · rintro x9 n9 k9 h9
                obtain ⟨⟨⟩, -⟩ := h9
              · rintro v9 n9 k9 ⟨⟨⟩, rfl, g4, rfl, hP4⟩
                refine ⟨rfl, ?_⟩
                obtain ⟨hq1, hq2, hq3⟩ := pl_st hb hGd (by omega) hsl h6 hl hL1 hP4 hst
                rw [rv_nv, rv_nv, rv_nv, rv_nv]
                refine mt_aV (pc := 90) (n_tells (d := 1) (t := (0, [_, _, _, _], 0)) (Nat.le_refl 1) hx he hq1 (by simp) hq2 rfl (hv4 _ _ _ _) (fun z => by cases z)) cal_X11_tellsStep vir_X11_tellsStep ml_X11_274 dX11_readStep_90 (by omega) (mos_o _ _ _) (by first | assumption | (show _ ≤ d; omega)) ⟨(Nat.le_of_ble_eq_true rfl), (Nat.le_of_ble_eq_true rfl)⟩ rfl rfl (Nat.le_of_ble_eq_true rfl) ?_ ?_
                · rintro x9 n9 k9 h9
                  obtain ⟨⟨⟩, -⟩ := h9
                · rintro v9 n9 k9 ⟨⟨⟩, rfl, gf, Af, rfl, hLf⟩
                  refine ⟨rfl, ?_⟩
                  refine mt_goto (pc := 93) (tgt := 346) dX11_readStep_93 (by decide) ?_
                  exact mt_fg (by repeat (first | exact trivial | refine ⟨rfl, ?_⟩ | rfl)) (t_rd346 (by omega) hx hb he hT hLf (hq3))
    · exact absurd c11 (by decide +kernel)
  by_cases hw13 : WD b (sk b e p) (lt b e (sk b e p)) 13
  · skip
    have hw : WD b (sk b e p) (lt b e (sk b e p)) 13 := hw13
    have hwv : wvI b (sk b e p) (lt b e (sk b e p)) = nI (ofN 13) := (wk_of hsk.2 (by decide) (by decide)).mpr hw
    have no : ∀ j, 11 ≤ j → j ≤ 17 → j ≠ 13 → ¬ WD b (sk b e p) (lt b e (sk b e p)) j := fun j a1 a2 a3 => WD_1 hsk.2 (by decide) (by decide) hw a1 a2 a3
    have hst : stepS b e so sl T o ss.length (sk b e p) (lt b e (sk b e p)) = sbind (rpN (nmS b e (.inr (lt b e (sk b e p))) 0 9)) fun q => .inr (q, [(1, [nv (nmS b e (.inr (lt b e (sk b e p))) 0 9)], 0)]) := by
      rw [← s_1]
      unfold stepS
      rw [if_neg (no 12 (by decide) (by decide) (by decide)), if_pos hw]
    refine mt_aload_n (pc := 0) dX11_readStep_0 rfl ?_
    refine mt_cV (pc := 1) (n_word (d := 1) (Nat.le_refl 1) hx hTA hb h3 (by omega) h4 h6) cal_X11_word vir_X11_word ml_X11_201 dX11_readStep_1 (by omega) (mos_o _ _ _) (by first | assumption | (show _ ≤ d; omega)) ⟨(Nat.le_of_ble_eq_true rfl), (Nat.le_of_ble_eq_true rfl)⟩ rfl rfl (Nat.le_of_ble_eq_true rfl) ?_
    rw [hwv]
    refine mt_istore_n (pc := 4) dX11_readStep_4 (Nat.le_of_ble_eq_true rfl) rfl ?_
    refine mt_iload_n (pc := 5) dX11_readStep_5 rfl ?_
    refine mt_ldcS (pc := 6) (j := 11) (tx := "night") (by decide +kernel) dX11_readStep_6 ?_
    refine mt_cS (pc := 8) (n_of (d := 4) (j := 11) (Nat.le_refl 4) (by decide) (by decide) (by decide)) cal_X11_of sta_X11_of ml_X11_180 dX11_readStep_8 (by first | assumption | (show _ ≤ d; omega)) ⟨(Nat.le_of_ble_eq_true rfl), (Nat.le_of_ble_eq_true rfl)⟩ rfl rfl (Nat.le_of_ble_eq_true rfl) ?_
    refine mt_icmp_ne (pc := 11) (tgt := 30) dX11_readStep_11 (by decide) (fun c11 => ?_) (fun c11 => ?_)
    · skip
      refine mt_iload_n (pc := 30) dX11_readStep_30 rfl ?_
      refine mt_ldcSw (pc := 31) (j := 12) (tx := "lend") (by decide +kernel) dX11_readStep_31 ?_
      refine mt_cS (pc := 34) (n_of (d := 4) (j := 12) (Nat.le_refl 4) (by decide) (by decide) (by decide)) cal_X11_of sta_X11_of ml_X11_180 dX11_readStep_34 (by first | assumption | (show _ ≤ d; omega)) ⟨(Nat.le_of_ble_eq_true rfl), (Nat.le_of_ble_eq_true rfl)⟩ rfl rfl (Nat.le_of_ble_eq_true rfl) ?_
      refine mt_icmp_ne (pc := 37) (tgt := 96) dX11_readStep_37 (by decide) (fun c37 => ?_) (fun c37 => ?_)
      · skip
        refine mt_iload_n (pc := 96) dX11_readStep_96 rfl ?_
        refine mt_ldcSw (pc := 97) (j := 13) (tx := "pay") (by decide +kernel) dX11_readStep_97 ?_
        refine mt_cS (pc := 100) (n_of (d := 4) (j := 13) (Nat.le_refl 4) (by decide) (by decide) (by decide)) cal_X11_of sta_X11_of ml_X11_180 dX11_readStep_100 (by first | assumption | (show _ ≤ d; omega)) ⟨(Nat.le_of_ble_eq_true rfl), (Nat.le_of_ble_eq_true rfl)⟩ rfl rfl (Nat.le_of_ble_eq_true rfl) ?_
        refine mt_icmp_ne (pc := 103) (tgt := 128) dX11_readStep_103 (by decide) (fun c103 => ?_) (fun c103 => ?_)
        · exact absurd rfl c103
        · skip
          refine mt_aload_n (pc := 106) dX11_readStep_106 rfl ?_
          refine mt_cV (pc := 107) (n_pass (d := 1) (p := sk b e p) (Nat.le_refl 1) hx hTA hb h3 (by omega) (upd_eq _ _ _) hsk.2) cal_X11_pass vir_X11_pass ml_X11_207 dX11_readStep_107 (by omega) (mos_o _ _ _) (by first | assumption | (show _ ≤ d; omega)) ⟨(Nat.le_of_ble_eq_true rfl), (Nat.le_of_ble_eq_true rfl)⟩ rfl rfl (Nat.le_of_ble_eq_true rfl) ?_
          rw [upd_upd]
          refine mt_aload_n (pc := 110) dX11_readStep_110 rfl ?_
          refine mt_iconst (pc := 111) (v := 1) dX11_readStep_111 (by decide) ?_
          refine mt_aload_n (pc := 112) dX11_readStep_112 rfl ?_
          refine mt_iconst (pc := 113) (v := 0) dX11_readStep_113 (by decide) ?_
          refine mt_bipush (pc := 114) (v := 9) dX11_readStep_114 (by decide) ?_
          refine mt_aV (pc := 116) (n_rnum (d := 1) (lw := 0) (hi := 9) (by decide) (by decide) (Nat.le_refl 1) hx hTA hb (by omega) hL1.pst) cal_X11_readNumber vir_X11_readNumber ml_X11_186 dX11_readStep_116 (by omega) (mos_o _ _ _) (by first | assumption | (show _ ≤ d; omega)) ⟨(Nat.le_of_ble_eq_true rfl), (Nat.le_of_ble_eq_true rfl)⟩ rfl rfl (Nat.le_of_ble_eq_true rfl) ?_ ?_
          · rintro x9 n9 k9 h9
            obtain ⟨⟨⟩, -⟩ := h9
          · rintro v9 n9 k9 ⟨⟨⟩, rfl, g1, rfl, hP1⟩
            refine ⟨rfl, ?_⟩
            obtain ⟨hq1, hq2, hq3⟩ := pl_st hb hGd (by omega) hsl h6 hl hL1 hP1 hst
            rw [rv_nv]
            refine mt_iconst (pc := 119) (v := 0) dX11_readStep_119 (by decide) ?_
            refine mt_iconst (pc := 120) (v := 0) dX11_readStep_120 (by decide) ?_
            refine mt_iconst (pc := 121) (v := 0) dX11_readStep_121 (by decide) ?_
            refine mt_aV (pc := 122) (n_tells (d := 1) (t := (1, [_], 0)) (Nat.le_refl 1) hx he hq1 (by simp) hq2 rfl (hv1 _) (fun z => by cases z)) cal_X11_tellsStep vir_X11_tellsStep ml_X11_274 dX11_readStep_122 (by omega) (mos_o _ _ _) (by first | assumption | (show _ ≤ d; omega)) ⟨(Nat.le_of_ble_eq_true rfl), (Nat.le_of_ble_eq_true rfl)⟩ rfl rfl (Nat.le_of_ble_eq_true rfl) ?_ ?_
            · rintro x9 n9 k9 h9
              obtain ⟨⟨⟩, -⟩ := h9
            · rintro v9 n9 k9 ⟨⟨⟩, rfl, gf, Af, rfl, hLf⟩
              refine ⟨rfl, ?_⟩
              refine mt_goto (pc := 125) (tgt := 346) dX11_readStep_125 (by decide) ?_
              exact mt_fg (by repeat (first | exact trivial | refine ⟨rfl, ?_⟩ | rfl)) (t_rd346 (by omega) hx hb he hT hLf (hq3))
      · exact absurd c37 (by decide +kernel)
    · exact absurd c11 (by decide +kernel)
  by_cases hw14 : WD b (sk b e p) (lt b e (sk b e p)) 14
  · skip
    have hw : WD b (sk b e p) (lt b e (sk b e p)) 14 := hw14
    have hwv : wvI b (sk b e p) (lt b e (sk b e p)) = nI (ofN 14) := (wk_of hsk.2 (by decide) (by decide)).mpr hw
    have no : ∀ j, 11 ≤ j → j ≤ 17 → j ≠ 14 → ¬ WD b (sk b e p) (lt b e (sk b e p)) j := fun j a1 a2 a3 => WD_1 hsk.2 (by decide) (by decide) hw a1 a2 a3
    have hst : stepS b e so sl T o ss.length (sk b e p) (lt b e (sk b e p)) = sbind (rpN (nmS b e (rpN (nmS b e (.inr (lt b e (sk b e p))) 0 (nI so - 1))) 1 60)) fun q => .inr (q, [(2, [nv (nmS b e (.inr (lt b e (sk b e p))) 0 (nI so - 1)), nv (nmS b e (rpN (nmS b e (.inr (lt b e (sk b e p))) 0 (nI so - 1))) 1 60)], 0)]) := by
      rw [← s_2]
      unfold stepS
      rw [if_neg (no 12 (by decide) (by decide) (by decide)), if_neg (no 13 (by decide) (by decide) (by decide)), if_pos hw]
    refine mt_aload_n (pc := 0) dX11_readStep_0 rfl ?_
    refine mt_cV (pc := 1) (n_word (d := 1) (Nat.le_refl 1) hx hTA hb h3 (by omega) h4 h6) cal_X11_word vir_X11_word ml_X11_201 dX11_readStep_1 (by omega) (mos_o _ _ _) (by first | assumption | (show _ ≤ d; omega)) ⟨(Nat.le_of_ble_eq_true rfl), (Nat.le_of_ble_eq_true rfl)⟩ rfl rfl (Nat.le_of_ble_eq_true rfl) ?_
    rw [hwv]
    refine mt_istore_n (pc := 4) dX11_readStep_4 (Nat.le_of_ble_eq_true rfl) rfl ?_
    refine mt_iload_n (pc := 5) dX11_readStep_5 rfl ?_
    refine mt_ldcS (pc := 6) (j := 11) (tx := "night") (by decide +kernel) dX11_readStep_6 ?_
    refine mt_cS (pc := 8) (n_of (d := 4) (j := 11) (Nat.le_refl 4) (by decide) (by decide) (by decide)) cal_X11_of sta_X11_of ml_X11_180 dX11_readStep_8 (by first | assumption | (show _ ≤ d; omega)) ⟨(Nat.le_of_ble_eq_true rfl), (Nat.le_of_ble_eq_true rfl)⟩ rfl rfl (Nat.le_of_ble_eq_true rfl) ?_
    refine mt_icmp_ne (pc := 11) (tgt := 30) dX11_readStep_11 (by decide) (fun c11 => ?_) (fun c11 => ?_)
    · skip
      refine mt_iload_n (pc := 30) dX11_readStep_30 rfl ?_
      refine mt_ldcSw (pc := 31) (j := 12) (tx := "lend") (by decide +kernel) dX11_readStep_31 ?_
      refine mt_cS (pc := 34) (n_of (d := 4) (j := 12) (Nat.le_refl 4) (by decide) (by decide) (by decide)) cal_X11_of sta_X11_of ml_X11_180 dX11_readStep_34 (by first | assumption | (show _ ≤ d; omega)) ⟨(Nat.le_of_ble_eq_true rfl), (Nat.le_of_ble_eq_true rfl)⟩ rfl rfl (Nat.le_of_ble_eq_true rfl) ?_
      refine mt_icmp_ne (pc := 37) (tgt := 96) dX11_readStep_37 (by decide) (fun c37 => ?_) (fun c37 => ?_)
      · skip
        refine mt_iload_n (pc := 96) dX11_readStep_96 rfl ?_
        refine mt_ldcSw (pc := 97) (j := 13) (tx := "pay") (by decide +kernel) dX11_readStep_97 ?_
        refine mt_cS (pc := 100) (n_of (d := 4) (j := 13) (Nat.le_refl 4) (by decide) (by decide) (by decide)) cal_X11_of sta_X11_of ml_X11_180 dX11_readStep_100 (by first | assumption | (show _ ≤ d; omega)) ⟨(Nat.le_of_ble_eq_true rfl), (Nat.le_of_ble_eq_true rfl)⟩ rfl rfl (Nat.le_of_ble_eq_true rfl) ?_
        refine mt_icmp_ne (pc := 103) (tgt := 128) dX11_readStep_103 (by decide) (fun c103 => ?_) (fun c103 => ?_)
        · skip
          refine mt_iload_n (pc := 128) dX11_readStep_128 rfl ?_
          refine mt_ldcSw (pc := 129) (j := 14) (tx := "earn") (by decide +kernel) dX11_readStep_129 ?_
          refine mt_cS (pc := 132) (n_of (d := 4) (j := 14) (Nat.le_refl 4) (by decide) (by decide) (by decide)) cal_X11_of sta_X11_of ml_X11_180 dX11_readStep_132 (by first | assumption | (show _ ≤ d; omega)) ⟨(Nat.le_of_ble_eq_true rfl), (Nat.le_of_ble_eq_true rfl)⟩ rfl rfl (Nat.le_of_ble_eq_true rfl) ?_
          refine mt_icmp_ne (pc := 135) (tgt := 172) dX11_readStep_135 (by decide) (fun c135 => ?_) (fun c135 => ?_)
          · exact absurd rfl c135
          · skip
            refine mt_aload_n (pc := 138) dX11_readStep_138 rfl ?_
            refine mt_cV (pc := 139) (n_pass (d := 1) (p := sk b e p) (Nat.le_refl 1) hx hTA hb h3 (by omega) (upd_eq _ _ _) hsk.2) cal_X11_pass vir_X11_pass ml_X11_207 dX11_readStep_139 (by omega) (mos_o _ _ _) (by first | assumption | (show _ ≤ d; omega)) ⟨(Nat.le_of_ble_eq_true rfl), (Nat.le_of_ble_eq_true rfl)⟩ rfl rfl (Nat.le_of_ble_eq_true rfl) ?_
            rw [upd_upd]
            refine mt_aload_n (pc := 142) dX11_readStep_142 rfl ?_
            refine mt_iconst (pc := 143) (v := 0) dX11_readStep_143 (by decide) ?_
            refine mt_aload_n (pc := 144) dX11_readStep_144 rfl ?_
            refine mt_mgetI (pc := 145) (x := nI so) gf_X11_157 dX11_readStep_145 hx rfl f19 ?_
            refine mt_iconst (pc := 148) (v := 1) dX11_readStep_148 (by decide) ?_
            refine mt_isub (pc := 149) dX11_readStep_149 ?_
            refine mt_aV (pc := 150) (n_rnum (d := 1) (lw := 0) (hi := nI so - 1) (by decide) hso1 (Nat.le_refl 1) hx hTA hb (by omega) hL1.pst) cal_X11_readNumber vir_X11_readNumber ml_X11_186 dX11_readStep_150 (by omega) (mos_o _ _ _) (by first | assumption | (show _ ≤ d; omega)) ⟨(Nat.le_of_ble_eq_true rfl), (Nat.le_of_ble_eq_true rfl)⟩ rfl rfl (Nat.le_of_ble_eq_true rfl) ?_ ?_
            · rintro x9 n9 k9 h9
              obtain ⟨⟨⟩, -⟩ := h9
            · rintro v9 n9 k9 ⟨⟨⟩, rfl, g1, rfl, hP1⟩
              refine ⟨rfl, ?_⟩
              refine mt_istore_n (pc := 153) dX11_readStep_153 (Nat.le_of_ble_eq_true rfl) rfl ?_
              refine mt_aload_n (pc := 154) dX11_readStep_154 rfl ?_
              refine mt_iconst (pc := 155) (v := 2) dX11_readStep_155 (by decide) ?_
              refine mt_iload_n (pc := 156) dX11_readStep_156 rfl ?_
              refine mt_aload_n (pc := 157) dX11_readStep_157 rfl ?_
              refine mt_iconst (pc := 158) (v := 1) dX11_readStep_158 (by decide) ?_
              refine mt_bipush (pc := 159) (v := 60) dX11_readStep_159 (by decide) ?_
              refine mt_aV (pc := 161) (n_rnum (d := 1) (lw := 1) (hi := 60) (by decide) (by decide) (Nat.le_refl 1) hx hTA hb (by omega) hP1) cal_X11_readNumber vir_X11_readNumber ml_X11_186 dX11_readStep_161 (by omega) (mos_o _ _ _) (by first | assumption | (show _ ≤ d; omega)) ⟨(Nat.le_of_ble_eq_true rfl), (Nat.le_of_ble_eq_true rfl)⟩ rfl rfl (Nat.le_of_ble_eq_true rfl) ?_ ?_
              · rintro x9 n9 k9 h9
                obtain ⟨⟨⟩, -⟩ := h9
              · rintro v9 n9 k9 ⟨⟨⟩, rfl, g2, rfl, hP2⟩
                refine ⟨rfl, ?_⟩
                obtain ⟨hq1, hq2, hq3⟩ := pl_st hb hGd (by omega) hsl h6 hl hL1 hP2 hst
                rw [rv_nv, rv_nv]
                refine mt_iconst (pc := 164) (v := 0) dX11_readStep_164 (by decide) ?_
                refine mt_iconst (pc := 165) (v := 0) dX11_readStep_165 (by decide) ?_
                refine mt_aV (pc := 166) (n_tells (d := 1) (t := (2, [_, _], 0)) (Nat.le_refl 1) hx he hq1 (by simp) hq2 rfl (hv2 _ _) (fun z => by cases z)) cal_X11_tellsStep vir_X11_tellsStep ml_X11_274 dX11_readStep_166 (by omega) (mos_o _ _ _) (by first | assumption | (show _ ≤ d; omega)) ⟨(Nat.le_of_ble_eq_true rfl), (Nat.le_of_ble_eq_true rfl)⟩ rfl rfl (Nat.le_of_ble_eq_true rfl) ?_ ?_
                · rintro x9 n9 k9 h9
                  obtain ⟨⟨⟩, -⟩ := h9
                · rintro v9 n9 k9 ⟨⟨⟩, rfl, gf, Af, rfl, hLf⟩
                  refine ⟨rfl, ?_⟩
                  refine mt_goto (pc := 169) (tgt := 346) dX11_readStep_169 (by decide) ?_
                  exact mt_fg (by repeat (first | exact trivial | refine ⟨rfl, ?_⟩ | rfl)) (t_rd346 (by omega) hx hb he hT hLf (hq3))
        · exact absurd c103 (by decide +kernel)
      · exact absurd c37 (by decide +kernel)
    · exact absurd c11 (by decide +kernel)
  by_cases hw15 : WD b (sk b e p) (lt b e (sk b e p)) 15
  · skip
    have hw : WD b (sk b e p) (lt b e (sk b e p)) 15 := hw15
    have hwv : wvI b (sk b e p) (lt b e (sk b e p)) = nI (ofN 15) := (wk_of hsk.2 (by decide) (by decide)).mpr hw
    have no : ∀ j, 11 ≤ j → j ≤ 17 → j ≠ 15 → ¬ WD b (sk b e p) (lt b e (sk b e p)) j := fun j a1 a2 a3 => WD_1 hsk.2 (by decide) (by decide) hw a1 a2 a3
    have hst : stepS b e so sl T o ss.length (sk b e p) (lt b e (sk b e p)) = sbind (rpN (nmS b e (.inr (lt b e (sk b e p))) 0 (nI sl - 1))) fun q => .inr (q, [(3, [nv (nmS b e (.inr (lt b e (sk b e p))) 0 (nI sl - 1))], 0)]) := by
      rw [← s_1]
      unfold stepS
      rw [if_neg (no 12 (by decide) (by decide) (by decide)), if_neg (no 13 (by decide) (by decide) (by decide)), if_neg (no 14 (by decide) (by decide) (by decide)), if_pos hw]
    refine mt_aload_n (pc := 0) dX11_readStep_0 rfl ?_
    refine mt_cV (pc := 1) (n_word (d := 1) (Nat.le_refl 1) hx hTA hb h3 (by omega) h4 h6) cal_X11_word vir_X11_word ml_X11_201 dX11_readStep_1 (by omega) (mos_o _ _ _) (by first | assumption | (show _ ≤ d; omega)) ⟨(Nat.le_of_ble_eq_true rfl), (Nat.le_of_ble_eq_true rfl)⟩ rfl rfl (Nat.le_of_ble_eq_true rfl) ?_
    rw [hwv]
    refine mt_istore_n (pc := 4) dX11_readStep_4 (Nat.le_of_ble_eq_true rfl) rfl ?_
    refine mt_iload_n (pc := 5) dX11_readStep_5 rfl ?_
    refine mt_ldcS (pc := 6) (j := 11) (tx := "night") (by decide +kernel) dX11_readStep_6 ?_
    refine mt_cS (pc := 8) (n_of (d := 4) (j := 11) (Nat.le_refl 4) (by decide) (by decide) (by decide)) cal_X11_of sta_X11_of ml_X11_180 dX11_readStep_8 (by first | assumption | (show _ ≤ d; omega)) ⟨(Nat.le_of_ble_eq_true rfl), (Nat.le_of_ble_eq_true rfl)⟩ rfl rfl (Nat.le_of_ble_eq_true rfl) ?_
    refine mt_icmp_ne (pc := 11) (tgt := 30) dX11_readStep_11 (by decide) (fun c11 => ?_) (fun c11 => ?_)
    · skip
      refine mt_iload_n (pc := 30) dX11_readStep_30 rfl ?_
      refine mt_ldcSw (pc := 31) (j := 12) (tx := "lend") (by decide +kernel) dX11_readStep_31 ?_
      refine mt_cS (pc := 34) (n_of (d := 4) (j := 12) (Nat.le_refl 4) (by decide) (by decide) (by decide)) cal_X11_of sta_X11_of ml_X11_180 dX11_readStep_34 (by first | assumption | (show _ ≤ d; omega)) ⟨(Nat.le_of_ble_eq_true rfl), (Nat.le_of_ble_eq_true rfl)⟩ rfl rfl (Nat.le_of_ble_eq_true rfl) ?_
      refine mt_icmp_ne (pc := 37) (tgt := 96) dX11_readStep_37 (by decide) (fun c37 => ?_) (fun c37 => ?_)
      · skip
        refine mt_iload_n (pc := 96) dX11_readStep_96 rfl ?_
        refine mt_ldcSw (pc := 97) (j := 13) (tx := "pay") (by decide +kernel) dX11_readStep_97 ?_
        refine mt_cS (pc := 100) (n_of (d := 4) (j := 13) (Nat.le_refl 4) (by decide) (by decide) (by decide)) cal_X11_of sta_X11_of ml_X11_180 dX11_readStep_100 (by first | assumption | (show _ ≤ d; omega)) ⟨(Nat.le_of_ble_eq_true rfl), (Nat.le_of_ble_eq_true rfl)⟩ rfl rfl (Nat.le_of_ble_eq_true rfl) ?_
        refine mt_icmp_ne (pc := 103) (tgt := 128) dX11_readStep_103 (by decide) (fun c103 => ?_) (fun c103 => ?_)
        · skip
          refine mt_iload_n (pc := 128) dX11_readStep_128 rfl ?_
          refine mt_ldcSw (pc := 129) (j := 14) (tx := "earn") (by decide +kernel) dX11_readStep_129 ?_
          refine mt_cS (pc := 132) (n_of (d := 4) (j := 14) (Nat.le_refl 4) (by decide) (by decide) (by decide)) cal_X11_of sta_X11_of ml_X11_180 dX11_readStep_132 (by first | assumption | (show _ ≤ d; omega)) ⟨(Nat.le_of_ble_eq_true rfl), (Nat.le_of_ble_eq_true rfl)⟩ rfl rfl (Nat.le_of_ble_eq_true rfl) ?_
          refine mt_icmp_ne (pc := 135) (tgt := 172) dX11_readStep_135 (by decide) (fun c135 => ?_) (fun c135 => ?_)
          · skip
            refine mt_iload_n (pc := 172) dX11_readStep_172 rfl ?_
            refine mt_ldcSw (pc := 173) (j := 15) (tx := "seal") (by decide +kernel) dX11_readStep_173 ?_
            refine mt_cS (pc := 176) (n_of (d := 4) (j := 15) (Nat.le_refl 4) (by decide) (by decide) (by decide)) cal_X11_of sta_X11_of ml_X11_180 dX11_readStep_176 (by first | assumption | (show _ ≤ d; omega)) ⟨(Nat.le_of_ble_eq_true rfl), (Nat.le_of_ble_eq_true rfl)⟩ rfl rfl (Nat.le_of_ble_eq_true rfl) ?_
            refine mt_icmp_eq (pc := 179) (tgt := 192) dX11_readStep_179 (by decide) (fun c179 => ?_) (fun c179 => ?_)
            · skip
              refine mt_aload_n (pc := 192) dX11_readStep_192 rfl ?_
              refine mt_cV (pc := 193) (n_pass (d := 1) (p := sk b e p) (Nat.le_refl 1) hx hTA hb h3 (by omega) (upd_eq _ _ _) hsk.2) cal_X11_pass vir_X11_pass ml_X11_207 dX11_readStep_193 (by omega) (mos_o _ _ _) (by first | assumption | (show _ ≤ d; omega)) ⟨(Nat.le_of_ble_eq_true rfl), (Nat.le_of_ble_eq_true rfl)⟩ rfl rfl (Nat.le_of_ble_eq_true rfl) ?_
              rw [upd_upd]
              refine mt_aload_n (pc := 196) dX11_readStep_196 rfl ?_
              refine mt_iload_n (pc := 197) dX11_readStep_197 rfl ?_
              refine mt_ldcSw (pc := 198) (j := 15) (tx := "seal") (by decide +kernel) dX11_readStep_198 ?_
              refine mt_cS (pc := 201) (n_of (d := 4) (j := 15) (Nat.le_refl 4) (by decide) (by decide) (by decide)) cal_X11_of sta_X11_of ml_X11_180 dX11_readStep_201 (by first | assumption | (show _ ≤ d; omega)) ⟨(Nat.le_of_ble_eq_true rfl), (Nat.le_of_ble_eq_true rfl)⟩ rfl rfl (Nat.le_of_ble_eq_true rfl) ?_
              refine mt_icmp_ne (pc := 204) (tgt := 211) dX11_readStep_204 (by decide) (fun c204 => ?_) (fun c204 => ?_)
              · exact absurd rfl c204
              · skip
                refine mt_iconst (pc := 207) (v := 3) dX11_readStep_207 (by decide) ?_
                refine mt_goto (pc := 208) (tgt := 212) dX11_readStep_208 (by decide) ?_
                refine mt_aload_n (pc := 212) dX11_readStep_212 rfl ?_
                refine mt_iconst (pc := 213) (v := 0) dX11_readStep_213 (by decide) ?_
                refine mt_aload_n (pc := 214) dX11_readStep_214 rfl ?_
                refine mt_mgetI (pc := 215) (x := nI sl) gf_X11_154 dX11_readStep_215 hx rfl f18 ?_
                refine mt_iconst (pc := 218) (v := 1) dX11_readStep_218 (by decide) ?_
                refine mt_isub (pc := 219) dX11_readStep_219 ?_
                refine mt_aV (pc := 220) (n_rnum (d := 1) (lw := 0) (hi := nI sl - 1) (by decide) hsl1 (Nat.le_refl 1) hx hTA hb (by omega) hL1.pst) cal_X11_readNumber vir_X11_readNumber ml_X11_186 dX11_readStep_220 (by omega) (mos_o _ _ _) (by first | assumption | (show _ ≤ d; omega)) ⟨(Nat.le_of_ble_eq_true rfl), (Nat.le_of_ble_eq_true rfl)⟩ rfl rfl (Nat.le_of_ble_eq_true rfl) ?_ ?_
                · rintro x9 n9 k9 h9
                  obtain ⟨⟨⟩, -⟩ := h9
                · rintro v9 n9 k9 ⟨⟨⟩, rfl, g1, rfl, hP1⟩
                  refine ⟨rfl, ?_⟩
                  obtain ⟨hq1, hq2, hq3⟩ := pl_st hb hGd (by omega) hsl h6 hl hL1 hP1 hst
                  rw [rv_nv]
                  refine mt_iconst (pc := 223) (v := 0) dX11_readStep_223 (by decide) ?_
                  refine mt_iconst (pc := 224) (v := 0) dX11_readStep_224 (by decide) ?_
                  refine mt_iconst (pc := 225) (v := 0) dX11_readStep_225 (by decide) ?_
                  refine mt_aV (pc := 226) (n_tells (d := 1) (t := (3, [_], 0)) (Nat.le_refl 1) hx he hq1 (by simp) hq2 rfl (hv1 _) (fun z => by cases z)) cal_X11_tellsStep vir_X11_tellsStep ml_X11_274 dX11_readStep_226 (by omega) (mos_o _ _ _) (by first | assumption | (show _ ≤ d; omega)) ⟨(Nat.le_of_ble_eq_true rfl), (Nat.le_of_ble_eq_true rfl)⟩ rfl rfl (Nat.le_of_ble_eq_true rfl) ?_ ?_
                  · rintro x9 n9 k9 h9
                    obtain ⟨⟨⟩, -⟩ := h9
                  · rintro v9 n9 k9 ⟨⟨⟩, rfl, gf, Af, rfl, hLf⟩
                    refine ⟨rfl, ?_⟩
                    refine mt_goto (pc := 229) (tgt := 346) dX11_readStep_229 (by decide) ?_
                    exact mt_fg (by repeat (first | exact trivial | refine ⟨rfl, ?_⟩ | rfl)) (t_rd346 (by omega) hx hb he hT hLf (hq3))
            · exact absurd rfl c179
          · exact absurd c135 (by decide +kernel)
        · exact absurd c103 (by decide +kernel)
      · exact absurd c37 (by decide +kernel)
    · exact absurd c11 (by decide +kernel)
  by_cases hw16 : WD b (sk b e p) (lt b e (sk b e p)) 16
  · skip
    have hw : WD b (sk b e p) (lt b e (sk b e p)) 16 := hw16
    have hwv : wvI b (sk b e p) (lt b e (sk b e p)) = nI (ofN 16) := (wk_of hsk.2 (by decide) (by decide)).mpr hw
    have no : ∀ j, 11 ≤ j → j ≤ 17 → j ≠ 16 → ¬ WD b (sk b e p) (lt b e (sk b e p)) j := fun j a1 a2 a3 => WD_1 hsk.2 (by decide) (by decide) hw a1 a2 a3
    have hst : stepS b e so sl T o ss.length (sk b e p) (lt b e (sk b e p)) = sbind (rpN (nmS b e (.inr (lt b e (sk b e p))) 0 (nI sl - 1))) fun q => .inr (q, [(4, [nv (nmS b e (.inr (lt b e (sk b e p))) 0 (nI sl - 1))], 0)]) := by
      rw [← s_1]
      unfold stepS
      rw [if_neg (no 12 (by decide) (by decide) (by decide)), if_neg (no 13 (by decide) (by decide) (by decide)), if_neg (no 14 (by decide) (by decide) (by decide)), if_neg (no 15 (by decide) (by decide) (by decide)), if_pos hw]
    refine mt_aload_n (pc := 0) dX11_readStep_0 rfl ?_
    refine mt_cV (pc := 1) (n_word (d := 1) (Nat.le_refl 1) hx hTA hb h3 (by omega) h4 h6) cal_X11_word vir_X11_word ml_X11_201 dX11_readStep_1 (by omega) (mos_o _ _ _) (by first | assumption | (show _ ≤ d; omega)) ⟨(Nat.le_of_ble_eq_true rfl), (Nat.le_of_ble_eq_true rfl)⟩ rfl rfl (Nat.le_of_ble_eq_true rfl) ?_
    rw [hwv]
    refine mt_istore_n (pc := 4) dX11_readStep_4 (Nat.le_of_ble_eq_true rfl) rfl ?_
    refine mt_iload_n (pc := 5) dX11_readStep_5 rfl ?_
    refine mt_ldcS (pc := 6) (j := 11) (tx := "night") (by decide +kernel) dX11_readStep_6 ?_
    refine mt_cS (pc := 8) (n_of (d := 4) (j := 11) (Nat.le_refl 4) (by decide) (by decide) (by decide)) cal_X11_of sta_X11_of ml_X11_180 dX11_readStep_8 (by first | assumption | (show _ ≤ d; omega)) ⟨(Nat.le_of_ble_eq_true rfl), (Nat.le_of_ble_eq_true rfl)⟩ rfl rfl (Nat.le_of_ble_eq_true rfl) ?_
    refine mt_icmp_ne (pc := 11) (tgt := 30) dX11_readStep_11 (by decide) (fun c11 => ?_) (fun c11 => ?_)
    · skip
      refine mt_iload_n (pc := 30) dX11_readStep_30 rfl ?_
      refine mt_ldcSw (pc := 31) (j := 12) (tx := "lend") (by decide +kernel) dX11_readStep_31 ?_
      refine mt_cS (pc := 34) (n_of (d := 4) (j := 12) (Nat.le_refl 4) (by decide) (by decide) (by decide)) cal_X11_of sta_X11_of ml_X11_180 dX11_readStep_34 (by first | assumption | (show _ ≤ d; omega)) ⟨(Nat.le_of_ble_eq_true rfl), (Nat.le_of_ble_eq_true rfl)⟩ rfl rfl (Nat.le_of_ble_eq_true rfl) ?_
      refine mt_icmp_ne (pc := 37) (tgt := 96) dX11_readStep_37 (by decide) (fun c37 => ?_) (fun c37 => ?_)
      · skip
        refine mt_iload_n (pc := 96) dX11_readStep_96 rfl ?_
        refine mt_ldcSw (pc := 97) (j := 13) (tx := "pay") (by decide +kernel) dX11_readStep_97 ?_
        refine mt_cS (pc := 100) (n_of (d := 4) (j := 13) (Nat.le_refl 4) (by decide) (by decide) (by decide)) cal_X11_of sta_X11_of ml_X11_180 dX11_readStep_100 (by first | assumption | (show _ ≤ d; omega)) ⟨(Nat.le_of_ble_eq_true rfl), (Nat.le_of_ble_eq_true rfl)⟩ rfl rfl (Nat.le_of_ble_eq_true rfl) ?_
        refine mt_icmp_ne (pc := 103) (tgt := 128) dX11_readStep_103 (by decide) (fun c103 => ?_) (fun c103 => ?_)
        · skip
          refine mt_iload_n (pc := 128) dX11_readStep_128 rfl ?_
          refine mt_ldcSw (pc := 129) (j := 14) (tx := "earn") (by decide +kernel) dX11_readStep_129 ?_
          refine mt_cS (pc := 132) (n_of (d := 4) (j := 14) (Nat.le_refl 4) (by decide) (by decide) (by decide)) cal_X11_of sta_X11_of ml_X11_180 dX11_readStep_132 (by first | assumption | (show _ ≤ d; omega)) ⟨(Nat.le_of_ble_eq_true rfl), (Nat.le_of_ble_eq_true rfl)⟩ rfl rfl (Nat.le_of_ble_eq_true rfl) ?_
          refine mt_icmp_ne (pc := 135) (tgt := 172) dX11_readStep_135 (by decide) (fun c135 => ?_) (fun c135 => ?_)
          · skip
            refine mt_iload_n (pc := 172) dX11_readStep_172 rfl ?_
            refine mt_ldcSw (pc := 173) (j := 15) (tx := "seal") (by decide +kernel) dX11_readStep_173 ?_
            refine mt_cS (pc := 176) (n_of (d := 4) (j := 15) (Nat.le_refl 4) (by decide) (by decide) (by decide)) cal_X11_of sta_X11_of ml_X11_180 dX11_readStep_176 (by first | assumption | (show _ ≤ d; omega)) ⟨(Nat.le_of_ble_eq_true rfl), (Nat.le_of_ble_eq_true rfl)⟩ rfl rfl (Nat.le_of_ble_eq_true rfl) ?_
            refine mt_icmp_eq (pc := 179) (tgt := 192) dX11_readStep_179 (by decide) (fun c179 => ?_) (fun c179 => ?_)
            · exact absurd c179 (by decide +kernel)
            · skip
              refine mt_iload_n (pc := 182) dX11_readStep_182 rfl ?_
              refine mt_ldcSw (pc := 183) (j := 16) (tx := "open") (by decide +kernel) dX11_readStep_183 ?_
              refine mt_cS (pc := 186) (n_of (d := 4) (j := 16) (Nat.le_refl 4) (by decide) (by decide) (by decide)) cal_X11_of sta_X11_of ml_X11_180 dX11_readStep_186 (by first | assumption | (show _ ≤ d; omega)) ⟨(Nat.le_of_ble_eq_true rfl), (Nat.le_of_ble_eq_true rfl)⟩ rfl rfl (Nat.le_of_ble_eq_true rfl) ?_
              refine mt_icmp_ne (pc := 189) (tgt := 232) dX11_readStep_189 (by decide) (fun c189 => ?_) (fun c189 => ?_)
              · exact absurd rfl c189
              · skip
                refine mt_aload_n (pc := 192) dX11_readStep_192 rfl ?_
                refine mt_cV (pc := 193) (n_pass (d := 1) (p := sk b e p) (Nat.le_refl 1) hx hTA hb h3 (by omega) (upd_eq _ _ _) hsk.2) cal_X11_pass vir_X11_pass ml_X11_207 dX11_readStep_193 (by omega) (mos_o _ _ _) (by first | assumption | (show _ ≤ d; omega)) ⟨(Nat.le_of_ble_eq_true rfl), (Nat.le_of_ble_eq_true rfl)⟩ rfl rfl (Nat.le_of_ble_eq_true rfl) ?_
                rw [upd_upd]
                refine mt_aload_n (pc := 196) dX11_readStep_196 rfl ?_
                refine mt_iload_n (pc := 197) dX11_readStep_197 rfl ?_
                refine mt_ldcSw (pc := 198) (j := 15) (tx := "seal") (by decide +kernel) dX11_readStep_198 ?_
                refine mt_cS (pc := 201) (n_of (d := 4) (j := 15) (Nat.le_refl 4) (by decide) (by decide) (by decide)) cal_X11_of sta_X11_of ml_X11_180 dX11_readStep_201 (by first | assumption | (show _ ≤ d; omega)) ⟨(Nat.le_of_ble_eq_true rfl), (Nat.le_of_ble_eq_true rfl)⟩ rfl rfl (Nat.le_of_ble_eq_true rfl) ?_
                refine mt_icmp_ne (pc := 204) (tgt := 211) dX11_readStep_204 (by decide) (fun c204 => ?_) (fun c204 => ?_)
                · skip
                  refine mt_iconst (pc := 211) (v := 4) dX11_readStep_211 (by decide) ?_
                  refine mt_aload_n (pc := 212) dX11_readStep_212 rfl ?_
                  refine mt_iconst (pc := 213) (v := 0) dX11_readStep_213 (by decide) ?_
                  refine mt_aload_n (pc := 214) dX11_readStep_214 rfl ?_
                  refine mt_mgetI (pc := 215) (x := nI sl) gf_X11_154 dX11_readStep_215 hx rfl f18 ?_
                  refine mt_iconst (pc := 218) (v := 1) dX11_readStep_218 (by decide) ?_
                  refine mt_isub (pc := 219) dX11_readStep_219 ?_
                  refine mt_aV (pc := 220) (n_rnum (d := 1) (lw := 0) (hi := nI sl - 1) (by decide) hsl1 (Nat.le_refl 1) hx hTA hb (by omega) hL1.pst) cal_X11_readNumber vir_X11_readNumber ml_X11_186 dX11_readStep_220 (by omega) (mos_o _ _ _) (by first | assumption | (show _ ≤ d; omega)) ⟨(Nat.le_of_ble_eq_true rfl), (Nat.le_of_ble_eq_true rfl)⟩ rfl rfl (Nat.le_of_ble_eq_true rfl) ?_ ?_
                  · rintro x9 n9 k9 h9
                    obtain ⟨⟨⟩, -⟩ := h9
                  · rintro v9 n9 k9 ⟨⟨⟩, rfl, g1, rfl, hP1⟩
                    refine ⟨rfl, ?_⟩
                    obtain ⟨hq1, hq2, hq3⟩ := pl_st hb hGd (by omega) hsl h6 hl hL1 hP1 hst
                    rw [rv_nv]
                    refine mt_iconst (pc := 223) (v := 0) dX11_readStep_223 (by decide) ?_
                    refine mt_iconst (pc := 224) (v := 0) dX11_readStep_224 (by decide) ?_
                    refine mt_iconst (pc := 225) (v := 0) dX11_readStep_225 (by decide) ?_
                    refine mt_aV (pc := 226) (n_tells (d := 1) (t := (4, [_], 0)) (Nat.le_refl 1) hx he hq1 (by simp) hq2 rfl (hv1 _) (fun z => by cases z)) cal_X11_tellsStep vir_X11_tellsStep ml_X11_274 dX11_readStep_226 (by omega) (mos_o _ _ _) (by first | assumption | (show _ ≤ d; omega)) ⟨(Nat.le_of_ble_eq_true rfl), (Nat.le_of_ble_eq_true rfl)⟩ rfl rfl (Nat.le_of_ble_eq_true rfl) ?_ ?_
                    · rintro x9 n9 k9 h9
                      obtain ⟨⟨⟩, -⟩ := h9
                    · rintro v9 n9 k9 ⟨⟨⟩, rfl, gf, Af, rfl, hLf⟩
                      refine ⟨rfl, ?_⟩
                      refine mt_goto (pc := 229) (tgt := 346) dX11_readStep_229 (by decide) ?_
                      exact mt_fg (by repeat (first | exact trivial | refine ⟨rfl, ?_⟩ | rfl)) (t_rd346 (by omega) hx hb he hT hLf (hq3))
                · exact absurd c204 (by decide +kernel)
          · exact absurd c135 (by decide +kernel)
        · exact absurd c103 (by decide +kernel)
      · exact absurd c37 (by decide +kernel)
    · exact absurd c11 (by decide +kernel)
  by_cases hw17 : WD b (sk b e p) (lt b e (sk b e p)) 17
  · skip
    have hw : WD b (sk b e p) (lt b e (sk b e p)) 17 := hw17
    have hwv : wvI b (sk b e p) (lt b e (sk b e p)) = nI (ofN 17) := (wk_of hsk.2 (by decide) (by decide)).mpr hw
    have no : ∀ j, 11 ≤ j → j ≤ 17 → j ≠ 17 → ¬ WD b (sk b e p) (lt b e (sk b e p)) j := fun j a1 a2 a3 => WD_1 hsk.2 (by decide) (by decide) hw a1 a2 a3
    have hr5 : lt b e (sk b e p) = sk b e p + 5 := hw.1
    have hst : stepS b e so sl T o ss.length (sk b e p) (lt b e (sk b e p)) = if 6 ≤ o then .inl (3, sk b e p) else sbind (numS b e (lt b e (sk b e p)) 0 30) fun x => sbind (signS b e x.2 91) fun y => sbind (T (ss.length + 1) y) fun z => sbind (signS b e z.1 93) fun u => .inr (u, (6, [x.1], ss.length + 1 + z.2.length) :: z.2) := by
      unfold stepS
      rw [if_neg (no 12 (by decide) (by decide) (by decide)), if_neg (no 13 (by decide) (by decide) (by decide)), if_neg (no 14 (by decide) (by decide) (by decide)), if_neg (no 15 (by decide) (by decide) (by decide)), if_neg (no 16 (by decide) (by decide) (by decide)), if_neg (no 11 (by decide) (by decide) (by decide)), if_pos hw]
    have fin : ∀ (x : rsW) (g' : MG) (A' : MA), x = (sbind (stepS b e so sl T o ss.length (sk b e p) (lt b e (sk b e p))) fun z => .inr (z.1, ss ++ z.2)) → WSt e g0 A0 g' A' x → mm_T (G, l, yX11_readStep, 5, none, d, 0, 0, (P_wrd e g0 A0 (apW (.inr (p, ss)) (rdS b e so sl T o)) nx h), nx) RX11 cX11_readStep nx (mos h g' A') 0 0 346 [some (.ref 188), none, none, none, none] [] := fun x g' A' hX hW => t_rd346 (by omega) hx hb he hT hW hX
    refine mt_aload_n (pc := 0) dX11_readStep_0 rfl ?_
    refine mt_cV (pc := 1) (n_word (d := 1) (Nat.le_refl 1) hx hTA hb h3 (by omega) h4 h6) cal_X11_word vir_X11_word ml_X11_201 dX11_readStep_1 (by omega) (mos_o _ _ _) (by first | assumption | (show _ ≤ d; omega)) ⟨(Nat.le_of_ble_eq_true rfl), (Nat.le_of_ble_eq_true rfl)⟩ rfl rfl (Nat.le_of_ble_eq_true rfl) ?_
    rw [hwv]
    refine mt_istore_n (pc := 4) dX11_readStep_4 (Nat.le_of_ble_eq_true rfl) rfl ?_
    refine mt_iload_n (pc := 5) dX11_readStep_5 rfl ?_
    refine mt_ldcS (pc := 6) (j := 11) (tx := "night") (by decide +kernel) dX11_readStep_6 ?_
    refine mt_cS (pc := 8) (n_of (d := 4) (j := 11) (Nat.le_refl 4) (by decide) (by decide) (by decide)) cal_X11_of sta_X11_of ml_X11_180 dX11_readStep_8 (by first | assumption | (show _ ≤ d; omega)) ⟨(Nat.le_of_ble_eq_true rfl), (Nat.le_of_ble_eq_true rfl)⟩ rfl rfl (Nat.le_of_ble_eq_true rfl) ?_
    refine mt_icmp_ne (pc := 11) (tgt := 30) dX11_readStep_11 (by decide) (fun c11 => ?_) (fun c11 => ?_)
    · skip
      refine mt_iload_n (pc := 30) dX11_readStep_30 rfl ?_
      refine mt_ldcSw (pc := 31) (j := 12) (tx := "lend") (by decide +kernel) dX11_readStep_31 ?_
      refine mt_cS (pc := 34) (n_of (d := 4) (j := 12) (Nat.le_refl 4) (by decide) (by decide) (by decide)) cal_X11_of sta_X11_of ml_X11_180 dX11_readStep_34 (by first | assumption | (show _ ≤ d; omega)) ⟨(Nat.le_of_ble_eq_true rfl), (Nat.le_of_ble_eq_true rfl)⟩ rfl rfl (Nat.le_of_ble_eq_true rfl) ?_
      refine mt_icmp_ne (pc := 37) (tgt := 96) dX11_readStep_37 (by decide) (fun c37 => ?_) (fun c37 => ?_)
      · skip
        refine mt_iload_n (pc := 96) dX11_readStep_96 rfl ?_
        refine mt_ldcSw (pc := 97) (j := 13) (tx := "pay") (by decide +kernel) dX11_readStep_97 ?_
        refine mt_cS (pc := 100) (n_of (d := 4) (j := 13) (Nat.le_refl 4) (by decide) (by decide) (by decide)) cal_X11_of sta_X11_of ml_X11_180 dX11_readStep_100 (by first | assumption | (show _ ≤ d; omega)) ⟨(Nat.le_of_ble_eq_true rfl), (Nat.le_of_ble_eq_true rfl)⟩ rfl rfl (Nat.le_of_ble_eq_true rfl) ?_
        refine mt_icmp_ne (pc := 103) (tgt := 128) dX11_readStep_103 (by decide) (fun c103 => ?_) (fun c103 => ?_)
        · skip
          refine mt_iload_n (pc := 128) dX11_readStep_128 rfl ?_
          refine mt_ldcSw (pc := 129) (j := 14) (tx := "earn") (by decide +kernel) dX11_readStep_129 ?_
          refine mt_cS (pc := 132) (n_of (d := 4) (j := 14) (Nat.le_refl 4) (by decide) (by decide) (by decide)) cal_X11_of sta_X11_of ml_X11_180 dX11_readStep_132 (by first | assumption | (show _ ≤ d; omega)) ⟨(Nat.le_of_ble_eq_true rfl), (Nat.le_of_ble_eq_true rfl)⟩ rfl rfl (Nat.le_of_ble_eq_true rfl) ?_
          refine mt_icmp_ne (pc := 135) (tgt := 172) dX11_readStep_135 (by decide) (fun c135 => ?_) (fun c135 => ?_)
          · skip
            refine mt_iload_n (pc := 172) dX11_readStep_172 rfl ?_
            refine mt_ldcSw (pc := 173) (j := 15) (tx := "seal") (by decide +kernel) dX11_readStep_173 ?_
            refine mt_cS (pc := 176) (n_of (d := 4) (j := 15) (Nat.le_refl 4) (by decide) (by decide) (by decide)) cal_X11_of sta_X11_of ml_X11_180 dX11_readStep_176 (by first | assumption | (show _ ≤ d; omega)) ⟨(Nat.le_of_ble_eq_true rfl), (Nat.le_of_ble_eq_true rfl)⟩ rfl rfl (Nat.le_of_ble_eq_true rfl) ?_
            refine mt_icmp_eq (pc := 179) (tgt := 192) dX11_readStep_179 (by decide) (fun c179 => ?_) (fun c179 => ?_)
            · exact absurd c179 (by decide +kernel)
            · skip
              refine mt_iload_n (pc := 182) dX11_readStep_182 rfl ?_
              refine mt_ldcSw (pc := 183) (j := 16) (tx := "open") (by decide +kernel) dX11_readStep_183 ?_
              refine mt_cS (pc := 186) (n_of (d := 4) (j := 16) (Nat.le_refl 4) (by decide) (by decide) (by decide)) cal_X11_of sta_X11_of ml_X11_180 dX11_readStep_186 (by first | assumption | (show _ ≤ d; omega)) ⟨(Nat.le_of_ble_eq_true rfl), (Nat.le_of_ble_eq_true rfl)⟩ rfl rfl (Nat.le_of_ble_eq_true rfl) ?_
              refine mt_icmp_ne (pc := 189) (tgt := 232) dX11_readStep_189 (by decide) (fun c189 => ?_) (fun c189 => ?_)
              · skip
                refine mt_iload_n (pc := 232) dX11_readStep_232 rfl ?_
                refine mt_ldcSw (pc := 233) (j := 17) (tx := "again") (by decide +kernel) dX11_readStep_233 ?_
                refine mt_cS (pc := 236) (n_of (d := 4) (j := 17) (Nat.le_refl 4) (by decide) (by decide) (by decide)) cal_X11_of sta_X11_of ml_X11_180 dX11_readStep_236 (by first | assumption | (show _ ≤ d; omega)) ⟨(Nat.le_of_ble_eq_true rfl), (Nat.le_of_ble_eq_true rfl)⟩ rfl rfl (Nat.le_of_ble_eq_true rfl) ?_
                refine mt_icmp_ne (pc := 239) (tgt := 337) dX11_readStep_239 (by decide) (fun c239 => ?_) (fun c239 => ?_)
                · exact absurd rfl c239
                · skip
                  refine mt_aload_n (pc := 242) dX11_readStep_242 rfl ?_
                  refine mt_iconst (pc := 243) (v := 5) dX11_readStep_243 (by decide) ?_
                  refine mt_aV (pc := 244) (n_opensW (d := 1) (n := 5) (Nat.le_refl 1) hx he ho h7 hLs (fun a ha => by cases ha; show sk b e p + 5 ≤ e; omega)) cal_X11_opensOne vir_X11_opensOne ml_X11_232 dX11_readStep_244 (by omega) (mos_o _ _ _) (by first | assumption | (show _ ≤ d; omega)) ⟨(Nat.le_of_ble_eq_true rfl), (Nat.le_of_ble_eq_true rfl)⟩ rfl rfl (Nat.le_of_ble_eq_true rfl) ?_ ?_
                  · rintro x9 n9 k9 h9
                    obtain ⟨⟨⟩, -⟩ := h9
                  · rintro v9 n9 k9 ⟨⟨⟩, rfl, g1, rfl, hW1⟩
                    refine ⟨rfl, ?_⟩
                    refine mt_aload_n (pc := 247) dX11_readStep_247 rfl ?_
                    refine mt_iconst (pc := 248) (v := 0) dX11_readStep_248 (by decide) ?_
                    refine mt_bipush (pc := 249) (v := 30) dX11_readStep_249 (by decide) ?_
                    refine mt_aV (pc := 251) (n_rnum (d := 1) (lw := 0) (hi := 30) (by decide) (by decide) (Nat.le_refl 1) hx (hW1.tp hT) hb (by omega) hW1.pst) cal_X11_readNumber vir_X11_readNumber ml_X11_186 dX11_readStep_251 (by omega) (mos_o _ _ _) (by first | assumption | (show _ ≤ d; omega)) ⟨(Nat.le_of_ble_eq_true rfl), (Nat.le_of_ble_eq_true rfl)⟩ rfl rfl (Nat.le_of_ble_eq_true rfl) ?_ ?_
                    · rintro x9 n9 k9 h9
                      obtain ⟨⟨⟩, -⟩ := h9
                    · rintro v9 n9 k9 ⟨⟨⟩, rfl, g2, rfl, hP2⟩
                      refine ⟨rfl, ?_⟩
                      have hW2 := hW1.num hb hP2
                      refine mt_istore_n (pc := 254) dX11_readStep_254 (Nat.le_of_ble_eq_true rfl) rfl ?_
                      refine mt_aload_n (pc := 255) dX11_readStep_255 rfl ?_
                      refine mt_bipush (pc := 256) (v := 91) dX11_readStep_256 (by decide) ?_
                      refine mt_aV (pc := 258) (n_sign (d := 1) (c := 91) (by decide) (by decide) (Nat.le_refl 1) hx (hW2.tp hT) hb (by omega) hW2.pst) cal_X11_sign vir_X11_sign ml_X11_213 dX11_readStep_258 (by omega) (mos_o _ _ _) (by first | assumption | (show _ ≤ d; omega)) ⟨(Nat.le_of_ble_eq_true rfl), (Nat.le_of_ble_eq_true rfl)⟩ rfl rfl (Nat.le_of_ble_eq_true rfl) ?_ ?_
                      · rintro x9 n9 k9 h9
                        obtain ⟨⟨⟩, -⟩ := h9
                      · rintro v9 n9 k9 ⟨⟨⟩, rfl, g3, rfl, hP3⟩
                        refine ⟨rfl, ?_⟩
                        have hW3 := hW2.sign (by decide) hP3
                        have T7 : TP (A0 190) b := hT
                        by_cases h9 : 6 ≤ o
                        · have e3 : apC b e (sbind (sbind (.inr (sk b e p, ss) : rsW) fun a => if 6 ≤ o then .inl (3, a.1) else .inr (a.1 + 5, a.2)) fun a => sbind (numS b e a.1 0 30) fun v => .inr (v.2, a.2)) 91 = .inl (3, sk b e p) := by
                            simp only [sbind, if_pos h9, apC]
                          rw [e3] at hW3
                          refine t_rdBad (by omega) hx hb he hT h7 hW3 (fun g' A' hW => fin _ g' A' ?_ hW)
                          rw [hst, if_pos h9]
                          rfl
                        · rw [if_neg h9] at hst
                          have e3 : apC b e (sbind (sbind (.inr (sk b e p, ss) : rsW) fun a => if 6 ≤ o then .inl (3, a.1) else .inr (a.1 + 5, a.2)) fun a => sbind (numS b e a.1 0 30) fun v => .inr (v.2, a.2)) 91 = sbind (numS b e (sk b e p + 5) 0 30) fun x => sbind (signS b e x.2 91) fun q => .inr (q, ss) := by
                            simp only [sbind, if_neg h9, apC]
                            cases numS b e (sk b e p + 5) 0 30 <;> rfl
                          rw [e3] at hW3
                          rw [hr5] at hst fin
                          have e8 : rvN (nmS b e (rpW (sbind (.inr (sk b e p, ss) : rsW) fun a => if 6 ≤ o then .inl (3, a.1) else .inr (a.1 + 5, a.2))) 0 30) = rvN (numS b e (sk b e p + 5) 0 30) := by
                            simp only [sbind, if_neg h9, rpW, nmS]
                          rw [e8]
                          rcases hn : numS b e (sk b e p + 5) 0 30 with y | ⟨x, r1⟩
                          · rw [hn] at hW3 hst
                            refine t_rdBad (by omega) hx hb he hT h7 hW3 (fun g' A' hW => fin _ g' A' ?_ hW)
                            rw [hst]
                            rfl
                          rw [hn] at hW3 hst
                          have hn1 := num_prog hb (by omega) hn
                          simp only [sbind] at hW3 hst
                          rcases hs : signS b e r1 91 with y | p3
                          · rw [hs] at hW3 hst
                            refine t_rdBad (by omega) hx hb he hT h7 hW3 (fun g' A' hW => fin _ g' A' ?_ hW)
                            rw [hst]
                            rfl
                          rw [hs] at hW3 hst
                          have hs1 := signS_le (b := b) (by decide) hn1.2 hs
                          simp only [sbind] at hst
                          obtain ⟨k5, k4, k6, k30, kM, -⟩ := hW3.2.2.2
                          dsimp only at k4 k6 k30 kM
                          have ho6 : o < 6 := by omega
                          have hTU' := hTU ho6
                          refine mt_aload_n (pc := 261) dX11_readStep_261 rfl ?_
                          refine mt_mgetI (pc := 262) (x := nI (5 * ss.length)) gf_X11_271 dX11_readStep_262 hx rfl k30 ?_
                          refine mt_istore_n (pc := 265) dX11_readStep_265 (Nat.le_of_ble_eq_true rfl) rfl ?_
                          refine mt_aload_n (pc := 266) dX11_readStep_266 rfl ?_
                          refine mt_bipush (pc := 267) (v := 6) dX11_readStep_267 (by decide) ?_
                          refine mt_iload_n (pc := 269) dX11_readStep_269 rfl ?_
                          refine mt_iconst (pc := 270) (v := 0) dX11_readStep_270 (by decide) ?_
                          refine mt_iconst (pc := 271) (v := 0) dX11_readStep_271 (by decide) ?_
                          refine mt_iconst (pc := 272) (v := 0) dX11_readStep_272 (by decide) ?_
                          refine mt_aV (pc := 273) (n_tells (d := 1) (t := (6, [x], 0)) (Nat.le_refl 1) hx he hW3 (by simp) (fun a ha => by cases ha; show 5 * ss.length + 5 ≤ p3 + 1; omega) rfl (hv1 _) (fun _ => rfl)) cal_X11_tellsStep vir_X11_tellsStep ml_X11_274 dX11_readStep_273 (by omega) (mos_o _ _ _) (by show _ ≤ d; omega) ⟨Nat.le_of_ble_eq_true rfl, Nat.le_of_ble_eq_true rfl⟩ rfl rfl (Nat.le_of_ble_eq_true rfl) ?_ ?_
                          · rintro x9 n9 k9 h9
                            simp at h9
                          · rintro v9 n9 k9 ⟨⟨⟩, rfl, g4, A4, rfl, hW4⟩
                            refine ⟨rfl, ?_⟩
                            have hl4 : (ss ++ [(6, [x], 0)] : List ST).length = ss.length + 1 := by simp
                            refine l_rd276 (g0 := upd g0 7 (nI (o + 1))) hD hx he (by omega) hsl hb (by omega) hT (hc ho6) hGU (upd_eq _ _ _) h19 h18 150 p3 (ss ++ [(6, [x], 0)]) g4 A4 (by omega) (by rw [hl4]; omega) hW4 (fun g5 A5 hW5 => ?_)
                            have e5 : apW (.inr (p3, ss ++ [(6, [x], 0)])) (lopS b e so sl U (o + 1) 150) = sbind (T (ss.length + 1) p3) fun z => .inr (z.1, ss ++ (6, [x], 0) :: z.2) := by
                              rw [hTU']
                              simp only [apW, sbind, hl4]
                              cases lopS b e so sl U (o + 1) 150 (ss.length + 1) p3 with
                              | inl y => rfl
                              | inr z => simp
                            rw [e5] at hW5
                            rcases hz : T (ss.length + 1) p3 with y | ⟨z, zs⟩
                            · rw [hz] at hW5 hst
                              refine t_rd299b (by omega) hx hb he hT h7 hW5 (fun g' A' hW => fin _ g' A' ?_ hW)
                              rw [hst]
                              rfl
                            · rw [hz] at hW5 hst
                              refine t_rd299 (by omega) hx hb he hT h7 hW5 (fun g' A' hW => fin _ g' A' ?_ hW)
                              rw [hst]
                              simp only [sbind]
                              cases signS b e z 93 <;> rfl
              · exact absurd c189 (by decide +kernel)
          · exact absurd c135 (by decide +kernel)
        · exact absurd c103 (by decide +kernel)
      · exact absurd c37 (by decide +kernel)
    · exact absurd c11 (by decide +kernel)
  · have hst : stepS b e so sl T o ss.length (sk b e p) (lt b e (sk b e p)) = .inl (1, sk b e p) := by
      unfold stepS
      rw [if_neg hw12, if_neg hw13, if_neg hw14, if_neg hw15, if_neg hw16, if_neg hw11, if_neg hw17]
    refine mt_aload_n (pc := 0) dX11_readStep_0 rfl ?_
    refine mt_cV (pc := 1) (n_word (d := 1) (Nat.le_refl 1) hx hTA hb h3 (by omega) h4 h6) cal_X11_word vir_X11_word ml_X11_201 dX11_readStep_1 (by omega) (mos_o _ _ _) (by first | assumption | (show _ ≤ d; omega)) ⟨(Nat.le_of_ble_eq_true rfl), (Nat.le_of_ble_eq_true rfl)⟩ rfl rfl (Nat.le_of_ble_eq_true rfl) ?_
    refine mt_istore_n (pc := 4) dX11_readStep_4 (Nat.le_of_ble_eq_true rfl) rfl ?_
    refine mt_iload_n (pc := 5) dX11_readStep_5 rfl ?_
    refine mt_ldcS (pc := 6) (j := 11) (tx := "night") (by decide +kernel) dX11_readStep_6 ?_
    refine mt_cS (pc := 8) (n_of (d := 4) (j := 11) (Nat.le_refl 4) (by decide) (by decide) (by decide)) cal_X11_of sta_X11_of ml_X11_180 dX11_readStep_8 (by first | assumption | (show _ ≤ d; omega)) ⟨(Nat.le_of_ble_eq_true rfl), (Nat.le_of_ble_eq_true rfl)⟩ rfl rfl (Nat.le_of_ble_eq_true rfl) ?_
    refine mt_icmp_ne (pc := 11) (tgt := 30) dX11_readStep_11 (by decide) (fun c11 => ?_) (fun c11 => ?_)
    · skip
      refine mt_iload_n (pc := 30) dX11_readStep_30 rfl ?_
      refine mt_ldcSw (pc := 31) (j := 12) (tx := "lend") (by decide +kernel) dX11_readStep_31 ?_
      refine mt_cS (pc := 34) (n_of (d := 4) (j := 12) (Nat.le_refl 4) (by decide) (by decide) (by decide)) cal_X11_of sta_X11_of ml_X11_180 dX11_readStep_34 (by first | assumption | (show _ ≤ d; omega)) ⟨(Nat.le_of_ble_eq_true rfl), (Nat.le_of_ble_eq_true rfl)⟩ rfl rfl (Nat.le_of_ble_eq_true rfl) ?_
      refine mt_icmp_ne (pc := 37) (tgt := 96) dX11_readStep_37 (by decide) (fun c37 => ?_) (fun c37 => ?_)
      · skip
        refine mt_iload_n (pc := 96) dX11_readStep_96 rfl ?_
        refine mt_ldcSw (pc := 97) (j := 13) (tx := "pay") (by decide +kernel) dX11_readStep_97 ?_
        refine mt_cS (pc := 100) (n_of (d := 4) (j := 13) (Nat.le_refl 4) (by decide) (by decide) (by decide)) cal_X11_of sta_X11_of ml_X11_180 dX11_readStep_100 (by first | assumption | (show _ ≤ d; omega)) ⟨(Nat.le_of_ble_eq_true rfl), (Nat.le_of_ble_eq_true rfl)⟩ rfl rfl (Nat.le_of_ble_eq_true rfl) ?_
        refine mt_icmp_ne (pc := 103) (tgt := 128) dX11_readStep_103 (by decide) (fun c103 => ?_) (fun c103 => ?_)
        · skip
          refine mt_iload_n (pc := 128) dX11_readStep_128 rfl ?_
          refine mt_ldcSw (pc := 129) (j := 14) (tx := "earn") (by decide +kernel) dX11_readStep_129 ?_
          refine mt_cS (pc := 132) (n_of (d := 4) (j := 14) (Nat.le_refl 4) (by decide) (by decide) (by decide)) cal_X11_of sta_X11_of ml_X11_180 dX11_readStep_132 (by first | assumption | (show _ ≤ d; omega)) ⟨(Nat.le_of_ble_eq_true rfl), (Nat.le_of_ble_eq_true rfl)⟩ rfl rfl (Nat.le_of_ble_eq_true rfl) ?_
          refine mt_icmp_ne (pc := 135) (tgt := 172) dX11_readStep_135 (by decide) (fun c135 => ?_) (fun c135 => ?_)
          · skip
            refine mt_iload_n (pc := 172) dX11_readStep_172 rfl ?_
            refine mt_ldcSw (pc := 173) (j := 15) (tx := "seal") (by decide +kernel) dX11_readStep_173 ?_
            refine mt_cS (pc := 176) (n_of (d := 4) (j := 15) (Nat.le_refl 4) (by decide) (by decide) (by decide)) cal_X11_of sta_X11_of ml_X11_180 dX11_readStep_176 (by first | assumption | (show _ ≤ d; omega)) ⟨(Nat.le_of_ble_eq_true rfl), (Nat.le_of_ble_eq_true rfl)⟩ rfl rfl (Nat.le_of_ble_eq_true rfl) ?_
            refine mt_icmp_eq (pc := 179) (tgt := 192) dX11_readStep_179 (by decide) (fun c179 => ?_) (fun c179 => ?_)
            · exact absurd ((wk_of hsk.2 (by decide) (by decide)).mp c179) hw15
            · skip
              refine mt_iload_n (pc := 182) dX11_readStep_182 rfl ?_
              refine mt_ldcSw (pc := 183) (j := 16) (tx := "open") (by decide +kernel) dX11_readStep_183 ?_
              refine mt_cS (pc := 186) (n_of (d := 4) (j := 16) (Nat.le_refl 4) (by decide) (by decide) (by decide)) cal_X11_of sta_X11_of ml_X11_180 dX11_readStep_186 (by first | assumption | (show _ ≤ d; omega)) ⟨(Nat.le_of_ble_eq_true rfl), (Nat.le_of_ble_eq_true rfl)⟩ rfl rfl (Nat.le_of_ble_eq_true rfl) ?_
              refine mt_icmp_ne (pc := 189) (tgt := 232) dX11_readStep_189 (by decide) (fun c189 => ?_) (fun c189 => ?_)
              · skip
                refine mt_iload_n (pc := 232) dX11_readStep_232 rfl ?_
                refine mt_ldcSw (pc := 233) (j := 17) (tx := "again") (by decide +kernel) dX11_readStep_233 ?_
                refine mt_cS (pc := 236) (n_of (d := 4) (j := 17) (Nat.le_refl 4) (by decide) (by decide) (by decide)) cal_X11_of sta_X11_of ml_X11_180 dX11_readStep_236 (by first | assumption | (show _ ≤ d; omega)) ⟨(Nat.le_of_ble_eq_true rfl), (Nat.le_of_ble_eq_true rfl)⟩ rfl rfl (Nat.le_of_ble_eq_true rfl) ?_
                refine mt_icmp_ne (pc := 239) (tgt := 337) dX11_readStep_239 (by decide) (fun c239 => ?_) (fun c239 => ?_)
                · skip
                  refine mt_aload_n (pc := 337) dX11_readStep_337 rfl ?_
                  refine mt_iconst (pc := 338) (v := 1) dX11_readStep_338 (by decide) ?_
                  refine mt_aload_n (pc := 339) dX11_readStep_339 rfl ?_
                  refine mt_mgetI (pc := 340) (x := nI (sk b e p)) gf_X11_111 dX11_readStep_340 hx rfl rfl ?_
                  refine mt_cV (pc := 343) (n_wrong (d := 0) hx h5) cal_X11_wrong vir_X11_wrong ml_X11_141 dX11_readStep_343 (by omega) (mos_o _ _ _) (by first | assumption | (show _ ≤ d; omega)) ⟨(Nat.le_of_ble_eq_true rfl), (Nat.le_of_ble_eq_true rfl)⟩ rfl rfl (Nat.le_of_ble_eq_true rfl) ?_
                  refine mt_fg (by repeat (first | exact trivial | refine ⟨rfl, ?_⟩ | rfl)) (t_rd346 (x := .inl (1, sk b e p)) (by omega) hx hb he hT ⟨fun j a1 a2 a3 a4 => ?_, hL.2.1, hL.2.2.1, rfl, rfl, by show sk b e p ≤ 600; omega⟩ (by rw [hst]; rfl))
                  rw [upd_ne a3, upd_ne a2, upd_ne a1]
                  exact hL.1 j a1 a2 a3 a4
                · exact absurd ((wk_of hsk.2 (by decide) (by decide)).mp c239) hw17
              · exact absurd ((wk_of hsk.2 (by decide) (by decide)).mp c189) hw16
          · exact absurd ((wk_of hsk.2 (by decide) (by decide)).mp c135) hw14
        · exact absurd ((wk_of hsk.2 (by decide) (by decide)).mp c103) hw13
      · exact absurd ((wk_of hsk.2 (by decide) (by decide)).mp c37) hw12
    · exact absurd ((wk_of hsk.2 (by decide) (by decide)).mp c11) hw11
theorem n_rdAt (he : e ≤ 150) (hso : so ≤ 6) (hsl : sl ≤ 8) (hb : BY b) : ∀ (j d : Nat), j ≤ 6 → 6 + j ≤ d → CRd G l b e so sl d (6 - j) (match j with | 0 => fun _ _ => .inl (0, 0) | j + 1 => wokS b e so sl j)
  | 0, d, _, hd => n_rd (D := 5) (U := fun _ _ => .inl (0, 0)) (by omega) (by omega) (by omega) he hso hsl hb (fun n p hp r cs h => by cases h) (fun n p hp r cs h => by cases h) (fun z => by omega) (fun z => by omega)
  | 1, d, hj, hd => n_rd (D := d - 1) (U := fun _ _ => .inl (0, 0)) (by omega) (by omega) (by omega) he hso hsl hb (wokS_le hb (by omega) hsl 0) (fun n p hp r cs h => by cases h) (fun _ => rfl) (fun _ => n_rdAt he hso hsl hb 0 (d - 1) (by omega) (by omega))
  | j + 2, d, hj, hd => n_rd (D := d - 1) (U := wokS b e so sl j) (by omega) (by omega) (by omega) he hso hsl hb (wokS_le hb (by omega) hsl (j + 1)) (wokS_le hb (by omega) hsl j) (fun _ => by
    show wokS b e so sl (j + 1) = _
    rw [show 6 - (j + 2) + 1 = 6 - (j + 1) by omega]
    rfl) (fun _ => by
    have := n_rdAt he hso hsl hb (j + 1) (d - 1) (by omega) (by omega)
    rw [show 6 - (j + 2) + 1 = 6 - (j + 1) by omega]
    exact this)
end MRE
