/-! The reference: book. -/
def MBK (so : Nat) (bk : BS) (L : Nat → Int32) : Prop := bk.1 ≤ 6 ∧ ∀ i, i < bk.1 → L (3 * i) = bk.2.1 i ∧ L (3 * i + 1) = bk.2.2.1 i ∧ L (3 * i + 2) = bk.2.2.2 i ∧ (∃ a, bk.2.1 i = nI a ∧ a < so) ∧ ∃ n, bk.2.2.2 i = nI n ∧ 1 ≤ n ∧ n ≤ 60
theorem MBK_push {so a y z : Nat} {bk : BS} {L : Nat → Int32} (h : MBK so bk L) (h6 : bk.1 < 6) (ha : a < so) (hz : 1 ≤ z) (hz2 : z ≤ 60) : MBK so (bk.1 + 1, upd bk.2.1 bk.1 (nI a), upd bk.2.2.1 bk.1 (nI y), upd bk.2.2.2 bk.1 (nI z)) (upd (upd (upd L (3 * bk.1) (nI a)) (3 * bk.1 + 1) (nI y)) (3 * bk.1 + 2) (nI z)) := by
  refine ⟨by dsimp only; omega, fun i hi => ?_⟩
  dsimp only at hi ⊢
  by_cases hq : i = bk.1
  · subst hq
    exact ⟨by rw [upd_ne (by omega), upd_ne (by omega), upd_eq, upd_eq], by rw [upd_ne (by omega), upd_eq, upd_eq], by rw [upd_eq, upd_eq], ⟨a, upd_eq _ _ _, ha⟩, z, upd_eq _ _ _, hz, hz2⟩
  · have := h.2 i (by omega)
    repeat rw [upd_ne (by omega)]
    exact this
def tlS (b : Nat → Int32) (e : Nat) (x : (Nat × Nat) ⊕ Nat) : (Nat × Nat) ⊕ Nat := sgS b e (rpN (nmS b e (rpN (nmS b e x 0 5)) 1 60)) 59
theorem tlS_inr {b : Nat → Int32} {e r p : Nat} (hr : r ≤ e) (h : tlS b e (.inr r) = .inr p) : ∃ y r2 z r3, numS b e r 0 5 = .inr (y, r2) ∧ numS b e r2 1 60 = .inr (z, r3) ∧ signS b e r3 59 = .inr p ∧ 1 ≤ z ∧ z ≤ 60 := by
  unfold tlS at h
  rw [show nmS b e (.inr r) 0 5 = numS b e r 0 5 from rfl] at h
  rcases hY : numS b e r 0 5 with w | ⟨y, r2⟩
  · rw [hY] at h; cases h
  · rw [hY, show nmS b e (rpN (.inr (y, r2))) 1 60 = numS b e r2 1 60 from rfl] at h
    rcases hZ : numS b e r2 1 60 with w | ⟨z, r3⟩
    · rw [hZ] at h; cases h
    · rw [hZ] at h
      have h1 := numS_le (numS_le hr hY).1 hZ
      rw [show (1 : Int32).toInt = 1 from rfl, show (60 : Int32).toInt = 60 from rfl] at h1
      exact ⟨y, r2, z, r3, rfl, hZ, h, by omega, by omega⟩
theorem tlS_line {b : Nat → Int32} {e so p a r : Nat} {m : Nat} {k : BS} (hX : numS b e p 0 (nI so - 1) = .inr (a, r)) (h6 : k.1 < 6) (h0 : ¬ sk b e p = e) : (∀ y, tlS b e (.inr r) = .inl y → bokS b e (nI so) (m + 1) p k = .inl y) ∧ ∀ q y r2 z r3, tlS b e (.inr r) = .inr q → numS b e r 0 5 = .inr (y, r2) → numS b e r2 1 60 = .inr (z, r3) → bokS b e (nI so) (m + 1) p k = bokS b e (nI so) m q (k.1 + 1, upd k.2.1 k.1 (nI a), upd k.2.2.1 k.1 (nI y), upd k.2.2.2 k.1 (nI z)) := by
  simp only [bokS]
  rw [if_neg h0]
  simp only [lineS, hX, sbind]
  rw [if_neg (by omega)]
  unfold tlS
  rw [show nmS b e (.inr r) 0 5 = numS b e r 0 5 from rfl]
  rcases hY : numS b e r 0 5 with w | ⟨y, r2⟩
  · exact ⟨fun y hy => by cases hy; rfl, fun q y r2 z r3 hq => by cases hq⟩
  · rw [show nmS b e (rpN (.inr (y, r2))) 1 60 = numS b e r2 1 60 from rfl]
    simp only [sbind]
    rcases hZ : numS b e r2 1 60 with w | ⟨z, r3⟩
    · exact ⟨fun y hy => by cases hy; rfl, fun q y r2 z r3 hq => by cases hq⟩
    · simp only [sgS, sbind, rpN, signS]
      by_cases h9 : pk b e r3 = 59
      · rw [if_pos h9, if_pos h9]
        exact ⟨fun y hy => (by cases hy), fun q y' r2' z' r3' hq h1 h2 => by cases hq; cases h1; rw [hZ] at h2; cases h2; rfl⟩
      · rw [if_neg h9, if_neg h9]
        exact ⟨fun y hy => by cases hy; rfl, fun q y r2 z r3 hq => by cases hq⟩
def P_mbok (so : Nat) (z : (Nat × Nat) ⊕ BS) (nx : Nat) (h : Nat → mm_E) (g : MG) (A : MA) : mm_P := fun o n m => n = nx ∧ ∃ g' A', m = mos h g' A' ∧ g' 0 = 0 ∧ g' 2 = 0 ∧ match z with
  | .inl y => o = .inl (some (.int (nI y.1 - 10))) ∧ g' 8 = nI y.2 ∧ KPg g g' ∧ KPa A A'
  | .inr bk => o = .inl (some (.int (nI bk.1))) ∧ g' 8 = -1 ∧ KPg (upd g 41 (nI bk.1)) g' ∧ MBK so bk (A' 209) ∧ KPa (updR A 209 (A' 209)) A'
def RBK (so : Nat) (z : (Nat × Nat) ⊕ BS) (g' : MG) (c : Int32) (L : Nat → Int32) : Prop := match z with
  | .inl y => g' 5 = nI y.2 ∧ g' 6 = nI y.1 ∧ y.2 ≤ 600
  | .inr k' => g' 5 = -1 ∧ c = nI k'.1 ∧ MBK so k' L
section MBO
variable {G : mm_G} {l : Launch} {d nx : Nat} {h : Nat → mm_E} {g : MG} {A : MA} {b : Nat → Int32} {Po : mm_P}
theorem t_bk102 {e : Nat} {n c pl va : Int32} {g0 : MG} {x : (Nat × Nat) ⊕ Nat} (hd : 3 ≤ d) (hx : 215 ≤ nx) (hT : TP (A 190) b) (hb : BY b) (he : e ≤ 600) (hP : PST e g0 g x) (k1 : ∀ y g', tlS b e x = .inl y → PST e g0 g' (.inl y) → mm_T (G, l, yX11_book, 7, some .int, d, 0, 0, Po, nx) RX11 cX11_book nx (mos h g' A) 0 0 175 [some (.ref 188), some (.int n), some (.int c), none, none, none, none] []) (k2 : ∀ p g', tlS b e x = .inr p → PST e g0 g' (.inr p) → mm_T (G, l, yX11_book, 7, some .int, d, 0, 0, Po, nx) RX11 cX11_book nx (mos h g' A) 0 0 135 [some (.ref 188), some (.int n), some (.int c), none, some (.int va), some (.int (rvN (nmS b e x 0 5))), some (.int (rvN (nmS b e (rpN (nmS b e x 0 5)) 1 60)))] []) : mm_T (G, l, yX11_book, 7, some .int, d, 0, 0, Po, nx) RX11 cX11_book nx (mos h g A) 0 0 102 [some (.ref 188), some (.int n), some (.int c), some (.int pl), some (.int va), none, none] [] := by
  refine mt_aload_n (pc := 102) dX11_book_102 rfl ?_
  refine mt_iconst (pc := 103) (v := 0) dX11_book_103 (by decide) ?_
  refine mt_iconst (pc := 104) (v := 5) dX11_book_104 (by decide) ?_
  refine mt_aV (pc := 105) (n_rnum (d := 1) (by decide) (by decide) (Nat.le_refl 1) hx hT hb he hP) cal_X11_readNumber vir_X11_readNumber ml_X11_186 dX11_book_105 (by omega) (mos_o _ _ _) (by first | assumption | (show _ ≤ d; omega)) ⟨(Nat.le_of_ble_eq_true rfl), (Nat.le_of_ble_eq_true rfl)⟩ rfl rfl (Nat.le_of_ble_eq_true rfl) ?_ ?_
  · rintro x9 n9 k9 h9
    simp at h9
  · rintro v9 n9 k9 ⟨⟨⟩, rfl, g1, rfl, hP1⟩
    refine ⟨rfl, ?_⟩
    refine mt_istore (pc := 108) dX11_book_108 (Nat.le_of_ble_eq_true rfl) rfl ?_
    refine mt_aload_n (pc := 110) dX11_book_110 rfl ?_
    refine mt_iconst (pc := 111) (v := 1) dX11_book_111 (by decide) ?_
    refine mt_bipush (pc := 112) (v := 60) dX11_book_112 (by decide) ?_
    refine mt_aV (pc := 114) (n_rnum (d := 1) (by decide) (by decide) (Nat.le_refl 1) hx hT hb he hP1) cal_X11_readNumber vir_X11_readNumber ml_X11_186 dX11_book_114 (by omega) (mos_o _ _ _) (by first | assumption | (show _ ≤ d; omega)) ⟨(Nat.le_of_ble_eq_true rfl), (Nat.le_of_ble_eq_true rfl)⟩ rfl rfl (Nat.le_of_ble_eq_true rfl) ?_ ?_
    · rintro x9 n9 k9 h9
      simp at h9
    · rintro v9 n9 k9 ⟨⟨⟩, rfl, g2, rfl, hP2⟩
      refine ⟨rfl, ?_⟩
      refine mt_istore (pc := 117) dX11_book_117 (Nat.le_of_ble_eq_true rfl) rfl ?_
      refine mt_aload_n (pc := 119) dX11_book_119 rfl ?_
      refine mt_bipush (pc := 120) (v := 59) dX11_book_120 (by decide) ?_
      refine mt_aV (pc := 122) (n_sign (d := 1) (by decide) (by decide) (Nat.le_refl 1) hx hT hb he hP2) cal_X11_sign vir_X11_sign ml_X11_213 dX11_book_122 (by omega) (mos_o _ _ _) (by first | assumption | (show _ ≤ d; omega)) ⟨(Nat.le_of_ble_eq_true rfl), (Nat.le_of_ble_eq_true rfl)⟩ rfl rfl (Nat.le_of_ble_eq_true rfl) ?_ ?_
      · rintro x9 n9 k9 h9
        simp at h9
      · rintro v9 n9 k9 ⟨⟨⟩, rfl, g3, rfl, hP3⟩
        refine ⟨rfl, ?_⟩
        rcases hX : tlS b e x with y | p
        · have hP4 : PST e g0 g3 (.inl y) := by rw [← hX]; exact hP3
          have h5 : ¬ g3 5 = -1 := by rw [hP4.2.2.1]; exact nI_m1 (hi := 1000) (by have := hP4.2.2.2.2; show ((y.2 : Nat) : Int) ≤ 1000; omega)
          refine mt_aload_n (pc := 125) dX11_book_125 rfl ?_
          refine mt_cV (pc := 126) (n_fineN (d := 0) hx h5) cal_X11_fine vir_X11_fine ml_X11_134 dX11_book_126 (by omega) (mos_o _ _ _) (by show _ ≤ d; omega) ⟨Nat.zero_le _, Nat.zero_le _⟩ rfl rfl (Nat.le_of_ble_eq_true rfl) ?_
          refine mt_if_ne (pc := 129) (tgt := 135) dX11_book_129 (by decide) (fun c129 => absurd rfl c129) (fun c129 => ?_)
          refine mt_goto (pc := 132) (tgt := 175) dX11_book_132 (by decide) ?_
          exact mt_fg (by repeat (first | exact trivial | refine ⟨rfl, ?_⟩ | rfl)) (k1 y g3 hX hP4)
        · have hP4 : PST e g0 g3 (.inr p) := by rw [← hX]; exact hP3
          refine mt_aload_n (pc := 125) dX11_book_125 rfl ?_
          refine mt_cV (pc := 126) (n_fineY (d := 0) hx hP4.2.2.1) cal_X11_fine vir_X11_fine ml_X11_134 dX11_book_126 (by omega) (mos_o _ _ _) (by show _ ≤ d; omega) ⟨Nat.zero_le _, Nat.zero_le _⟩ rfl rfl (Nat.le_of_ble_eq_true rfl) ?_
          refine mt_if_ne (pc := 129) (tgt := 135) dX11_book_129 (by decide) (fun c129 => ?_) (fun c129 => absurd c129 (by decide))
          exact mt_fg (by repeat (first | exact trivial | refine ⟨rfl, ?_⟩ | rfl)) (k2 p g3 hX hP4)
theorem tlS_bad {e : Nat} {y : Nat × Nat} : tlS b e (.inl y) = .inl y := rfl
theorem l_book {e so : Nat} {n : Int32} (hd : 4 ≤ d) (hx : 215 ≤ nx) (hb : BY b) (he : e ≤ 600) (hso : so ≤ 6) : ∀ (m p : Nat) (k : BS) (g0 g : MG) (A : MA), k.1 + m = 6 → TP (A 190) b → PST e g0 g (.inr p) → g0 19 = nI so → MBK so k (A 208) → (∀ (g' : MG) (L : Nat → Int32) (c : Int32), (∀ j, j ≠ 4 → j ≠ 5 → j ≠ 6 → g' j = g0 j) → RBK so (bokS b e (nI so) (m + 1) p k) g' c L → mm_T (G, l, yX11_book, 7, some .int, d, 0, 0, Po, nx) RX11 cX11_book nx (mos h g' (updR A 208 L)) 0 0 175 [some (.ref 188), some (.int n), some (.int c), none, none, none, none] []) → mm_T (G, l, yX11_book, 7, some .int, d, 0, 0, Po, nx) RX11 cX11_book nx (mos h g A) 0 0 46 [some (.ref 188), some (.int n), some (.int (nI k.1)), none, none, none, none] [] := by
  intro m
  induction m with
  | zero =>
    intro p k g0 g A hc hT hP h19 hM kk
    have hA0 : updR A 208 (A 208) = A := updR_self rfl
    obtain ⟨h5, h4, hp⟩ := hP.2.2
    have h3 := hP.e
    have hq := sk_le (b := b) hp
    have t19 : g 19 = nI so := (hP.1 19 (by decide) (by decide) (by decide)).trans h19
    have u1 := sub1_hi (n := so) (by omega)
    refine mt_aload_n (pc := 46) dX11_book_46 rfl ?_
    refine mt_cV (pc := 47) (n_fineY (d := 0) hx h5) cal_X11_fine vir_X11_fine ml_X11_134 dX11_book_47 (by omega) (mos_o _ _ _) (by first | assumption | (show _ ≤ d; omega)) ⟨(Nat.le_of_ble_eq_true rfl), (Nat.le_of_ble_eq_true rfl)⟩ rfl rfl (Nat.le_of_ble_eq_true rfl) ?_
    refine mt_if_eq (pc := 50) (tgt := 175) dX11_book_50 (by decide) (fun c50 => ?_) (fun c50 => ?_)
    · exact absurd c50 (by decide)
    · skip
      refine mt_aload_n (pc := 53) dX11_book_53 rfl ?_
      refine mt_cV (pc := 54) (n_isMore (d := 1) (Nat.le_refl 1) hx hT hb h3 he h4 hp) cal_X11_isMore vir_X11_isMore ml_X11_198 dX11_book_54 (by omega) (mos_o _ _ _) (by first | assumption | (show _ ≤ d; omega)) ⟨(Nat.le_of_ble_eq_true rfl), (Nat.le_of_ble_eq_true rfl)⟩ rfl rfl (Nat.le_of_ble_eq_true rfl) ?_
      refine mt_if_eq (pc := 57) (tgt := 175) dX11_book_57 (by decide) (fun c57 => ?_) (fun c57 => ?_)
      · exact (by
        have hz : ¬ sk b e p < e := fun z => by rw [if_pos z] at c57; exact absurd c57 (by decide)
        have hi : bokS b e (nI so) (0 + 1) p k = .inr k := by simp only [bokS]; exact if_pos (by omega)
        have := kk (upd g 4 (nI (sk b e p))) (A 208) (nI k.1) (fun j a1 a2 a3 => (upd_ne a1).trans (hP.1 j a1 a2 a3)) (by rw [hi]; exact ⟨h5, rfl, hM⟩)
        rw [hA0] at this
        exact this)
      · skip
        have hne : ¬ sk b e p = e := fun z => by rw [if_neg (by omega)] at c57; exact c57 rfl
        refine mt_aload_n (pc := 60) dX11_book_60 rfl ?_
        refine mt_cV (pc := 61) (n_here (d := 0) (p := sk b e p) hx hT hb h3 he (upd_eq _ _ _) hq.2) cal_X11_here vir_X11_here ml_X11_117 dX11_book_61 (by omega) (mos_o _ _ _) (by first | assumption | (show _ ≤ d; omega)) ⟨(Nat.le_of_ble_eq_true rfl), (Nat.le_of_ble_eq_true rfl)⟩ rfl rfl (Nat.le_of_ble_eq_true rfl) ?_
        rw [sk_sk hp, upd_upd]
        refine mt_pop (pc := 64) dX11_book_64 rfl ?_
        refine mt_aload_n (pc := 65) dX11_book_65 rfl ?_
        refine mt_mgetI (pc := 66) (x := nI (sk b e p)) gf_X11_111 dX11_book_66 hx rfl rfl ?_
        refine mt_istore_n (pc := 69) dX11_book_69 (Nat.le_of_ble_eq_true rfl) rfl ?_
        refine mt_aload_n (pc := 70) dX11_book_70 rfl ?_
        refine mt_iconst (pc := 71) (v := 0) dX11_book_71 (by decide) ?_
        refine mt_aload_n (pc := 72) dX11_book_72 rfl ?_
        refine mt_mgetI (pc := 73) (x := nI so) gf_X11_157 dX11_book_73 hx rfl t19 ?_
        refine mt_iconst (pc := 76) (v := 1) dX11_book_76 (by decide) ?_
        refine mt_isub (pc := 77) dX11_book_77 ?_
        refine mt_aV (pc := 78) (n_rnum (d := 1) (by decide) u1.1 (Nat.le_refl 1) hx hT hb he (hP.at hq.2)) cal_X11_readNumber vir_X11_readNumber ml_X11_186 dX11_book_78 (by omega) (mos_o _ _ _) (by first | assumption | (show _ ≤ d; omega)) ⟨(Nat.le_of_ble_eq_true rfl), (Nat.le_of_ble_eq_true rfl)⟩ rfl rfl (Nat.le_of_ble_eq_true rfl) ?_ ?_
        · rintro x9 n9 k9 h9
          simp at h9
        · rintro v9 n9 k9 ⟨⟨⟩, rfl, g1, rfl, hP1⟩
          refine ⟨rfl, ?_⟩
          have eN : nmS b e (.inr (sk b e p)) 0 (nI so - 1) = numS b e p 0 (nI so - 1) := numS_sk hp
          rw [eN] at hP1 ⊢
          refine mt_istore (pc := 81) dX11_book_81 (Nat.le_of_ble_eq_true rfl) rfl ?_
          rcases hX : numS b e p 0 (nI so - 1) with y | ⟨a, r⟩
          · rw [hX] at hP1
            have hf5 : ¬ g1 5 = -1 := by rw [hP1.2.2.1]; exact nI_m1 (hi := 1000) (by have := hP1.2.2.2.2; show ((y.2 : Nat) : Int) ≤ 1000; omega)
            have hi : bokS b e (nI so) (0 + 1) p k = .inl y := by simp only [bokS, lineS, hX, sbind]; rw [if_neg hne]
            refine mt_aload_n (pc := 83) dX11_book_83 rfl ?_
            refine mt_cV (pc := 84) (n_fineN (d := 0) hx hf5) cal_X11_fine vir_X11_fine ml_X11_134 dX11_book_84 (by omega) (mos_o _ _ _) (by show _ ≤ d; omega) ⟨Nat.zero_le _, Nat.zero_le _⟩ rfl rfl (Nat.le_of_ble_eq_true rfl) ?_
            refine mt_if_eq (pc := 87) (tgt := 102) dX11_book_87 (by decide) (fun c87 => ?_) (fun c87 => absurd rfl c87)
            refine t_bk102 (g0 := g0) (by omega) hx hT hb he hP1 (fun y' g' hy hP' => ?_) (fun p' g' hy => by cases hy)
            cases hy
            have := kk g' (A 208) (nI k.1) hP'.1 (by rw [hi]; exact hP'.2.2)
            rw [hA0] at this
            exact this
          · rw [hX] at hP1
            have hi : bokS b e (nI so) (0 + 1) p k = .inl (3, sk b e p) := by simp only [bokS, lineS, hX, sbind]; rw [if_neg hne, if_pos (by omega)]
            refine mt_aload_n (pc := 83) dX11_book_83 rfl ?_
            refine mt_cV (pc := 84) (n_fineY (d := 0) hx hP1.2.2.1) cal_X11_fine vir_X11_fine ml_X11_134 dX11_book_84 (by omega) (mos_o _ _ _) (by show _ ≤ d; omega) ⟨Nat.zero_le _, Nat.zero_le _⟩ rfl rfl (Nat.le_of_ble_eq_true rfl) ?_
            refine mt_if_eq (pc := 87) (tgt := 102) dX11_book_87 (by decide) (fun c87 => absurd c87 (by decide)) (fun c87 => ?_)
            refine mt_iload_n (pc := 90) dX11_book_90 rfl ?_
            refine mt_bipush (pc := 91) (v := 6) dX11_book_91 (by decide) ?_
            refine mt_icmp_ne (pc := 93) (tgt := 102) dX11_book_93 (by decide) (fun c93 => absurd (show nI k.1 = 6 by rw [show k.1 = 6 by omega]; rfl) c93) (fun c93 => ?_)
            refine mt_aload_n (pc := 96) dX11_book_96 rfl ?_
            refine mt_iconst (pc := 97) (v := 3) dX11_book_97 (by decide) ?_
            refine mt_iload_n (pc := 98) dX11_book_98 rfl ?_
            refine mt_cV (pc := 99) (n_wrong (d := 0) hx hP1.2.2.1) cal_X11_wrong vir_X11_wrong ml_X11_141 dX11_book_99 (by omega) (mos_o _ _ _) (by show _ ≤ d; omega) ⟨Nat.zero_le _, Nat.zero_le _⟩ rfl rfl (Nat.le_of_ble_eq_true rfl) ?_
            have hP2 : PST e g0 (upd (upd g1 5 (nI (sk b e p))) 6 3) (.inl (3, sk b e p)) := ⟨fun j a1 a2 a3 => by rw [upd_ne a3, upd_ne a2]; exact hP1.1 j a1 a2 a3, hP1.2.1, rfl, rfl, by show sk b e p ≤ 600; omega⟩
            refine t_bk102 (g0 := g0) (by omega) hx hT hb he hP2 (fun y' g' hy hP' => ?_) (fun p' g' hy => by cases hy)
            cases hy
            have := kk g' (A 208) (nI k.1) hP'.1 (by rw [hi]; exact hP'.2.2)
            rw [hA0] at this
            exact this
  | succ m ih =>
    intro p k g0 g A hc hT hP h19 hM kk
    have hA0 : updR A 208 (A 208) = A := updR_self rfl
    obtain ⟨h5, h4, hp⟩ := hP.2.2
    have h3 := hP.e
    have hq := sk_le (b := b) hp
    have t19 : g 19 = nI so := (hP.1 19 (by decide) (by decide) (by decide)).trans h19
    have u1 := sub1_hi (n := so) (by omega)
    refine mt_aload_n (pc := 46) dX11_book_46 rfl ?_
    refine mt_cV (pc := 47) (n_fineY (d := 0) hx h5) cal_X11_fine vir_X11_fine ml_X11_134 dX11_book_47 (by omega) (mos_o _ _ _) (by first | assumption | (show _ ≤ d; omega)) ⟨(Nat.le_of_ble_eq_true rfl), (Nat.le_of_ble_eq_true rfl)⟩ rfl rfl (Nat.le_of_ble_eq_true rfl) ?_
    refine mt_if_eq (pc := 50) (tgt := 175) dX11_book_50 (by decide) (fun c50 => ?_) (fun c50 => ?_)
    · exact absurd c50 (by decide)
    · skip
      refine mt_aload_n (pc := 53) dX11_book_53 rfl ?_
      refine mt_cV (pc := 54) (n_isMore (d := 1) (Nat.le_refl 1) hx hT hb h3 he h4 hp) cal_X11_isMore vir_X11_isMore ml_X11_198 dX11_book_54 (by omega) (mos_o _ _ _) (by first | assumption | (show _ ≤ d; omega)) ⟨(Nat.le_of_ble_eq_true rfl), (Nat.le_of_ble_eq_true rfl)⟩ rfl rfl (Nat.le_of_ble_eq_true rfl) ?_
      refine mt_if_eq (pc := 57) (tgt := 175) dX11_book_57 (by decide) (fun c57 => ?_) (fun c57 => ?_)
      · exact (by
        have hz : ¬ sk b e p < e := fun z => by rw [if_pos z] at c57; exact absurd c57 (by decide)
        have hi : bokS b e (nI so) (m + 1 + 1) p k = .inr k := by simp only [bokS]; exact if_pos (by omega)
        have := kk (upd g 4 (nI (sk b e p))) (A 208) (nI k.1) (fun j a1 a2 a3 => (upd_ne a1).trans (hP.1 j a1 a2 a3)) (by rw [hi]; exact ⟨h5, rfl, hM⟩)
        rw [hA0] at this
        exact this)
      · skip
        have hne : ¬ sk b e p = e := fun z => by rw [if_neg (by omega)] at c57; exact c57 rfl
        refine mt_aload_n (pc := 60) dX11_book_60 rfl ?_
        refine mt_cV (pc := 61) (n_here (d := 0) (p := sk b e p) hx hT hb h3 he (upd_eq _ _ _) hq.2) cal_X11_here vir_X11_here ml_X11_117 dX11_book_61 (by omega) (mos_o _ _ _) (by first | assumption | (show _ ≤ d; omega)) ⟨(Nat.le_of_ble_eq_true rfl), (Nat.le_of_ble_eq_true rfl)⟩ rfl rfl (Nat.le_of_ble_eq_true rfl) ?_
        rw [sk_sk hp, upd_upd]
        refine mt_pop (pc := 64) dX11_book_64 rfl ?_
        refine mt_aload_n (pc := 65) dX11_book_65 rfl ?_
        refine mt_mgetI (pc := 66) (x := nI (sk b e p)) gf_X11_111 dX11_book_66 hx rfl rfl ?_
        refine mt_istore_n (pc := 69) dX11_book_69 (Nat.le_of_ble_eq_true rfl) rfl ?_
        refine mt_aload_n (pc := 70) dX11_book_70 rfl ?_
        refine mt_iconst (pc := 71) (v := 0) dX11_book_71 (by decide) ?_
        refine mt_aload_n (pc := 72) dX11_book_72 rfl ?_
        refine mt_mgetI (pc := 73) (x := nI so) gf_X11_157 dX11_book_73 hx rfl t19 ?_
        refine mt_iconst (pc := 76) (v := 1) dX11_book_76 (by decide) ?_
        refine mt_isub (pc := 77) dX11_book_77 ?_
        refine mt_aV (pc := 78) (n_rnum (d := 1) (by decide) u1.1 (Nat.le_refl 1) hx hT hb he (hP.at hq.2)) cal_X11_readNumber vir_X11_readNumber ml_X11_186 dX11_book_78 (by omega) (mos_o _ _ _) (by first | assumption | (show _ ≤ d; omega)) ⟨(Nat.le_of_ble_eq_true rfl), (Nat.le_of_ble_eq_true rfl)⟩ rfl rfl (Nat.le_of_ble_eq_true rfl) ?_ ?_
        · rintro x9 n9 k9 h9
          simp at h9
        · rintro v9 n9 k9 ⟨⟨⟩, rfl, g1, rfl, hP1⟩
          refine ⟨rfl, ?_⟩
          have eN : nmS b e (.inr (sk b e p)) 0 (nI so - 1) = numS b e p 0 (nI so - 1) := numS_sk hp
          rw [eN] at hP1 ⊢
          refine mt_istore (pc := 81) dX11_book_81 (Nat.le_of_ble_eq_true rfl) rfl ?_
          rcases hX : numS b e p 0 (nI so - 1) with y | ⟨a, r⟩
          · rw [hX] at hP1
            have hf5 : ¬ g1 5 = -1 := by rw [hP1.2.2.1]; exact nI_m1 (hi := 1000) (by have := hP1.2.2.2.2; show ((y.2 : Nat) : Int) ≤ 1000; omega)
            have hi : bokS b e (nI so) (m + 1 + 1) p k = .inl y := by simp only [bokS, lineS, hX, sbind]; rw [if_neg hne]
            refine mt_aload_n (pc := 83) dX11_book_83 rfl ?_
            refine mt_cV (pc := 84) (n_fineN (d := 0) hx hf5) cal_X11_fine vir_X11_fine ml_X11_134 dX11_book_84 (by omega) (mos_o _ _ _) (by show _ ≤ d; omega) ⟨Nat.zero_le _, Nat.zero_le _⟩ rfl rfl (Nat.le_of_ble_eq_true rfl) ?_
            refine mt_if_eq (pc := 87) (tgt := 102) dX11_book_87 (by decide) (fun c87 => ?_) (fun c87 => absurd rfl c87)
            refine t_bk102 (g0 := g0) (by omega) hx hT hb he hP1 (fun y' g' hy hP' => ?_) (fun p' g' hy => by cases hy)
            cases hy
            have := kk g' (A 208) (nI k.1) hP'.1 (by rw [hi]; exact hP'.2.2)
            rw [hA0] at this
            exact this
          · rw [hX] at hP1
            have hr := (numS_le hp hX).1
            have ha := (numS_le hp hX).2.2
            rw [u1.2] at ha
            have hk6 : k.1 < 6 := by omega
            obtain ⟨tl1, tl2⟩ := tlS_line (m := m + 1) hX hk6 hne
            refine mt_aload_n (pc := 83) dX11_book_83 rfl ?_
            refine mt_cV (pc := 84) (n_fineY (d := 0) hx hP1.2.2.1) cal_X11_fine vir_X11_fine ml_X11_134 dX11_book_84 (by omega) (mos_o _ _ _) (by show _ ≤ d; omega) ⟨Nat.zero_le _, Nat.zero_le _⟩ rfl rfl (Nat.le_of_ble_eq_true rfl) ?_
            refine mt_if_eq (pc := 87) (tgt := 102) dX11_book_87 (by decide) (fun c87 => absurd c87 (by decide)) (fun c87 => ?_)
            refine mt_iload_n (pc := 90) dX11_book_90 rfl ?_
            refine mt_bipush (pc := 91) (v := 6) dX11_book_91 (by decide) ?_
            refine mt_icmp_ne (pc := 93) (tgt := 102) dX11_book_93 (by decide) (fun c93 => ?_) (fun c93 => absurd c93 (nI_ne (b := 6) hk6 (by decide)))
            refine t_bk102 (g0 := g0) (by omega) hx hT hb he hP1 (fun y' g' hy hP' => ?_) (fun p' g' hy hP' => ?_)
            · have := kk g' (A 208) (nI k.1) hP'.1 (by rw [tl1 y' hy]; exact hP'.2.2)
              rw [hA0] at this
              exact this
            · obtain ⟨y, r2, z, r3, z1, z2, z3, z4, z5⟩ := tlS_inr hr hy
              have e1 : rvN (nmS b e (rpN (.inr (a, r))) 0 5) = nI y := by rw [show nmS b e (rpN (.inr (a, r))) 0 5 = numS b e r 0 5 from rfl, z1]; rfl
              have e2 : rvN (nmS b e (rpN (nmS b e (rpN (.inr (a, r))) 0 5)) 1 60) = nI z := by rw [show nmS b e (rpN (.inr (a, r))) 0 5 = numS b e r 0 5 from rfl, z1, show nmS b e (rpN (.inr (y, r2))) 1 60 = numS b e r2 1 60 from rfl, z2]; rfl
              rw [e1, e2]
              have hMn := MBK_push (a := a) (y := y) (z := z) hM hk6 (by omega) z4 z5
              have eB := tl2 p' y r2 z r3 hy z1 z2
              refine mt_aload_n (pc := 135) dX11_book_135 rfl ?_
              refine mt_mget (pc := 136) gf_X11_74 dX11_book_136 hx rfl ?_
              refine mt_iconst (pc := 139) (v := 3) dX11_book_139 (by decide) ?_
              refine mt_iload_n (pc := 140) dX11_book_140 rfl ?_
              refine mt_imulN (pc := 141) (a := 3) (b := k.1) dX11_book_141 rfl rfl ?_
              refine mt_iload (pc := 142) dX11_book_142 rfl ?_
              refine mt_mast (pc := 144) (i := 208) (j := 3 * k.1) dX11_book_144 hx rfl rfl (by show _ < 18; omega) ?_
              refine mt_aload_n (pc := 145) dX11_book_145 rfl ?_
              refine mt_mget (pc := 146) gf_X11_74 dX11_book_146 hx rfl ?_
              refine mt_iconst (pc := 149) (v := 3) dX11_book_149 (by decide) ?_
              refine mt_iload_n (pc := 150) dX11_book_150 rfl ?_
              refine mt_imulN (pc := 151) (a := 3) (b := k.1) dX11_book_151 rfl rfl ?_
              refine mt_iconst (pc := 152) (v := 1) dX11_book_152 (by decide) ?_
              refine mt_iaddN (pc := 153) (a := 3 * k.1) (b := 1) dX11_book_153 rfl rfl ?_
              refine mt_iload (pc := 154) dX11_book_154 rfl ?_
              refine mt_mast (pc := 156) (i := 208) (j := 3 * k.1 + 1) dX11_book_156 hx rfl rfl (by show _ < 18; omega) ?_
              refine mt_aload_n (pc := 157) dX11_book_157 rfl ?_
              refine mt_mget (pc := 158) gf_X11_74 dX11_book_158 hx rfl ?_
              refine mt_iconst (pc := 161) (v := 3) dX11_book_161 (by decide) ?_
              refine mt_iload_n (pc := 162) dX11_book_162 rfl ?_
              refine mt_imulN (pc := 163) (a := 3) (b := k.1) dX11_book_163 rfl rfl ?_
              refine mt_iconst (pc := 164) (v := 2) dX11_book_164 (by decide) ?_
              refine mt_iaddN (pc := 165) (a := 3 * k.1) (b := 2) dX11_book_165 rfl rfl ?_
              refine mt_iload (pc := 166) dX11_book_166 rfl ?_
              refine mt_mast (pc := 168) (i := 208) (j := 3 * k.1 + 2) dX11_book_168 hx rfl rfl (by show _ < 18; omega) ?_
              refine mt_iinc (pc := 169) (c9 := 1) dX11_book_169 rfl (by decide) (Nat.le_of_ble_eq_true rfl) rfl ?_
              refine mt_goto (pc := 172) (tgt := 46) dX11_book_172 (by decide) ?_
              rw [updR_eq, updR_updR, updR_eq, updR_updR, show (nI k.1 + 1 : Int32) = nI (k.1 + 1) from nI_1 _]
              refine mt_fg (lo' := [some (.ref 188), some (.int n), some (.int (nI (k.1 + 1))), none, none, none, none]) (by repeat (first | exact trivial | refine ⟨rfl, ?_⟩ | rfl)) ?_
              refine ih p' (k.1 + 1, upd k.2.1 k.1 (nI a), upd k.2.2.1 k.1 (nI y), upd k.2.2.2 k.1 (nI z)) g0 g' _ (by dsimp only; omega) hT hP' h19 hMn (fun g2 L c hq2 hR => ?_)
              rw [updR_updR]
              exact kk g2 L c hq2 (by rw [eB]; exact hR)
theorem n_bookN {n : Int32} {sz : Nat} (hd : 7 ≤ d) (hx : 215 ≤ nx) (h2 : g 2 = nI sz) (hn : ¬ (¬ n < 0 ∧ ¬ nI sz < n ∧ ¬ 60 < n)) : mm_Con G l yX11_book cX11_book 7 (some .int) d 0 0 [.ref 188, .int n] nx (mos h g A) (mm_ret (some (.int 0)) nx (mos h (upd g 0 1) (updR A 189 (upd (A 189) 1 (A 189 1 + 1))))) := by
  refine mm_start (lo := [some (.ref 188), some (.int n), none, none, none, none, none]) pn_X11 rfl rfl (Nat.le_of_ble_eq_true rfl) ?_
  refine mt_aload_n (pc := 0) dX11_book_0 rfl ?_
  refine mt_iconst (pc := 1) (v := 0) dX11_book_1 (by decide) ?_
  refine mt_mput (pc := 2) pf_X11_3 dX11_book_2 hx rfl ?_
  refine mt_aload_n (pc := 5) dX11_book_5 rfl ?_
  refine mt_iload_n (pc := 6) dX11_book_6 rfl ?_
  refine mt_if_lt (pc := 7) (tgt := 28) dX11_book_7 (by decide) (fun c7 => ?_) (fun c7 => ?_)
  · skip
    refine mt_iconst (pc := 28) (v := 0) dX11_book_28 (by decide) ?_
    refine mt_iconst (pc := 29) (v := 1) dX11_book_29 (by decide) ?_
    refine mt_iconst (pc := 30) (v := 1) dX11_book_30 (by decide) ?_
    refine mt_cV (pc := 31) (n_mayN (d := 0) (q := 1) hx (by decide) rfl rfl (by decide)) cal_X11_may vir_X11_may ml_X11_190 dX11_book_31 (by omega) (mos_o _ _ _) (by first | assumption | (show _ ≤ d; omega)) ⟨(Nat.le_of_ble_eq_true rfl), (Nat.le_of_ble_eq_true rfl)⟩ rfl rfl (Nat.le_of_ble_eq_true rfl) ?_
    refine mt_if_ne (pc := 34) (tgt := 39) dX11_book_34 (by decide) (fun c34 => ?_) (fun c34 => ?_)
    · exact absurd rfl c34
    · skip
      refine mt_iconst (pc := 37) (v := 0) dX11_book_37 (by decide) ?_
      exact mt_iret rfl dX11_book_38 (Nat.le_of_ble_eq_true rfl) (Nat.le_of_ble_eq_true rfl) ⟨rfl, rfl, by rw [upd_upd]⟩
  · skip
    refine mt_iload_n (pc := 10) dX11_book_10 rfl ?_
    refine mt_aload_n (pc := 11) dX11_book_11 rfl ?_
    refine mt_mgetI (pc := 12) (x := nI sz) gf_X11_102 dX11_book_12 hx rfl h2 ?_
    refine mt_icmp_gt (pc := 15) (tgt := 28) dX11_book_15 (by decide) (fun c15 => ?_) (fun c15 => ?_)
    · skip
      refine mt_iconst (pc := 28) (v := 0) dX11_book_28 (by decide) ?_
      refine mt_iconst (pc := 29) (v := 1) dX11_book_29 (by decide) ?_
      refine mt_iconst (pc := 30) (v := 1) dX11_book_30 (by decide) ?_
      refine mt_cV (pc := 31) (n_mayN (d := 0) (q := 1) hx (by decide) rfl rfl (by decide)) cal_X11_may vir_X11_may ml_X11_190 dX11_book_31 (by omega) (mos_o _ _ _) (by first | assumption | (show _ ≤ d; omega)) ⟨(Nat.le_of_ble_eq_true rfl), (Nat.le_of_ble_eq_true rfl)⟩ rfl rfl (Nat.le_of_ble_eq_true rfl) ?_
      refine mt_if_ne (pc := 34) (tgt := 39) dX11_book_34 (by decide) (fun c34 => ?_) (fun c34 => ?_)
      · exact absurd rfl c34
      · skip
        refine mt_iconst (pc := 37) (v := 0) dX11_book_37 (by decide) ?_
        exact mt_iret rfl dX11_book_38 (Nat.le_of_ble_eq_true rfl) (Nat.le_of_ble_eq_true rfl) ⟨rfl, rfl, by rw [upd_upd]⟩
    · skip
      refine mt_iload_n (pc := 18) dX11_book_18 rfl ?_
      refine mt_bipush (pc := 19) (v := 60) dX11_book_19 (by decide) ?_
      refine mt_icmp_gt (pc := 21) (tgt := 28) dX11_book_21 (by decide) (fun c21 => ?_) (fun c21 => ?_)
      · skip
        refine mt_iconst (pc := 28) (v := 0) dX11_book_28 (by decide) ?_
        refine mt_iconst (pc := 29) (v := 1) dX11_book_29 (by decide) ?_
        refine mt_iconst (pc := 30) (v := 1) dX11_book_30 (by decide) ?_
        refine mt_cV (pc := 31) (n_mayN (d := 0) (q := 1) hx (by decide) rfl rfl (by decide)) cal_X11_may vir_X11_may ml_X11_190 dX11_book_31 (by omega) (mos_o _ _ _) (by first | assumption | (show _ ≤ d; omega)) ⟨(Nat.le_of_ble_eq_true rfl), (Nat.le_of_ble_eq_true rfl)⟩ rfl rfl (Nat.le_of_ble_eq_true rfl) ?_
        refine mt_if_ne (pc := 34) (tgt := 39) dX11_book_34 (by decide) (fun c34 => ?_) (fun c34 => ?_)
        · exact absurd rfl c34
        · skip
          refine mt_iconst (pc := 37) (v := 0) dX11_book_37 (by decide) ?_
          exact mt_iret rfl dX11_book_38 (Nat.le_of_ble_eq_true rfl) (Nat.le_of_ble_eq_true rfl) ⟨rfl, rfl, by rw [upd_upd]⟩
      · exact absurd ⟨c7, c15, c21⟩ hn
theorem n_book {n sz so : Nat} {K0 : BS} (hd : 7 ≤ d) (hx : 215 ≤ nx) (hT : TP (A 190) b) (hb : BY b) (h2 : g 2 = nI sz) (hsz : sz ≤ 600) (hn : n ≤ sz) (hn2 : n ≤ 60) (h19 : g 19 = nI so) (hso : so ≤ 6) (hK : K0.1 = 0) : mm_Con G l yX11_book cX11_book 7 (some .int) d 0 0 [.ref 188, .int (nI n)] nx (mos h g A) (P_mbok so (bokS b n (nI so) 7 0 K0) nx h g A) := by
  refine mm_start (lo := [some (.ref 188), some (.int (nI n)), none, none, none, none, none]) pn_X11 rfl rfl (Nat.le_of_ble_eq_true rfl) ?_
  refine mt_aload_n (pc := 0) dX11_book_0 rfl ?_
  refine mt_iconst (pc := 1) (v := 0) dX11_book_1 (by decide) ?_
  refine mt_mput (pc := 2) pf_X11_3 dX11_book_2 hx rfl ?_
  refine mt_aload_n (pc := 5) dX11_book_5 rfl ?_
  refine mt_iload_n (pc := 6) dX11_book_6 rfl ?_
  refine mt_if_lt (pc := 7) (tgt := 28) dX11_book_7 (by decide) (fun c7 => ?_) (fun c7 => ?_)
  · exact absurd c7 (nI_pos (by omega))
  · skip
    refine mt_iload_n (pc := 10) dX11_book_10 rfl ?_
    refine mt_aload_n (pc := 11) dX11_book_11 rfl ?_
    refine mt_mgetI (pc := 12) (x := nI sz) gf_X11_102 dX11_book_12 hx rfl h2 ?_
    refine mt_icmp_gt (pc := 15) (tgt := 28) dX11_book_15 (by decide) (fun c15 => ?_) (fun c15 => ?_)
    · exact absurd c15 (nI_nlt hn (by omega))
    · skip
      refine mt_iload_n (pc := 18) dX11_book_18 rfl ?_
      refine mt_bipush (pc := 19) (v := 60) dX11_book_19 (by decide) ?_
      refine mt_icmp_gt (pc := 21) (tgt := 28) dX11_book_21 (by decide) (fun c21 => ?_) (fun c21 => ?_)
      · exact absurd c21 (nI_nlt (a := 60) hn2 (by decide))
      · skip
        refine mt_iconst (pc := 24) (v := 1) dX11_book_24 (by decide) ?_
        refine mt_goto (pc := 25) (tgt := 29) dX11_book_25 (by decide) ?_
        refine mt_iconst (pc := 29) (v := 1) dX11_book_29 (by decide) ?_
        refine mt_iconst (pc := 30) (v := 1) dX11_book_30 (by decide) ?_
        refine mt_cV (pc := 31) (n_mayY (d := 0) (q := 1) hx rfl (by decide)) cal_X11_may vir_X11_may ml_X11_190 dX11_book_31 (by omega) (mos_o _ _ _) (by first | assumption | (show _ ≤ d; omega)) ⟨(Nat.le_of_ble_eq_true rfl), (Nat.le_of_ble_eq_true rfl)⟩ rfl rfl (Nat.le_of_ble_eq_true rfl) ?_
        refine mt_if_ne (pc := 34) (tgt := 39) dX11_book_34 (by decide) (fun c34 => ?_) (fun c34 => ?_)
        · skip
          refine mt_aload_n (pc := 39) dX11_book_39 rfl ?_
          refine mt_iload_n (pc := 40) dX11_book_40 rfl ?_
          refine mt_cV (pc := 41) (n_begins (d := 0) hx) cal_X11_begins vir_X11_begins ml_X11_194 dX11_book_41 (by omega) (mos_o _ _ _) (by first | assumption | (show _ ≤ d; omega)) ⟨(Nat.le_of_ble_eq_true rfl), (Nat.le_of_ble_eq_true rfl)⟩ rfl rfl (Nat.le_of_ble_eq_true rfl) ?_
          refine mt_iconst (pc := 44) (v := 0) dX11_book_44 (by decide) ?_
          refine mt_istore_n (pc := 45) dX11_book_45 (Nat.le_of_ble_eq_true rfl) rfl ?_
          generalize hg1 : upd (upd (upd (upd (upd (upd (upd g 0 0) 2 0) 8 (-1)) 3 (nI n)) 4 0) 5 (-1)) 7 0 = g1
          have hP1 : PST n g1 g1 (.inr 0) := by rw [← hg1]; exact ⟨fun _ _ _ _ => rfl, rfl, rfl, rfl, Nat.zero_le _⟩
          have f19 : g1 19 = nI so := by rw [← hg1]; exact h19
          have fk : KPg g g1 ∧ g1 0 = 0 ∧ g1 2 = 0 := by rw [← hg1]; exact ⟨⟨rfl, rfl, rfl, rfl, rfl, rfl, rfl⟩, rfl, rfl⟩
          rw [show (0 : Int32) = nI K0.1 by rw [hK]; rfl]
          refine l_book (e := n) (so := so) (by omega) hx hb (by omega) hso 6 0 K0 g1 g1 A (by omega) hT hP1 f19 ⟨by omega, fun i hi => by omega⟩ (fun g' L c hq hR => ?_)
          have kp : KPg g g' ∧ g' 0 = 0 ∧ g' 2 = 0 := ⟨⟨(hq 18 (by decide) (by decide) (by decide)).trans fk.1.1, (hq 19 (by decide) (by decide) (by decide)).trans fk.1.2.1, (hq 26 (by decide) (by decide) (by decide)).trans fk.1.2.2.1, (hq 31 (by decide) (by decide) (by decide)).trans fk.1.2.2.2.1, (hq 32 (by decide) (by decide) (by decide)).trans fk.1.2.2.2.2.1, (hq 41 (by decide) (by decide) (by decide)).trans fk.1.2.2.2.2.2.1, (hq 50 (by decide) (by decide) (by decide)).trans fk.1.2.2.2.2.2.2⟩, (hq 0 (by decide) (by decide) (by decide)).trans fk.2.1, (hq 2 (by decide) (by decide) (by decide)).trans fk.2.2⟩
          refine mt_aload_n (pc := 175) dX11_book_175 rfl ?_
          refine mt_iload_n (pc := 176) dX11_book_176 rfl ?_
          refine mt_cV (pc := 177) (n_result (d := 1) (Nat.le_refl 1) hx) cal_X11_result vir_X11_result ml_X11_216 dX11_book_177 (by omega) (mos_o _ _ _) (by show _ ≤ d; omega) ⟨Nat.zero_le _, Nat.zero_le _⟩ rfl rfl (Nat.le_of_ble_eq_true rfl) ?_
          refine mt_istore_n (pc := 180) dX11_book_180 (Nat.le_of_ble_eq_true rfl) rfl ?_
          refine mt_aload_n (pc := 181) dX11_book_181 rfl ?_
          refine mt_mgetI (pc := 182) (x := g' 5) gf_X11_105 dX11_book_182 hx rfl rfl ?_
          refine mt_iconst (pc := 185) (v := -1) dX11_book_185 (by decide) ?_
          rcases hz : bokS b n (nI so) 7 0 K0 with y | k'
          · rw [hz] at hR
            obtain ⟨r3, r4, r5⟩ := hR
            have h5 : ¬ g' 5 = -1 := by rw [r3]; exact nI_m1 (hi := 1000) (by show ((y.2 : Nat) : Int) ≤ 1000; omega)
            refine mt_icmp_eq (pc := 186) (tgt := 191) dX11_book_186 (by decide) (fun c186 => absurd c186 h5) (fun c186 => ?_)
            refine mt_iload_n (pc := 189) dX11_book_189 rfl ?_
            exact mt_iret rfl dX11_book_190 (Nat.le_of_ble_eq_true rfl) (Nat.le_of_ble_eq_true rfl) ⟨rfl, _, _, rfl, kp.2.1, kp.2.2, by rw [if_neg h5, r4], r3, kp.1, rfl, rfl, rfl, rfl, rfl, rfl, rfl, rfl, rfl, rfl, rfl⟩
          · rw [hz] at hR
            obtain ⟨r3, rfl, r5⟩ := hR
            refine mt_icmp_eq (pc := 186) (tgt := 191) dX11_book_186 (by decide) (fun c186 => ?_) (fun c186 => absurd r3 c186)
            refine mt_aload_n (pc := 191) dX11_book_191 rfl ?_
            refine mt_iload_n (pc := 192) dX11_book_192 rfl ?_
            refine mt_mput (pc := 193) pf_X11_167 dX11_book_193 hx rfl ?_
            refine mt_aload_n (pc := 196) dX11_book_196 rfl ?_
            refine mt_aload_n (pc := 197) dX11_book_197 rfl ?_
            refine mt_mget (pc := 198) gf_X11_74 dX11_book_198 hx rfl ?_
            refine mt_aload_n (pc := 201) dX11_book_201 rfl ?_
            refine mt_mget (pc := 202) gf_X11_77 dX11_book_202 hx rfl ?_
            refine mt_bipush (pc := 205) (v := 18) dX11_book_205 (by decide) ?_
            refine mt_cV (pc := 207) (n_copies (d := 0) (i := 208) (j := 209) (n := 18) hx rfl rfl (by decide) (Nat.le_of_ble_eq_true rfl) (Nat.le_of_ble_eq_true rfl)) cal_X11_copies vir_X11_copies ml_X11_160 dX11_book_207 (by omega) (mos_o _ _ _) (by show _ ≤ d; omega) ⟨Nat.zero_le _, Nat.zero_le _⟩ rfl rfl (Nat.le_of_ble_eq_true rfl) ?_
            refine mt_iload_n (pc := 210) dX11_book_210 rfl ?_
            refine mt_iret rfl dX11_book_211 (Nat.le_of_ble_eq_true rfl) (Nat.le_of_ble_eq_true rfl) ⟨rfl, _, _, rfl, kp.2.1, kp.2.2, by rw [if_pos r3], r3, ⟨kp.1.1, kp.1.2.1, kp.1.2.2.1, kp.1.2.2.2.1, kp.1.2.2.2.2.1, rfl, kp.1.2.2.2.2.2.2⟩, ⟨r5.1, fun i hi => ?_⟩, rfl, rfl, rfl, rfl, rfl, rfl, rfl, rfl, rfl, rfl, rfl⟩
            have h6 := r5.1
            have := r5.2 i hi
            rw [updR_eq, if_pos (by omega), if_pos (by omega), if_pos (by omega)]
            exact this
        · exact absurd c34 (by decide)
end MBO
