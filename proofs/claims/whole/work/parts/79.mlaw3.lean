/-! The reference reads a law: products and sums. -/
theorem st_eq {b : Nat → Int32} {e m : Nat} {U : Nat → rsL} {x : rsL} : (sbind (apL x U) fun a => sbind (rstS b e m U 150 a.1) fun y => (.inr (y.1, a.2 ++ y.2) : rsL)) = apL x (stS b e m U) := by
  rcases x with y | a
  · rfl
  · simp only [apL, sbind, stS]
    cases U a.1 with
    | inl y => rfl
    | inr z =>
      simp only [sbind]
      cases rstS b e m U 150 z.1 with
      | inl y => rfl
      | inr w => simp only [List.append_assoc]
theorem rst_none {b : Nat → Int32} {e m q p : Nat} {U : Nat → rsL} (h : opS m (pk b e p) = none) : rstS b e m U (q + 1) p = .inr (sk b e p, []) := by
  simp only [rstS, h]
theorem rst_some {b : Nat → Int32} {e m q p k : Nat} {U : Nat → rsL} {cs : List Nat} (h : opS m (pk b e p) = some k) : (sbind (rstS b e m U (q + 1) p) fun y => (.inr (y.1, cs ++ y.2) : rsL)) = sbind (sbind (apL (.inr (sk b e p + 1, cs)) U) fun a => (.inr (a.1, a.2 ++ [k]) : rsL)) fun a => sbind (rstS b e m U q a.1) fun y => .inr (y.1, a.2 ++ y.2) := by
  simp only [rstS, h, apL, sbind]
  cases U (sk b e p + 1) with
  | inl y => rfl
  | inr z =>
    simp only [sbind]
    cases rstS b e m U q z.1 with
    | inl y => rfl
    | inr w => simp only [List.append_assoc, List.cons_append, List.nil_append]
section MLD
variable {G : mm_G} {l : Launch} {d nx : Nat} {h : Nat → mm_E} {g : MG} {A : MA} {b : Nat → Int32} {Po : mm_P} {e : Nat} {g0 : MG} {A0 : MA}
theorem em_lt {U : Nat → rsL} {s p : Nat} {cs : List Nat} {a : Nat × List Nat} (hGd : GdU e U) (hs : s + 1 ≤ e) (hl : cs.length ≤ s) (ha : apL (.inr (s + 1, cs)) U = .inr a) : a.2.length < a.1 := by
  obtain ⟨z, h1, h2⟩ := sbind_inr (show sbind (U (s + 1)) (fun y => (.inr (y.1, cs ++ y.2) : rsL)) = .inr a from ha)
  cases h2
  have := hGd (s + 1) hs z.1 z.2 h1
  show (cs ++ z.2).length < z.1
  rw [List.length_append]
  omega
theorem ap_prog {U : Nat → rsL} {s : Nat} {cs : List Nat} {a : Nat × List Nat} (hGd : GdU e U) (hs : s ≤ e) (ha : apL (.inr (s, cs)) U = .inr a) : s < a.1 := by
  obtain ⟨z, h1, h2⟩ := sbind_inr (show sbind (U s) (fun y => (.inr (y.1, cs ++ y.2) : rsL)) = .inr a from ha)
  cases h2
  exact (hGd s hs z.1 z.2 h1).1
theorem x_readProduct {y : Nat × Nat} {w : Option Value} (hd : 1 ≤ d) (hx : 215 ≤ nx) (hL : LSt e g0 A0 g A (.inl y)) (kk : mm_T (G, l, yX11_readProduct, 2, none, d, 0, 0, Po, nx) RX11 cX11_readProduct nx (mos h g A) 0 0 90 [some (.ref 188), none] []) : mm_T (G, l, yX11_readProduct, 2, none, d, 0, 0, Po, nx) RX11 cX11_readProduct nx (mos h g A) 0 0 4 [some (.ref 188), w] [] := by
  refine mt_aload_n (pc := 4) dX11_readProduct_4 rfl ?_
  refine mt_cV (pc := 5) (n_fineN (d := 0) hx hL.nf) cal_X11_fine vir_X11_fine ml_X11_134 dX11_readProduct_5 (by omega) (mos_o _ _ _) (by first | assumption | (show _ ≤ d; omega)) ⟨(Nat.le_of_ble_eq_true rfl), (Nat.le_of_ble_eq_true rfl)⟩ rfl rfl (Nat.le_of_ble_eq_true rfl) ?_
  refine mt_if_eq (pc := 8) (tgt := 90) dX11_readProduct_8 (by decide) (fun c8 => ?_) (fun c8 => ?_)
  · exact mt_fg (by repeat (first | exact trivial | refine ⟨rfl, ?_⟩ | rfl)) kk
  · exact absurd rfl c8
theorem l_readProduct {U : Nat → rsL} {o D : Nat} (hD : D + 1 ≤ d) (hD1 : 1 ≤ D) (hx : 215 ≤ nx) (he : e ≤ 150) (hb : BY b) (hT : TP (A0 190) b) (hc : CLm G l b e yX11_readUnit cX11_readUnit 2 D o U) (hGd : GdU e U) (h7 : g0 7 = nI o) : ∀ (q p : Nat) (cs : List Nat) (g : MG) (A : MA) (w : Option Value), e < p + q → LSt e g0 A0 g A (.inr (p, cs)) → (∀ g' A', LSt e g0 A0 g' A' (sbind (rstS b e 3 U q p) fun y => .inr (y.1, cs ++ y.2)) → mm_T (G, l, yX11_readProduct, 2, none, d, 0, 0, Po, nx) RX11 cX11_readProduct nx (mos h g' A') 0 0 90 [some (.ref 188), none] []) → mm_T (G, l, yX11_readProduct, 2, none, d, 0, 0, Po, nx) RX11 cX11_readProduct nx (mos h g A) 0 0 4 [some (.ref 188), w] [] := by
  intro q
  induction q with
  | zero =>
    intro p cs g A w hq hL kk
    have := hL.2.2.2.2.2.1
    dsimp only at this
    omega
  | succ q ih =>
    intro p cs g A w hq hL kk
    obtain ⟨h5, h4, h6, h25, hM, hl⟩ := hL.2.2.2
    dsimp only at h4 h6 hM hl h25
    have h3 := hL.e
    have hTA := hL.tp hT
    have hsk := sk_le (b := b) h6
    have hL0 : LSt e g0 A0 (upd g 4 (nI (sk b e p))) A (.inr (sk b e p, cs)) := hL.of (hL.pst.at hsk.2) (fun w hw => by cases hw) (fun q hq2 => by cases hq2; exact ⟨_, rfl, hsk.1, rfl⟩)
    have hk2 : hrk b e (sk b e p) = hrk b e p := by unfold hrk; rw [sk_sk h6]
    -- behind the operator
    have go : ∀ (c : Int32) (k : Nat), pk b e p = c → ¬ c = -1 → opS 3 c = some k → coN k = 0 → mm_T (G, l, yX11_readProduct, 2, none, d, 0, 0, Po, nx) RX11 cX11_readProduct nx (mos h (upd g 4 (nI (sk b e p))) A) 0 0 67 [some (.ref 188), some (.int (nI (cdN k)))] [] := by
      intro c k hc1 hc2 hop hk0
      have hlt := pkv_lt hc1 hc2
      have hL1 : LSt e g0 A0 (upd g 4 (nI (sk b e p + 1))) A (.inr (sk b e p + 1, cs)) := hL.of (hL.pst.at hlt) (fun w hw => by cases hw) (fun q hq2 => by cases hq2; exact ⟨_, rfl, by show p ≤ sk b e p + 1; omega, rfl⟩)
      have e1 := rst_some (b := b) (e := e) (m := 3) (q := q) (p := p) (U := U) (cs := cs) (by rw [hc1]; exact hop)
      refine mt_aload_n (pc := 67) dX11_readProduct_67 rfl ?_
      refine mt_dup (pc := 68) dX11_readProduct_68 rfl ?_
      refine mt_mgetI (pc := 69) (x := nI (sk b e p)) gf_X11_111 dX11_readProduct_69 hx rfl rfl ?_
      refine mt_iconst (pc := 72) (v := 1) dX11_readProduct_72 (by decide) ?_
      refine mt_iaddN (pc := 73) (a := sk b e p) (b := 1) dX11_readProduct_73 rfl rfl ?_
      refine mt_mput (pc := 74) pf_X11_111 dX11_readProduct_74 hx rfl ?_
      rw [upd_upd]
      refine mt_aload_n (pc := 77) dX11_readProduct_77 rfl ?_
      refine mt_aV (pc := 78) (hc nx h g0 A0 _ A _ hx hT hL1 h7) cal_X11_readUnit vir_X11_readUnit ml_X11_229 dX11_readProduct_78 (by omega) (mos_o _ _ _) hD ⟨(Nat.le_of_ble_eq_true rfl), (Nat.le_of_ble_eq_true rfl)⟩ rfl rfl (Nat.le_of_ble_eq_true rfl) ?_ ?_
      · rintro x9 n9 k9 h9
        simp at h9
      · rintro v9 n9 k9 ⟨⟨⟩, rfl, g2, A2, rfl, hL2⟩
        refine ⟨rfl, ?_⟩
        refine mt_aload_n (pc := 81) dX11_readProduct_81 rfl ?_
        refine mt_iload_n (pc := 82) dX11_readProduct_82 rfl ?_
        refine mt_iconst (pc := 83) (v := 0) dX11_readProduct_83 (by decide) ?_
        refine mt_aV (pc := 84) (n_emit (d := 1) (k := k) (Nat.le_refl 1) hx he hL2 (fun a ha => ⟨em_lt (p := p) hGd hlt (by omega) ha, rfl, by rw [hk0]; rfl⟩)) cal_X11_emit vir_X11_emit ml_X11_226 dX11_readProduct_84 (by omega) (mos_o _ _ _) (by first | assumption | (show _ ≤ d; omega)) ⟨(Nat.le_of_ble_eq_true rfl), (Nat.le_of_ble_eq_true rfl)⟩ rfl rfl (Nat.le_of_ble_eq_true rfl) ?_ ?_
        · rintro x9 n9 k9 h9
          simp at h9
        · rintro v9 n9 k9 ⟨⟨⟩, rfl, g3, A3, rfl, hL3⟩
          refine ⟨rfl, ?_⟩
          refine mt_goto (pc := 87) (tgt := 4) dX11_readProduct_87 (by decide) ?_
          rw [e1] at kk
          rcases hX : apL (.inr (sk b e p + 1, cs)) U with y | a
          · rw [hX] at hL3 kk
            exact x_readProduct (by omega) hx hL3 (kk g3 A3 hL3)
          · rw [hX] at hL3 kk
            have hpr := ap_prog hGd hlt hX
            exact ih a.1 (a.2 ++ [k]) g3 A3 _ (by omega) hL3 kk
    have no : opS 3 (pk b e p) = none → mm_T (G, l, yX11_readProduct, 2, none, d, 0, 0, Po, nx) RX11 cX11_readProduct nx (mos h (upd g 4 (nI (sk b e p))) A) 0 0 90 [some (.ref 188), none] [] := fun hop => by
      rw [rst_none hop] at kk
      exact kk _ A (by simp only [sbind, List.append_nil]; exact hL0)
    by_cases c42 : pk b e p = 42
    · have hv : hrk b e p = 42 := (hrk_pk (by decide) (by decide)).mpr c42
      refine mt_aload_n (pc := 4) dX11_readProduct_4 rfl ?_
      refine mt_cV (pc := 5) (n_fineY (d := 0) hx h5) cal_X11_fine vir_X11_fine ml_X11_134 dX11_readProduct_5 (by omega) (mos_o _ _ _) (by first | assumption | (show _ ≤ d; omega)) ⟨(Nat.le_of_ble_eq_true rfl), (Nat.le_of_ble_eq_true rfl)⟩ rfl rfl (Nat.le_of_ble_eq_true rfl) ?_
      refine mt_if_eq (pc := 8) (tgt := 90) dX11_readProduct_8 (by decide) (fun c8 => ?_) (fun c8 => ?_)
      · exact absurd c8 (by decide)
      · skip
        refine mt_aload_n (pc := 11) dX11_readProduct_11 rfl ?_
        refine mt_cV (pc := 12) (n_here (d := 0) hx hTA hb h3 (by omega) h4 h6) cal_X11_here vir_X11_here ml_X11_117 dX11_readProduct_12 (by omega) (mos_o _ _ _) (by first | assumption | (show _ ≤ d; omega)) ⟨(Nat.le_of_ble_eq_true rfl), (Nat.le_of_ble_eq_true rfl)⟩ rfl rfl (Nat.le_of_ble_eq_true rfl) ?_
        rw [hv]
        refine mt_bipush (pc := 15) (v := 42) dX11_readProduct_15 (by decide) ?_
        refine mt_icmp_eq (pc := 17) (tgt := 38) dX11_readProduct_17 (by decide) (fun c17 => ?_) (fun c17 => ?_)
        · skip
          refine mt_aload_n (pc := 38) dX11_readProduct_38 rfl ?_
          refine mt_cV (pc := 39) (n_here (d := 0) (p := sk b e p) hx hTA hb h3 (by omega) (upd_eq _ _ _) hsk.2) cal_X11_here vir_X11_here ml_X11_117 dX11_readProduct_39 (by omega) (mos_o _ _ _) (by first | assumption | (show _ ≤ d; omega)) ⟨(Nat.le_of_ble_eq_true rfl), (Nat.le_of_ble_eq_true rfl)⟩ rfl rfl (Nat.le_of_ble_eq_true rfl) ?_
          rw [sk_sk h6, upd_upd, hk2, hv]
          refine mt_bipush (pc := 42) (v := 42) dX11_readProduct_42 (by decide) ?_
          refine mt_icmp_ne (pc := 44) (tgt := 51) dX11_readProduct_44 (by decide) (fun c44 => ?_) (fun c44 => ?_)
          · exact absurd rfl c44
          · skip
            refine mt_iconst (pc := 47) (v := 4) dX11_readProduct_47 (by decide) ?_
            refine mt_goto (pc := 48) (tgt := 66) dX11_readProduct_48 (by decide) ?_
            refine mt_istore_n (pc := 66) dX11_readProduct_66 (Nat.le_of_ble_eq_true rfl) rfl ?_
            exact go 42 2002 c42 (by decide) rfl rfl
        · exact absurd rfl c17
    by_cases c47 : pk b e p = 47
    · have hv : hrk b e p = 47 := (hrk_pk (by decide) (by decide)).mpr c47
      refine mt_aload_n (pc := 4) dX11_readProduct_4 rfl ?_
      refine mt_cV (pc := 5) (n_fineY (d := 0) hx h5) cal_X11_fine vir_X11_fine ml_X11_134 dX11_readProduct_5 (by omega) (mos_o _ _ _) (by first | assumption | (show _ ≤ d; omega)) ⟨(Nat.le_of_ble_eq_true rfl), (Nat.le_of_ble_eq_true rfl)⟩ rfl rfl (Nat.le_of_ble_eq_true rfl) ?_
      refine mt_if_eq (pc := 8) (tgt := 90) dX11_readProduct_8 (by decide) (fun c8 => ?_) (fun c8 => ?_)
      · exact absurd c8 (by decide)
      · skip
        refine mt_aload_n (pc := 11) dX11_readProduct_11 rfl ?_
        refine mt_cV (pc := 12) (n_here (d := 0) hx hTA hb h3 (by omega) h4 h6) cal_X11_here vir_X11_here ml_X11_117 dX11_readProduct_12 (by omega) (mos_o _ _ _) (by first | assumption | (show _ ≤ d; omega)) ⟨(Nat.le_of_ble_eq_true rfl), (Nat.le_of_ble_eq_true rfl)⟩ rfl rfl (Nat.le_of_ble_eq_true rfl) ?_
        rw [hv]
        refine mt_bipush (pc := 15) (v := 42) dX11_readProduct_15 (by decide) ?_
        refine mt_icmp_eq (pc := 17) (tgt := 38) dX11_readProduct_17 (by decide) (fun c17 => ?_) (fun c17 => ?_)
        · exact absurd c17 (by decide)
        · skip
          refine mt_aload_n (pc := 20) dX11_readProduct_20 rfl ?_
          refine mt_cV (pc := 21) (n_here (d := 0) (p := sk b e p) hx hTA hb h3 (by omega) (upd_eq _ _ _) hsk.2) cal_X11_here vir_X11_here ml_X11_117 dX11_readProduct_21 (by omega) (mos_o _ _ _) (by first | assumption | (show _ ≤ d; omega)) ⟨(Nat.le_of_ble_eq_true rfl), (Nat.le_of_ble_eq_true rfl)⟩ rfl rfl (Nat.le_of_ble_eq_true rfl) ?_
          rw [sk_sk h6, upd_upd, hk2, hv]
          refine mt_bipush (pc := 24) (v := 47) dX11_readProduct_24 (by decide) ?_
          refine mt_icmp_eq (pc := 26) (tgt := 38) dX11_readProduct_26 (by decide) (fun c26 => ?_) (fun c26 => ?_)
          · skip
            refine mt_aload_n (pc := 38) dX11_readProduct_38 rfl ?_
            refine mt_cV (pc := 39) (n_here (d := 0) (p := sk b e p) hx hTA hb h3 (by omega) (upd_eq _ _ _) hsk.2) cal_X11_here vir_X11_here ml_X11_117 dX11_readProduct_39 (by omega) (mos_o _ _ _) (by first | assumption | (show _ ≤ d; omega)) ⟨(Nat.le_of_ble_eq_true rfl), (Nat.le_of_ble_eq_true rfl)⟩ rfl rfl (Nat.le_of_ble_eq_true rfl) ?_
            rw [sk_sk h6, upd_upd, hk2, hv]
            refine mt_bipush (pc := 42) (v := 42) dX11_readProduct_42 (by decide) ?_
            refine mt_icmp_ne (pc := 44) (tgt := 51) dX11_readProduct_44 (by decide) (fun c44 => ?_) (fun c44 => ?_)
            · skip
              refine mt_aload_n (pc := 51) dX11_readProduct_51 rfl ?_
              refine mt_cV (pc := 52) (n_here (d := 0) (p := sk b e p) hx hTA hb h3 (by omega) (upd_eq _ _ _) hsk.2) cal_X11_here vir_X11_here ml_X11_117 dX11_readProduct_52 (by omega) (mos_o _ _ _) (by first | assumption | (show _ ≤ d; omega)) ⟨(Nat.le_of_ble_eq_true rfl), (Nat.le_of_ble_eq_true rfl)⟩ rfl rfl (Nat.le_of_ble_eq_true rfl) ?_
              rw [sk_sk h6, upd_upd, hk2, hv]
              refine mt_bipush (pc := 55) (v := 47) dX11_readProduct_55 (by decide) ?_
              refine mt_icmp_ne (pc := 57) (tgt := 64) dX11_readProduct_57 (by decide) (fun c57 => ?_) (fun c57 => ?_)
              · exact absurd rfl c57
              · skip
                refine mt_iconst (pc := 60) (v := 5) dX11_readProduct_60 (by decide) ?_
                refine mt_goto (pc := 61) (tgt := 66) dX11_readProduct_61 (by decide) ?_
                refine mt_istore_n (pc := 66) dX11_readProduct_66 (Nat.le_of_ble_eq_true rfl) rfl ?_
                exact go 47 2003 c47 (by decide) rfl rfl
            · exact absurd c44 (by decide)
          · exact absurd rfl c26
    by_cases c37 : pk b e p = 37
    · have hv : hrk b e p = 37 := (hrk_pk (by decide) (by decide)).mpr c37
      refine mt_aload_n (pc := 4) dX11_readProduct_4 rfl ?_
      refine mt_cV (pc := 5) (n_fineY (d := 0) hx h5) cal_X11_fine vir_X11_fine ml_X11_134 dX11_readProduct_5 (by omega) (mos_o _ _ _) (by first | assumption | (show _ ≤ d; omega)) ⟨(Nat.le_of_ble_eq_true rfl), (Nat.le_of_ble_eq_true rfl)⟩ rfl rfl (Nat.le_of_ble_eq_true rfl) ?_
      refine mt_if_eq (pc := 8) (tgt := 90) dX11_readProduct_8 (by decide) (fun c8 => ?_) (fun c8 => ?_)
      · exact absurd c8 (by decide)
      · skip
        refine mt_aload_n (pc := 11) dX11_readProduct_11 rfl ?_
        refine mt_cV (pc := 12) (n_here (d := 0) hx hTA hb h3 (by omega) h4 h6) cal_X11_here vir_X11_here ml_X11_117 dX11_readProduct_12 (by omega) (mos_o _ _ _) (by first | assumption | (show _ ≤ d; omega)) ⟨(Nat.le_of_ble_eq_true rfl), (Nat.le_of_ble_eq_true rfl)⟩ rfl rfl (Nat.le_of_ble_eq_true rfl) ?_
        rw [hv]
        refine mt_bipush (pc := 15) (v := 42) dX11_readProduct_15 (by decide) ?_
        refine mt_icmp_eq (pc := 17) (tgt := 38) dX11_readProduct_17 (by decide) (fun c17 => ?_) (fun c17 => ?_)
        · exact absurd c17 (by decide)
        · skip
          refine mt_aload_n (pc := 20) dX11_readProduct_20 rfl ?_
          refine mt_cV (pc := 21) (n_here (d := 0) (p := sk b e p) hx hTA hb h3 (by omega) (upd_eq _ _ _) hsk.2) cal_X11_here vir_X11_here ml_X11_117 dX11_readProduct_21 (by omega) (mos_o _ _ _) (by first | assumption | (show _ ≤ d; omega)) ⟨(Nat.le_of_ble_eq_true rfl), (Nat.le_of_ble_eq_true rfl)⟩ rfl rfl (Nat.le_of_ble_eq_true rfl) ?_
          rw [sk_sk h6, upd_upd, hk2, hv]
          refine mt_bipush (pc := 24) (v := 47) dX11_readProduct_24 (by decide) ?_
          refine mt_icmp_eq (pc := 26) (tgt := 38) dX11_readProduct_26 (by decide) (fun c26 => ?_) (fun c26 => ?_)
          · exact absurd c26 (by decide)
          · skip
            refine mt_aload_n (pc := 29) dX11_readProduct_29 rfl ?_
            refine mt_cV (pc := 30) (n_here (d := 0) (p := sk b e p) hx hTA hb h3 (by omega) (upd_eq _ _ _) hsk.2) cal_X11_here vir_X11_here ml_X11_117 dX11_readProduct_30 (by omega) (mos_o _ _ _) (by first | assumption | (show _ ≤ d; omega)) ⟨(Nat.le_of_ble_eq_true rfl), (Nat.le_of_ble_eq_true rfl)⟩ rfl rfl (Nat.le_of_ble_eq_true rfl) ?_
            rw [sk_sk h6, upd_upd, hk2, hv]
            refine mt_bipush (pc := 33) (v := 37) dX11_readProduct_33 (by decide) ?_
            refine mt_icmp_ne (pc := 35) (tgt := 90) dX11_readProduct_35 (by decide) (fun c35 => ?_) (fun c35 => ?_)
            · exact absurd rfl c35
            · skip
              refine mt_aload_n (pc := 38) dX11_readProduct_38 rfl ?_
              refine mt_cV (pc := 39) (n_here (d := 0) (p := sk b e p) hx hTA hb h3 (by omega) (upd_eq _ _ _) hsk.2) cal_X11_here vir_X11_here ml_X11_117 dX11_readProduct_39 (by omega) (mos_o _ _ _) (by first | assumption | (show _ ≤ d; omega)) ⟨(Nat.le_of_ble_eq_true rfl), (Nat.le_of_ble_eq_true rfl)⟩ rfl rfl (Nat.le_of_ble_eq_true rfl) ?_
              rw [sk_sk h6, upd_upd, hk2, hv]
              refine mt_bipush (pc := 42) (v := 42) dX11_readProduct_42 (by decide) ?_
              refine mt_icmp_ne (pc := 44) (tgt := 51) dX11_readProduct_44 (by decide) (fun c44 => ?_) (fun c44 => ?_)
              · skip
                refine mt_aload_n (pc := 51) dX11_readProduct_51 rfl ?_
                refine mt_cV (pc := 52) (n_here (d := 0) (p := sk b e p) hx hTA hb h3 (by omega) (upd_eq _ _ _) hsk.2) cal_X11_here vir_X11_here ml_X11_117 dX11_readProduct_52 (by omega) (mos_o _ _ _) (by first | assumption | (show _ ≤ d; omega)) ⟨(Nat.le_of_ble_eq_true rfl), (Nat.le_of_ble_eq_true rfl)⟩ rfl rfl (Nat.le_of_ble_eq_true rfl) ?_
                rw [sk_sk h6, upd_upd, hk2, hv]
                refine mt_bipush (pc := 55) (v := 47) dX11_readProduct_55 (by decide) ?_
                refine mt_icmp_ne (pc := 57) (tgt := 64) dX11_readProduct_57 (by decide) (fun c57 => ?_) (fun c57 => ?_)
                · skip
                  refine mt_bipush (pc := 64) (v := 8) dX11_readProduct_64 (by decide) ?_
                  refine mt_istore_n (pc := 66) dX11_readProduct_66 (Nat.le_of_ble_eq_true rfl) rfl ?_
                  exact go 37 2004 c37 (by decide) rfl rfl
                · exact absurd c57 (by decide)
              · exact absurd c44 (by decide)
    have hop : opS 3 (pk b e p) = none := by simp only [opS]; rw [if_neg (by decide), if_neg c42, if_neg c47, if_neg c37]
    refine mt_aload_n (pc := 4) dX11_readProduct_4 rfl ?_
    refine mt_cV (pc := 5) (n_fineY (d := 0) hx h5) cal_X11_fine vir_X11_fine ml_X11_134 dX11_readProduct_5 (by omega) (mos_o _ _ _) (by first | assumption | (show _ ≤ d; omega)) ⟨(Nat.le_of_ble_eq_true rfl), (Nat.le_of_ble_eq_true rfl)⟩ rfl rfl (Nat.le_of_ble_eq_true rfl) ?_
    refine mt_if_eq (pc := 8) (tgt := 90) dX11_readProduct_8 (by decide) (fun c8 => ?_) (fun c8 => ?_)
    · exact absurd c8 (by decide)
    · skip
      refine mt_aload_n (pc := 11) dX11_readProduct_11 rfl ?_
      refine mt_cV (pc := 12) (n_here (d := 0) hx hTA hb h3 (by omega) h4 h6) cal_X11_here vir_X11_here ml_X11_117 dX11_readProduct_12 (by omega) (mos_o _ _ _) (by first | assumption | (show _ ≤ d; omega)) ⟨(Nat.le_of_ble_eq_true rfl), (Nat.le_of_ble_eq_true rfl)⟩ rfl rfl (Nat.le_of_ble_eq_true rfl) ?_
      refine mt_bipush (pc := 15) (v := 42) dX11_readProduct_15 (by decide) ?_
      refine mt_icmp_eq (pc := 17) (tgt := 38) dX11_readProduct_17 (by decide) (fun c17 => ?_) (fun c17 => ?_)
      · exact absurd ((hrk_pk (by decide) (by decide)).mp c17) c42
      · skip
        refine mt_aload_n (pc := 20) dX11_readProduct_20 rfl ?_
        refine mt_cV (pc := 21) (n_here (d := 0) (p := sk b e p) hx hTA hb h3 (by omega) (upd_eq _ _ _) hsk.2) cal_X11_here vir_X11_here ml_X11_117 dX11_readProduct_21 (by omega) (mos_o _ _ _) (by first | assumption | (show _ ≤ d; omega)) ⟨(Nat.le_of_ble_eq_true rfl), (Nat.le_of_ble_eq_true rfl)⟩ rfl rfl (Nat.le_of_ble_eq_true rfl) ?_
        rw [sk_sk h6, upd_upd, hk2]
        refine mt_bipush (pc := 24) (v := 47) dX11_readProduct_24 (by decide) ?_
        refine mt_icmp_eq (pc := 26) (tgt := 38) dX11_readProduct_26 (by decide) (fun c26 => ?_) (fun c26 => ?_)
        · exact absurd ((hrk_pk (by decide) (by decide)).mp c26) c47
        · skip
          refine mt_aload_n (pc := 29) dX11_readProduct_29 rfl ?_
          refine mt_cV (pc := 30) (n_here (d := 0) (p := sk b e p) hx hTA hb h3 (by omega) (upd_eq _ _ _) hsk.2) cal_X11_here vir_X11_here ml_X11_117 dX11_readProduct_30 (by omega) (mos_o _ _ _) (by first | assumption | (show _ ≤ d; omega)) ⟨(Nat.le_of_ble_eq_true rfl), (Nat.le_of_ble_eq_true rfl)⟩ rfl rfl (Nat.le_of_ble_eq_true rfl) ?_
          rw [sk_sk h6, upd_upd, hk2]
          refine mt_bipush (pc := 33) (v := 37) dX11_readProduct_33 (by decide) ?_
          refine mt_icmp_ne (pc := 35) (tgt := 90) dX11_readProduct_35 (by decide) (fun c35 => ?_) (fun c35 => ?_)
          · exact mt_fg (by repeat (first | exact trivial | refine ⟨rfl, ?_⟩ | rfl)) (no hop)
          · exact absurd ((hrk_pk (by decide) (by decide)).mp c35) c37
theorem n_readProduct {x : rsL} {U : Nat → rsL} {o D : Nat} (hD : D + 1 ≤ d) (hD1 : 1 ≤ D) (hx : 215 ≤ nx) (he : e ≤ 150) (hb : BY b) (hT : TP (A0 190) b) (hc : CLm G l b e yX11_readUnit cX11_readUnit 2 D o U) (hGd : GdU e U) (h7 : g0 7 = nI o) (hL : LSt e g0 A0 g A x) : mm_Con G l yX11_readProduct cX11_readProduct 2 none d 0 0 [.ref 188] nx (mos h g A) (fun q n' m => q = .inl none ∧ n' = nx ∧ ∃ g' A', m = mos h g' A' ∧ LSt e g0 A0 g' A' (apL x (stS b e 3 U))) := by
  refine mm_start (lo := [some (.ref 188), none]) pn_X11 rfl rfl (Nat.le_of_ble_eq_true rfl) ?_
  refine mt_aload_n (pc := 0) dX11_readProduct_0 rfl ?_
  refine mt_aV (pc := 1) (hc nx h g0 A0 g A x hx hT hL h7) cal_X11_readUnit vir_X11_readUnit ml_X11_229 dX11_readProduct_1 (by omega) (mos_o _ _ _) hD ⟨(Nat.le_of_ble_eq_true rfl), (Nat.le_of_ble_eq_true rfl)⟩ rfl rfl (Nat.le_of_ble_eq_true rfl) ?_ ?_
  · rintro x9 n9 k9 h9
    simp at h9
  · rintro v9 n9 k9 ⟨⟨⟩, rfl, g1, A1, rfl, hL1⟩
    refine ⟨rfl, ?_⟩
    rw [← st_eq]
    have hp0 : ∀ a, apL x U = .inr a → 0 < a.1 := fun a ha => by
      rcases x with y | a0
      · cases ha
      · have := ap_prog (cs := a0.2) hGd hL.2.2.2.2.2.1 ha
        omega
    generalize apL x U = x1 at hL1 hp0
    rcases x1 with y | ⟨p, cs⟩
    · refine x_readProduct (by omega) hx hL1 ?_
      exact mt_vret rfl dX11_readProduct_90 (Nat.le_of_ble_eq_true rfl) (Nat.le_of_ble_eq_true rfl) ⟨rfl, rfl, g1, A1, rfl, hL1⟩
    · have hp := hL1.2.2.2.2.2.1
      have hp1 := hp0 _ rfl
      dsimp only at hp hp1
      refine l_readProduct hD hD1 hx he hb hT hc hGd h7 150 p cs g1 A1 none (by omega) hL1 (fun g' A' hL' => ?_)
      exact mt_vret rfl dX11_readProduct_90 (Nat.le_of_ble_eq_true rfl) (Nat.le_of_ble_eq_true rfl) ⟨rfl, rfl, g', A', rfl, hL'⟩
theorem x_readSum {y : Nat × Nat} {w : Option Value} (hd : 1 ≤ d) (hx : 215 ≤ nx) (hL : LSt e g0 A0 g A (.inl y)) (kk : mm_T (G, l, yX11_readSum, 2, none, d, 0, 0, Po, nx) RX11 cX11_readSum nx (mos h g A) 0 0 67 [some (.ref 188), none] []) : mm_T (G, l, yX11_readSum, 2, none, d, 0, 0, Po, nx) RX11 cX11_readSum nx (mos h g A) 0 0 4 [some (.ref 188), w] [] := by
  refine mt_aload_n (pc := 4) dX11_readSum_4 rfl ?_
  refine mt_cV (pc := 5) (n_fineN (d := 0) hx hL.nf) cal_X11_fine vir_X11_fine ml_X11_134 dX11_readSum_5 (by omega) (mos_o _ _ _) (by first | assumption | (show _ ≤ d; omega)) ⟨(Nat.le_of_ble_eq_true rfl), (Nat.le_of_ble_eq_true rfl)⟩ rfl rfl (Nat.le_of_ble_eq_true rfl) ?_
  refine mt_if_eq (pc := 8) (tgt := 67) dX11_readSum_8 (by decide) (fun c8 => ?_) (fun c8 => ?_)
  · exact mt_fg (by repeat (first | exact trivial | refine ⟨rfl, ?_⟩ | rfl)) kk
  · exact absurd rfl c8
theorem l_readSum {U : Nat → rsL} {o D : Nat} (hD : D + 1 ≤ d) (hD1 : 1 ≤ D) (hx : 215 ≤ nx) (he : e ≤ 150) (hb : BY b) (hT : TP (A0 190) b) (hc : CLm G l b e yX11_readProduct cX11_readProduct 2 D o U) (hGd : GdU e U) (h7 : g0 7 = nI o) : ∀ (q p : Nat) (cs : List Nat) (g : MG) (A : MA) (w : Option Value), e < p + q → LSt e g0 A0 g A (.inr (p, cs)) → (∀ g' A', LSt e g0 A0 g' A' (sbind (rstS b e 1 U q p) fun y => .inr (y.1, cs ++ y.2)) → mm_T (G, l, yX11_readSum, 2, none, d, 0, 0, Po, nx) RX11 cX11_readSum nx (mos h g' A') 0 0 67 [some (.ref 188), none] []) → mm_T (G, l, yX11_readSum, 2, none, d, 0, 0, Po, nx) RX11 cX11_readSum nx (mos h g A) 0 0 4 [some (.ref 188), w] [] := by
  intro q
  induction q with
  | zero =>
    intro p cs g A w hq hL kk
    have := hL.2.2.2.2.2.1
    dsimp only at this
    omega
  | succ q ih =>
    intro p cs g A w hq hL kk
    obtain ⟨h5, h4, h6, h25, hM, hl⟩ := hL.2.2.2
    dsimp only at h4 h6 hM hl h25
    have h3 := hL.e
    have hTA := hL.tp hT
    have hsk := sk_le (b := b) h6
    have hL0 : LSt e g0 A0 (upd g 4 (nI (sk b e p))) A (.inr (sk b e p, cs)) := hL.of (hL.pst.at hsk.2) (fun w hw => by cases hw) (fun q hq2 => by cases hq2; exact ⟨_, rfl, hsk.1, rfl⟩)
    have hk2 : hrk b e (sk b e p) = hrk b e p := by unfold hrk; rw [sk_sk h6]
    -- behind the operator
    have go : ∀ (c : Int32) (k : Nat), pk b e p = c → ¬ c = -1 → opS 1 c = some k → coN k = 0 → mm_T (G, l, yX11_readSum, 2, none, d, 0, 0, Po, nx) RX11 cX11_readSum nx (mos h (upd g 4 (nI (sk b e p))) A) 0 0 44 [some (.ref 188), some (.int (nI (cdN k)))] [] := by
      intro c k hc1 hc2 hop hk0
      have hlt := pkv_lt hc1 hc2
      have hL1 : LSt e g0 A0 (upd g 4 (nI (sk b e p + 1))) A (.inr (sk b e p + 1, cs)) := hL.of (hL.pst.at hlt) (fun w hw => by cases hw) (fun q hq2 => by cases hq2; exact ⟨_, rfl, by show p ≤ sk b e p + 1; omega, rfl⟩)
      have e1 := rst_some (b := b) (e := e) (m := 1) (q := q) (p := p) (U := U) (cs := cs) (by rw [hc1]; exact hop)
      refine mt_aload_n (pc := 44) dX11_readSum_44 rfl ?_
      refine mt_dup (pc := 45) dX11_readSum_45 rfl ?_
      refine mt_mgetI (pc := 46) (x := nI (sk b e p)) gf_X11_111 dX11_readSum_46 hx rfl rfl ?_
      refine mt_iconst (pc := 49) (v := 1) dX11_readSum_49 (by decide) ?_
      refine mt_iaddN (pc := 50) (a := sk b e p) (b := 1) dX11_readSum_50 rfl rfl ?_
      refine mt_mput (pc := 51) pf_X11_111 dX11_readSum_51 hx rfl ?_
      rw [upd_upd]
      refine mt_aload_n (pc := 54) dX11_readSum_54 rfl ?_
      refine mt_aV (pc := 55) (hc nx h g0 A0 _ A _ hx hT hL1 h7) cal_X11_readProduct vir_X11_readProduct ml_X11_223 dX11_readSum_55 (by omega) (mos_o _ _ _) hD ⟨(Nat.le_of_ble_eq_true rfl), (Nat.le_of_ble_eq_true rfl)⟩ rfl rfl (Nat.le_of_ble_eq_true rfl) ?_ ?_
      · rintro x9 n9 k9 h9
        simp at h9
      · rintro v9 n9 k9 ⟨⟨⟩, rfl, g2, A2, rfl, hL2⟩
        refine ⟨rfl, ?_⟩
        refine mt_aload_n (pc := 58) dX11_readSum_58 rfl ?_
        refine mt_iload_n (pc := 59) dX11_readSum_59 rfl ?_
        refine mt_iconst (pc := 60) (v := 0) dX11_readSum_60 (by decide) ?_
        refine mt_aV (pc := 61) (n_emit (d := 1) (k := k) (Nat.le_refl 1) hx he hL2 (fun a ha => ⟨em_lt (p := p) hGd hlt (by omega) ha, rfl, by rw [hk0]; rfl⟩)) cal_X11_emit vir_X11_emit ml_X11_226 dX11_readSum_61 (by omega) (mos_o _ _ _) (by first | assumption | (show _ ≤ d; omega)) ⟨(Nat.le_of_ble_eq_true rfl), (Nat.le_of_ble_eq_true rfl)⟩ rfl rfl (Nat.le_of_ble_eq_true rfl) ?_ ?_
        · rintro x9 n9 k9 h9
          simp at h9
        · rintro v9 n9 k9 ⟨⟨⟩, rfl, g3, A3, rfl, hL3⟩
          refine ⟨rfl, ?_⟩
          refine mt_goto (pc := 64) (tgt := 4) dX11_readSum_64 (by decide) ?_
          rw [e1] at kk
          rcases hX : apL (.inr (sk b e p + 1, cs)) U with y | a
          · rw [hX] at hL3 kk
            exact x_readSum (by omega) hx hL3 (kk g3 A3 hL3)
          · rw [hX] at hL3 kk
            have hpr := ap_prog hGd hlt hX
            exact ih a.1 (a.2 ++ [k]) g3 A3 _ (by omega) hL3 kk
    have no : opS 1 (pk b e p) = none → mm_T (G, l, yX11_readSum, 2, none, d, 0, 0, Po, nx) RX11 cX11_readSum nx (mos h (upd g 4 (nI (sk b e p))) A) 0 0 67 [some (.ref 188), none] [] := fun hop => by
      rw [rst_none hop] at kk
      exact kk _ A (by simp only [sbind, List.append_nil]; exact hL0)
    by_cases c43 : pk b e p = 43
    · have hv : hrk b e p = 43 := (hrk_pk (by decide) (by decide)).mpr c43
      refine mt_aload_n (pc := 4) dX11_readSum_4 rfl ?_
      refine mt_cV (pc := 5) (n_fineY (d := 0) hx h5) cal_X11_fine vir_X11_fine ml_X11_134 dX11_readSum_5 (by omega) (mos_o _ _ _) (by first | assumption | (show _ ≤ d; omega)) ⟨(Nat.le_of_ble_eq_true rfl), (Nat.le_of_ble_eq_true rfl)⟩ rfl rfl (Nat.le_of_ble_eq_true rfl) ?_
      refine mt_if_eq (pc := 8) (tgt := 67) dX11_readSum_8 (by decide) (fun c8 => ?_) (fun c8 => ?_)
      · exact absurd c8 (by decide)
      · skip
        refine mt_aload_n (pc := 11) dX11_readSum_11 rfl ?_
        refine mt_cV (pc := 12) (n_here (d := 0) hx hTA hb h3 (by omega) h4 h6) cal_X11_here vir_X11_here ml_X11_117 dX11_readSum_12 (by omega) (mos_o _ _ _) (by first | assumption | (show _ ≤ d; omega)) ⟨(Nat.le_of_ble_eq_true rfl), (Nat.le_of_ble_eq_true rfl)⟩ rfl rfl (Nat.le_of_ble_eq_true rfl) ?_
        rw [hv]
        refine mt_bipush (pc := 15) (v := 43) dX11_readSum_15 (by decide) ?_
        refine mt_icmp_eq (pc := 17) (tgt := 29) dX11_readSum_17 (by decide) (fun c17 => ?_) (fun c17 => ?_)
        · skip
          refine mt_aload_n (pc := 29) dX11_readSum_29 rfl ?_
          refine mt_cV (pc := 30) (n_here (d := 0) (p := sk b e p) hx hTA hb h3 (by omega) (upd_eq _ _ _) hsk.2) cal_X11_here vir_X11_here ml_X11_117 dX11_readSum_30 (by omega) (mos_o _ _ _) (by first | assumption | (show _ ≤ d; omega)) ⟨(Nat.le_of_ble_eq_true rfl), (Nat.le_of_ble_eq_true rfl)⟩ rfl rfl (Nat.le_of_ble_eq_true rfl) ?_
          rw [sk_sk h6, upd_upd, hk2, hv]
          refine mt_bipush (pc := 33) (v := 43) dX11_readSum_33 (by decide) ?_
          refine mt_icmp_ne (pc := 35) (tgt := 42) dX11_readSum_35 (by decide) (fun c35 => ?_) (fun c35 => ?_)
          · exact absurd rfl c35
          · skip
            refine mt_iconst (pc := 38) (v := 2) dX11_readSum_38 (by decide) ?_
            refine mt_goto (pc := 39) (tgt := 43) dX11_readSum_39 (by decide) ?_
            refine mt_istore_n (pc := 43) dX11_readSum_43 (Nat.le_of_ble_eq_true rfl) rfl ?_
            exact go 43 2000 c43 (by decide) rfl rfl
        · exact absurd rfl c17
    by_cases c45 : pk b e p = 45
    · have hv : hrk b e p = 45 := (hrk_pk (by decide) (by decide)).mpr c45
      refine mt_aload_n (pc := 4) dX11_readSum_4 rfl ?_
      refine mt_cV (pc := 5) (n_fineY (d := 0) hx h5) cal_X11_fine vir_X11_fine ml_X11_134 dX11_readSum_5 (by omega) (mos_o _ _ _) (by first | assumption | (show _ ≤ d; omega)) ⟨(Nat.le_of_ble_eq_true rfl), (Nat.le_of_ble_eq_true rfl)⟩ rfl rfl (Nat.le_of_ble_eq_true rfl) ?_
      refine mt_if_eq (pc := 8) (tgt := 67) dX11_readSum_8 (by decide) (fun c8 => ?_) (fun c8 => ?_)
      · exact absurd c8 (by decide)
      · skip
        refine mt_aload_n (pc := 11) dX11_readSum_11 rfl ?_
        refine mt_cV (pc := 12) (n_here (d := 0) hx hTA hb h3 (by omega) h4 h6) cal_X11_here vir_X11_here ml_X11_117 dX11_readSum_12 (by omega) (mos_o _ _ _) (by first | assumption | (show _ ≤ d; omega)) ⟨(Nat.le_of_ble_eq_true rfl), (Nat.le_of_ble_eq_true rfl)⟩ rfl rfl (Nat.le_of_ble_eq_true rfl) ?_
        rw [hv]
        refine mt_bipush (pc := 15) (v := 43) dX11_readSum_15 (by decide) ?_
        refine mt_icmp_eq (pc := 17) (tgt := 29) dX11_readSum_17 (by decide) (fun c17 => ?_) (fun c17 => ?_)
        · exact absurd c17 (by decide)
        · skip
          refine mt_aload_n (pc := 20) dX11_readSum_20 rfl ?_
          refine mt_cV (pc := 21) (n_here (d := 0) (p := sk b e p) hx hTA hb h3 (by omega) (upd_eq _ _ _) hsk.2) cal_X11_here vir_X11_here ml_X11_117 dX11_readSum_21 (by omega) (mos_o _ _ _) (by first | assumption | (show _ ≤ d; omega)) ⟨(Nat.le_of_ble_eq_true rfl), (Nat.le_of_ble_eq_true rfl)⟩ rfl rfl (Nat.le_of_ble_eq_true rfl) ?_
          rw [sk_sk h6, upd_upd, hk2, hv]
          refine mt_bipush (pc := 24) (v := 45) dX11_readSum_24 (by decide) ?_
          refine mt_icmp_ne (pc := 26) (tgt := 67) dX11_readSum_26 (by decide) (fun c26 => ?_) (fun c26 => ?_)
          · exact absurd rfl c26
          · skip
            refine mt_aload_n (pc := 29) dX11_readSum_29 rfl ?_
            refine mt_cV (pc := 30) (n_here (d := 0) (p := sk b e p) hx hTA hb h3 (by omega) (upd_eq _ _ _) hsk.2) cal_X11_here vir_X11_here ml_X11_117 dX11_readSum_30 (by omega) (mos_o _ _ _) (by first | assumption | (show _ ≤ d; omega)) ⟨(Nat.le_of_ble_eq_true rfl), (Nat.le_of_ble_eq_true rfl)⟩ rfl rfl (Nat.le_of_ble_eq_true rfl) ?_
            rw [sk_sk h6, upd_upd, hk2, hv]
            refine mt_bipush (pc := 33) (v := 43) dX11_readSum_33 (by decide) ?_
            refine mt_icmp_ne (pc := 35) (tgt := 42) dX11_readSum_35 (by decide) (fun c35 => ?_) (fun c35 => ?_)
            · skip
              refine mt_iconst (pc := 42) (v := 3) dX11_readSum_42 (by decide) ?_
              refine mt_istore_n (pc := 43) dX11_readSum_43 (Nat.le_of_ble_eq_true rfl) rfl ?_
              exact go 45 2001 c45 (by decide) rfl rfl
            · exact absurd c35 (by decide)
    have hop : opS 1 (pk b e p) = none := by simp only [opS]; rw [if_pos trivial, if_neg c43, if_neg c45]
    refine mt_aload_n (pc := 4) dX11_readSum_4 rfl ?_
    refine mt_cV (pc := 5) (n_fineY (d := 0) hx h5) cal_X11_fine vir_X11_fine ml_X11_134 dX11_readSum_5 (by omega) (mos_o _ _ _) (by first | assumption | (show _ ≤ d; omega)) ⟨(Nat.le_of_ble_eq_true rfl), (Nat.le_of_ble_eq_true rfl)⟩ rfl rfl (Nat.le_of_ble_eq_true rfl) ?_
    refine mt_if_eq (pc := 8) (tgt := 67) dX11_readSum_8 (by decide) (fun c8 => ?_) (fun c8 => ?_)
    · exact absurd c8 (by decide)
    · skip
      refine mt_aload_n (pc := 11) dX11_readSum_11 rfl ?_
      refine mt_cV (pc := 12) (n_here (d := 0) hx hTA hb h3 (by omega) h4 h6) cal_X11_here vir_X11_here ml_X11_117 dX11_readSum_12 (by omega) (mos_o _ _ _) (by first | assumption | (show _ ≤ d; omega)) ⟨(Nat.le_of_ble_eq_true rfl), (Nat.le_of_ble_eq_true rfl)⟩ rfl rfl (Nat.le_of_ble_eq_true rfl) ?_
      refine mt_bipush (pc := 15) (v := 43) dX11_readSum_15 (by decide) ?_
      refine mt_icmp_eq (pc := 17) (tgt := 29) dX11_readSum_17 (by decide) (fun c17 => ?_) (fun c17 => ?_)
      · exact absurd ((hrk_pk (by decide) (by decide)).mp c17) c43
      · skip
        refine mt_aload_n (pc := 20) dX11_readSum_20 rfl ?_
        refine mt_cV (pc := 21) (n_here (d := 0) (p := sk b e p) hx hTA hb h3 (by omega) (upd_eq _ _ _) hsk.2) cal_X11_here vir_X11_here ml_X11_117 dX11_readSum_21 (by omega) (mos_o _ _ _) (by first | assumption | (show _ ≤ d; omega)) ⟨(Nat.le_of_ble_eq_true rfl), (Nat.le_of_ble_eq_true rfl)⟩ rfl rfl (Nat.le_of_ble_eq_true rfl) ?_
        rw [sk_sk h6, upd_upd, hk2]
        refine mt_bipush (pc := 24) (v := 45) dX11_readSum_24 (by decide) ?_
        refine mt_icmp_ne (pc := 26) (tgt := 67) dX11_readSum_26 (by decide) (fun c26 => ?_) (fun c26 => ?_)
        · exact mt_fg (by repeat (first | exact trivial | refine ⟨rfl, ?_⟩ | rfl)) (no hop)
        · exact absurd ((hrk_pk (by decide) (by decide)).mp c26) c45
theorem n_readSum {x : rsL} {U : Nat → rsL} {o D : Nat} (hD : D + 1 ≤ d) (hD1 : 1 ≤ D) (hx : 215 ≤ nx) (he : e ≤ 150) (hb : BY b) (hT : TP (A0 190) b) (hc : CLm G l b e yX11_readProduct cX11_readProduct 2 D o U) (hGd : GdU e U) (h7 : g0 7 = nI o) (hL : LSt e g0 A0 g A x) : mm_Con G l yX11_readSum cX11_readSum 2 none d 0 0 [.ref 188] nx (mos h g A) (fun q n' m => q = .inl none ∧ n' = nx ∧ ∃ g' A', m = mos h g' A' ∧ LSt e g0 A0 g' A' (apL x (stS b e 1 U))) := by
  refine mm_start (lo := [some (.ref 188), none]) pn_X11 rfl rfl (Nat.le_of_ble_eq_true rfl) ?_
  refine mt_aload_n (pc := 0) dX11_readSum_0 rfl ?_
  refine mt_aV (pc := 1) (hc nx h g0 A0 g A x hx hT hL h7) cal_X11_readProduct vir_X11_readProduct ml_X11_223 dX11_readSum_1 (by omega) (mos_o _ _ _) hD ⟨(Nat.le_of_ble_eq_true rfl), (Nat.le_of_ble_eq_true rfl)⟩ rfl rfl (Nat.le_of_ble_eq_true rfl) ?_ ?_
  · rintro x9 n9 k9 h9
    simp at h9
  · rintro v9 n9 k9 ⟨⟨⟩, rfl, g1, A1, rfl, hL1⟩
    refine ⟨rfl, ?_⟩
    rw [← st_eq]
    have hp0 : ∀ a, apL x U = .inr a → 0 < a.1 := fun a ha => by
      rcases x with y | a0
      · cases ha
      · have := ap_prog (cs := a0.2) hGd hL.2.2.2.2.2.1 ha
        omega
    generalize apL x U = x1 at hL1 hp0
    rcases x1 with y | ⟨p, cs⟩
    · refine x_readSum (by omega) hx hL1 ?_
      exact mt_vret rfl dX11_readSum_67 (Nat.le_of_ble_eq_true rfl) (Nat.le_of_ble_eq_true rfl) ⟨rfl, rfl, g1, A1, rfl, hL1⟩
    · have hp := hL1.2.2.2.2.2.1
      have hp1 := hp0 _ rfl
      dsimp only at hp hp1
      refine l_readSum hD hD1 hx he hb hT hc hGd h7 150 p cs g1 A1 none (by omega) hL1 (fun g' A' hL' => ?_)
      exact mt_vret rfl dX11_readSum_67 (Nat.le_of_ble_eq_true rfl) (Nat.le_of_ble_eq_true rfl) ⟨rfl, rfl, g', A', rfl, hL'⟩
/-- sums at every level -/
theorem n_sumAt (he : e ≤ 150) (hb : BY b) : ∀ (j d : Nat), j ≤ 6 → 10 + 4 * j ≤ d → CLm G l b e yX11_readSum cX11_readSum 2 d (6 - j) (sumS b e j)
  | 0, d, hj, hd => fun nx h g0 A0 g A x hx hT hL h7 => n_readSum (D := d - 1) (o := 6) (by omega) (by omega) hx he hb hT (fun nx h g0 A0 g A x hx hT hL h7 => n_readProduct (D := d - 2) (o := 6) (by omega) (by omega) hx he hb hT (fun nx h g0 A0 g A x hx hT hL h7 => n_unit (D := d - 4) (o := 6) (by omega) (by omega) hx he (by omega) hb hT (fun z => by omega) (fun p hp r cs hz => by cases hz) h7 hL) (unS_le hb (fun p hp r cs hz => by cases hz)) h7 hL) (stS_le (unS_le hb (fun p hp r cs hz => by cases hz))) h7 hL
  | j + 1, d, hj, hd => fun nx h g0 A0 g A x hx hT hL h7 => n_readSum (D := d - 1) (o := 6 - (j + 1)) (by omega) (by omega) hx he hb hT (fun nx h g0 A0 g A x hx hT hL h7 => n_readProduct (D := d - 2) (o := 6 - (j + 1)) (by omega) (by omega) hx he hb hT (fun nx h g0 A0 g A x hx hT hL h7 => n_unit (D := d - 4) (o := 6 - (j + 1)) (by omega) (by omega) hx he (by omega) hb hT (fun z => by rw [show 6 - (j + 1) + 1 = 6 - j by omega]; exact n_sumAt he hb j (d - 4) (by omega) (by omega)) (sumS_le hb j) h7 hL) (unS_le hb (sumS_le hb j)) h7 hL) (stS_le (unS_le hb (sumS_le hb j))) h7 hL
end MLD
