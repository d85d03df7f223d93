/-! The reference's questions: winter, span. -/
theorem GQ_48 {g g' : MG} (h : ∀ j, j ≠ 48 → g' j = upd g 0 0 j) : GQ g g' := ⟨h 0 (by decide), fun j a _ _ d => (h j d).trans (upd_ne a)⟩
section MSP
variable {G : mm_G} {l : Launch} {d nx : Nat} {h : Nat → mm_E} {g : MG} {A : MA} {k : CS} {cs : List Nat} {f : Nat → Int32} {bk : BS}
theorem n_winter {z q nn x : Int32} (hd : 7 ≤ d) (hx : 215 ≤ nx) (hQ : MQs k cs g A) (hR : RR (A 205) f) (hJ : RJ 400 k f) : mm_Con G l yX11_winter cX11_winter 5 (some .int) d 0 0 [.ref 188, .int z, .int q, .int nn, .int x] nx (mos h g A) (P_mq 1 1 (ifR q 0 16 (ifR nn 1 96 (ifR x 0 3 (.inr (winV k cs f (winN k cs q (f, z) nn.toNatClampNeg).1 x))))) nx h g A) := by
  obtain ⟨h18, h19, hM, hL⟩ := id hQ
  have hk1 := hM.1
  have hk2 := hM.2.1
  have hQ0 : MQs k cs (upd g 0 0) A := ⟨h18, h19, hM, hL⟩
  by_cases h1 : ¬ q < 0 ∧ ¬ 16 < q
  · rw [ifR_p h1]
    by_cases h2 : ¬ nn < 1 ∧ ¬ 96 < nn
    · rw [ifR_p h2]
      by_cases h3 : ¬ x < 0 ∧ ¬ 3 < x
      · rw [ifR_p h3]
        obtain ⟨n, -, hn, rfl⟩ := okR_nI (lo := 1) (hi := 96) h2 (by decide) (by decide)
        rw [nI_clamp (by omega)]
        obtain ⟨c0, -, hc0, rfl⟩ := okR_nI (lo := 0) (hi := 3) h3 (by decide) (by decide)
        obtain ⟨r, hr⟩ : ∃ r : Nat ⊕ Int32, r = .inr (winV k cs f (winN k cs q (f, z) n).1 (nI c0)) := ⟨_, rfl⟩
        rw [← hr]
        have hJn := winN_RJ (cs := cs) (q := q) (w := (f, z)) hk1 hk2 hJ n (by omega)
        have go : ∀ g' A', (∀ j, j ≠ 48 → g' j = upd g 0 0 j) → SD A A' → RR (A' 206) (winN k cs q (f, z) n).1 → mm_T (G, l, yX11_winter, 5, some .int, d, 0, 0, (P_mq 1 1 r nx h g A), nx) RX11 cX11_winter nx (mos h g' A') 0 0 46 [some (.ref 188), some (.int z), some (.int q), some (.int (nI n)), some (.int (nI c0))] [] := by
          intro g' A' hg hA hS
          generalize (winN k cs q (f, z) n).1 = F at hS hJn hr
          have g18 : g' 18 = nI k.1 := (hg 18 (by decide)).trans h18
          have e89 : A' 205 89 = f 2 := by rw [hA 205 (by decide) (by decide) (by decide)]; exact hR.2.2.2.2.2.2.1
          rcases (show c0 = 0 ∨ c0 = 1 ∨ c0 = 2 ∨ c0 = 3 by omega) with rfl | rfl | rfl | rfl
          · skip
            refine mt_iload (pc := 46) dX11_winter_46 rfl ?_
            refine mt_if_ne (pc := 48) (tgt := 61) dX11_winter_48 (by decide) (fun c48 => ?_) (fun c48 => ?_)
            · exact absurd (by decide) c48
            · skip
              refine mt_aload_n (pc := 51) dX11_winter_51 rfl ?_
              refine mt_mget (pc := 52) gf_X11_68 dX11_winter_52 hx rfl ?_
              refine mt_bipush (pc := 55) (v := 88) dX11_winter_55 (by decide) ?_
              refine mt_mald (pc := 57) (i := 206) (j := 88) (x := F 3) dX11_winter_57 hx rfl rfl (by show _ < 91; omega) (hS.2.2.2.2.2.1) ?_
              refine mt_goto (pc := 58) (tgt := 107) dX11_winter_58 (by decide) ?_
              exact mt_iret rfl dX11_winter_107 (Nat.le_of_ble_eq_true rfl) (Nat.le_of_ble_eq_true rfl) (P_mqv (c0 := 1) (c1 := 1) (r := r) (by rw [hr]; rfl) (GQ_48 hg) hA.aq)
          · skip
            refine mt_iload (pc := 46) dX11_winter_46 rfl ?_
            refine mt_if_ne (pc := 48) (tgt := 61) dX11_winter_48 (by decide) (fun c48 => ?_) (fun c48 => ?_)
            · skip
              refine mt_iload (pc := 61) dX11_winter_61 rfl ?_
              refine mt_iconst (pc := 63) (v := 1) dX11_winter_63 (by decide) ?_
              refine mt_icmp_ne (pc := 64) (tgt := 79) dX11_winter_64 (by decide) (fun c64 => ?_) (fun c64 => ?_)
              · exact absurd (by decide) c64
              · skip
                refine mt_aload_n (pc := 67) dX11_winter_67 rfl ?_
                refine mt_iconst (pc := 68) (v := 0) dX11_winter_68 (by decide) ?_
                refine mt_aload_n (pc := 69) dX11_winter_69 rfl ?_
                refine mt_mgetI (pc := 70) (x := nI k.1) gf_X11_154 dX11_winter_70 hx rfl g18 ?_
                refine mt_cV (pc := 73) (n_sumOf (d := 0) (b := 0) (n := k.1) (F := fun p => F (4 + p)) hx (by omega) (fun i hi => by rw [Nat.zero_add]; exact hS.1 i (by omega))) cal_X11_sumOf vir_X11_sumOf ml_X11_354 dX11_winter_73 (by omega) (mos_o _ _ _) (by first | assumption | (show _ ≤ d; omega)) ⟨(Nat.le_of_ble_eq_true rfl), (Nat.le_of_ble_eq_true rfl)⟩ rfl rfl (Nat.le_of_ble_eq_true rfl) ?_
                refine mt_goto (pc := 76) (tgt := 107) dX11_winter_76 (by decide) ?_
                exact mt_iret rfl dX11_winter_107 (Nat.le_of_ble_eq_true rfl) (Nat.le_of_ble_eq_true rfl) (P_mqv (c0 := 1) (c1 := 1) (r := r) (by rw [hr]; rfl) (GQ_48 hg) hA.aq)
            · exact absurd c48 (by decide)
          · skip
            refine mt_iload (pc := 46) dX11_winter_46 rfl ?_
            refine mt_if_ne (pc := 48) (tgt := 61) dX11_winter_48 (by decide) (fun c48 => ?_) (fun c48 => ?_)
            · skip
              refine mt_iload (pc := 61) dX11_winter_61 rfl ?_
              refine mt_iconst (pc := 63) (v := 1) dX11_winter_63 (by decide) ?_
              refine mt_icmp_ne (pc := 64) (tgt := 79) dX11_winter_64 (by decide) (fun c64 => ?_) (fun c64 => ?_)
              · skip
                refine mt_iload (pc := 79) dX11_winter_79 rfl ?_
                refine mt_iconst (pc := 81) (v := 2) dX11_winter_81 (by decide) ?_
                refine mt_icmp_ne (pc := 82) (tgt := 92) dX11_winter_82 (by decide) (fun c82 => ?_) (fun c82 => ?_)
                · exact absurd (by decide) c82
                · skip
                  refine mt_aload_n (pc := 85) dX11_winter_85 rfl ?_
                  refine mt_cV (pc := 86) (n_shutNow (d := 0) (k := k) (f := F) hx hk1 g18 hS hJn.1) cal_X11_shutNow vir_X11_shutNow ml_X11_351 dX11_winter_86 (by omega) (mos_o _ _ _) (by first | assumption | (show _ ≤ d; omega)) ⟨(Nat.le_of_ble_eq_true rfl), (Nat.le_of_ble_eq_true rfl)⟩ rfl rfl (Nat.le_of_ble_eq_true rfl) ?_
                  refine mt_goto (pc := 89) (tgt := 107) dX11_winter_89 (by decide) ?_
                  exact mt_iret rfl dX11_winter_107 (Nat.le_of_ble_eq_true rfl) (Nat.le_of_ble_eq_true rfl) (P_mqv (c0 := 1) (c1 := 1) (r := r) (by rw [hr]; rfl) (GQ_48 hg) hA.aq)
              · exact absurd c64 (by decide)
            · exact absurd c48 (by decide)
          · skip
            refine mt_iload (pc := 46) dX11_winter_46 rfl ?_
            refine mt_if_ne (pc := 48) (tgt := 61) dX11_winter_48 (by decide) (fun c48 => ?_) (fun c48 => ?_)
            · skip
              refine mt_iload (pc := 61) dX11_winter_61 rfl ?_
              refine mt_iconst (pc := 63) (v := 1) dX11_winter_63 (by decide) ?_
              refine mt_icmp_ne (pc := 64) (tgt := 79) dX11_winter_64 (by decide) (fun c64 => ?_) (fun c64 => ?_)
              · skip
                refine mt_iload (pc := 79) dX11_winter_79 rfl ?_
                refine mt_iconst (pc := 81) (v := 2) dX11_winter_81 (by decide) ?_
                refine mt_icmp_ne (pc := 82) (tgt := 92) dX11_winter_82 (by decide) (fun c82 => ?_) (fun c82 => ?_)
                · skip
                  refine mt_aload_n (pc := 92) dX11_winter_92 rfl ?_
                  refine mt_mget (pc := 93) gf_X11_68 dX11_winter_93 hx rfl ?_
                  refine mt_bipush (pc := 96) (v := 89) dX11_winter_96 (by decide) ?_
                  refine mt_mald (pc := 98) (i := 206) (j := 89) (x := F 2) dX11_winter_98 hx rfl rfl (by show _ < 91; omega) (hS.2.2.2.2.2.2.1) ?_
                  refine mt_aload_n (pc := 99) dX11_winter_99 rfl ?_
                  refine mt_mget (pc := 100) gf_X11_65 dX11_winter_100 hx rfl ?_
                  refine mt_bipush (pc := 103) (v := 89) dX11_winter_103 (by decide) ?_
                  refine mt_mald (pc := 105) (i := 205) (j := 89) (x := f 2) dX11_winter_105 hx rfl rfl (by show _ < 91; omega) e89 ?_
                  refine mt_isub (pc := 106) dX11_winter_106 ?_
                  exact mt_iret rfl dX11_winter_107 (Nat.le_of_ble_eq_true rfl) (Nat.le_of_ble_eq_true rfl) (P_mqv (c0 := 1) (c1 := 1) (r := r) (by rw [hr]; rfl) (GQ_48 hg) hA.aq)
                · exact absurd c82 (by decide)
              · exact absurd c64 (by decide)
            · exact absurd c48 (by decide)
        refine mm_start (lo := [some (.ref 188), some (.int z), some (.int q), some (.int (nI n)), some (.int (nI c0))]) pn_X11 rfl rfl (Nat.le_of_ble_eq_true rfl) ?_
        refine mt_aload_n (pc := 0) dX11_winter_0 rfl ?_
        refine mt_iconst (pc := 1) (v := 0) dX11_winter_1 (by decide) ?_
        refine mt_mput (pc := 2) pf_X11_3 dX11_winter_2 hx rfl ?_
        refine mt_aload_n (pc := 5) dX11_winter_5 rfl ?_
        refine mt_iload_n (pc := 6) dX11_winter_6 rfl ?_
        refine mt_iload_n (pc := 7) dX11_winter_7 rfl ?_
        refine mt_cS (pc := 8) (n_isWinter) cal_X11_isWinter sta_X11_isWinter ml_X11_419 dX11_winter_8 (by first | assumption | (show _ ≤ d; omega)) ⟨(Nat.le_of_ble_eq_true rfl), (Nat.le_of_ble_eq_true rfl)⟩ rfl rfl (Nat.le_of_ble_eq_true rfl) ?_
        rw [iw_1 h1 h2]
        refine mt_if_eq (pc := 11) (tgt := 28) dX11_winter_11 (by decide) (fun c11 => ?_) (fun c11 => ?_)
        · exact absurd c11 (by decide)
        · skip
          refine mt_iload (pc := 14) dX11_winter_14 rfl ?_
          refine mt_iconst (pc := 16) (v := 0) dX11_winter_16 (by decide) ?_
          refine mt_iconst (pc := 17) (v := 3) dX11_winter_17 (by decide) ?_
          refine mt_cS (pc := 18) (n_within) cal_X11_within sta_X11_within ml_X11_348 dX11_winter_18 (by first | assumption | (show _ ≤ d; omega)) ⟨(Nat.le_of_ble_eq_true rfl), (Nat.le_of_ble_eq_true rfl)⟩ rfl rfl (Nat.le_of_ble_eq_true rfl) ?_
          rw [in_w h3]
          refine mt_if_eq (pc := 21) (tgt := 28) dX11_winter_21 (by decide) (fun c21 => ?_) (fun c21 => ?_)
          · exact absurd c21 (by decide)
          · skip
            refine mt_iconst (pc := 24) (v := 1) dX11_winter_24 (by decide) ?_
            refine mt_goto (pc := 25) (tgt := 29) dX11_winter_25 (by decide) ?_
            refine mt_iconst (pc := 29) (v := 1) dX11_winter_29 (by decide) ?_
            refine mt_iconst (pc := 30) (v := 1) dX11_winter_30 (by decide) ?_
            refine mt_cV (pc := 31) (n_mayY (d := 0) (q := 1) hx rfl (by decide)) cal_X11_may vir_X11_may ml_X11_190 dX11_winter_31 (by omega) (mos_o _ _ _) (by first | assumption | (show _ ≤ d; omega)) ⟨(Nat.le_of_ble_eq_true rfl), (Nat.le_of_ble_eq_true rfl)⟩ rfl rfl (Nat.le_of_ble_eq_true rfl) ?_
            refine mt_if_ne (pc := 34) (tgt := 39) dX11_winter_34 (by decide) (fun c34 => ?_) (fun c34 => ?_)
            · skip
              refine mt_aload_n (pc := 39) dX11_winter_39 rfl ?_
              refine mt_iload_n (pc := 40) dX11_winter_40 rfl ?_
              refine mt_iload_n (pc := 41) dX11_winter_41 rfl ?_
              refine mt_iload_n (pc := 42) dX11_winter_42 rfl ?_
              refine mt_aV (pc := 43) (n_winterGoes (d := 6) (k := k) (cs := cs) (f := f) (Nat.le_refl 6) hx hn hQ0 hR hJ) cal_X11_winterGoes vir_X11_winterGoes ml_X11_422 dX11_winter_43 (by omega) (mos_o _ _ _) (by first | assumption | (show _ ≤ d; omega)) ⟨(Nat.le_of_ble_eq_true rfl), (Nat.le_of_ble_eq_true rfl)⟩ rfl rfl (Nat.le_of_ble_eq_true rfl) ?_ ?_
              · rintro x9 n9 k9 h9
                obtain ⟨⟨⟩, -⟩ := h9
              · rintro v9 n9 k9 ⟨⟨⟩, rfl, g', A', rfl, hg, hA, hS⟩
                refine ⟨rfl, ?_⟩
                exact go g' A' hg hA hS
            · exact absurd c34 (by decide)
      · rw [ifR_n h3]
        refine mm_start (lo := [some (.ref 188), some (.int z), some (.int q), some (.int nn), some (.int x)]) pn_X11 rfl rfl (Nat.le_of_ble_eq_true rfl) ?_
        refine mt_aload_n (pc := 0) dX11_winter_0 rfl ?_
        refine mt_iconst (pc := 1) (v := 0) dX11_winter_1 (by decide) ?_
        refine mt_mput (pc := 2) pf_X11_3 dX11_winter_2 hx rfl ?_
        refine mt_aload_n (pc := 5) dX11_winter_5 rfl ?_
        refine mt_iload_n (pc := 6) dX11_winter_6 rfl ?_
        refine mt_iload_n (pc := 7) dX11_winter_7 rfl ?_
        refine mt_cS (pc := 8) (n_isWinter) cal_X11_isWinter sta_X11_isWinter ml_X11_419 dX11_winter_8 (by first | assumption | (show _ ≤ d; omega)) ⟨(Nat.le_of_ble_eq_true rfl), (Nat.le_of_ble_eq_true rfl)⟩ rfl rfl (Nat.le_of_ble_eq_true rfl) ?_
        rw [iw_1 h1 h2]
        refine mt_if_eq (pc := 11) (tgt := 28) dX11_winter_11 (by decide) (fun c11 => ?_) (fun c11 => ?_)
        · exact absurd c11 (by decide)
        · skip
          refine mt_iload (pc := 14) dX11_winter_14 rfl ?_
          refine mt_iconst (pc := 16) (v := 0) dX11_winter_16 (by decide) ?_
          refine mt_iconst (pc := 17) (v := 3) dX11_winter_17 (by decide) ?_
          refine mt_cS (pc := 18) (n_within) cal_X11_within sta_X11_within ml_X11_348 dX11_winter_18 (by first | assumption | (show _ ≤ d; omega)) ⟨(Nat.le_of_ble_eq_true rfl), (Nat.le_of_ble_eq_true rfl)⟩ rfl rfl (Nat.le_of_ble_eq_true rfl) ?_
          rw [in_nw h3]
          refine mt_if_eq (pc := 21) (tgt := 28) dX11_winter_21 (by decide) (fun c21 => ?_) (fun c21 => ?_)
          · skip
            refine mt_iconst (pc := 28) (v := 0) dX11_winter_28 (by decide) ?_
            refine mt_iconst (pc := 29) (v := 1) dX11_winter_29 (by decide) ?_
            refine mt_iconst (pc := 30) (v := 1) dX11_winter_30 (by decide) ?_
            refine mt_cV (pc := 31) (n_mayN (d := 0) (q := 1) hx (by decide) rfl rfl (by decide)) cal_X11_may vir_X11_may ml_X11_190 dX11_winter_31 (by omega) (mos_o _ _ _) (by first | assumption | (show _ ≤ d; omega)) ⟨(Nat.le_of_ble_eq_true rfl), (Nat.le_of_ble_eq_true rfl)⟩ rfl rfl (Nat.le_of_ble_eq_true rfl) ?_
            refine mt_if_ne (pc := 34) (tgt := 39) dX11_winter_34 (by decide) (fun c34 => ?_) (fun c34 => ?_)
            · exact absurd rfl c34
            · skip
              refine mt_iconst (pc := 37) (v := 0) dX11_winter_37 (by decide) ?_
              exact mt_iret rfl dX11_winter_38 (Nat.le_of_ble_eq_true rfl) (Nat.le_of_ble_eq_true rfl) (P_mq1 (c0 := 1) (c1 := 1) (r := .inl 1) rfl)
          · exact absurd rfl c21
    · rw [ifR_n h2]
      refine mm_start (lo := [some (.ref 188), some (.int z), some (.int q), some (.int nn), some (.int x)]) pn_X11 rfl rfl (Nat.le_of_ble_eq_true rfl) ?_
      refine mt_aload_n (pc := 0) dX11_winter_0 rfl ?_
      refine mt_iconst (pc := 1) (v := 0) dX11_winter_1 (by decide) ?_
      refine mt_mput (pc := 2) pf_X11_3 dX11_winter_2 hx rfl ?_
      refine mt_aload_n (pc := 5) dX11_winter_5 rfl ?_
      refine mt_iload_n (pc := 6) dX11_winter_6 rfl ?_
      refine mt_iload_n (pc := 7) dX11_winter_7 rfl ?_
      refine mt_cS (pc := 8) (n_isWinter) cal_X11_isWinter sta_X11_isWinter ml_X11_419 dX11_winter_8 (by first | assumption | (show _ ≤ d; omega)) ⟨(Nat.le_of_ble_eq_true rfl), (Nat.le_of_ble_eq_true rfl)⟩ rfl rfl (Nat.le_of_ble_eq_true rfl) ?_
      rw [iw_0 (fun y => h2 y.2)]
      refine mt_if_eq (pc := 11) (tgt := 28) dX11_winter_11 (by decide) (fun c11 => ?_) (fun c11 => ?_)
      · skip
        refine mt_iconst (pc := 28) (v := 0) dX11_winter_28 (by decide) ?_
        refine mt_iconst (pc := 29) (v := 1) dX11_winter_29 (by decide) ?_
        refine mt_iconst (pc := 30) (v := 1) dX11_winter_30 (by decide) ?_
        refine mt_cV (pc := 31) (n_mayN (d := 0) (q := 1) hx (by decide) rfl rfl (by decide)) cal_X11_may vir_X11_may ml_X11_190 dX11_winter_31 (by omega) (mos_o _ _ _) (by first | assumption | (show _ ≤ d; omega)) ⟨(Nat.le_of_ble_eq_true rfl), (Nat.le_of_ble_eq_true rfl)⟩ rfl rfl (Nat.le_of_ble_eq_true rfl) ?_
        refine mt_if_ne (pc := 34) (tgt := 39) dX11_winter_34 (by decide) (fun c34 => ?_) (fun c34 => ?_)
        · exact absurd rfl c34
        · skip
          refine mt_iconst (pc := 37) (v := 0) dX11_winter_37 (by decide) ?_
          exact mt_iret rfl dX11_winter_38 (Nat.le_of_ble_eq_true rfl) (Nat.le_of_ble_eq_true rfl) (P_mq1 (c0 := 1) (c1 := 1) (r := .inl 1) rfl)
      · exact absurd rfl c11
  · rw [ifR_n h1]
    refine mm_start (lo := [some (.ref 188), some (.int z), some (.int q), some (.int nn), some (.int x)]) pn_X11 rfl rfl (Nat.le_of_ble_eq_true rfl) ?_
    refine mt_aload_n (pc := 0) dX11_winter_0 rfl ?_
    refine mt_iconst (pc := 1) (v := 0) dX11_winter_1 (by decide) ?_
    refine mt_mput (pc := 2) pf_X11_3 dX11_winter_2 hx rfl ?_
    refine mt_aload_n (pc := 5) dX11_winter_5 rfl ?_
    refine mt_iload_n (pc := 6) dX11_winter_6 rfl ?_
    refine mt_iload_n (pc := 7) dX11_winter_7 rfl ?_
    refine mt_cS (pc := 8) (n_isWinter) cal_X11_isWinter sta_X11_isWinter ml_X11_419 dX11_winter_8 (by first | assumption | (show _ ≤ d; omega)) ⟨(Nat.le_of_ble_eq_true rfl), (Nat.le_of_ble_eq_true rfl)⟩ rfl rfl (Nat.le_of_ble_eq_true rfl) ?_
    rw [iw_0 (fun y => h1 y.1)]
    refine mt_if_eq (pc := 11) (tgt := 28) dX11_winter_11 (by decide) (fun c11 => ?_) (fun c11 => ?_)
    · skip
      refine mt_iconst (pc := 28) (v := 0) dX11_winter_28 (by decide) ?_
      refine mt_iconst (pc := 29) (v := 1) dX11_winter_29 (by decide) ?_
      refine mt_iconst (pc := 30) (v := 1) dX11_winter_30 (by decide) ?_
      refine mt_cV (pc := 31) (n_mayN (d := 0) (q := 1) hx (by decide) rfl rfl (by decide)) cal_X11_may vir_X11_may ml_X11_190 dX11_winter_31 (by omega) (mos_o _ _ _) (by first | assumption | (show _ ≤ d; omega)) ⟨(Nat.le_of_ble_eq_true rfl), (Nat.le_of_ble_eq_true rfl)⟩ rfl rfl (Nat.le_of_ble_eq_true rfl) ?_
      refine mt_if_ne (pc := 34) (tgt := 39) dX11_winter_34 (by decide) (fun c34 => ?_) (fun c34 => ?_)
      · exact absurd rfl c34
      · skip
        refine mt_iconst (pc := 37) (v := 0) dX11_winter_37 (by decide) ?_
        exact mt_iret rfl dX11_winter_38 (Nat.le_of_ble_eq_true rfl) (Nat.le_of_ble_eq_true rfl) (P_mq1 (c0 := 1) (c1 := 1) (r := .inl 1) rfl)
    · exact absurd rfl c11
theorem n_span {z mm q nn x a : Int32} (hd : 7 ≤ d) (hx : 215 ≤ nx) (hQ : MQs k cs g A) (hR : RR (A 205) f) (hJ : RJ 400 k f) : mm_Con G l yX11_span cX11_span 12 (some .int) d 0 0 [.ref 188, .int z, .int mm, .int q, .int nn, .int x, .int a] nx (mos h g A) (P_mq 1 1 (ifR mm 1 20 (ifR q 0 16 (ifR nn 1 96 (ifR x 0 2 (if inR a k.2.1 then .inr (let r := spnF k cs f z q nn.toNatClampNeg a.toNatClampNeg mm.toNatClampNeg; if x = 0 then r.1 else if x = 1 then r.2.1 else r.2.2) else .inl 1))))) nx h g A) := by
  obtain ⟨h18, h19, hM, hL⟩ := id hQ
  have hk1 := hM.1
  have hk2 := hM.2.1
  have hQ0 : MQs k cs (upd g 0 0) A := ⟨h18, h19, hM, hL⟩
  by_cases h0 : ¬ mm < 1 ∧ ¬ 20 < mm
  · rw [ifR_p h0]
    by_cases h1 : ¬ q < 0 ∧ ¬ 16 < q
    · rw [ifR_p h1]
      by_cases h2 : ¬ nn < 1 ∧ ¬ 96 < nn
      · rw [ifR_p h2]
        by_cases h3 : ¬ x < 0 ∧ ¬ 2 < x
        · rw [ifR_p h3]
          by_cases hp : inR a k.2.1
          · rw [if_pos hp]
            obtain ⟨n, -, hn, rfl⟩ := okR_nI (lo := 1) (hi := 96) h2 (by decide) (by decide)
            obtain ⟨m, hm1, hm, rfl⟩ := okR_nI (lo := 1) (hi := 20) h0 (by decide) (by decide)
            obtain ⟨j, hj, rfl⟩ := inR_of hp (by omega)
            rw [nI_clamp (by omega), nI_clamp (by omega), nI_clamp (by omega)]
            obtain ⟨r, hr⟩ : ∃ r : Nat ⊕ Int32, r = .inr (if x = 0 then (spnF k cs f z q n j m).1 else if x = 1 then (spnF k cs f z q n j m).2.1 else (spnF k cs f z q n j m).2.2) := ⟨_, rfl⟩
            show mm_Con G l yX11_span cX11_span 12 (some .int) d 0 0 [.ref 188, .int z, .int (nI m), .int q, .int (nI n), .int x, .int (nI j)] nx (mos h g A) (P_mq 1 1 (.inr (if x = 0 then (spnF k cs f z q n j m).1 else if x = 1 then (spnF k cs f z q n j m).2.1 else (spnF k cs f z q n j m).2.2)) nx h g A)
            rw [← hr]
            refine mm_start (lo := [some (.ref 188), some (.int z), some (.int (nI m)), some (.int q), some (.int (nI n)), some (.int x), some (.int (nI j)), none, none, none, none, none]) pn_X11 rfl rfl (Nat.le_of_ble_eq_true rfl) ?_
            refine mt_aload_n (pc := 0) dX11_span_0 rfl ?_
            refine mt_iconst (pc := 1) (v := 0) dX11_span_1 (by decide) ?_
            refine mt_mput (pc := 2) pf_X11_3 dX11_span_2 hx rfl ?_
            refine mt_aload_n (pc := 5) dX11_span_5 rfl ?_
            refine mt_iload_n (pc := 6) dX11_span_6 rfl ?_
            refine mt_iconst (pc := 7) (v := 1) dX11_span_7 (by decide) ?_
            refine mt_bipush (pc := 8) (v := 20) dX11_span_8 (by decide) ?_
            refine mt_cS (pc := 10) (n_within) cal_X11_within sta_X11_within ml_X11_348 dX11_span_10 (by first | assumption | (show _ ≤ d; omega)) ⟨(Nat.le_of_ble_eq_true rfl), (Nat.le_of_ble_eq_true rfl)⟩ rfl rfl (Nat.le_of_ble_eq_true rfl) ?_
            rw [in_w h0]
            refine mt_if_eq (pc := 13) (tgt := 54) dX11_span_13 (by decide) (fun c13 => ?_) (fun c13 => ?_)
            · exact absurd c13 (by decide)
            · skip
              refine mt_iload_n (pc := 16) dX11_span_16 rfl ?_
              refine mt_iload (pc := 17) dX11_span_17 rfl ?_
              refine mt_cS (pc := 19) (n_isWinter) cal_X11_isWinter sta_X11_isWinter ml_X11_419 dX11_span_19 (by first | assumption | (show _ ≤ d; omega)) ⟨(Nat.le_of_ble_eq_true rfl), (Nat.le_of_ble_eq_true rfl)⟩ rfl rfl (Nat.le_of_ble_eq_true rfl) ?_
              rw [iw_1 h1 h2]
              refine mt_if_eq (pc := 22) (tgt := 54) dX11_span_22 (by decide) (fun c22 => ?_) (fun c22 => ?_)
              · exact absurd c22 (by decide)
              · skip
                refine mt_iload (pc := 25) dX11_span_25 rfl ?_
                refine mt_iconst (pc := 27) (v := 0) dX11_span_27 (by decide) ?_
                refine mt_iconst (pc := 28) (v := 2) dX11_span_28 (by decide) ?_
                refine mt_cS (pc := 29) (n_within) cal_X11_within sta_X11_within ml_X11_348 dX11_span_29 (by first | assumption | (show _ ≤ d; omega)) ⟨(Nat.le_of_ble_eq_true rfl), (Nat.le_of_ble_eq_true rfl)⟩ rfl rfl (Nat.le_of_ble_eq_true rfl) ?_
                rw [in_w h3]
                refine mt_if_eq (pc := 32) (tgt := 54) dX11_span_32 (by decide) (fun c32 => ?_) (fun c32 => ?_)
                · exact absurd c32 (by decide)
                · skip
                  refine mt_iload (pc := 35) dX11_span_35 rfl ?_
                  refine mt_iconst (pc := 37) (v := 0) dX11_span_37 (by decide) ?_
                  refine mt_aload_n (pc := 38) dX11_span_38 rfl ?_
                  refine mt_mgetI (pc := 39) (x := nI k.2.1) gf_X11_157 dX11_span_39 hx rfl h19 ?_
                  refine mt_iconst (pc := 42) (v := 1) dX11_span_42 (by decide) ?_
                  refine mt_isub (pc := 43) dX11_span_43 ?_
                  refine mt_cS (pc := 44) (n_within) cal_X11_within sta_X11_within ml_X11_348 dX11_span_44 (by first | assumption | (show _ ≤ d; omega)) ⟨(Nat.le_of_ble_eq_true rfl), (Nat.le_of_ble_eq_true rfl)⟩ rfl rfl (Nat.le_of_ble_eq_true rfl) ?_
                  rw [in_wR (by omega) hp]
                  refine mt_if_eq (pc := 47) (tgt := 54) dX11_span_47 (by decide) (fun c47 => ?_) (fun c47 => ?_)
                  · exact absurd c47 (by decide)
                  · skip
                    refine mt_iconst (pc := 50) (v := 1) dX11_span_50 (by decide) ?_
                    refine mt_goto (pc := 51) (tgt := 55) dX11_span_51 (by decide) ?_
                    refine mt_iconst (pc := 55) (v := 1) dX11_span_55 (by decide) ?_
                    refine mt_iconst (pc := 56) (v := 1) dX11_span_56 (by decide) ?_
                    refine mt_cV (pc := 57) (n_mayY (d := 0) (q := 1) hx rfl (by decide)) cal_X11_may vir_X11_may ml_X11_190 dX11_span_57 (by omega) (mos_o _ _ _) (by first | assumption | (show _ ≤ d; omega)) ⟨(Nat.le_of_ble_eq_true rfl), (Nat.le_of_ble_eq_true rfl)⟩ rfl rfl (Nat.le_of_ble_eq_true rfl) ?_
                    refine mt_if_ne (pc := 60) (tgt := 65) dX11_span_60 (by decide) (fun c60 => ?_) (fun c60 => ?_)
                    · skip
                      refine mt_iconst (pc := 65) (v := (-1)) dX11_span_65 (by decide) ?_
                      refine mt_istore (pc := 66) dX11_span_66 (Nat.le_of_ble_eq_true rfl) rfl ?_
                      refine mt_iconst (pc := 68) (v := 0) dX11_span_68 (by decide) ?_
                      refine mt_istore (pc := 69) dX11_span_69 (Nat.le_of_ble_eq_true rfl) rfl ?_
                      refine mt_iconst (pc := 71) (v := 0) dX11_span_71 (by decide) ?_
                      refine mt_istore (pc := 72) dX11_span_72 (Nat.le_of_ble_eq_true rfl) rfl ?_
                      refine mt_iconst (pc := 74) (v := 0) dX11_span_74 (by decide) ?_
                      refine mt_istore (pc := 75) dX11_span_75 (Nat.le_of_ble_eq_true rfl) rfl ?_
                      refine mt_forE (pc := 77) (α := (MG × MA) × Int32) (H := fun c (w : (MG × MA) × Int32) => mos h w.1.1 w.1.2) (L := fun c (w : (MG × MA) × Int32) => [some (.ref 188), some (.int z), some (.int (nI m)), some (.int q), some (.int (nI n)), some (.int x), some (.int (nI j)), some (.int ((spnF k cs f z q n j c).1)), some (.int (w.2)), some (.int ((spnF k cs f z q n j c).2.2)), some (.int (nI c)), none]) (I := fun c (w : (MG × MA) × Int32) => (∀ j, j ≠ 48 → w.1.1 j = upd g 0 0 j) ∧ SD A w.1.2 ∧ ((c = 0 ∧ w.2 = 0) ∨ (0 < c ∧ w.2 = (spnF k cs f z q n j c).2.1 ∧ ∃ u, w.2 = nI u ∧ u < 10000))) m (fun c w hc fc nc => ?_) (fun w fc => ?_) (((upd g 0 0, A), 0)) (⟨fun _ _ => rfl, SD_rf, Or.inl ⟨rfl, rfl⟩⟩)
                      · skip
                        obtain ⟨⟨g1, A1⟩, y⟩ := w
                        obtain ⟨w1, w2, w3⟩ := fc
                        dsimp only at w1 w2 w3 ⊢
                        have hQ1 : MQs k cs g1 A1 := by
                          obtain ⟨a1, a2, a3, a4⟩ := w2.mq hQ0
                          exact ⟨(w1 18 (by decide)).trans a1, (w1 19 (by decide)).trans a2, a3, by rw [w1 26 (by decide)]; exact a4⟩
                        rw [spn_s] at nc
                        have hsp0 : c = 0 → (spnF k cs f z q n j c).2.1 = -1 := fun e => by subst e; rfl
                        generalize spnF k cs f z q n j c = s at nc w3 hsp0 ⊢
                        refine mt_iload (pc := 77) dX11_span_77 rfl ?_
                        refine mt_iload_n (pc := 79) dX11_span_79 rfl ?_
                        refine mt_icmp_ge (pc := 80) (tgt := 172) dX11_span_80 (by decide) (fun c80 => ?_) (fun c80 => ?_)
                        · exact absurd c80 (nI_ge hc (by first | omega | decide))
                        · skip
                          refine mt_aload_n (pc := 83) dX11_span_83 rfl ?_
                          refine mt_iload_n (pc := 84) dX11_span_84 rfl ?_
                          refine mt_iload (pc := 85) dX11_span_85 rfl ?_
                          refine mt_iadd (pc := 87) dX11_span_87 ?_
                          refine mt_iload_n (pc := 88) dX11_span_88 rfl ?_
                          refine mt_iload (pc := 89) dX11_span_89 rfl ?_
                          refine mt_aV (pc := 91) (n_winterGoes (d := 6) (k := k) (cs := cs) (f := f) (Nat.le_refl 6) hx hn hQ1 (by rw [w2 205 (by decide) (by decide) (by decide)]; exact hR) hJ) cal_X11_winterGoes vir_X11_winterGoes ml_X11_422 dX11_span_91 (by omega) (mos_o _ _ _) (by first | assumption | (show _ ≤ d; omega)) ⟨(Nat.le_of_ble_eq_true rfl), (Nat.le_of_ble_eq_true rfl)⟩ rfl rfl (Nat.le_of_ble_eq_true rfl) ?_ ?_
                          · rintro x9 n9 k9 h9
                            obtain ⟨⟨⟩, -⟩ := h9
                          · rintro v9 n9 k9 ⟨⟨⟩, rfl, g2, A2, rfl, v1, v2, v3⟩
                            refine ⟨rfl, ?_⟩
                            have hJn := winN_RJ (cs := cs) (q := q) (w := (f, z + nI c)) hk1 hk2 hJ n (by omega)
                            generalize (winN k cs q (f, z + nI c) n).1 = F at nc v3 hJn
                            obtain ⟨U, U1, U2⟩ := un_n (k := k) hJn.1.2.1 hk1
                            have w1' : ∀ j, j ≠ 48 → g2 j = upd g 0 0 j := fun j hj => (v1 j hj).trans (w1 j hj)
                            refine mt_aload_n (pc := 94) dX11_span_94 rfl ?_
                            refine mt_iconst (pc := 95) (v := 0) dX11_span_95 (by decide) ?_
                            refine mt_aload_n (pc := 96) dX11_span_96 rfl ?_
                            refine mt_mgetI (pc := 97) (x := nI k.1) gf_X11_154 dX11_span_97 hx rfl ((w1' 18 (by decide)).trans h18) ?_
                            refine mt_cV (pc := 100) (n_sumOf (d := 0) (b := 0) (n := k.1) (F := fun p => F (4 + p)) hx (by omega) (fun i hi => by rw [Nat.zero_add]; exact v3.1 i (by omega))) cal_X11_sumOf vir_X11_sumOf ml_X11_354 dX11_span_100 (by omega) (mos_o _ _ _) (by first | assumption | (show _ ≤ d; omega)) ⟨(Nat.le_of_ble_eq_true rfl), (Nat.le_of_ble_eq_true rfl)⟩ rfl rfl (Nat.le_of_ble_eq_true rfl) ?_
                            show mm_T _ _ _ _ _ _ _ _ _ (.int (unA k F) :: _)
                            rw [U1] at nc ⊢
                            refine mt_istore (pc := 103) dX11_span_103 (Nat.le_of_ble_eq_true rfl) rfl ?_
                            refine mt_iload (pc := 105) dX11_span_105 rfl ?_
                            refine mt_iconst (pc := 107) (v := (-1)) dX11_span_107 (by decide) ?_
                            refine mt_icmp_eq (pc := 108) (tgt := 118) dX11_span_108 (by decide) (fun c108 => ?_) (fun c108 => ?_)
                            · skip
                              rw [if_pos c108] at nc
                              refine mt_iload (pc := 118) dX11_span_118 rfl ?_
                              refine mt_goto (pc := 120) (tgt := 125) dX11_span_120 (by decide) ?_
                              refine mt_istore (pc := 125) dX11_span_125 (Nat.le_of_ble_eq_true rfl) rfl ?_
                              have ey : ∃ y', ((if s.2.1 < nI U then nI U else s.2.1) = y') ∧ (if nI U ≤ y then y else nI U) = y' ∧ ∃ u, y' = nI u ∧ u < 10000 := by
                                rcases w3 with ⟨e0, e1⟩ | ⟨e0, e1, u, e2, e3⟩
                                · refine ⟨nI U, ?_, ?_, U, rfl, by omega⟩
                                  · rw [hsp0 e0, if_pos (Int32.not_le.mp (nI_nm1 (by omega)))]
                                  · rw [e1]
                                    by_cases y0 : nI U ≤ 0
                                    · rw [if_pos y0]
                                      exact (Int32.le_antisymm y0 (nI_pos' (by omega))).symm
                                    · rw [if_neg y0]
                                · rw [← e1, e2]
                                  by_cases y0 : U ≤ u
                                  · exact ⟨nI u, by rw [if_neg (nI_nlt y0 (by omega))], by rw [if_pos (nI_le y0 (by omega))], u, rfl, e3⟩
                                  · exact ⟨nI U, by rw [if_pos (nI_lt (by omega) (by omega))], by rw [if_neg (nI_ge (by omega) (by omega))], U, rfl, by omega⟩
                              obtain ⟨y', ey1, ey2, ey3⟩ := ey
                              rw [ey1] at nc
                              refine mt_iload (pc := 127) dX11_span_127 rfl ?_
                              refine mt_iload (pc := 129) dX11_span_129 rfl ?_
                              refine mt_icmp_le (pc := 131) (tgt := 139) dX11_span_131 (by decide) (fun c131 => ?_) (fun c131 => ?_)
                              · skip
                                rw [if_pos c131] at ey2
                                rw [← ey2] at nc ey3
                                refine mt_iload (pc := 139) dX11_span_139 rfl ?_
                                refine mt_istore (pc := 141) dX11_span_141 (Nat.le_of_ble_eq_true rfl) rfl ?_
                                refine mt_iload (pc := 143) dX11_span_143 rfl ?_
                                refine mt_aload_n (pc := 145) dX11_span_145 rfl ?_
                                refine mt_mget (pc := 146) gf_X11_68 dX11_span_146 hx rfl ?_
                                refine mt_bipush (pc := 149) (v := 16) dX11_span_149 (by decide) ?_
                                refine mt_iload (pc := 151) dX11_span_151 rfl ?_
                                refine mt_iaddN (pc := 153) (a := 16) (b := j) dX11_span_153 rfl rfl ?_
                                refine mt_mald (pc := 154) (i := 206) (j := 16 + j) (x := F (12 + j)) dX11_span_154 hx rfl rfl (by show _ < 91; omega) (v3.2.2.1 j (by omega)) ?_
                                refine mt_if_ne (pc := 155) (tgt := 162) dX11_span_155 (by decide) (fun c155 => ?_) (fun c155 => ?_)
                                · skip
                                  rw [if_neg c155] at nc
                                  refine mt_iconst (pc := 162) (v := 0) dX11_span_162 (by decide) ?_
                                  refine mt_iadd (pc := 163) dX11_span_163 ?_
                                  refine mt_istore (pc := 164) dX11_span_164 (Nat.le_of_ble_eq_true rfl) rfl ?_
                                  refine mt_iinc (pc := 166) (c9 := 1) dX11_span_166 rfl (by decide) (Nat.le_of_ble_eq_true rfl) rfl ?_
                                  refine mt_goto (pc := 169) (tgt := 77) dX11_span_169 (by decide) ?_
                                  rw [show (nI c + 1 : Int32) = nI (c + 1) from nI_1 c]
                                  first
                                    | exact mt_forget 11 (nc ((g2, A2), y) ⟨w1', w2.trans v2, Or.inr ⟨Nat.succ_pos c, rfl, ey3⟩⟩)
                                    | exact mt_forget 11 (nc ((g2, A2), nI U) ⟨w1', w2.trans v2, Or.inr ⟨Nat.succ_pos c, rfl, ey3⟩⟩)
                                · skip
                                  rw [if_pos c155] at nc
                                  refine mt_iconst (pc := 158) (v := 1) dX11_span_158 (by decide) ?_
                                  refine mt_goto (pc := 159) (tgt := 163) dX11_span_159 (by decide) ?_
                                  refine mt_iadd (pc := 163) dX11_span_163 ?_
                                  refine mt_istore (pc := 164) dX11_span_164 (Nat.le_of_ble_eq_true rfl) rfl ?_
                                  refine mt_iinc (pc := 166) (c9 := 1) dX11_span_166 rfl (by decide) (Nat.le_of_ble_eq_true rfl) rfl ?_
                                  refine mt_goto (pc := 169) (tgt := 77) dX11_span_169 (by decide) ?_
                                  rw [show (nI c + 1 : Int32) = nI (c + 1) from nI_1 c]
                                  first
                                    | exact mt_forget 11 (nc ((g2, A2), y) ⟨w1', w2.trans v2, Or.inr ⟨Nat.succ_pos c, rfl, ey3⟩⟩)
                                    | exact mt_forget 11 (nc ((g2, A2), nI U) ⟨w1', w2.trans v2, Or.inr ⟨Nat.succ_pos c, rfl, ey3⟩⟩)
                              · skip
                                rw [if_neg c131] at ey2
                                rw [← ey2] at nc ey3
                                refine mt_iload (pc := 134) dX11_span_134 rfl ?_
                                refine mt_goto (pc := 136) (tgt := 141) dX11_span_136 (by decide) ?_
                                refine mt_istore (pc := 141) dX11_span_141 (Nat.le_of_ble_eq_true rfl) rfl ?_
                                refine mt_iload (pc := 143) dX11_span_143 rfl ?_
                                refine mt_aload_n (pc := 145) dX11_span_145 rfl ?_
                                refine mt_mget (pc := 146) gf_X11_68 dX11_span_146 hx rfl ?_
                                refine mt_bipush (pc := 149) (v := 16) dX11_span_149 (by decide) ?_
                                refine mt_iload (pc := 151) dX11_span_151 rfl ?_
                                refine mt_iaddN (pc := 153) (a := 16) (b := j) dX11_span_153 rfl rfl ?_
                                refine mt_mald (pc := 154) (i := 206) (j := 16 + j) (x := F (12 + j)) dX11_span_154 hx rfl rfl (by show _ < 91; omega) (v3.2.2.1 j (by omega)) ?_
                                refine mt_if_ne (pc := 155) (tgt := 162) dX11_span_155 (by decide) (fun c155 => ?_) (fun c155 => ?_)
                                · skip
                                  rw [if_neg c155] at nc
                                  refine mt_iconst (pc := 162) (v := 0) dX11_span_162 (by decide) ?_
                                  refine mt_iadd (pc := 163) dX11_span_163 ?_
                                  refine mt_istore (pc := 164) dX11_span_164 (Nat.le_of_ble_eq_true rfl) rfl ?_
                                  refine mt_iinc (pc := 166) (c9 := 1) dX11_span_166 rfl (by decide) (Nat.le_of_ble_eq_true rfl) rfl ?_
                                  refine mt_goto (pc := 169) (tgt := 77) dX11_span_169 (by decide) ?_
                                  rw [show (nI c + 1 : Int32) = nI (c + 1) from nI_1 c]
                                  first
                                    | exact mt_forget 11 (nc ((g2, A2), y) ⟨w1', w2.trans v2, Or.inr ⟨Nat.succ_pos c, rfl, ey3⟩⟩)
                                    | exact mt_forget 11 (nc ((g2, A2), nI U) ⟨w1', w2.trans v2, Or.inr ⟨Nat.succ_pos c, rfl, ey3⟩⟩)
                                · skip
                                  rw [if_pos c155] at nc
                                  refine mt_iconst (pc := 158) (v := 1) dX11_span_158 (by decide) ?_
                                  refine mt_goto (pc := 159) (tgt := 163) dX11_span_159 (by decide) ?_
                                  refine mt_iadd (pc := 163) dX11_span_163 ?_
                                  refine mt_istore (pc := 164) dX11_span_164 (Nat.le_of_ble_eq_true rfl) rfl ?_
                                  refine mt_iinc (pc := 166) (c9 := 1) dX11_span_166 rfl (by decide) (Nat.le_of_ble_eq_true rfl) rfl ?_
                                  refine mt_goto (pc := 169) (tgt := 77) dX11_span_169 (by decide) ?_
                                  rw [show (nI c + 1 : Int32) = nI (c + 1) from nI_1 c]
                                  first
                                    | exact mt_forget 11 (nc ((g2, A2), y) ⟨w1', w2.trans v2, Or.inr ⟨Nat.succ_pos c, rfl, ey3⟩⟩)
                                    | exact mt_forget 11 (nc ((g2, A2), nI U) ⟨w1', w2.trans v2, Or.inr ⟨Nat.succ_pos c, rfl, ey3⟩⟩)
                            · skip
                              rw [if_neg c108] at nc
                              refine mt_iload (pc := 111) dX11_span_111 rfl ?_
                              refine mt_iload (pc := 113) dX11_span_113 rfl ?_
                              refine mt_icmp_ge (pc := 115) (tgt := 123) dX11_span_115 (by decide) (fun c115 => ?_) (fun c115 => ?_)
                              · skip
                                rw [if_neg (Int32.not_lt.mpr c115)] at nc
                                refine mt_iload (pc := 123) dX11_span_123 rfl ?_
                                refine mt_istore (pc := 125) dX11_span_125 (Nat.le_of_ble_eq_true rfl) rfl ?_
                                have ey : ∃ y', ((if s.2.1 < nI U then nI U else s.2.1) = y') ∧ (if nI U ≤ y then y else nI U) = y' ∧ ∃ u, y' = nI u ∧ u < 10000 := by
                                  rcases w3 with ⟨e0, e1⟩ | ⟨e0, e1, u, e2, e3⟩
                                  · refine ⟨nI U, ?_, ?_, U, rfl, by omega⟩
                                    · rw [hsp0 e0, if_pos (Int32.not_le.mp (nI_nm1 (by omega)))]
                                    · rw [e1]
                                      by_cases y0 : nI U ≤ 0
                                      · rw [if_pos y0]
                                        exact (Int32.le_antisymm y0 (nI_pos' (by omega))).symm
                                      · rw [if_neg y0]
                                  · rw [← e1, e2]
                                    by_cases y0 : U ≤ u
                                    · exact ⟨nI u, by rw [if_neg (nI_nlt y0 (by omega))], by rw [if_pos (nI_le y0 (by omega))], u, rfl, e3⟩
                                    · exact ⟨nI U, by rw [if_pos (nI_lt (by omega) (by omega))], by rw [if_neg (nI_ge (by omega) (by omega))], U, rfl, by omega⟩
                                obtain ⟨y', ey1, ey2, ey3⟩ := ey
                                rw [ey1] at nc
                                refine mt_iload (pc := 127) dX11_span_127 rfl ?_
                                refine mt_iload (pc := 129) dX11_span_129 rfl ?_
                                refine mt_icmp_le (pc := 131) (tgt := 139) dX11_span_131 (by decide) (fun c131 => ?_) (fun c131 => ?_)
                                · skip
                                  rw [if_pos c131] at ey2
                                  rw [← ey2] at nc ey3
                                  refine mt_iload (pc := 139) dX11_span_139 rfl ?_
                                  refine mt_istore (pc := 141) dX11_span_141 (Nat.le_of_ble_eq_true rfl) rfl ?_
                                  refine mt_iload (pc := 143) dX11_span_143 rfl ?_
                                  refine mt_aload_n (pc := 145) dX11_span_145 rfl ?_
                                  refine mt_mget (pc := 146) gf_X11_68 dX11_span_146 hx rfl ?_
                                  refine mt_bipush (pc := 149) (v := 16) dX11_span_149 (by decide) ?_
                                  refine mt_iload (pc := 151) dX11_span_151 rfl ?_
                                  refine mt_iaddN (pc := 153) (a := 16) (b := j) dX11_span_153 rfl rfl ?_
                                  refine mt_mald (pc := 154) (i := 206) (j := 16 + j) (x := F (12 + j)) dX11_span_154 hx rfl rfl (by show _ < 91; omega) (v3.2.2.1 j (by omega)) ?_
                                  refine mt_if_ne (pc := 155) (tgt := 162) dX11_span_155 (by decide) (fun c155 => ?_) (fun c155 => ?_)
                                  · skip
                                    rw [if_neg c155] at nc
                                    refine mt_iconst (pc := 162) (v := 0) dX11_span_162 (by decide) ?_
                                    refine mt_iadd (pc := 163) dX11_span_163 ?_
                                    refine mt_istore (pc := 164) dX11_span_164 (Nat.le_of_ble_eq_true rfl) rfl ?_
                                    refine mt_iinc (pc := 166) (c9 := 1) dX11_span_166 rfl (by decide) (Nat.le_of_ble_eq_true rfl) rfl ?_
                                    refine mt_goto (pc := 169) (tgt := 77) dX11_span_169 (by decide) ?_
                                    rw [show (nI c + 1 : Int32) = nI (c + 1) from nI_1 c]
                                    first
                                      | exact mt_forget 11 (nc ((g2, A2), y) ⟨w1', w2.trans v2, Or.inr ⟨Nat.succ_pos c, rfl, ey3⟩⟩)
                                      | exact mt_forget 11 (nc ((g2, A2), nI U) ⟨w1', w2.trans v2, Or.inr ⟨Nat.succ_pos c, rfl, ey3⟩⟩)
                                  · skip
                                    rw [if_pos c155] at nc
                                    refine mt_iconst (pc := 158) (v := 1) dX11_span_158 (by decide) ?_
                                    refine mt_goto (pc := 159) (tgt := 163) dX11_span_159 (by decide) ?_
                                    refine mt_iadd (pc := 163) dX11_span_163 ?_
                                    refine mt_istore (pc := 164) dX11_span_164 (Nat.le_of_ble_eq_true rfl) rfl ?_
                                    refine mt_iinc (pc := 166) (c9 := 1) dX11_span_166 rfl (by decide) (Nat.le_of_ble_eq_true rfl) rfl ?_
                                    refine mt_goto (pc := 169) (tgt := 77) dX11_span_169 (by decide) ?_
                                    rw [show (nI c + 1 : Int32) = nI (c + 1) from nI_1 c]
                                    first
                                      | exact mt_forget 11 (nc ((g2, A2), y) ⟨w1', w2.trans v2, Or.inr ⟨Nat.succ_pos c, rfl, ey3⟩⟩)
                                      | exact mt_forget 11 (nc ((g2, A2), nI U) ⟨w1', w2.trans v2, Or.inr ⟨Nat.succ_pos c, rfl, ey3⟩⟩)
                                · skip
                                  rw [if_neg c131] at ey2
                                  rw [← ey2] at nc ey3
                                  refine mt_iload (pc := 134) dX11_span_134 rfl ?_
                                  refine mt_goto (pc := 136) (tgt := 141) dX11_span_136 (by decide) ?_
                                  refine mt_istore (pc := 141) dX11_span_141 (Nat.le_of_ble_eq_true rfl) rfl ?_
                                  refine mt_iload (pc := 143) dX11_span_143 rfl ?_
                                  refine mt_aload_n (pc := 145) dX11_span_145 rfl ?_
                                  refine mt_mget (pc := 146) gf_X11_68 dX11_span_146 hx rfl ?_
                                  refine mt_bipush (pc := 149) (v := 16) dX11_span_149 (by decide) ?_
                                  refine mt_iload (pc := 151) dX11_span_151 rfl ?_
                                  refine mt_iaddN (pc := 153) (a := 16) (b := j) dX11_span_153 rfl rfl ?_
                                  refine mt_mald (pc := 154) (i := 206) (j := 16 + j) (x := F (12 + j)) dX11_span_154 hx rfl rfl (by show _ < 91; omega) (v3.2.2.1 j (by omega)) ?_
                                  refine mt_if_ne (pc := 155) (tgt := 162) dX11_span_155 (by decide) (fun c155 => ?_) (fun c155 => ?_)
                                  · skip
                                    rw [if_neg c155] at nc
                                    refine mt_iconst (pc := 162) (v := 0) dX11_span_162 (by decide) ?_
                                    refine mt_iadd (pc := 163) dX11_span_163 ?_
                                    refine mt_istore (pc := 164) dX11_span_164 (Nat.le_of_ble_eq_true rfl) rfl ?_
                                    refine mt_iinc (pc := 166) (c9 := 1) dX11_span_166 rfl (by decide) (Nat.le_of_ble_eq_true rfl) rfl ?_
                                    refine mt_goto (pc := 169) (tgt := 77) dX11_span_169 (by decide) ?_
                                    rw [show (nI c + 1 : Int32) = nI (c + 1) from nI_1 c]
                                    first
                                      | exact mt_forget 11 (nc ((g2, A2), y) ⟨w1', w2.trans v2, Or.inr ⟨Nat.succ_pos c, rfl, ey3⟩⟩)
                                      | exact mt_forget 11 (nc ((g2, A2), nI U) ⟨w1', w2.trans v2, Or.inr ⟨Nat.succ_pos c, rfl, ey3⟩⟩)
                                  · skip
                                    rw [if_pos c155] at nc
                                    refine mt_iconst (pc := 158) (v := 1) dX11_span_158 (by decide) ?_
                                    refine mt_goto (pc := 159) (tgt := 163) dX11_span_159 (by decide) ?_
                                    refine mt_iadd (pc := 163) dX11_span_163 ?_
                                    refine mt_istore (pc := 164) dX11_span_164 (Nat.le_of_ble_eq_true rfl) rfl ?_
                                    refine mt_iinc (pc := 166) (c9 := 1) dX11_span_166 rfl (by decide) (Nat.le_of_ble_eq_true rfl) rfl ?_
                                    refine mt_goto (pc := 169) (tgt := 77) dX11_span_169 (by decide) ?_
                                    rw [show (nI c + 1 : Int32) = nI (c + 1) from nI_1 c]
                                    first
                                      | exact mt_forget 11 (nc ((g2, A2), y) ⟨w1', w2.trans v2, Or.inr ⟨Nat.succ_pos c, rfl, ey3⟩⟩)
                                      | exact mt_forget 11 (nc ((g2, A2), nI U) ⟨w1', w2.trans v2, Or.inr ⟨Nat.succ_pos c, rfl, ey3⟩⟩)
                              · skip
                                rw [if_pos (Int32.not_le.mp c115)] at nc
                                refine mt_iload (pc := 118) dX11_span_118 rfl ?_
                                refine mt_goto (pc := 120) (tgt := 125) dX11_span_120 (by decide) ?_
                                refine mt_istore (pc := 125) dX11_span_125 (Nat.le_of_ble_eq_true rfl) rfl ?_
                                have ey : ∃ y', ((if s.2.1 < nI U then nI U else s.2.1) = y') ∧ (if nI U ≤ y then y else nI U) = y' ∧ ∃ u, y' = nI u ∧ u < 10000 := by
                                  rcases w3 with ⟨e0, e1⟩ | ⟨e0, e1, u, e2, e3⟩
                                  · refine ⟨nI U, ?_, ?_, U, rfl, by omega⟩
                                    · rw [hsp0 e0, if_pos (Int32.not_le.mp (nI_nm1 (by omega)))]
                                    · rw [e1]
                                      by_cases y0 : nI U ≤ 0
                                      · rw [if_pos y0]
                                        exact (Int32.le_antisymm y0 (nI_pos' (by omega))).symm
                                      · rw [if_neg y0]
                                  · rw [← e1, e2]
                                    by_cases y0 : U ≤ u
                                    · exact ⟨nI u, by rw [if_neg (nI_nlt y0 (by omega))], by rw [if_pos (nI_le y0 (by omega))], u, rfl, e3⟩
                                    · exact ⟨nI U, by rw [if_pos (nI_lt (by omega) (by omega))], by rw [if_neg (nI_ge (by omega) (by omega))], U, rfl, by omega⟩
                                obtain ⟨y', ey1, ey2, ey3⟩ := ey
                                rw [ey1] at nc
                                refine mt_iload (pc := 127) dX11_span_127 rfl ?_
                                refine mt_iload (pc := 129) dX11_span_129 rfl ?_
                                refine mt_icmp_le (pc := 131) (tgt := 139) dX11_span_131 (by decide) (fun c131 => ?_) (fun c131 => ?_)
                                · skip
                                  rw [if_pos c131] at ey2
                                  rw [← ey2] at nc ey3
                                  refine mt_iload (pc := 139) dX11_span_139 rfl ?_
                                  refine mt_istore (pc := 141) dX11_span_141 (Nat.le_of_ble_eq_true rfl) rfl ?_
                                  refine mt_iload (pc := 143) dX11_span_143 rfl ?_
                                  refine mt_aload_n (pc := 145) dX11_span_145 rfl ?_
                                  refine mt_mget (pc := 146) gf_X11_68 dX11_span_146 hx rfl ?_
                                  refine mt_bipush (pc := 149) (v := 16) dX11_span_149 (by decide) ?_
                                  refine mt_iload (pc := 151) dX11_span_151 rfl ?_
                                  refine mt_iaddN (pc := 153) (a := 16) (b := j) dX11_span_153 rfl rfl ?_
                                  refine mt_mald (pc := 154) (i := 206) (j := 16 + j) (x := F (12 + j)) dX11_span_154 hx rfl rfl (by show _ < 91; omega) (v3.2.2.1 j (by omega)) ?_
                                  refine mt_if_ne (pc := 155) (tgt := 162) dX11_span_155 (by decide) (fun c155 => ?_) (fun c155 => ?_)
                                  · skip
                                    rw [if_neg c155] at nc
                                    refine mt_iconst (pc := 162) (v := 0) dX11_span_162 (by decide) ?_
                                    refine mt_iadd (pc := 163) dX11_span_163 ?_
                                    refine mt_istore (pc := 164) dX11_span_164 (Nat.le_of_ble_eq_true rfl) rfl ?_
                                    refine mt_iinc (pc := 166) (c9 := 1) dX11_span_166 rfl (by decide) (Nat.le_of_ble_eq_true rfl) rfl ?_
                                    refine mt_goto (pc := 169) (tgt := 77) dX11_span_169 (by decide) ?_
                                    rw [show (nI c + 1 : Int32) = nI (c + 1) from nI_1 c]
                                    first
                                      | exact mt_forget 11 (nc ((g2, A2), y) ⟨w1', w2.trans v2, Or.inr ⟨Nat.succ_pos c, rfl, ey3⟩⟩)
                                      | exact mt_forget 11 (nc ((g2, A2), nI U) ⟨w1', w2.trans v2, Or.inr ⟨Nat.succ_pos c, rfl, ey3⟩⟩)
                                  · skip
                                    rw [if_pos c155] at nc
                                    refine mt_iconst (pc := 158) (v := 1) dX11_span_158 (by decide) ?_
                                    refine mt_goto (pc := 159) (tgt := 163) dX11_span_159 (by decide) ?_
                                    refine mt_iadd (pc := 163) dX11_span_163 ?_
                                    refine mt_istore (pc := 164) dX11_span_164 (Nat.le_of_ble_eq_true rfl) rfl ?_
                                    refine mt_iinc (pc := 166) (c9 := 1) dX11_span_166 rfl (by decide) (Nat.le_of_ble_eq_true rfl) rfl ?_
                                    refine mt_goto (pc := 169) (tgt := 77) dX11_span_169 (by decide) ?_
                                    rw [show (nI c + 1 : Int32) = nI (c + 1) from nI_1 c]
                                    first
                                      | exact mt_forget 11 (nc ((g2, A2), y) ⟨w1', w2.trans v2, Or.inr ⟨Nat.succ_pos c, rfl, ey3⟩⟩)
                                      | exact mt_forget 11 (nc ((g2, A2), nI U) ⟨w1', w2.trans v2, Or.inr ⟨Nat.succ_pos c, rfl, ey3⟩⟩)
                                · skip
                                  rw [if_neg c131] at ey2
                                  rw [← ey2] at nc ey3
                                  refine mt_iload (pc := 134) dX11_span_134 rfl ?_
                                  refine mt_goto (pc := 136) (tgt := 141) dX11_span_136 (by decide) ?_
                                  refine mt_istore (pc := 141) dX11_span_141 (Nat.le_of_ble_eq_true rfl) rfl ?_
                                  refine mt_iload (pc := 143) dX11_span_143 rfl ?_
                                  refine mt_aload_n (pc := 145) dX11_span_145 rfl ?_
                                  refine mt_mget (pc := 146) gf_X11_68 dX11_span_146 hx rfl ?_
                                  refine mt_bipush (pc := 149) (v := 16) dX11_span_149 (by decide) ?_
                                  refine mt_iload (pc := 151) dX11_span_151 rfl ?_
                                  refine mt_iaddN (pc := 153) (a := 16) (b := j) dX11_span_153 rfl rfl ?_
                                  refine mt_mald (pc := 154) (i := 206) (j := 16 + j) (x := F (12 + j)) dX11_span_154 hx rfl rfl (by show _ < 91; omega) (v3.2.2.1 j (by omega)) ?_
                                  refine mt_if_ne (pc := 155) (tgt := 162) dX11_span_155 (by decide) (fun c155 => ?_) (fun c155 => ?_)
                                  · skip
                                    rw [if_neg c155] at nc
                                    refine mt_iconst (pc := 162) (v := 0) dX11_span_162 (by decide) ?_
                                    refine mt_iadd (pc := 163) dX11_span_163 ?_
                                    refine mt_istore (pc := 164) dX11_span_164 (Nat.le_of_ble_eq_true rfl) rfl ?_
                                    refine mt_iinc (pc := 166) (c9 := 1) dX11_span_166 rfl (by decide) (Nat.le_of_ble_eq_true rfl) rfl ?_
                                    refine mt_goto (pc := 169) (tgt := 77) dX11_span_169 (by decide) ?_
                                    rw [show (nI c + 1 : Int32) = nI (c + 1) from nI_1 c]
                                    first
                                      | exact mt_forget 11 (nc ((g2, A2), y) ⟨w1', w2.trans v2, Or.inr ⟨Nat.succ_pos c, rfl, ey3⟩⟩)
                                      | exact mt_forget 11 (nc ((g2, A2), nI U) ⟨w1', w2.trans v2, Or.inr ⟨Nat.succ_pos c, rfl, ey3⟩⟩)
                                  · skip
                                    rw [if_pos c155] at nc
                                    refine mt_iconst (pc := 158) (v := 1) dX11_span_158 (by decide) ?_
                                    refine mt_goto (pc := 159) (tgt := 163) dX11_span_159 (by decide) ?_
                                    refine mt_iadd (pc := 163) dX11_span_163 ?_
                                    refine mt_istore (pc := 164) dX11_span_164 (Nat.le_of_ble_eq_true rfl) rfl ?_
                                    refine mt_iinc (pc := 166) (c9 := 1) dX11_span_166 rfl (by decide) (Nat.le_of_ble_eq_true rfl) rfl ?_
                                    refine mt_goto (pc := 169) (tgt := 77) dX11_span_169 (by decide) ?_
                                    rw [show (nI c + 1 : Int32) = nI (c + 1) from nI_1 c]
                                    first
                                      | exact mt_forget 11 (nc ((g2, A2), y) ⟨w1', w2.trans v2, Or.inr ⟨Nat.succ_pos c, rfl, ey3⟩⟩)
                                      | exact mt_forget 11 (nc ((g2, A2), nI U) ⟨w1', w2.trans v2, Or.inr ⟨Nat.succ_pos c, rfl, ey3⟩⟩)
                      · skip
                        obtain ⟨⟨g1, A1⟩, y⟩ := w
                        obtain ⟨w1, w2, w3⟩ := fc
                        dsimp only at w1 w2 w3 ⊢
                        have ey : y = (spnF k cs f z q n j m).2.1 := w3.elim (fun z => by omega) (fun z => z.2.1)
                        rw [ey]
                        refine mt_iload (pc := 77) dX11_span_77 rfl ?_
                        refine mt_iload_n (pc := 79) dX11_span_79 rfl ?_
                        refine mt_icmp_ge (pc := 80) (tgt := 172) dX11_span_80 (by decide) (fun c80 => ?_) (fun c80 => ?_)
                        · skip
                          refine mt_iload (pc := 172) dX11_span_172 rfl ?_
                          refine mt_if_ne (pc := 174) (tgt := 182) dX11_span_174 (by decide) (fun c174 => ?_) (fun c174 => ?_)
                          · skip
                            refine mt_iload (pc := 182) dX11_span_182 rfl ?_
                            refine mt_iconst (pc := 184) (v := 1) dX11_span_184 (by decide) ?_
                            refine mt_icmp_ne (pc := 185) (tgt := 193) dX11_span_185 (by decide) (fun c185 => ?_) (fun c185 => ?_)
                            · skip
                              refine mt_iload (pc := 193) dX11_span_193 rfl ?_
                              exact mt_iret rfl dX11_span_195 (Nat.le_of_ble_eq_true rfl) (Nat.le_of_ble_eq_true rfl) (P_mqv (c0 := 1) (c1 := 1) (r := r) (by rw [hr, if_neg c174, if_neg c185]) (GQ_48 w1) w2.aq)
                            · skip
                              refine mt_iload (pc := 188) dX11_span_188 rfl ?_
                              refine mt_goto (pc := 190) (tgt := 195) dX11_span_190 (by decide) ?_
                              exact mt_iret rfl dX11_span_195 (Nat.le_of_ble_eq_true rfl) (Nat.le_of_ble_eq_true rfl) (P_mqv (c0 := 1) (c1 := 1) (r := r) (by rw [hr, if_neg c174, if_pos c185]) (GQ_48 w1) w2.aq)
                          · skip
                            refine mt_iload (pc := 177) dX11_span_177 rfl ?_
                            refine mt_goto (pc := 179) (tgt := 195) dX11_span_179 (by decide) ?_
                            exact mt_iret rfl dX11_span_195 (Nat.le_of_ble_eq_true rfl) (Nat.le_of_ble_eq_true rfl) (P_mqv (c0 := 1) (c1 := 1) (r := r) (by rw [hr, if_pos c174]) (GQ_48 w1) w2.aq)
                        · exact absurd (nI_le (Nat.le_refl _) (by first | omega | decide)) c80
                    · exact absurd c60 (by decide)
          · rw [if_neg hp]
            refine mm_start (lo := [some (.ref 188), some (.int z), some (.int mm), some (.int q), some (.int nn), some (.int x), some (.int a), none, none, none, none, none]) pn_X11 rfl rfl (Nat.le_of_ble_eq_true rfl) ?_
            refine mt_aload_n (pc := 0) dX11_span_0 rfl ?_
            refine mt_iconst (pc := 1) (v := 0) dX11_span_1 (by decide) ?_
            refine mt_mput (pc := 2) pf_X11_3 dX11_span_2 hx rfl ?_
            refine mt_aload_n (pc := 5) dX11_span_5 rfl ?_
            refine mt_iload_n (pc := 6) dX11_span_6 rfl ?_
            refine mt_iconst (pc := 7) (v := 1) dX11_span_7 (by decide) ?_
            refine mt_bipush (pc := 8) (v := 20) dX11_span_8 (by decide) ?_
            refine mt_cS (pc := 10) (n_within) cal_X11_within sta_X11_within ml_X11_348 dX11_span_10 (by first | assumption | (show _ ≤ d; omega)) ⟨(Nat.le_of_ble_eq_true rfl), (Nat.le_of_ble_eq_true rfl)⟩ rfl rfl (Nat.le_of_ble_eq_true rfl) ?_
            rw [in_w h0]
            refine mt_if_eq (pc := 13) (tgt := 54) dX11_span_13 (by decide) (fun c13 => ?_) (fun c13 => ?_)
            · exact absurd c13 (by decide)
            · skip
              refine mt_iload_n (pc := 16) dX11_span_16 rfl ?_
              refine mt_iload (pc := 17) dX11_span_17 rfl ?_
              refine mt_cS (pc := 19) (n_isWinter) cal_X11_isWinter sta_X11_isWinter ml_X11_419 dX11_span_19 (by first | assumption | (show _ ≤ d; omega)) ⟨(Nat.le_of_ble_eq_true rfl), (Nat.le_of_ble_eq_true rfl)⟩ rfl rfl (Nat.le_of_ble_eq_true rfl) ?_
              rw [iw_1 h1 h2]
              refine mt_if_eq (pc := 22) (tgt := 54) dX11_span_22 (by decide) (fun c22 => ?_) (fun c22 => ?_)
              · exact absurd c22 (by decide)
              · skip
                refine mt_iload (pc := 25) dX11_span_25 rfl ?_
                refine mt_iconst (pc := 27) (v := 0) dX11_span_27 (by decide) ?_
                refine mt_iconst (pc := 28) (v := 2) dX11_span_28 (by decide) ?_
                refine mt_cS (pc := 29) (n_within) cal_X11_within sta_X11_within ml_X11_348 dX11_span_29 (by first | assumption | (show _ ≤ d; omega)) ⟨(Nat.le_of_ble_eq_true rfl), (Nat.le_of_ble_eq_true rfl)⟩ rfl rfl (Nat.le_of_ble_eq_true rfl) ?_
                rw [in_w h3]
                refine mt_if_eq (pc := 32) (tgt := 54) dX11_span_32 (by decide) (fun c32 => ?_) (fun c32 => ?_)
                · exact absurd c32 (by decide)
                · skip
                  refine mt_iload (pc := 35) dX11_span_35 rfl ?_
                  refine mt_iconst (pc := 37) (v := 0) dX11_span_37 (by decide) ?_
                  refine mt_aload_n (pc := 38) dX11_span_38 rfl ?_
                  refine mt_mgetI (pc := 39) (x := nI k.2.1) gf_X11_157 dX11_span_39 hx rfl h19 ?_
                  refine mt_iconst (pc := 42) (v := 1) dX11_span_42 (by decide) ?_
                  refine mt_isub (pc := 43) dX11_span_43 ?_
                  refine mt_cS (pc := 44) (n_within) cal_X11_within sta_X11_within ml_X11_348 dX11_span_44 (by first | assumption | (show _ ≤ d; omega)) ⟨(Nat.le_of_ble_eq_true rfl), (Nat.le_of_ble_eq_true rfl)⟩ rfl rfl (Nat.le_of_ble_eq_true rfl) ?_
                  rw [in_nwR (by omega) hp]
                  refine mt_if_eq (pc := 47) (tgt := 54) dX11_span_47 (by decide) (fun c47 => ?_) (fun c47 => ?_)
                  · skip
                    refine mt_iconst (pc := 54) (v := 0) dX11_span_54 (by decide) ?_
                    refine mt_iconst (pc := 55) (v := 1) dX11_span_55 (by decide) ?_
                    refine mt_iconst (pc := 56) (v := 1) dX11_span_56 (by decide) ?_
                    refine mt_cV (pc := 57) (n_mayN (d := 0) (q := 1) hx (by decide) rfl rfl (by decide)) cal_X11_may vir_X11_may ml_X11_190 dX11_span_57 (by omega) (mos_o _ _ _) (by first | assumption | (show _ ≤ d; omega)) ⟨(Nat.le_of_ble_eq_true rfl), (Nat.le_of_ble_eq_true rfl)⟩ rfl rfl (Nat.le_of_ble_eq_true rfl) ?_
                    refine mt_if_ne (pc := 60) (tgt := 65) dX11_span_60 (by decide) (fun c60 => ?_) (fun c60 => ?_)
                    · exact absurd rfl c60
                    · skip
                      refine mt_iconst (pc := 63) (v := 0) dX11_span_63 (by decide) ?_
                      exact mt_iret rfl dX11_span_64 (Nat.le_of_ble_eq_true rfl) (Nat.le_of_ble_eq_true rfl) (P_mq1 (c0 := 1) (c1 := 1) (r := .inl 1) rfl)
                  · exact absurd rfl c47
        · rw [ifR_n h3]
          refine mm_start (lo := [some (.ref 188), some (.int z), some (.int mm), some (.int q), some (.int nn), some (.int x), some (.int a), none, none, none, none, none]) pn_X11 rfl rfl (Nat.le_of_ble_eq_true rfl) ?_
          refine mt_aload_n (pc := 0) dX11_span_0 rfl ?_
          refine mt_iconst (pc := 1) (v := 0) dX11_span_1 (by decide) ?_
          refine mt_mput (pc := 2) pf_X11_3 dX11_span_2 hx rfl ?_
          refine mt_aload_n (pc := 5) dX11_span_5 rfl ?_
          refine mt_iload_n (pc := 6) dX11_span_6 rfl ?_
          refine mt_iconst (pc := 7) (v := 1) dX11_span_7 (by decide) ?_
          refine mt_bipush (pc := 8) (v := 20) dX11_span_8 (by decide) ?_
          refine mt_cS (pc := 10) (n_within) cal_X11_within sta_X11_within ml_X11_348 dX11_span_10 (by first | assumption | (show _ ≤ d; omega)) ⟨(Nat.le_of_ble_eq_true rfl), (Nat.le_of_ble_eq_true rfl)⟩ rfl rfl (Nat.le_of_ble_eq_true rfl) ?_
          rw [in_w h0]
          refine mt_if_eq (pc := 13) (tgt := 54) dX11_span_13 (by decide) (fun c13 => ?_) (fun c13 => ?_)
          · exact absurd c13 (by decide)
          · skip
            refine mt_iload_n (pc := 16) dX11_span_16 rfl ?_
            refine mt_iload (pc := 17) dX11_span_17 rfl ?_
            refine mt_cS (pc := 19) (n_isWinter) cal_X11_isWinter sta_X11_isWinter ml_X11_419 dX11_span_19 (by first | assumption | (show _ ≤ d; omega)) ⟨(Nat.le_of_ble_eq_true rfl), (Nat.le_of_ble_eq_true rfl)⟩ rfl rfl (Nat.le_of_ble_eq_true rfl) ?_
            rw [iw_1 h1 h2]
            refine mt_if_eq (pc := 22) (tgt := 54) dX11_span_22 (by decide) (fun c22 => ?_) (fun c22 => ?_)
            · exact absurd c22 (by decide)
            · skip
              refine mt_iload (pc := 25) dX11_span_25 rfl ?_
              refine mt_iconst (pc := 27) (v := 0) dX11_span_27 (by decide) ?_
              refine mt_iconst (pc := 28) (v := 2) dX11_span_28 (by decide) ?_
              refine mt_cS (pc := 29) (n_within) cal_X11_within sta_X11_within ml_X11_348 dX11_span_29 (by first | assumption | (show _ ≤ d; omega)) ⟨(Nat.le_of_ble_eq_true rfl), (Nat.le_of_ble_eq_true rfl)⟩ rfl rfl (Nat.le_of_ble_eq_true rfl) ?_
              rw [in_nw h3]
              refine mt_if_eq (pc := 32) (tgt := 54) dX11_span_32 (by decide) (fun c32 => ?_) (fun c32 => ?_)
              · skip
                refine mt_iconst (pc := 54) (v := 0) dX11_span_54 (by decide) ?_
                refine mt_iconst (pc := 55) (v := 1) dX11_span_55 (by decide) ?_
                refine mt_iconst (pc := 56) (v := 1) dX11_span_56 (by decide) ?_
                refine mt_cV (pc := 57) (n_mayN (d := 0) (q := 1) hx (by decide) rfl rfl (by decide)) cal_X11_may vir_X11_may ml_X11_190 dX11_span_57 (by omega) (mos_o _ _ _) (by first | assumption | (show _ ≤ d; omega)) ⟨(Nat.le_of_ble_eq_true rfl), (Nat.le_of_ble_eq_true rfl)⟩ rfl rfl (Nat.le_of_ble_eq_true rfl) ?_
                refine mt_if_ne (pc := 60) (tgt := 65) dX11_span_60 (by decide) (fun c60 => ?_) (fun c60 => ?_)
                · exact absurd rfl c60
                · skip
                  refine mt_iconst (pc := 63) (v := 0) dX11_span_63 (by decide) ?_
                  exact mt_iret rfl dX11_span_64 (Nat.le_of_ble_eq_true rfl) (Nat.le_of_ble_eq_true rfl) (P_mq1 (c0 := 1) (c1 := 1) (r := .inl 1) rfl)
              · exact absurd rfl c32
      · rw [ifR_n h2]
        refine mm_start (lo := [some (.ref 188), some (.int z), some (.int mm), some (.int q), some (.int nn), some (.int x), some (.int a), none, none, none, none, none]) pn_X11 rfl rfl (Nat.le_of_ble_eq_true rfl) ?_
        refine mt_aload_n (pc := 0) dX11_span_0 rfl ?_
        refine mt_iconst (pc := 1) (v := 0) dX11_span_1 (by decide) ?_
        refine mt_mput (pc := 2) pf_X11_3 dX11_span_2 hx rfl ?_
        refine mt_aload_n (pc := 5) dX11_span_5 rfl ?_
        refine mt_iload_n (pc := 6) dX11_span_6 rfl ?_
        refine mt_iconst (pc := 7) (v := 1) dX11_span_7 (by decide) ?_
        refine mt_bipush (pc := 8) (v := 20) dX11_span_8 (by decide) ?_
        refine mt_cS (pc := 10) (n_within) cal_X11_within sta_X11_within ml_X11_348 dX11_span_10 (by first | assumption | (show _ ≤ d; omega)) ⟨(Nat.le_of_ble_eq_true rfl), (Nat.le_of_ble_eq_true rfl)⟩ rfl rfl (Nat.le_of_ble_eq_true rfl) ?_
        rw [in_w h0]
        refine mt_if_eq (pc := 13) (tgt := 54) dX11_span_13 (by decide) (fun c13 => ?_) (fun c13 => ?_)
        · exact absurd c13 (by decide)
        · skip
          refine mt_iload_n (pc := 16) dX11_span_16 rfl ?_
          refine mt_iload (pc := 17) dX11_span_17 rfl ?_
          refine mt_cS (pc := 19) (n_isWinter) cal_X11_isWinter sta_X11_isWinter ml_X11_419 dX11_span_19 (by first | assumption | (show _ ≤ d; omega)) ⟨(Nat.le_of_ble_eq_true rfl), (Nat.le_of_ble_eq_true rfl)⟩ rfl rfl (Nat.le_of_ble_eq_true rfl) ?_
          rw [iw_0 (fun y => h2 y.2)]
          refine mt_if_eq (pc := 22) (tgt := 54) dX11_span_22 (by decide) (fun c22 => ?_) (fun c22 => ?_)
          · skip
            refine mt_iconst (pc := 54) (v := 0) dX11_span_54 (by decide) ?_
            refine mt_iconst (pc := 55) (v := 1) dX11_span_55 (by decide) ?_
            refine mt_iconst (pc := 56) (v := 1) dX11_span_56 (by decide) ?_
            refine mt_cV (pc := 57) (n_mayN (d := 0) (q := 1) hx (by decide) rfl rfl (by decide)) cal_X11_may vir_X11_may ml_X11_190 dX11_span_57 (by omega) (mos_o _ _ _) (by first | assumption | (show _ ≤ d; omega)) ⟨(Nat.le_of_ble_eq_true rfl), (Nat.le_of_ble_eq_true rfl)⟩ rfl rfl (Nat.le_of_ble_eq_true rfl) ?_
            refine mt_if_ne (pc := 60) (tgt := 65) dX11_span_60 (by decide) (fun c60 => ?_) (fun c60 => ?_)
            · exact absurd rfl c60
            · skip
              refine mt_iconst (pc := 63) (v := 0) dX11_span_63 (by decide) ?_
              exact mt_iret rfl dX11_span_64 (Nat.le_of_ble_eq_true rfl) (Nat.le_of_ble_eq_true rfl) (P_mq1 (c0 := 1) (c1 := 1) (r := .inl 1) rfl)
          · exact absurd rfl c22
    · rw [ifR_n h1]
      refine mm_start (lo := [some (.ref 188), some (.int z), some (.int mm), some (.int q), some (.int nn), some (.int x), some (.int a), none, none, none, none, none]) pn_X11 rfl rfl (Nat.le_of_ble_eq_true rfl) ?_
      refine mt_aload_n (pc := 0) dX11_span_0 rfl ?_
      refine mt_iconst (pc := 1) (v := 0) dX11_span_1 (by decide) ?_
      refine mt_mput (pc := 2) pf_X11_3 dX11_span_2 hx rfl ?_
      refine mt_aload_n (pc := 5) dX11_span_5 rfl ?_
      refine mt_iload_n (pc := 6) dX11_span_6 rfl ?_
      refine mt_iconst (pc := 7) (v := 1) dX11_span_7 (by decide) ?_
      refine mt_bipush (pc := 8) (v := 20) dX11_span_8 (by decide) ?_
      refine mt_cS (pc := 10) (n_within) cal_X11_within sta_X11_within ml_X11_348 dX11_span_10 (by first | assumption | (show _ ≤ d; omega)) ⟨(Nat.le_of_ble_eq_true rfl), (Nat.le_of_ble_eq_true rfl)⟩ rfl rfl (Nat.le_of_ble_eq_true rfl) ?_
      rw [in_w h0]
      refine mt_if_eq (pc := 13) (tgt := 54) dX11_span_13 (by decide) (fun c13 => ?_) (fun c13 => ?_)
      · exact absurd c13 (by decide)
      · skip
        refine mt_iload_n (pc := 16) dX11_span_16 rfl ?_
        refine mt_iload (pc := 17) dX11_span_17 rfl ?_
        refine mt_cS (pc := 19) (n_isWinter) cal_X11_isWinter sta_X11_isWinter ml_X11_419 dX11_span_19 (by first | assumption | (show _ ≤ d; omega)) ⟨(Nat.le_of_ble_eq_true rfl), (Nat.le_of_ble_eq_true rfl)⟩ rfl rfl (Nat.le_of_ble_eq_true rfl) ?_
        rw [iw_0 (fun y => h1 y.1)]
        refine mt_if_eq (pc := 22) (tgt := 54) dX11_span_22 (by decide) (fun c22 => ?_) (fun c22 => ?_)
        · skip
          refine mt_iconst (pc := 54) (v := 0) dX11_span_54 (by decide) ?_
          refine mt_iconst (pc := 55) (v := 1) dX11_span_55 (by decide) ?_
          refine mt_iconst (pc := 56) (v := 1) dX11_span_56 (by decide) ?_
          refine mt_cV (pc := 57) (n_mayN (d := 0) (q := 1) hx (by decide) rfl rfl (by decide)) cal_X11_may vir_X11_may ml_X11_190 dX11_span_57 (by omega) (mos_o _ _ _) (by first | assumption | (show _ ≤ d; omega)) ⟨(Nat.le_of_ble_eq_true rfl), (Nat.le_of_ble_eq_true rfl)⟩ rfl rfl (Nat.le_of_ble_eq_true rfl) ?_
          refine mt_if_ne (pc := 60) (tgt := 65) dX11_span_60 (by decide) (fun c60 => ?_) (fun c60 => ?_)
          · exact absurd rfl c60
          · skip
            refine mt_iconst (pc := 63) (v := 0) dX11_span_63 (by decide) ?_
            exact mt_iret rfl dX11_span_64 (Nat.le_of_ble_eq_true rfl) (Nat.le_of_ble_eq_true rfl) (P_mq1 (c0 := 1) (c1 := 1) (r := .inl 1) rfl)
        · exact absurd rfl c22
  · rw [ifR_n h0]
    refine mm_start (lo := [some (.ref 188), some (.int z), some (.int mm), some (.int q), some (.int nn), some (.int x), some (.int a), none, none, none, none, none]) pn_X11 rfl rfl (Nat.le_of_ble_eq_true rfl) ?_
    refine mt_aload_n (pc := 0) dX11_span_0 rfl ?_
    refine mt_iconst (pc := 1) (v := 0) dX11_span_1 (by decide) ?_
    refine mt_mput (pc := 2) pf_X11_3 dX11_span_2 hx rfl ?_
    refine mt_aload_n (pc := 5) dX11_span_5 rfl ?_
    refine mt_iload_n (pc := 6) dX11_span_6 rfl ?_
    refine mt_iconst (pc := 7) (v := 1) dX11_span_7 (by decide) ?_
    refine mt_bipush (pc := 8) (v := 20) dX11_span_8 (by decide) ?_
    refine mt_cS (pc := 10) (n_within) cal_X11_within sta_X11_within ml_X11_348 dX11_span_10 (by first | assumption | (show _ ≤ d; omega)) ⟨(Nat.le_of_ble_eq_true rfl), (Nat.le_of_ble_eq_true rfl)⟩ rfl rfl (Nat.le_of_ble_eq_true rfl) ?_
    rw [in_nw h0]
    refine mt_if_eq (pc := 13) (tgt := 54) dX11_span_13 (by decide) (fun c13 => ?_) (fun c13 => ?_)
    · skip
      refine mt_iconst (pc := 54) (v := 0) dX11_span_54 (by decide) ?_
      refine mt_iconst (pc := 55) (v := 1) dX11_span_55 (by decide) ?_
      refine mt_iconst (pc := 56) (v := 1) dX11_span_56 (by decide) ?_
      refine mt_cV (pc := 57) (n_mayN (d := 0) (q := 1) hx (by decide) rfl rfl (by decide)) cal_X11_may vir_X11_may ml_X11_190 dX11_span_57 (by omega) (mos_o _ _ _) (by first | assumption | (show _ ≤ d; omega)) ⟨(Nat.le_of_ble_eq_true rfl), (Nat.le_of_ble_eq_true rfl)⟩ rfl rfl (Nat.le_of_ble_eq_true rfl) ?_
      refine mt_if_ne (pc := 60) (tgt := 65) dX11_span_60 (by decide) (fun c60 => ?_) (fun c60 => ?_)
      · exact absurd rfl c60
      · skip
        refine mt_iconst (pc := 63) (v := 0) dX11_span_63 (by decide) ?_
        exact mt_iret rfl dX11_span_64 (Nat.le_of_ble_eq_true rfl) (Nat.le_of_ble_eq_true rfl) (P_mq1 (c0 := 1) (c1 := 1) (r := .inl 1) rfl)
    · exact absurd rfl c13
end MSP
