/-! Work: readSteps, read. -/
theorem lopS_s {b : Nat → Int32} {e so sl o : Nat} {T : Nat → Nat → rsW} (q n p : Nat) : lopS b e so sl T o (q + 1) n p = if atEnd b e o p then .inr (sk b e p, []) else if ¬ isL (pk b e p) then .inl (1, sk b e p)
    else sbind (stepS b e so sl T o n (sk b e p) (lt b e (sk b e p))) fun x => sbind (signS b e x.1 59) fun y => sbind (lopS b e so sl T o q (n + x.2.length) y) fun z => .inr (z.1, x.2 ++ z.2) := rfl
section WORK4
variable {G : mm_G} {l : Launch} {d nx : Nat} {h : Nat → mm_E} {b : Nat → Int32} {sz st fk fp bg dn rf : Int32} {e sl so : Nat}
theorem c_readSteps {o p : Nat} {T : Nat → Nat → rsW} {ss : List ST} (hd2 : 6 ≤ d) (ho : o ≤ 6) (hbb : BY b) (hso : so ≤ 8) (hsl : sl ≤ 8) (hTc : o < 6 → CLw G l b e sl so bg dn rf sz fk fp (d - 1 - 1 - 1) (o + 1) T) (hGd : GdW e so sl T) (hx : 34 ≤ nx) (hB : h 2 = byE b) (hT : h 1 = tpE sz (nI e) (nI p) st fk fp) (hp : p ≤ e) (he : e ≤ 150) (hW : WR h sl so bg dn rf ss) (hl : 5 * ss.length ≤ p) : mm_Con G l yX9_readSteps cX9_readSteps 5 (some .boolean) d 0 0 [.ref 31, .ref 1, .int (nI o)] nx h (P_wk (lopS b e so sl T o 150 ss.length p) ss e sl so bg dn rf sz fk fp nx h) := by
  refine mm_start (lo := [some (.ref 31), some (.ref 1), some (.int (nI o)), none, none]) pn_X9 rfl rfl (Nat.le_of_ble_eq_true rfl) ?_
  refine mt_iconst (pc := 0) (v := 0) dX9_readSteps_0 (by decide) ?_
  refine mt_istore_n (pc := 1) dX9_readSteps_1 (Nat.le_of_ble_eq_true rfl) rfl ?_
  refine mt_forE (pc := 2) (α := (Nat → mm_E) × Nat × List ST) (H := fun i (a : (Nat → mm_E) × Nat × List ST) => a.1) (L := fun i (a : (Nat → mm_E) × Nat × List ST) => [some (.ref 31), some (.ref 1), some (.int (nI o)), some (.int (nI i)), none]) (I := fun i (a : (Nat → mm_E) × Nat × List ST) => FRk h a.1 ∧ (∃ s, a.1 1 = tpE sz (nI e) (nI a.2.1) s fk fp) ∧ a.2.1 ≤ e ∧ WR a.1 sl so bg dn rf (ss ++ a.2.2) ∧ 5 * (ss ++ a.2.2).length ≤ a.2.1 ∧ lopS b e so sl T o 150 ss.length p = sbind (lopS b e so sl T o (150 - i) (ss ++ a.2.2).length a.2.1) (fun y => .inr (y.1, a.2.2 ++ y.2))) 150 (fun i a hi fi ni => ?_) (fun a fi => ?_) ((h, p, [])) (⟨FRk_rf, ⟨_, hT⟩, hp, by rw [List.append_nil]; exact hW, by rw [List.append_nil]; exact hl, by rw [List.append_nil]; show _ = sbind (lopS b e so sl T o 150 ss.length p) _; rcases lopS b e so sl T o 150 ss.length p with z | z <;> rfl⟩)
  · skip
    obtain ⟨g1, ⟨s2, g2⟩, g3, g4, g5, g6⟩ := fi
    obtain ⟨m, q, ac⟩ := a
    dsimp only at g1 g2 g3 g4 g5 g6 ⊢
    have hBm := (g1 2 (by decide) (by decide) (by decide)).trans hB
    have hskm := sk_le (b := b) g3
    have hpp : sk b e (sk b e q) = sk b e q := sk_sk g3
    have hpk : pk b e (sk b e q) = pk b e q := by simp only [pk, hpp]
    have hq1 : 150 - i = 150 - (i + 1) + 1 := by omega
    rw [hq1, lopS_s (150 - (i + 1)) (ss ++ ac).length q] at g6
    refine mt_iload_n (pc := 2) dX9_readSteps_2 rfl ?_
    refine mt_sipush (pc := 3) (v := 150) dX9_readSteps_3 (by decide) ?_
    refine mt_icmp_ge (pc := 6) (tgt := 70) dX9_readSteps_6 (by decide) (fun c6 => ?_) (fun c6 => ?_)
    · exact absurd c6 (nI_ge (b := 150) hi (by decide))
    · skip
      refine mt_aload_n (pc := 9) dX9_readSteps_9 rfl ?_
      refine mt_cV (pc := 10) (c_peek (d := 0) (by omega) hBm g2 g3 (by omega)) cal_X7_peek vir_X7_peek ml_X9_42 dX9_readSteps_10 (by first | assumption | omega) (by repeat (first | exact hset_eq _ _ _ | assumption | rw [hset_ne (by first | assumption | decide | omega)])) (by first | assumption | (show _ ≤ d; omega)) ⟨(Nat.le_of_ble_eq_true rfl), (Nat.le_of_ble_eq_true rfl)⟩ rfl rfl (Nat.le_of_ble_eq_true rfl) ?_
      refine mt_istore (pc := 13) dX9_readSteps_13 (Nat.le_of_ble_eq_true rfl) rfl ?_
      refine mt_iload_n (pc := 15) dX9_readSteps_15 rfl ?_
      refine mt_if_ne (pc := 16) (tgt := 28) dX9_readSteps_16 (by decide) (fun c16 => ?_) (fun c16 => ?_)
      · skip
        have ho0 : ¬ o = 0 := fun z => c16 (by rw [z]; rfl)
        refine mt_iload (pc := 28) dX9_readSteps_28 rfl ?_
        refine mt_bipush (pc := 30) (v := 93) dX9_readSteps_30 (by decide) ?_
        refine mt_icmp_ne (pc := 32) (tgt := 37) dX9_readSteps_32 (by decide) (fun c32 => ?_) (fun c32 => ?_)
        · skip
          have hat : ¬ atEnd b e o q := by simp only [atEnd, if_neg ho0]; exact c32
          rw [if_neg hat] at g6
          refine mt_aload_n (pc := 37) dX9_readSteps_37 rfl ?_
          refine mt_aV (pc := 38) (c_takeWord (d := 1) (Nat.le_refl 1) (by omega) ((hset_ne (by decide)).trans hBm) (hset_eq _ _ _) hskm.2 (by omega)) cal_X7_takeWord vir_X7_takeWord ml_X9_48 dX9_readSteps_38 (by first | assumption | omega) (by repeat (first | exact hset_eq _ _ _ | assumption | rw [hset_ne (by first | assumption | decide | omega)])) (by first | assumption | (show _ ≤ d; omega)) ⟨(Nat.le_of_ble_eq_true rfl), (Nat.le_of_ble_eq_true rfl)⟩ rfl rfl (Nat.le_of_ble_eq_true rfl) ?_ ?_
          · rintro x9 n9 k9 h9
            simp [P_sign, P_word, P_wk] at h9
          · rintro v9 n9 k9 ⟨rfl, ⟨hLt, hv, rfl⟩ | ⟨hLt, hv, rfl⟩⟩
            · skip
              cases hv
              refine ⟨rfl, ?_⟩
              rw [hpk] at hLt
              rw [hset_hset, hpp]
              rw [if_neg (fun z => z hLt)] at g6
              have hlt := lt_prog hbb hLt
              refine mt_if_eq (pc := 41) (tgt := 62) dX9_readSteps_41 (by decide) (fun c41 => ?_) (fun c41 => ?_)
              · exact absurd c41 (by decide)
              · skip
                refine mt_aload_n (pc := 44) dX9_readSteps_44 rfl ?_
                refine mt_aload_n (pc := 45) dX9_readSteps_45 rfl ?_
                refine mt_iload_n (pc := 46) dX9_readSteps_46 rfl ?_
                refine mt_aV (pc := 47) (c_readStep (d := d - 1) (o := o) (T := T) (ss := ss ++ ac) (by omega) ho hbb hso hsl hTc hGd hx ((hset_ne (by decide)).trans hBm) (hset_eq _ _ _) hlt.1 hlt.2 he (by omega) (WR_1 g4)) cal_X9_readStep vir_X9_readStep ml_X9_52 dX9_readSteps_47 (by first | assumption | omega) ((hset_ne (by decide)).trans g4.1) (by show _ ≤ d; omega) ⟨(Nat.le_of_ble_eq_true rfl), (Nat.le_of_ble_eq_true rfl)⟩ rfl rfl (Nat.le_of_ble_eq_true rfl) ?_ ?_
                · rintro x9 n9 k9 h9
                  simp [P_sign, P_word, P_wk] at h9
                · rintro v9 n9 k9 ⟨rfl, hF2, ⟨kd, pl, hS2, hv, hT2, hW2⟩ | ⟨r2, ts, hS2, hv, ⟨s3, hT2⟩, hW2⟩⟩
                  · skip
                    cases hv
                    refine ⟨rfl, ?_⟩
                    refine mt_if_eq (pc := 50) (tgt := 62) dX9_readSteps_50 (by decide) (fun _ => ?_) (fun z => absurd rfl z)
                    refine mt_iconst (pc := 62) (v := 0) dX9_readSteps_62 (by decide) ?_
                    exact mt_zret rfl (Or.inl rfl) dX9_readSteps_63 (Nat.le_of_ble_eq_true rfl) (Nat.le_of_ble_eq_true rfl) ⟨rfl, FRk_trans (FRk_1 g1) hF2, Or.inl ⟨kd, pl, by rw [g6, hS2]; rfl, rfl, hT2, hW2⟩⟩
                  · skip
                    cases hv
                    refine ⟨rfl, ?_⟩
                    refine mt_if_eq (pc := 50) (tgt := 62) dX9_readSteps_50 (by decide) (fun c50 => ?_) (fun c50 => ?_)
                    · exact absurd c50 (by decide)
                    · skip
                      have hg := stepS_le hbb hGd hso hsl hlt.2 hS2
                      have hB2 := (hF2 2 (by decide) (by decide) (by decide)).trans ((hset_ne (by decide)).trans hBm)
                      rw [hS2] at g6
                      refine mt_aload_n (pc := 53) dX9_readSteps_53 rfl ?_
                      refine mt_bipush (pc := 54) (v := 59) dX9_readSteps_54 (by decide) ?_
                      refine mt_aV (pc := 56) (c_takeSign (d := 1) (Nat.le_refl 1) (by omega) hB2 hT2 hg.2.1 (by omega)) cal_X7_takeSign vir_X7_takeSign ml_X9_55 dX9_readSteps_56 (by first | assumption | omega) (by repeat (first | exact hset_eq _ _ _ | assumption | rw [hset_ne (by first | assumption | decide | omega)])) (by first | assumption | (show _ ≤ d; omega)) ⟨(Nat.le_of_ble_eq_true rfl), (Nat.le_of_ble_eq_true rfl)⟩ rfl rfl (Nat.le_of_ble_eq_true rfl) ?_ ?_
                      · rintro x9 n9 k9 h9
                        simp [P_sign, P_word, P_wk] at h9
                      · rintro v9 n9 k9 ⟨rfl, ⟨hc, hv, rfl⟩ | ⟨hc, hv, rfl⟩⟩
                        · skip
                          cases hv
                          refine ⟨rfl, ?_⟩
                          refine mt_if_ne (pc := 59) (tgt := 64) dX9_readSteps_59 (by decide) (fun c59 => ?_) (fun c59 => ?_)
                          · skip
                            have hlt2 := pkv_lt hc (by decide)
                            have hsk2 := sk_le (b := b) hg.2.1
                            rw [List.append_assoc] at hW2
                            refine mt_iinc (pc := 64) (c9 := 1) dX9_readSteps_64 rfl (by decide) (Nat.le_of_ble_eq_true rfl) rfl ?_
                            refine mt_goto (pc := 67) (tgt := 2) dX9_readSteps_67 (by decide) ?_
                            rw [show (nI i + 1 : Int32) = nI (i + 1) from nI_1 i]
                            refine mt_forget 4 (ni (hset k9 1 (tpE sz (nI e) (nI (sk b e r2 + 1)) s3 fk fp), sk b e r2 + 1, ac ++ ts) ⟨FRk_1 (FRk_trans (FRk_1 g1) hF2), ⟨s3, hset_eq k9 1 _⟩, by dsimp only; omega, WR_1 hW2, by simp only [List.length_append] at g5 ⊢; omega, ?_⟩)
                            rw [g6]
                            show sbind (sbind (signS b e r2 59) _) _ = _
                            rw [signS, if_pos hc]
                            show sbind (sbind (lopS b e so sl T o (150 - (i + 1)) ((ss ++ ac).length + ts.length) (sk b e r2 + 1)) _) _ = sbind (lopS b e so sl T o (150 - (i + 1)) (ss ++ (ac ++ ts)).length (sk b e r2 + 1)) _
                            rw [← List.append_assoc, List.length_append (as := ss ++ ac) (bs := ts)]
                            rcases lopS b e so sl T o (150 - (i + 1)) ((ss ++ ac).length + ts.length) (sk b e r2 + 1) with z | z
                            · rfl
                            · simp only [sbind, List.append_assoc]
                          · exact absurd c59 (by decide)
                        · skip
                          cases hv
                          refine ⟨rfl, ?_⟩
                          refine mt_if_ne (pc := 59) (tgt := 64) dX9_readSteps_59 (by decide) (fun z => absurd rfl z) (fun _ => ?_)
                          refine mt_iconst (pc := 62) (v := 0) dX9_readSteps_62 (by decide) ?_
                          exact mt_zret rfl (Or.inl rfl) dX9_readSteps_63 (Nat.le_of_ble_eq_true rfl) (Nat.le_of_ble_eq_true rfl) ⟨rfl, FRk_1 (FRk_trans (FRk_1 g1) hF2), Or.inl ⟨1, _, by rw [g6]; show sbind (sbind (signS b e r2 59) _) _ = _; rw [signS, if_neg hc]; rfl, rfl, ⟨_, _, hset_eq _ _ _⟩, WX_1 hW2.x⟩⟩
            · skip
              cases hv
              refine ⟨rfl, ?_⟩
              rw [hpk] at hLt
              rw [hset_hset, hpp]
              rw [if_pos hLt] at g6
              refine mt_if_eq (pc := 41) (tgt := 62) dX9_readSteps_41 (by decide) (fun _ => ?_) (fun z => absurd rfl z)
              refine mt_iconst (pc := 62) (v := 0) dX9_readSteps_62 (by decide) ?_
              exact mt_zret rfl (Or.inl rfl) dX9_readSteps_63 (Nat.le_of_ble_eq_true rfl) (Nat.le_of_ble_eq_true rfl) ⟨rfl, FRk_1 g1, Or.inl ⟨1, _, g6, rfl, ⟨_, _, hset_eq _ _ _⟩, WX_1 g4.x⟩⟩
        · skip
          have hat : atEnd b e o q := by simp only [atEnd, if_neg ho0]; exact c32
          refine mt_iconst (pc := 35) (v := 1) dX9_readSteps_35 (by decide) ?_
          exact mt_zret rfl (by first | exact Or.inl rfl | exact Or.inr rfl) dX9_readSteps_36 (Nat.le_of_ble_eq_true rfl) (Nat.le_of_ble_eq_true rfl) ⟨rfl, FRk_1 g1, Or.inr ⟨sk b e q, ac, by rw [g6, if_pos hat]; show (Sum.inr (sk b e q, ac ++ []) : rsW) = _; rw [List.append_nil], rfl, ⟨_, hset_eq _ _ _⟩, WR_1 g4⟩⟩
      · skip
        have ho0 : o = 0 := (nI_eq (a := o) (b := 0) (by omega) (by decide)).mp c16
        refine mt_iload (pc := 19) dX9_readSteps_19 rfl ?_
        refine mt_iconst (pc := 21) (v := (-1)) dX9_readSteps_21 (by decide) ?_
        refine mt_icmp_ne (pc := 22) (tgt := 37) dX9_readSteps_22 (by decide) (fun c22 => ?_) (fun c22 => ?_)
        · skip
          have hat : ¬ atEnd b e o q := by simp only [atEnd, if_pos ho0]; exact c22
          rw [if_neg hat] at g6
          refine mt_aload_n (pc := 37) dX9_readSteps_37 rfl ?_
          refine mt_aV (pc := 38) (c_takeWord (d := 1) (Nat.le_refl 1) (by omega) ((hset_ne (by decide)).trans hBm) (hset_eq _ _ _) hskm.2 (by omega)) cal_X7_takeWord vir_X7_takeWord ml_X9_48 dX9_readSteps_38 (by first | assumption | omega) (by repeat (first | exact hset_eq _ _ _ | assumption | rw [hset_ne (by first | assumption | decide | omega)])) (by first | assumption | (show _ ≤ d; omega)) ⟨(Nat.le_of_ble_eq_true rfl), (Nat.le_of_ble_eq_true rfl)⟩ rfl rfl (Nat.le_of_ble_eq_true rfl) ?_ ?_
          · rintro x9 n9 k9 h9
            simp [P_sign, P_word, P_wk] at h9
          · rintro v9 n9 k9 ⟨rfl, ⟨hLt, hv, rfl⟩ | ⟨hLt, hv, rfl⟩⟩
            · skip
              cases hv
              refine ⟨rfl, ?_⟩
              rw [hpk] at hLt
              rw [hset_hset, hpp]
              rw [if_neg (fun z => z hLt)] at g6
              have hlt := lt_prog hbb hLt
              refine mt_if_eq (pc := 41) (tgt := 62) dX9_readSteps_41 (by decide) (fun c41 => ?_) (fun c41 => ?_)
              · exact absurd c41 (by decide)
              · skip
                refine mt_aload_n (pc := 44) dX9_readSteps_44 rfl ?_
                refine mt_aload_n (pc := 45) dX9_readSteps_45 rfl ?_
                refine mt_iload_n (pc := 46) dX9_readSteps_46 rfl ?_
                refine mt_aV (pc := 47) (c_readStep (d := d - 1) (o := o) (T := T) (ss := ss ++ ac) (by omega) ho hbb hso hsl hTc hGd hx ((hset_ne (by decide)).trans hBm) (hset_eq _ _ _) hlt.1 hlt.2 he (by omega) (WR_1 g4)) cal_X9_readStep vir_X9_readStep ml_X9_52 dX9_readSteps_47 (by first | assumption | omega) ((hset_ne (by decide)).trans g4.1) (by show _ ≤ d; omega) ⟨(Nat.le_of_ble_eq_true rfl), (Nat.le_of_ble_eq_true rfl)⟩ rfl rfl (Nat.le_of_ble_eq_true rfl) ?_ ?_
                · rintro x9 n9 k9 h9
                  simp [P_sign, P_word, P_wk] at h9
                · rintro v9 n9 k9 ⟨rfl, hF2, ⟨kd, pl, hS2, hv, hT2, hW2⟩ | ⟨r2, ts, hS2, hv, ⟨s3, hT2⟩, hW2⟩⟩
                  · skip
                    cases hv
                    refine ⟨rfl, ?_⟩
                    refine mt_if_eq (pc := 50) (tgt := 62) dX9_readSteps_50 (by decide) (fun _ => ?_) (fun z => absurd rfl z)
                    refine mt_iconst (pc := 62) (v := 0) dX9_readSteps_62 (by decide) ?_
                    exact mt_zret rfl (Or.inl rfl) dX9_readSteps_63 (Nat.le_of_ble_eq_true rfl) (Nat.le_of_ble_eq_true rfl) ⟨rfl, FRk_trans (FRk_1 g1) hF2, Or.inl ⟨kd, pl, by rw [g6, hS2]; rfl, rfl, hT2, hW2⟩⟩
                  · skip
                    cases hv
                    refine ⟨rfl, ?_⟩
                    refine mt_if_eq (pc := 50) (tgt := 62) dX9_readSteps_50 (by decide) (fun c50 => ?_) (fun c50 => ?_)
                    · exact absurd c50 (by decide)
                    · skip
                      have hg := stepS_le hbb hGd hso hsl hlt.2 hS2
                      have hB2 := (hF2 2 (by decide) (by decide) (by decide)).trans ((hset_ne (by decide)).trans hBm)
                      rw [hS2] at g6
                      refine mt_aload_n (pc := 53) dX9_readSteps_53 rfl ?_
                      refine mt_bipush (pc := 54) (v := 59) dX9_readSteps_54 (by decide) ?_
                      refine mt_aV (pc := 56) (c_takeSign (d := 1) (Nat.le_refl 1) (by omega) hB2 hT2 hg.2.1 (by omega)) cal_X7_takeSign vir_X7_takeSign ml_X9_55 dX9_readSteps_56 (by first | assumption | omega) (by repeat (first | exact hset_eq _ _ _ | assumption | rw [hset_ne (by first | assumption | decide | omega)])) (by first | assumption | (show _ ≤ d; omega)) ⟨(Nat.le_of_ble_eq_true rfl), (Nat.le_of_ble_eq_true rfl)⟩ rfl rfl (Nat.le_of_ble_eq_true rfl) ?_ ?_
                      · rintro x9 n9 k9 h9
                        simp [P_sign, P_word, P_wk] at h9
                      · rintro v9 n9 k9 ⟨rfl, ⟨hc, hv, rfl⟩ | ⟨hc, hv, rfl⟩⟩
                        · skip
                          cases hv
                          refine ⟨rfl, ?_⟩
                          refine mt_if_ne (pc := 59) (tgt := 64) dX9_readSteps_59 (by decide) (fun c59 => ?_) (fun c59 => ?_)
                          · skip
                            have hlt2 := pkv_lt hc (by decide)
                            have hsk2 := sk_le (b := b) hg.2.1
                            rw [List.append_assoc] at hW2
                            refine mt_iinc (pc := 64) (c9 := 1) dX9_readSteps_64 rfl (by decide) (Nat.le_of_ble_eq_true rfl) rfl ?_
                            refine mt_goto (pc := 67) (tgt := 2) dX9_readSteps_67 (by decide) ?_
                            rw [show (nI i + 1 : Int32) = nI (i + 1) from nI_1 i]
                            refine mt_forget 4 (ni (hset k9 1 (tpE sz (nI e) (nI (sk b e r2 + 1)) s3 fk fp), sk b e r2 + 1, ac ++ ts) ⟨FRk_1 (FRk_trans (FRk_1 g1) hF2), ⟨s3, hset_eq k9 1 _⟩, by dsimp only; omega, WR_1 hW2, by simp only [List.length_append] at g5 ⊢; omega, ?_⟩)
                            rw [g6]
                            show sbind (sbind (signS b e r2 59) _) _ = _
                            rw [signS, if_pos hc]
                            show sbind (sbind (lopS b e so sl T o (150 - (i + 1)) ((ss ++ ac).length + ts.length) (sk b e r2 + 1)) _) _ = sbind (lopS b e so sl T o (150 - (i + 1)) (ss ++ (ac ++ ts)).length (sk b e r2 + 1)) _
                            rw [← List.append_assoc, List.length_append (as := ss ++ ac) (bs := ts)]
                            rcases lopS b e so sl T o (150 - (i + 1)) ((ss ++ ac).length + ts.length) (sk b e r2 + 1) with z | z
                            · rfl
                            · simp only [sbind, List.append_assoc]
                          · exact absurd c59 (by decide)
                        · skip
                          cases hv
                          refine ⟨rfl, ?_⟩
                          refine mt_if_ne (pc := 59) (tgt := 64) dX9_readSteps_59 (by decide) (fun z => absurd rfl z) (fun _ => ?_)
                          refine mt_iconst (pc := 62) (v := 0) dX9_readSteps_62 (by decide) ?_
                          exact mt_zret rfl (Or.inl rfl) dX9_readSteps_63 (Nat.le_of_ble_eq_true rfl) (Nat.le_of_ble_eq_true rfl) ⟨rfl, FRk_1 (FRk_trans (FRk_1 g1) hF2), Or.inl ⟨1, _, by rw [g6]; show sbind (sbind (signS b e r2 59) _) _ = _; rw [signS, if_neg hc]; rfl, rfl, ⟨_, _, hset_eq _ _ _⟩, WX_1 hW2.x⟩⟩
            · skip
              cases hv
              refine ⟨rfl, ?_⟩
              rw [hpk] at hLt
              rw [hset_hset, hpp]
              rw [if_pos hLt] at g6
              refine mt_if_eq (pc := 41) (tgt := 62) dX9_readSteps_41 (by decide) (fun _ => ?_) (fun z => absurd rfl z)
              refine mt_iconst (pc := 62) (v := 0) dX9_readSteps_62 (by decide) ?_
              exact mt_zret rfl (Or.inl rfl) dX9_readSteps_63 (Nat.le_of_ble_eq_true rfl) (Nat.le_of_ble_eq_true rfl) ⟨rfl, FRk_1 g1, Or.inl ⟨1, _, g6, rfl, ⟨_, _, hset_eq _ _ _⟩, WX_1 g4.x⟩⟩
        · skip
          have hat : atEnd b e o q := by simp only [atEnd, if_pos ho0]; exact c22
          refine mt_goto (pc := 25) (tgt := 35) dX9_readSteps_25 (by decide) ?_
          refine mt_iconst (pc := 35) (v := 1) dX9_readSteps_35 (by decide) ?_
          exact mt_zret rfl (by first | exact Or.inl rfl | exact Or.inr rfl) dX9_readSteps_36 (Nat.le_of_ble_eq_true rfl) (Nat.le_of_ble_eq_true rfl) ⟨rfl, FRk_1 g1, Or.inr ⟨sk b e q, ac, by rw [g6, if_pos hat]; show (Sum.inr (sk b e q, ac ++ []) : rsW) = _; rw [List.append_nil], rfl, ⟨_, hset_eq _ _ _⟩, WR_1 g4⟩⟩
  · skip
    obtain ⟨g1, g2, g3, g4, g5, g6⟩ := fi
    obtain ⟨m, q, ac⟩ := a
    dsimp only at g1 g2 g3 g4 g5 g6 ⊢
    have hS9 : lopS b e so sl T o 150 ss.length p = .inr (q, ac ++ []) := g6
    rw [List.append_nil] at hS9
    refine mt_iload_n (pc := 2) dX9_readSteps_2 rfl ?_
    refine mt_sipush (pc := 3) (v := 150) dX9_readSteps_3 (by decide) ?_
    refine mt_icmp_ge (pc := 6) (tgt := 70) dX9_readSteps_6 (by decide) (fun c6 => ?_) (fun c6 => ?_)
    · skip
      refine mt_iconst (pc := 70) (v := 1) dX9_readSteps_70 (by decide) ?_
      exact mt_zret rfl (by first | exact Or.inl rfl | exact Or.inr rfl) dX9_readSteps_71 (Nat.le_of_ble_eq_true rfl) (Nat.le_of_ble_eq_true rfl) ⟨rfl, g1, Or.inr ⟨q, ac, hS9, rfl, g2, g4⟩⟩
    · exact absurd (nI_le (a := 150) (b := 150) (by decide) (by decide)) c6
theorem c_wokAt (hbb : BY b) (he : e ≤ 150) (hso : so ≤ 8) (hsl : sl ≤ 8) : ∀ (j d : Nat), j ≤ 6 → 6 + 3 * j ≤ d → CLw G l b e sl so bg dn rf sz fk fp d (6 - j) (wokS b e so sl j)
  | 0, d, hj, hd => by
    intro nx h st p ss hx hB hT hp hW hl
    exact c_readSteps (d := d) (T := fun _ _ => .inl (0, 0)) (by omega) (by omega) hbb hso hsl (fun z => absurd z (by omega)) (fun n p hp r cs h => by cases h) hx hB hT hp he hW hl
  | j + 1, d, hj, hd => by
    intro nx h st p ss hx hB hT hp hW hl
    refine c_readSteps (d := d) (T := wokS b e so sl j) (by omega) (by omega) hbb hso hsl (fun _ => ?_) (wokS_le hbb hso hsl j) hx hB hT hp he hW hl
    rw [show 6 - (j + 1) + 1 = 6 - j by omega]
    exact c_wokAt hbb he hso hsl j (d - 1 - 1 - 1) (by omega) (by omega)
theorem c_wread {k : CS} (hd : 25 ≤ d) (hbb : BY b) (hx : 34 ≤ nx) (hB : h 2 = byE b) (hT : h 1 = tpE sz (nI e) (nI 0) st fk fp) (he : e ≤ 150) (hC : CO h k) (hX : WX h) : mm_Con G l yX9_read cX9_read 3 (some .boolean) d 0 0 [.ref 31, .ref 1, .ref 3] nx h (P_wk (wokS b e k.2.1 k.1 6 0 0) [] e k.1 k.2.1 0 0 0 sz fk fp nx h) := by
  obtain ⟨a1, a2, a3, a4, a5, a6, R, h31, h32⟩ := hX
  have c1 := hC.1
  have hk1 : k.1 ≤ 8 := hC.2.2.2.2.2.2.1
  have hk2 : k.2.1 ≤ 6 := hC.2.2.2.2.2.2.2
  refine mm_start (lo := [some (.ref 31), some (.ref 1), some (.ref 3)]) pn_X9 rfl rfl (Nat.le_of_ble_eq_true rfl) ?_
  refine mt_aload_n (pc := 0) dX9_read_0 rfl ?_
  refine mt_iconst (pc := 1) (v := 0) dX9_read_1 (by decide) ?_
  first
    | refine mt_puti2 (pc := 2) pf_X9_15 dX9_read_2 (by first | assumption | omega) (Nat.le_of_ble_eq_true rfl) ?_
    | refine mt_puti (pc := 2) pf_X9_15 dX9_read_2 (by first | assumption | omega) (by repeat (first | exact hset_eq _ _ _ | assumption | rw [hset_ne (by first | assumption | decide | omega)])) (Nat.le_of_ble_eq_true rfl) ?_
  refine mt_aload_n (pc := 5) dX9_read_5 rfl ?_
  refine mt_iconst (pc := 6) (v := 0) dX9_read_6 (by decide) ?_
  first
    | refine mt_puti2 (pc := 7) pf_X9_19 dX9_read_7 (by first | assumption | omega) (Nat.le_of_ble_eq_true rfl) ?_
    | refine mt_puti (pc := 7) pf_X9_19 dX9_read_7 (by first | assumption | omega) (by repeat (first | exact hset_eq _ _ _ | assumption | rw [hset_ne (by first | assumption | decide | omega)])) (Nat.le_of_ble_eq_true rfl) ?_
  refine mt_aload_n (pc := 10) dX9_read_10 rfl ?_
  refine mt_iconst (pc := 11) (v := 0) dX9_read_11 (by decide) ?_
  first
    | refine mt_puti2 (pc := 12) pf_X9_22 dX9_read_12 (by first | assumption | omega) (Nat.le_of_ble_eq_true rfl) ?_
    | refine mt_puti (pc := 12) pf_X9_22 dX9_read_12 (by first | assumption | omega) (by repeat (first | exact hset_eq _ _ _ | assumption | rw [hset_ne (by first | assumption | decide | omega)])) (Nat.le_of_ble_eq_true rfl) ?_
  refine mt_aload_n (pc := 15) dX9_read_15 rfl ?_
  refine mt_iconst (pc := 16) (v := 0) dX9_read_16 (by decide) ?_
  first
    | refine mt_puti2 (pc := 17) pf_X9_25 dX9_read_17 (by first | assumption | omega) (Nat.le_of_ble_eq_true rfl) ?_
    | refine mt_puti (pc := 17) pf_X9_25 dX9_read_17 (by first | assumption | omega) (by repeat (first | exact hset_eq _ _ _ | assumption | rw [hset_ne (by first | assumption | decide | omega)])) (Nat.le_of_ble_eq_true rfl) ?_
  refine mt_aload_n (pc := 20) dX9_read_20 rfl ?_
  refine mt_aload_n (pc := 21) dX9_read_21 rfl ?_
  refine mt_get (pc := 22) gf_X9_28 dX9_read_22 (by first | assumption | omega) (by repeat (first | exact hset_eq _ _ _ | assumption | rw [hset_ne (by first | assumption | decide | omega)])) rfl ?_
  first
    | refine mt_puti2 (pc := 25) pf_X9_33 dX9_read_25 (by first | assumption | omega) (Nat.le_of_ble_eq_true rfl) ?_
    | refine mt_puti (pc := 25) pf_X9_33 dX9_read_25 (by first | assumption | omega) (by repeat (first | exact hset_eq _ _ _ | assumption | rw [hset_ne (by first | assumption | decide | omega)])) (Nat.le_of_ble_eq_true rfl) ?_
  refine mt_aload_n (pc := 28) dX9_read_28 rfl ?_
  refine mt_aload_n (pc := 29) dX9_read_29 rfl ?_
  refine mt_get (pc := 30) gf_X9_34 dX9_read_30 (by first | assumption | omega) (by repeat (first | exact hset_eq _ _ _ | assumption | rw [hset_ne (by first | assumption | decide | omega)])) rfl ?_
  first
    | refine mt_puti2 (pc := 33) pf_X9_37 dX9_read_33 (by first | assumption | omega) (Nat.le_of_ble_eq_true rfl) ?_
    | refine mt_puti (pc := 33) pf_X9_37 dX9_read_33 (by first | assumption | omega) (by repeat (first | exact hset_eq _ _ _ | assumption | rw [hset_ne (by first | assumption | decide | omega)])) (Nat.le_of_ble_eq_true rfl) ?_
  refine mt_aload_n (pc := 36) dX9_read_36 rfl ?_
  refine mt_aload_n (pc := 37) dX9_read_37 rfl ?_
  refine mt_iconst (pc := 38) (v := 0) dX9_read_38 (by decide) ?_
  refine mt_aV (pc := 39) (c_wokAt hbb he (by omega) hk1 6 24 (by decide) (by decide) _ _ _ 0 [] hx ((hset_ne (by decide)).trans hB) ((hset_ne (by decide)).trans hT) (Nat.zero_le _) ⟨hset_eq _ _ _, R, (hset_ne (by decide)).trans h32, fun i t ht => by cases ht⟩ (Nat.zero_le _)) cal_X9_readSteps vir_X9_readSteps ml_X9_38 dX9_read_39 (by first | assumption | omega) (by repeat (first | exact hset_eq _ _ _ | assumption | rw [hset_ne (by first | assumption | decide | omega)])) (by first | assumption | (show _ ≤ d; omega)) ⟨(Nat.le_of_ble_eq_true rfl), (Nat.le_of_ble_eq_true rfl)⟩ rfl rfl (Nat.le_of_ble_eq_true rfl) ?_ ?_
  · rintro x9 n9 k9 h9
    simp [P_wk] at h9
  · rintro v9 n9 k9 ⟨rfl, hF, ⟨kd, pl, hS, hv, hT2, hC2⟩ | ⟨r2, c2, hS, hv, hT2, hC2⟩⟩
    · skip
      cases hv
      refine ⟨rfl, ?_⟩
      exact mt_zret rfl (Or.inl rfl) dX9_read_42 (Nat.le_of_ble_eq_true rfl) (Nat.le_of_ble_eq_true rfl) ⟨rfl, FRk_trans (FRk_31 FRk_rf) hF, Or.inl ⟨kd, pl, hS, rfl, hT2, hC2⟩⟩
    · skip
      cases hv
      refine ⟨rfl, ?_⟩
      exact mt_zret rfl (Or.inr rfl) dX9_read_42 (Nat.le_of_ble_eq_true rfl) (Nat.le_of_ble_eq_true rfl) ⟨rfl, FRk_trans (FRk_31 FRk_rf) hF, Or.inr ⟨r2, c2, hS, rfl, hT2, hC2⟩⟩
end WORK4
