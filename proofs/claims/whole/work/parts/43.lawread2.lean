/-! Law: its reader, on. -/
section LAWREAD2
variable {G : mm_G} {l : Launch} {d nx : Nat} {h : Nat → mm_E} {b : Nat → Int32} {sz st fk fp : Int32} {e : Nat}
theorem c_readPair {o p q : Nat} {T : Nat → rsL} {cs : List Nat} (hd2 : 2 ≤ d) (ho : o ≤ 6) (hTc : o < 6 → CLr G l b e sz fk fp yX2_readSum cX2_readSum 5 (d - 1) (o + 1) T) (hGd : GdU e T) (hx : 34 ≤ nx) (hB : h 2 = byE b) (hT : h 1 = tpE sz (nI e) (nI p) (nI q) fk fp) (hp : p ≤ e) (he : e ≤ 150) (hL : LR h cs) (hl : cs.length ≤ p) : mm_Con G l yX2_readPair cX2_readPair 3 (some .boolean) d 0 0 [.ref 19, .ref 1, .int (nI o)] nx h (P_lw (prS b e T o q p) cs e sz fk fp nx h) := by
  have hL1 := hL.1
  refine mm_start (lo := [some (.ref 19), some (.ref 1), some (.int (nI o))]) pn_X2 rfl rfl (Nat.le_of_ble_eq_true rfl) ?_
  refine mt_iload_n (pc := 0) dX2_readPair_0 rfl ?_
  refine mt_bipush (pc := 1) (v := 6) dX2_readPair_1 (by decide) ?_
  refine mt_icmp_lt (pc := 3) (tgt := 12) dX2_readPair_3 (by decide) (fun c3 => ?_) (fun c3 => ?_)
  · skip
    have ho2 : o < 6 := (nI_ltI (a := o) (b := 6) (by omega) (by decide)).mp c3
    refine mt_aload_n (pc := 12) dX2_readPair_12 rfl ?_
    refine mt_bipush (pc := 13) (v := 91) dX2_readPair_13 (by decide) ?_
    refine mt_aV (pc := 15) (c_takeSign (d := 1) (Nat.le_refl 1) (by omega) hB hT hp (by omega)) cal_X7_takeSign vir_X7_takeSign ml_X2_73 dX2_readPair_15 (by first | assumption | omega) (by repeat (first | exact hset_eq _ _ _ | assumption | rw [hset_ne (by first | assumption | decide | omega)])) (by first | assumption | (show _ ≤ d; omega)) ⟨(Nat.le_of_ble_eq_true rfl), (Nat.le_of_ble_eq_true rfl)⟩ rfl rfl (Nat.le_of_ble_eq_true rfl) ?_ ?_
    · rintro x9 n9 k9 h9
      simp [P_sign, P_lw] at h9
    · rintro v9 n9 k9 ⟨rfl, ⟨hc, hv, rfl⟩ | ⟨hc, hv, rfl⟩⟩
      · skip
        cases hv
        refine ⟨rfl, ?_⟩
        refine mt_if_eq (pc := 18) (tgt := 65) dX2_readPair_18 (by decide) (fun c18 => ?_) (fun c18 => ?_)
        · exact absurd c18 (by decide)
        · skip
          have hlt := pkv_lt hc (by decide)
          have hsk := sk_le (b := b) hp
          have hS0 : prS b e T o q p = sbind (T (sk b e p + 1)) fun x => sbind (signS b e x.1 44) fun r => sbind (T r) fun y => sbind (signS b e y.1 93) fun z => .inr (z, x.2 ++ y.2) := by rw [prS, if_neg (Nat.not_le.mpr ho2), signS, if_pos hc]; rfl
          refine mt_aload_n (pc := 21) dX2_readPair_21 rfl ?_
          refine mt_aload_n (pc := 22) dX2_readPair_22 rfl ?_
          refine mt_iload_n (pc := 23) dX2_readPair_23 rfl ?_
          refine mt_iconst (pc := 24) (v := 1) dX2_readPair_24 (by decide) ?_
          refine mt_iadd (pc := 25) dX2_readPair_25 ?_
          rw [show (nI o + 1 : Int32) = nI (o + 1) from nI_1 o]
          refine mt_aV (pc := 26) (hTc ho2 _ _ _ _ cs hx (by rw [hset_ne (by decide)]; exact hB) (hset_eq _ _ _) (by omega) (LR_s1 hL) (by omega)) cal_X2_readSum vir_X2_readSum ml_X2_52 dX2_readPair_26 (by first | assumption | omega) (by rw [hset_ne (by decide)]; exact hL1) (by show _ ≤ d; omega) ⟨(Nat.le_of_ble_eq_true rfl), (Nat.le_of_ble_eq_true rfl)⟩ rfl rfl (Nat.le_of_ble_eq_true rfl) ?_ ?_
          · rintro x9 n9 k9 h9
            simp [P_sign, P_lw] at h9
          · rintro v9 n9 k9 ⟨rfl, hF, ⟨kd, pl, hS, hv, hT2, hC2⟩ | ⟨r2, c2, hS, hv, ⟨s2, hT2⟩, hC2⟩⟩
            · skip
              cases hv
              refine ⟨rfl, ?_⟩
              refine mt_if_eq (pc := 29) (tgt := 65) dX2_readPair_29 (by decide) (fun _ => ?_) (fun z => absurd rfl z)
              refine mt_iconst (pc := 65) (v := 0) dX2_readPair_65 (by decide) ?_
              exact mt_zret rfl (Or.inl rfl) dX2_readPair_66 (Nat.le_of_ble_eq_true rfl) (Nat.le_of_ble_eq_true rfl) ⟨rfl, FRw_of1 hF, Or.inl ⟨kd, pl, by rw [hS0, hS]; rfl, rfl, hT2, hC2⟩⟩
            · skip
              cases hv
              refine ⟨rfl, ?_⟩
              refine mt_if_eq (pc := 29) (tgt := 65) dX2_readPair_29 (by decide) (fun c29 => ?_) (fun c29 => ?_)
              · exact absurd c29 (by decide)
              · skip
                have hg := hGd _ (by omega) _ _ hS
                have hB2 := (hF 2 (by decide) (by decide) (by decide)).trans ((hset_ne (by decide)).trans hB)
                have hS1 : prS b e T o q p = sbind (signS b e r2 44) fun r => sbind (T r) fun y => sbind (signS b e y.1 93) fun z => .inr (z, c2 ++ y.2) := by rw [hS0, hS]; rfl
                refine mt_aload_n (pc := 32) dX2_readPair_32 rfl ?_
                refine mt_bipush (pc := 33) (v := 44) dX2_readPair_33 (by decide) ?_
                refine mt_aV (pc := 35) (c_takeSign (d := 1) (Nat.le_refl 1) (by omega) hB2 hT2 hg.2.1 (by omega)) cal_X7_takeSign vir_X7_takeSign ml_X2_73 dX2_readPair_35 (by first | assumption | omega) (by repeat (first | exact hset_eq _ _ _ | assumption | rw [hset_ne (by first | assumption | decide | omega)])) (by first | assumption | (show _ ≤ d; omega)) ⟨(Nat.le_of_ble_eq_true rfl), (Nat.le_of_ble_eq_true rfl)⟩ rfl rfl (Nat.le_of_ble_eq_true rfl) ?_ ?_
                · rintro x9 n9 k9 h9
                  simp [P_sign, P_lw] at h9
                · rintro v9 n9 k9 ⟨rfl, ⟨hc2, hv, rfl⟩ | ⟨hc2, hv, rfl⟩⟩
                  · skip
                    cases hv
                    refine ⟨rfl, ?_⟩
                    refine mt_if_eq (pc := 38) (tgt := 65) dX2_readPair_38 (by decide) (fun c38 => ?_) (fun c38 => ?_)
                    · exact absurd c38 (by decide)
                    · skip
                      have hlt2 := pkv_lt hc2 (by decide)
                      have hsk2 := sk_le (b := b) hg.2.1
                      have hS2 : prS b e T o q p = sbind (T (sk b e r2 + 1)) fun y => sbind (signS b e y.1 93) fun z => .inr (z, c2 ++ y.2) := by rw [hS1, signS, if_pos hc2]; rfl
                      refine mt_aload_n (pc := 41) dX2_readPair_41 rfl ?_
                      refine mt_aload_n (pc := 42) dX2_readPair_42 rfl ?_
                      refine mt_iload_n (pc := 43) dX2_readPair_43 rfl ?_
                      refine mt_iconst (pc := 44) (v := 1) dX2_readPair_44 (by decide) ?_
                      refine mt_iadd (pc := 45) dX2_readPair_45 ?_
                      rw [show (nI o + 1 : Int32) = nI (o + 1) from nI_1 o]
                      refine mt_aV (pc := 46) (hTc ho2 _ _ _ _ (cs ++ c2) hx (by rw [hset_ne (by decide)]; exact hB2) (hset_eq _ _ _) (by omega) (LR_s1 hC2) (by rw [List.length_append]; omega)) cal_X2_readSum vir_X2_readSum ml_X2_52 dX2_readPair_46 (by first | assumption | omega) (by rw [hset_ne (by decide)]; exact hC2.1) (by show _ ≤ d; omega) ⟨(Nat.le_of_ble_eq_true rfl), (Nat.le_of_ble_eq_true rfl)⟩ rfl rfl (Nat.le_of_ble_eq_true rfl) ?_ ?_
                      · rintro x9 n9 k9 h9
                        simp [P_sign, P_lw] at h9
                      · rintro v9 n9 k9 ⟨rfl, hF3, ⟨kd, pl, hS3, hv, hT3, hC3⟩ | ⟨r3, c3, hS3, hv, ⟨s3, hT3⟩, hC3⟩⟩
                        · skip
                          cases hv
                          refine ⟨rfl, ?_⟩
                          refine mt_if_eq (pc := 49) (tgt := 65) dX2_readPair_49 (by decide) (fun _ => ?_) (fun z => absurd rfl z)
                          refine mt_iconst (pc := 65) (v := 0) dX2_readPair_65 (by decide) ?_
                          exact mt_zret rfl (Or.inl rfl) dX2_readPair_66 (Nat.le_of_ble_eq_true rfl) (Nat.le_of_ble_eq_true rfl) ⟨rfl, FRw_trans (FRw_of1 hF) (FRw_of1 hF3), Or.inl ⟨kd, pl, by rw [hS2, hS3]; rfl, rfl, hT3, hC3⟩⟩
                        · skip
                          cases hv
                          refine ⟨rfl, ?_⟩
                          refine mt_if_eq (pc := 49) (tgt := 65) dX2_readPair_49 (by decide) (fun c49 => ?_) (fun c49 => ?_)
                          · exact absurd c49 (by decide)
                          · skip
                            have hg3 := hGd _ (by omega) _ _ hS3
                            have hB3 := (hF3 2 (by decide) (by decide) (by decide)).trans ((hset_ne (by decide)).trans hB2)
                            have hS4 : prS b e T o q p = sbind (signS b e r3 93) fun z => .inr (z, c2 ++ c3) := by rw [hS2, hS3]; rfl
                            refine mt_aload_n (pc := 52) dX2_readPair_52 rfl ?_
                            refine mt_bipush (pc := 53) (v := 93) dX2_readPair_53 (by decide) ?_
                            refine mt_aV (pc := 55) (c_takeSign (d := 1) (Nat.le_refl 1) (by omega) hB3 hT3 hg3.2.1 (by omega)) cal_X7_takeSign vir_X7_takeSign ml_X2_73 dX2_readPair_55 (by first | assumption | omega) (by repeat (first | exact hset_eq _ _ _ | assumption | rw [hset_ne (by first | assumption | decide | omega)])) (by first | assumption | (show _ ≤ d; omega)) ⟨(Nat.le_of_ble_eq_true rfl), (Nat.le_of_ble_eq_true rfl)⟩ rfl rfl (Nat.le_of_ble_eq_true rfl) ?_ ?_
                            · rintro x9 n9 k9 h9
                              simp [P_sign, P_lw] at h9
                            · rintro v9 n9 k9 ⟨rfl, ⟨hc3, hv, rfl⟩ | ⟨hc3, hv, rfl⟩⟩
                              · skip
                                cases hv
                                refine ⟨rfl, ?_⟩
                                refine mt_if_eq (pc := 58) (tgt := 65) dX2_readPair_58 (by decide) (fun c58 => ?_) (fun c58 => ?_)
                                · exact absurd c58 (by decide)
                                · skip
                                  refine mt_iconst (pc := 61) (v := 1) dX2_readPair_61 (by decide) ?_
                                  refine mt_goto (pc := 62) (tgt := 66) dX2_readPair_62 (by decide) ?_
                                  exact mt_zret rfl (by first | exact Or.inl rfl | exact Or.inr rfl) dX2_readPair_66 (Nat.le_of_ble_eq_true rfl) (Nat.le_of_ble_eq_true rfl) ⟨rfl, FRw_s1 (FRw_trans (FRw_of1 hF) (FRw_of1 hF3)), Or.inr ⟨_, c2 ++ c3, by rw [hS4, signS, if_pos hc3]; rfl, rfl, ⟨_, hset_eq _ _ _⟩, by rw [← List.append_assoc]; exact LR_s1 hC3⟩⟩
                              · skip
                                cases hv
                                refine ⟨rfl, ?_⟩
                                refine mt_if_eq (pc := 58) (tgt := 65) dX2_readPair_58 (by decide) (fun _ => ?_) (fun z => absurd rfl z)
                                refine mt_iconst (pc := 65) (v := 0) dX2_readPair_65 (by decide) ?_
                                exact mt_zret rfl (Or.inl rfl) dX2_readPair_66 (Nat.le_of_ble_eq_true rfl) (Nat.le_of_ble_eq_true rfl) ⟨rfl, FRw_s1 (FRw_trans (FRw_of1 hF) (FRw_of1 hF3)), Or.inl ⟨1, _, by rw [hS4, signS, if_neg hc3]; rfl, rfl, ⟨_, _, hset_eq _ _ _⟩, LX_s1 hC3.x⟩⟩
                  · skip
                    cases hv
                    refine ⟨rfl, ?_⟩
                    refine mt_if_eq (pc := 38) (tgt := 65) dX2_readPair_38 (by decide) (fun _ => ?_) (fun z => absurd rfl z)
                    refine mt_iconst (pc := 65) (v := 0) dX2_readPair_65 (by decide) ?_
                    exact mt_zret rfl (Or.inl rfl) dX2_readPair_66 (Nat.le_of_ble_eq_true rfl) (Nat.le_of_ble_eq_true rfl) ⟨rfl, FRw_s1 (FRw_of1 hF), Or.inl ⟨1, _, by rw [hS1, signS, if_neg hc2]; rfl, rfl, ⟨_, _, hset_eq _ _ _⟩, LX_s1 hC2.x⟩⟩
      · skip
        cases hv
        refine ⟨rfl, ?_⟩
        refine mt_if_eq (pc := 18) (tgt := 65) dX2_readPair_18 (by decide) (fun _ => ?_) (fun z => absurd rfl z)
        refine mt_iconst (pc := 65) (v := 0) dX2_readPair_65 (by decide) ?_
        exact mt_zret rfl (Or.inl rfl) dX2_readPair_66 (Nat.le_of_ble_eq_true rfl) (Nat.le_of_ble_eq_true rfl) ⟨rfl, FRw_1, Or.inl ⟨1, sk b e p, by rw [prS, if_neg (Nat.not_le.mpr ho2), signS, if_neg hc]; rfl, rfl, ⟨_, _, hset_eq _ _ _⟩, LX_s1 hL.x⟩⟩
  · skip
    have ho2 : 6 ≤ o := Nat.le_of_not_lt fun z => c3 (nI_lt (b := 6) z (by decide))
    refine mt_aload_n (pc := 6) dX2_readPair_6 rfl ?_
    refine mt_iconst (pc := 7) (v := 3) dX2_readPair_7 (by decide) ?_
    refine mt_cV (pc := 8) (c_failAtStart (d := 0) (by omega) hT) cal_X7_failAtStart vir_X7_failAtStart ml_X2_110 dX2_readPair_8 (by first | assumption | omega) (by repeat (first | exact hset_eq _ _ _ | assumption | rw [hset_ne (by first | assumption | decide | omega)])) (by first | assumption | (show _ ≤ d; omega)) ⟨(Nat.le_of_ble_eq_true rfl), (Nat.le_of_ble_eq_true rfl)⟩ rfl rfl (Nat.le_of_ble_eq_true rfl) ?_
    exact mt_zret rfl (by first | exact Or.inl rfl | exact Or.inr rfl) dX2_readPair_11 (Nat.le_of_ble_eq_true rfl) (Nat.le_of_ble_eq_true rfl) ⟨rfl, FRw_1, Or.inl ⟨3, q, by rw [prS, if_pos ho2], rfl, ⟨_, _, hset_eq _ _ _⟩, LX_s1 hL.x⟩⟩
theorem c_readUnit {o p : Nat} {T : Nat → rsL} {cs : List Nat} (hd2 : 6 ≤ d) (hbb : BY b) (ho : o ≤ 6) (hTc : o < 6 → CLr G l b e sz fk fp yX2_readSum cX2_readSum 5 (d - 1 - 1) (o + 1) T) (hGd : GdU e T) (hx : 34 ≤ nx) (hB : h 2 = byE b) (hT : h 1 = tpE sz (nI e) (nI p) st fk fp) (hp : p ≤ e) (he : e ≤ 150) (hL : LR h cs) (hl : cs.length ≤ p) : mm_Con G l yX2_readUnit cX2_readUnit 5 (some .boolean) d 0 0 [.ref 19, .ref 1, .int (nI o)] nx h (P_lw (unS b e T o p) cs e sz fk fp nx h) := by
  have hL1 := hL.1
  have hsk := sk_le (b := b) hp
  have hpp : sk b e (sk b e p) = sk b e p := sk_sk hp
  have hpk : pk b e (sk b e p) = pk b e p := by simp only [pk, hpp]
  have hS0 : unS b e T o p = unS b e T o p := rfl
  conv at hS0 => rhs; unfold unS
  have hun : numS b e (sk b e p) 0 999 = numS b e p 0 999 := by simp only [numS, hpp, hpk]
  have hbr : brS b e T o (sk b e p) = brS b e T o p := by simp only [brS, signS, hpp, hpk]
  refine mm_start (lo := [some (.ref 19), some (.ref 1), some (.int (nI o)), none, none]) pn_X2 rfl rfl (Nat.le_of_ble_eq_true rfl) ?_
  refine mt_aload_n (pc := 0) dX2_readUnit_0 rfl ?_
  refine mt_cV (pc := 1) (c_peek (d := 0) (by omega) hB hT hp (by omega)) cal_X7_peek vir_X7_peek ml_X2_69 dX2_readUnit_1 (by first | assumption | omega) (by repeat (first | exact hset_eq _ _ _ | assumption | rw [hset_ne (by first | assumption | decide | omega)])) (by first | assumption | (show _ ≤ d; omega)) ⟨(Nat.le_of_ble_eq_true rfl), (Nat.le_of_ble_eq_true rfl)⟩ rfl rfl (Nat.le_of_ble_eq_true rfl) ?_
  refine mt_istore_n (pc := 4) dX2_readUnit_4 (Nat.le_of_ble_eq_true rfl) rfl ?_
  refine mt_iload_n (pc := 5) dX2_readUnit_5 rfl ?_
  refine mt_cN (pc := 6) (c_isDigit (d := 0)) cal_X10_isDigit sta_X10_isDigit mn_X2_83 dX2_readUnit_6 (by first | assumption | (show _ ≤ d; omega)) ⟨(Nat.le_of_ble_eq_true rfl), (Nat.le_of_ble_eq_true rfl)⟩ rfl rfl (Nat.le_of_ble_eq_true rfl) ?_
  refine mt_if_eq (pc := 9) (tgt := 43) dX2_readUnit_9 (by decide) (fun c9 => ?_) (fun c9 => ?_)
  · skip
    have hq := isD_if.mp c9
    rw [if_neg hq] at hS0
    refine mt_iload_n (pc := 43) dX2_readUnit_43 rfl ?_
    refine mt_bipush (pc := 44) (v := 40) dX2_readUnit_44 (by decide) ?_
    refine mt_icmp_ne (pc := 46) (tgt := 56) dX2_readUnit_46 (by decide) (fun c46 => ?_) (fun c46 => ?_)
    · skip
      rw [if_neg c46] at hS0
      refine mt_aload_n (pc := 56) dX2_readUnit_56 rfl ?_
      refine mt_aV (pc := 57) (c_takeWord (d := 1) (Nat.le_refl 1) (by omega) (by rw [hset_ne (by decide)]; exact hB) (hset_eq _ _ _) hsk.2 (by omega)) cal_X7_takeWord vir_X7_takeWord ml_X2_92 dX2_readUnit_57 (by first | assumption | omega) (by repeat (first | exact hset_eq _ _ _ | assumption | rw [hset_ne (by first | assumption | decide | omega)])) (by first | assumption | (show _ ≤ d; omega)) ⟨(Nat.le_of_ble_eq_true rfl), (Nat.le_of_ble_eq_true rfl)⟩ rfl rfl (Nat.le_of_ble_eq_true rfl) ?_ ?_
      · rintro x9 n9 k9 h9
        simp [P_num, P_lw, P_word] at h9
      · rintro v9 n9 k9 ⟨rfl, ⟨hLt, hv, rfl⟩ | ⟨hLt, hv, rfl⟩⟩
        · skip
          cases hv
          refine ⟨rfl, ?_⟩
          rw [hpk] at hLt
          rw [hset_hset, hpp]
          rw [if_neg (fun z => z hLt)] at hS0
          have hlt := lt_prog hbb hLt
          refine mt_if_ne (pc := 60) (tgt := 65) dX2_readUnit_60 (by decide) (fun c60 => ?_) (fun c60 => ?_)
          · skip
            refine mt_aload_n (pc := 65) dX2_readUnit_65 rfl ?_
            refine mt_ldcS (pc := 66) (tx := "least") (j := 4) (by decide +kernel) dX2_readUnit_66 ?_
            refine mt_cV (pc := 68) (c_wordIs (d := 4) (Nat.le_refl 4) (by omega) (by decide) (by rw [hset_ne (by decide)]; exact hB) (hset_eq _ _ _) (by omega) (by omega)) cal_X7_wordIs vir_X7_wordIs ml_X2_97 dX2_readUnit_68 (by first | assumption | omega) (by repeat (first | exact hset_eq _ _ _ | assumption | rw [hset_ne (by first | assumption | decide | omega)])) (by first | assumption | (show _ ≤ d; omega)) ⟨(Nat.le_of_ble_eq_true rfl), (Nat.le_of_ble_eq_true rfl)⟩ rfl rfl (Nat.le_of_ble_eq_true rfl) ?_
            refine mt_if_eq (pc := 71) (tgt := 99) dX2_readUnit_71 (by decide) (fun c71 => ?_) (fun c71 => ?_)
            · skip
              rw [if_neg (wdi0.mp c71)] at hS0
              refine mt_aload_n (pc := 99) dX2_readUnit_99 rfl ?_
              refine mt_ldcS (pc := 100) (tx := "most") (j := 5) (by decide +kernel) dX2_readUnit_100 ?_
              refine mt_cV (pc := 102) (c_wordIs (d := 4) (Nat.le_refl 4) (by omega) (by decide) (by rw [hset_ne (by decide)]; exact hB) (hset_eq _ _ _) (by omega) (by omega)) cal_X7_wordIs vir_X7_wordIs ml_X2_97 dX2_readUnit_102 (by first | assumption | omega) (by repeat (first | exact hset_eq _ _ _ | assumption | rw [hset_ne (by first | assumption | decide | omega)])) (by first | assumption | (show _ ≤ d; omega)) ⟨(Nat.le_of_ble_eq_true rfl), (Nat.le_of_ble_eq_true rfl)⟩ rfl rfl (Nat.le_of_ble_eq_true rfl) ?_
              refine mt_if_eq (pc := 105) (tgt := 133) dX2_readUnit_105 (by decide) (fun c105 => ?_) (fun c105 => ?_)
              · skip
                rw [if_neg (wdi0.mp c105)] at hS0
                refine mt_aload_n (pc := 133) dX2_readUnit_133 rfl ?_
                refine mt_cS (pc := 134) (c_nameOf (d := 5) (Nat.le_refl 5) hx (by rw [hset_ne (by decide)]; exact hB) (hset_eq _ _ _) (by omega) (by omega)) cal_X2_nameOf sta_X2_nameOf ml_X2_106 dX2_readUnit_134 (by first | assumption | (show _ ≤ d; omega)) ⟨(Nat.le_of_ble_eq_true rfl), (Nat.le_of_ble_eq_true rfl)⟩ rfl rfl (Nat.le_of_ble_eq_true rfl) ?_
                generalize hnm : namS b (sk b e p) (lt b e (sk b e p)) = nm at hS0
                refine mt_istore (pc := 137) dX2_readUnit_137 (Nat.le_of_ble_eq_true rfl) rfl ?_
                refine mt_iload (pc := 139) dX2_readUnit_139 rfl ?_
                refine mt_iconst (pc := 141) (v := (-1)) dX2_readUnit_141 (by decide) ?_
                refine mt_icmp_ne (pc := 142) (tgt := 153) dX2_readUnit_142 (by decide) (fun c142 => ?_) (fun c142 => ?_)
                · skip
                  rcases nm with _ | k
                  · exact absurd rfl c142
                  refine mt_aload_n (pc := 153) dX2_readUnit_153 rfl ?_
                  refine mt_iload (pc := 154) dX2_readUnit_154 rfl ?_
                  refine mt_aV (pc := 156) (c_put (d := 1) (k := k) (Nat.le_refl 1) hx (LR_s1 hL) (by omega) (namS_le hnm)) cal_X2_put vir_X2_put ml_X2_77 dX2_readUnit_156 (by first | assumption | omega) (by rw [hset_ne (by decide)]; exact hL1) (by first | assumption | (show _ ≤ d; omega)) ⟨(Nat.le_of_ble_eq_true rfl), (Nat.le_of_ble_eq_true rfl)⟩ rfl rfl (Nat.le_of_ble_eq_true rfl) ?_ ?_
                  · rintro x9 n9 k9 h9
                    simp [P_num, P_lw, P_word] at h9
                  · rintro v9 n9 k9 ⟨hv, rfl, hF4, hC4⟩
                    cases hv
                    refine ⟨rfl, ?_⟩
                    exact mt_zret rfl (by first | exact Or.inl rfl | exact Or.inr rfl) dX2_readUnit_159 (Nat.le_of_ble_eq_true rfl) (Nat.le_of_ble_eq_true rfl) ⟨rfl, fun j z1 z2 z3 => (hF4 j z2 z3).trans (hset_ne z1), Or.inr ⟨_, [k], hS0, rfl, ⟨_, (hF4 1 (by decide) (by decide)).trans (hset_eq _ _ _)⟩, hC4⟩⟩
                · skip
                  rcases nm with _ | k
                  rotate_left
                  · exact absurd c142 (nI_m1 (hi := 2006) (by have := namS_le hnm; rw [show (2006 : Int32).toInt = 2006 from rfl]; omega))
                  refine mt_aload_n (pc := 145) dX2_readUnit_145 rfl ?_
                  refine mt_iconst (pc := 146) (v := 1) dX2_readUnit_146 (by decide) ?_
                  refine mt_cV (pc := 147) (c_failAtStart (d := 0) (by omega) (hset_eq _ _ _)) cal_X7_failAtStart vir_X7_failAtStart ml_X2_110 dX2_readUnit_147 (by first | assumption | omega) (by repeat (first | exact hset_eq _ _ _ | assumption | rw [hset_ne (by first | assumption | decide | omega)])) (by first | assumption | (show _ ≤ d; omega)) ⟨(Nat.le_of_ble_eq_true rfl), (Nat.le_of_ble_eq_true rfl)⟩ rfl rfl (Nat.le_of_ble_eq_true rfl) ?_
                  rw [hset_hset]
                  refine mt_goto (pc := 150) (tgt := 159) dX2_readUnit_150 (by decide) ?_
                  exact mt_zret rfl (Or.inl rfl) dX2_readUnit_159 (Nat.le_of_ble_eq_true rfl) (Nat.le_of_ble_eq_true rfl) ⟨rfl, FRw_1, Or.inl ⟨1, _, hS0, rfl, ⟨_, _, hset_eq _ _ _⟩, LX_s1 hL.x⟩⟩
              · skip
                rw [if_pos (Classical.not_not.mp fun z => c105 (wdi0.mpr z))] at hS0
                refine mt_aload_n (pc := 108) dX2_readUnit_108 rfl ?_
                refine mt_aload_n (pc := 109) dX2_readUnit_109 rfl ?_
                refine mt_iload_n (pc := 110) dX2_readUnit_110 rfl ?_
                refine mt_aV (pc := 111) (c_readPair (d := d - 1) (o := o) (T := T) (cs := cs) (by omega) ho hTc hGd hx (by rw [hset_ne (by decide)]; exact hB) (hset_eq _ _ _) hlt.2 he (LR_s1 hL) (by omega)) cal_X2_readPair vir_X2_readPair ml_X2_101 dX2_readUnit_111 (by first | assumption | omega) (by rw [hset_ne (by decide)]; exact hL1) (by show _ ≤ d; omega) ⟨(Nat.le_of_ble_eq_true rfl), (Nat.le_of_ble_eq_true rfl)⟩ rfl rfl (Nat.le_of_ble_eq_true rfl) ?_ ?_
                · rintro x9 n9 k9 h9
                  simp [P_num, P_lw, P_word] at h9
                · rintro v9 n9 k9 ⟨rfl, hF, ⟨kd, pl, hS, hv, hT2, hC2⟩ | ⟨r2, c2, hS, hv, ⟨s2, hT2⟩, hC2⟩⟩
                  · skip
                    cases hv
                    refine ⟨rfl, ?_⟩
                    refine mt_if_eq (pc := 114) (tgt := 131) dX2_readUnit_114 (by decide) (fun _ => ?_) (fun z => absurd rfl z)
                    refine mt_iconst (pc := 131) (v := 0) dX2_readUnit_131 (by decide) ?_
                    exact mt_zret rfl (Or.inl rfl) dX2_readUnit_132 (Nat.le_of_ble_eq_true rfl) (Nat.le_of_ble_eq_true rfl) ⟨rfl, FRw_of1 hF, Or.inl ⟨kd, pl, by rw [hS0, hS]; rfl, rfl, hT2, hC2⟩⟩
                  · skip
                    cases hv
                    refine ⟨rfl, ?_⟩
                    refine mt_if_eq (pc := 114) (tgt := 131) dX2_readUnit_114 (by decide) (fun c114 => ?_) (fun c114 => ?_)
                    · exact absurd c114 (by decide)
                    · skip
                      have hg := prS_le hGd _ hlt.2 _ _ hS
                      refine mt_aload_n (pc := 117) dX2_readUnit_117 rfl ?_
                      refine mt_sipush (pc := 118) (v := nI 2006) dX2_readUnit_118 (by decide) ?_
                      refine mt_aV (pc := 121) (c_put (d := 1) (k := 2006) (Nat.le_refl 1) hx hC2 (by rw [List.length_append]; omega) (by decide)) cal_X2_put vir_X2_put ml_X2_77 dX2_readUnit_121 (by first | assumption | omega) hC2.1 (by first | assumption | (show _ ≤ d; omega)) ⟨(Nat.le_of_ble_eq_true rfl), (Nat.le_of_ble_eq_true rfl)⟩ rfl rfl (Nat.le_of_ble_eq_true rfl) ?_ ?_
                      · rintro x9 n9 k9 h9
                        simp [P_num, P_lw, P_word] at h9
                      · rintro v9 n9 k9 ⟨hv, rfl, hF4, hC4⟩
                        cases hv
                        refine ⟨rfl, ?_⟩
                        refine mt_if_eq (pc := 124) (tgt := 131) dX2_readUnit_124 (by decide) (fun c124 => ?_) (fun c124 => ?_)
                        · exact absurd c124 (by decide)
                        · skip
                          refine mt_iconst (pc := 127) (v := 1) dX2_readUnit_127 (by decide) ?_
                          refine mt_goto (pc := 128) (tgt := 132) dX2_readUnit_128 (by decide) ?_
                          exact mt_zret rfl (by first | exact Or.inl rfl | exact Or.inr rfl) dX2_readUnit_132 (Nat.le_of_ble_eq_true rfl) (Nat.le_of_ble_eq_true rfl) ⟨rfl, fun j z1 z2 z3 => (hF4 j z2 z3).trans (FRw_of1 hF j z1 z2 z3), Or.inr ⟨r2, c2 ++ [2006], by rw [hS0, hS]; rfl, rfl, ⟨s2, (hF4 1 (by decide) (by decide)).trans hT2⟩, by rw [← List.append_assoc]; exact hC4⟩⟩
            · skip
              rw [if_pos (Classical.not_not.mp fun z => c71 (wdi0.mpr z))] at hS0
              refine mt_aload_n (pc := 74) dX2_readUnit_74 rfl ?_
              refine mt_aload_n (pc := 75) dX2_readUnit_75 rfl ?_
              refine mt_iload_n (pc := 76) dX2_readUnit_76 rfl ?_
              refine mt_aV (pc := 77) (c_readPair (d := d - 1) (o := o) (T := T) (cs := cs) (by omega) ho hTc hGd hx (by rw [hset_ne (by decide)]; exact hB) (hset_eq _ _ _) hlt.2 he (LR_s1 hL) (by omega)) cal_X2_readPair vir_X2_readPair ml_X2_101 dX2_readUnit_77 (by first | assumption | omega) (by rw [hset_ne (by decide)]; exact hL1) (by show _ ≤ d; omega) ⟨(Nat.le_of_ble_eq_true rfl), (Nat.le_of_ble_eq_true rfl)⟩ rfl rfl (Nat.le_of_ble_eq_true rfl) ?_ ?_
              · rintro x9 n9 k9 h9
                simp [P_num, P_lw, P_word] at h9
              · rintro v9 n9 k9 ⟨rfl, hF, ⟨kd, pl, hS, hv, hT2, hC2⟩ | ⟨r2, c2, hS, hv, ⟨s2, hT2⟩, hC2⟩⟩
                · skip
                  cases hv
                  refine ⟨rfl, ?_⟩
                  refine mt_if_eq (pc := 80) (tgt := 97) dX2_readUnit_80 (by decide) (fun _ => ?_) (fun z => absurd rfl z)
                  refine mt_iconst (pc := 97) (v := 0) dX2_readUnit_97 (by decide) ?_
                  exact mt_zret rfl (Or.inl rfl) dX2_readUnit_98 (Nat.le_of_ble_eq_true rfl) (Nat.le_of_ble_eq_true rfl) ⟨rfl, FRw_of1 hF, Or.inl ⟨kd, pl, by rw [hS0, hS]; rfl, rfl, hT2, hC2⟩⟩
                · skip
                  cases hv
                  refine ⟨rfl, ?_⟩
                  refine mt_if_eq (pc := 80) (tgt := 97) dX2_readUnit_80 (by decide) (fun c80 => ?_) (fun c80 => ?_)
                  · exact absurd c80 (by decide)
                  · skip
                    have hg := prS_le hGd _ hlt.2 _ _ hS
                    refine mt_aload_n (pc := 83) dX2_readUnit_83 rfl ?_
                    refine mt_sipush (pc := 84) (v := nI 2005) dX2_readUnit_84 (by decide) ?_
                    refine mt_aV (pc := 87) (c_put (d := 1) (k := 2005) (Nat.le_refl 1) hx hC2 (by rw [List.length_append]; omega) (by decide)) cal_X2_put vir_X2_put ml_X2_77 dX2_readUnit_87 (by first | assumption | omega) hC2.1 (by first | assumption | (show _ ≤ d; omega)) ⟨(Nat.le_of_ble_eq_true rfl), (Nat.le_of_ble_eq_true rfl)⟩ rfl rfl (Nat.le_of_ble_eq_true rfl) ?_ ?_
                    · rintro x9 n9 k9 h9
                      simp [P_num, P_lw, P_word] at h9
                    · rintro v9 n9 k9 ⟨hv, rfl, hF4, hC4⟩
                      cases hv
                      refine ⟨rfl, ?_⟩
                      refine mt_if_eq (pc := 90) (tgt := 97) dX2_readUnit_90 (by decide) (fun c90 => ?_) (fun c90 => ?_)
                      · exact absurd c90 (by decide)
                      · skip
                        refine mt_iconst (pc := 93) (v := 1) dX2_readUnit_93 (by decide) ?_
                        refine mt_goto (pc := 94) (tgt := 98) dX2_readUnit_94 (by decide) ?_
                        exact mt_zret rfl (by first | exact Or.inl rfl | exact Or.inr rfl) dX2_readUnit_98 (Nat.le_of_ble_eq_true rfl) (Nat.le_of_ble_eq_true rfl) ⟨rfl, fun j z1 z2 z3 => (hF4 j z2 z3).trans (FRw_of1 hF j z1 z2 z3), Or.inr ⟨r2, c2 ++ [2005], by rw [hS0, hS]; rfl, rfl, ⟨s2, (hF4 1 (by decide) (by decide)).trans hT2⟩, by rw [← List.append_assoc]; exact hC4⟩⟩
          · exact absurd c60 (by decide)
        · skip
          cases hv
          refine ⟨rfl, ?_⟩
          rw [hpk] at hLt
          rw [hset_hset, hpp]
          rw [if_pos hLt] at hS0
          refine mt_if_ne (pc := 60) (tgt := 65) dX2_readUnit_60 (by decide) (fun z => absurd rfl z) (fun _ => ?_)
          refine mt_iconst (pc := 63) (v := 0) dX2_readUnit_63 (by decide) ?_
          exact mt_zret rfl (Or.inl rfl) dX2_readUnit_64 (Nat.le_of_ble_eq_true rfl) (Nat.le_of_ble_eq_true rfl) ⟨rfl, FRw_1, Or.inl ⟨1, sk b e p, hS0, rfl, ⟨_, _, hset_eq _ _ _⟩, LX_s1 hL.x⟩⟩
    · skip
      rw [if_pos c46] at hS0
      refine mt_aload_n (pc := 49) dX2_readUnit_49 rfl ?_
      refine mt_aload_n (pc := 50) dX2_readUnit_50 rfl ?_
      refine mt_iload_n (pc := 51) dX2_readUnit_51 rfl ?_
      refine mt_aV (pc := 52) (c_readBracket (d := d - 1) (o := o) (T := T) (cs := cs) (by omega) (by omega) ho hTc hGd hx (by rw [hset_ne (by decide)]; exact hB) (hset_eq _ _ _) hsk.2 he (LR_s1 hL) (by omega) hpp) cal_X2_readBracket vir_X2_readBracket ml_X2_89 dX2_readUnit_52 (by first | assumption | omega) (by rw [hset_ne (by decide)]; exact hL1) (by show _ ≤ d; omega) ⟨(Nat.le_of_ble_eq_true rfl), (Nat.le_of_ble_eq_true rfl)⟩ rfl rfl (Nat.le_of_ble_eq_true rfl) ?_ ?_
      · rintro x9 n9 k9 h9
        simp [P_num, P_lw, P_word] at h9
      · rintro v9 n9 k9 ⟨rfl, hF, ⟨kd, pl, hS, hv, hT2, hC2⟩ | ⟨r2, c2, hS, hv, hT2, hC2⟩⟩
        · skip
          cases hv
          refine ⟨rfl, ?_⟩
          exact mt_zret rfl (Or.inl rfl) dX2_readUnit_55 (Nat.le_of_ble_eq_true rfl) (Nat.le_of_ble_eq_true rfl) ⟨rfl, FRw_of1 hF, Or.inl ⟨kd, pl, by rw [hS0, ← hbr, hS], rfl, hT2, hC2⟩⟩
        · skip
          cases hv
          refine ⟨rfl, ?_⟩
          exact mt_zret rfl (Or.inr rfl) dX2_readUnit_55 (Nat.le_of_ble_eq_true rfl) (Nat.le_of_ble_eq_true rfl) ⟨rfl, FRw_of1 hF, Or.inr ⟨r2, c2, by rw [hS0, ← hbr, hS], rfl, hT2, hC2⟩⟩
  · skip
    have hq := Classical.not_not.mp fun z => c9 (isD_if.mpr z)
    rw [if_pos hq] at hS0
    refine mt_aload_n (pc := 12) dX2_readUnit_12 rfl ?_
    refine mt_iconst (pc := 13) (v := 0) dX2_readUnit_13 (by decide) ?_
    refine mt_sipush (pc := 14) (v := 999) dX2_readUnit_14 (by decide) ?_
    refine mt_aV (pc := 17) (c_takeNumber (d := 1) (by decide) (by decide) (Nat.le_refl 1) (by omega) (by rw [hset_ne (by decide)]; exact hB) (hset_eq _ _ _) hsk.2 (by omega)) cal_X7_takeNumber vir_X7_takeNumber ml_X2_86 dX2_readUnit_17 (by first | assumption | omega) (by repeat (first | exact hset_eq _ _ _ | assumption | rw [hset_ne (by first | assumption | decide | omega)])) (by first | assumption | (show _ ≤ d; omega)) ⟨(Nat.le_of_ble_eq_true rfl), (Nat.le_of_ble_eq_true rfl)⟩ rfl rfl (Nat.le_of_ble_eq_true rfl) ?_ ?_
    · rintro x9 n9 k9 h9
      simp [P_num, P_lw, P_word] at h9
    · rintro v9 n9 k9 ⟨rfl, ⟨kd, pl, hN, hv, p', s', rfl⟩ | ⟨v, r, hN, hv, rfl⟩⟩
      · skip
        cases hv
        refine ⟨rfl, ?_⟩
        rw [hset_hset]
        refine mt_istore (pc := 20) dX2_readUnit_20 (Nat.le_of_ble_eq_true rfl) rfl ?_
        refine mt_iload (pc := 22) dX2_readUnit_22 rfl ?_
        refine mt_iconst (pc := 24) (v := -1) dX2_readUnit_24 (by decide) ?_
        refine mt_icmp_eq (pc := 25) (tgt := 41) dX2_readUnit_25 (by decide) (fun _ => ?_) (fun z => absurd rfl z)
        refine mt_iconst (pc := 41) (v := 0) dX2_readUnit_41 (by decide) ?_
        exact mt_zret rfl (Or.inl rfl) dX2_readUnit_42 (Nat.le_of_ble_eq_true rfl) (Nat.le_of_ble_eq_true rfl) ⟨rfl, FRw_1, Or.inl ⟨kd, pl, by rw [hS0, ← hun, hN]; rfl, rfl, ⟨_, _, hset_eq _ _ _⟩, LX_s1 hL.x⟩⟩
      · skip
        cases hv
        refine ⟨rfl, ?_⟩
        rw [hset_hset]
        refine mt_istore (pc := 20) dX2_readUnit_20 (Nat.le_of_ble_eq_true rfl) rfl ?_
        refine mt_iload (pc := 22) dX2_readUnit_22 rfl ?_
        refine mt_iconst (pc := 24) (v := (-1)) dX2_readUnit_24 (by decide) ?_
        refine mt_icmp_eq (pc := 25) (tgt := 41) dX2_readUnit_25 (by decide) (fun c25 => ?_) (fun c25 => ?_)
        · exact absurd c25 (nI_m1 (numS_le hsk.2 hN).2.2)
        · skip
          have h99 := (numS_le hsk.2 hN).2.2
          rw [show (999 : Int32).toInt = 999 from rfl] at h99
          have hpr := num_prog hbb hsk.2 hN
          refine mt_aload_n (pc := 28) dX2_readUnit_28 rfl ?_
          refine mt_iload (pc := 29) dX2_readUnit_29 rfl ?_
          refine mt_aV (pc := 31) (c_put (d := 1) (k := v) (Nat.le_refl 1) hx (LR_s1 hL) (by omega) (by omega)) cal_X2_put vir_X2_put ml_X2_77 dX2_readUnit_31 (by first | assumption | omega) (by rw [hset_ne (by decide)]; exact hL1) (by first | assumption | (show _ ≤ d; omega)) ⟨(Nat.le_of_ble_eq_true rfl), (Nat.le_of_ble_eq_true rfl)⟩ rfl rfl (Nat.le_of_ble_eq_true rfl) ?_ ?_
          · rintro x9 n9 k9 h9
            simp [P_num, P_lw, P_word] at h9
          · rintro v9 n9 k9 ⟨hv, rfl, hF4, hC4⟩
            cases hv
            refine ⟨rfl, ?_⟩
            refine mt_if_eq (pc := 34) (tgt := 41) dX2_readUnit_34 (by decide) (fun c34 => ?_) (fun c34 => ?_)
            · exact absurd c34 (by decide)
            · skip
              refine mt_iconst (pc := 37) (v := 1) dX2_readUnit_37 (by decide) ?_
              refine mt_goto (pc := 38) (tgt := 42) dX2_readUnit_38 (by decide) ?_
              exact mt_zret rfl (by first | exact Or.inl rfl | exact Or.inr rfl) dX2_readUnit_42 (Nat.le_of_ble_eq_true rfl) (Nat.le_of_ble_eq_true rfl) ⟨rfl, fun j z1 z2 z3 => (hF4 j z2 z3).trans (hset_ne z1), Or.inr ⟨r, [v], by rw [hS0, ← hun, hN]; rfl, rfl, ⟨_, (hF4 1 (by decide) (by decide)).trans (hset_eq _ _ _)⟩, hC4⟩⟩
end LAWREAD2
