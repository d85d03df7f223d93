/-! Law: its reader, sums and products. -/
section LAWREAD3
variable {G : mm_G} {l : Launch} {d nx : Nat} {h : Nat → mm_E} {b : Nat → Int32} {sz st fk fp : Int32} {e : Nat}
theorem c_readProduct {o p : Nat} {U : Nat → rsL} {cs : List Nat} (hd2 : 2 ≤ d) (hUc : CLr G l b e sz fk fp yX2_readUnit cX2_readUnit 5 (d - 1) o U) (hGd : GdU e U) (hx : 34 ≤ nx) (hB : h 2 = byE b) (hT : h 1 = tpE sz (nI e) (nI p) st fk fp) (hp : p ≤ e) (he : e ≤ 150) (hL : LR h cs) (hl : cs.length ≤ p) : mm_Con G l yX2_readProduct cX2_readProduct 5 (some .boolean) d 0 0 [.ref 19, .ref 1, .int (nI o)] nx h (P_lw (stS b e 3 U p) cs e sz fk fp nx h) := by
  have hL1 := hL.1
  refine mm_start (lo := [some (.ref 19), some (.ref 1), some (.int (nI o)), none, none]) pn_X2 rfl rfl (Nat.le_of_ble_eq_true rfl) ?_
  refine mt_aload_n (pc := 0) dX2_readProduct_0 rfl ?_
  refine mt_aload_n (pc := 1) dX2_readProduct_1 rfl ?_
  refine mt_iload_n (pc := 2) dX2_readProduct_2 rfl ?_
  refine mt_aV (pc := 3) (hUc _ _ _ _ cs hx hB hT hp hL hl) cal_X2_readUnit vir_X2_readUnit ml_X2_80 dX2_readProduct_3 (by first | assumption | omega) hL1 (by show _ ≤ d; omega) ⟨(Nat.le_of_ble_eq_true rfl), (Nat.le_of_ble_eq_true rfl)⟩ rfl rfl (Nat.le_of_ble_eq_true rfl) ?_ ?_
  · rintro x9 n9 k9 h9
    simp [P_sign, P_lw] at h9
  · rintro v9 n9 k9 ⟨rfl, hF, ⟨kd, pl, hS, hv, hT2, hC2⟩ | ⟨r2, c2, hS, hv, hT2, hC2⟩⟩
    · skip
      cases hv
      refine ⟨rfl, ?_⟩
      refine mt_if_ne (pc := 6) (tgt := 11) dX2_readProduct_6 (by decide) (fun z => absurd rfl z) (fun _ => ?_)
      refine mt_iconst (pc := 9) (v := 0) dX2_readProduct_9 (by decide) ?_
      exact mt_zret rfl (Or.inl rfl) dX2_readProduct_10 (Nat.le_of_ble_eq_true rfl) (Nat.le_of_ble_eq_true rfl) ⟨rfl, hF, Or.inl ⟨kd, pl, by rw [stS, hS]; rfl, rfl, hT2, hC2⟩⟩
    · skip
      cases hv
      refine ⟨rfl, ?_⟩
      refine mt_if_ne (pc := 6) (tgt := 11) dX2_readProduct_6 (by decide) (fun c6 => ?_) (fun c6 => ?_)
      · skip
        have hg := hGd _ hp _ _ hS
        have hS0 : stS b e 3 U p = sbind (rstS b e 3 U 150 r2) fun y => .inr (y.1, c2 ++ y.2) := by rw [stS, hS]; rfl
        refine mt_iconst (pc := 11) (v := 0) dX2_readProduct_11 (by decide) ?_
        refine mt_istore_n (pc := 12) dX2_readProduct_12 (Nat.le_of_ble_eq_true rfl) rfl ?_
        refine mt_forget 4 ?_
        refine mt_forE (pc := 13) (α := (Nat → mm_E) × Nat × List Nat) (H := fun i (a : (Nat → mm_E) × Nat × List Nat) => a.1) (L := fun i (a : (Nat → mm_E) × Nat × List Nat) => [some (.ref 19), some (.ref 1), some (.int (nI o)), some (.int (nI i)), none]) (I := fun i (a : (Nat → mm_E) × Nat × List Nat) => FRw h a.1 ∧ (∃ s, a.1 1 = tpE sz (nI e) (nI a.2.1) s fk fp) ∧ a.2.1 ≤ e ∧ LR a.1 (cs ++ a.2.2) ∧ (cs ++ a.2.2).length ≤ a.2.1 ∧ stS b e 3 U p = sbind (rstS b e 3 U (150 - i) a.2.1) (fun y => .inr (y.1, a.2.2 ++ y.2))) 150 (fun i a hi fi ni => ?_) (fun a fi => ?_) ((k9, r2, c2)) (⟨hF, hT2, hg.2.1, hC2, by show (cs ++ c2).length ≤ r2; rw [List.length_append]; omega, hS0⟩)
        · skip
          obtain ⟨g1, ⟨s2, g2⟩, g3, g4, g5, g6⟩ := fi
          obtain ⟨m, q, ac⟩ := a
          dsimp only at g1 g2 g3 g4 g5 g6 ⊢
          have hBm := (g1 2 (by decide) (by decide) (by decide)).trans hB
          have hskm := sk_le (b := b) g3
          have hpp : sk b e (sk b e q) = sk b e q := sk_sk g3
          have hpk : pk b e (sk b e q) = pk b e q := by simp only [pk, hpp]
          have hq1 : 150 - i = 150 - (i + 1) + 1 := by omega
          rw [hq1, rstS] at g6
          have go : ∀ k, opS 3 (pk b e q) = some k → mm_T (G, l, yX2_readProduct, 5, some .boolean, d, 0, 0, P_lw (stS b e 3 U p) cs e sz fk fp n9 h, n9) RX2 cX2_readProduct n9 (hset m 1 (tpE sz (nI e) (nI (sk b e q)) s2 fk fp)) 0 0 49 [some (.ref 19), some (.ref 1), some (.int (nI o)), some (.int (nI i)), some (.int (pk b e q))] [] := by
            intro k hk
            rw [hk] at g6
            have hlt := pkv_lt rfl (opS_le hk).2
            refine mt_aload_n (pc := 49) dX2_readProduct_49 rfl ?_
            refine mt_iload (pc := 50) dX2_readProduct_50 rfl ?_
            refine mt_aV (pc := 52) (c_takeSign (d := 1) (Nat.le_refl 1) (by omega) (by rw [hset_ne (by decide)]; exact hBm) (hset_eq _ _ _) hskm.2 (by omega)) cal_X7_takeSign vir_X7_takeSign ml_X2_73 dX2_readProduct_52 (by first | assumption | omega) (by repeat (first | exact hset_eq _ _ _ | assumption | rw [hset_ne (by first | assumption | decide | omega)])) (by first | assumption | (show _ ≤ d; omega)) ⟨(Nat.le_of_ble_eq_true rfl), (Nat.le_of_ble_eq_true rfl)⟩ rfl rfl (Nat.le_of_ble_eq_true rfl) ?_ ?_
            · rintro x9 n9 k9 h9
              simp [P_sign, P_lw] at h9
            · rintro v9 n9 k9 ⟨rfl, ⟨hc, hv, rfl⟩ | ⟨hc, hv, rfl⟩⟩
              · skip
                cases hv
                refine ⟨rfl, ?_⟩
                rw [hset_hset, hpp]
                refine mt_if_eq (pc := 55) (tgt := 67) dX2_readProduct_55 (by decide) (fun c55 => ?_) (fun c55 => ?_)
                · exact absurd c55 (by decide)
                · skip
                  refine mt_aload_n (pc := 58) dX2_readProduct_58 rfl ?_
                  refine mt_aload_n (pc := 59) dX2_readProduct_59 rfl ?_
                  refine mt_iload_n (pc := 60) dX2_readProduct_60 rfl ?_
                  refine mt_aV (pc := 61) (hUc _ _ _ _ (cs ++ ac) hx (by rw [hset_ne (by decide)]; exact hBm) (hset_eq _ _ _) (by omega) (LR_s1 g4) (by omega)) cal_X2_readUnit vir_X2_readUnit ml_X2_80 dX2_readProduct_61 (by first | assumption | omega) (by rw [hset_ne (by decide)]; exact g4.1) (by show _ ≤ d; omega) ⟨(Nat.le_of_ble_eq_true rfl), (Nat.le_of_ble_eq_true rfl)⟩ rfl rfl (Nat.le_of_ble_eq_true rfl) ?_ ?_
                  · rintro x9 n9 k9 h9
                    simp [P_sign, P_lw] at h9
                  · rintro v9 n9 k9 ⟨rfl, hF3, ⟨kd, pl, hS3, hv, hT3, hC3⟩ | ⟨r3, c3, hS3, hv, ⟨s3, hT3⟩, hC3⟩⟩
                    · skip
                      cases hv
                      refine ⟨rfl, ?_⟩
                      refine mt_if_ne (pc := 64) (tgt := 69) dX2_readProduct_64 (by decide) (fun z => absurd rfl z) (fun _ => ?_)
                      refine mt_iconst (pc := 67) (v := 0) dX2_readProduct_67 (by decide) ?_
                      exact mt_zret rfl (Or.inl rfl) dX2_readProduct_68 (Nat.le_of_ble_eq_true rfl) (Nat.le_of_ble_eq_true rfl) ⟨rfl, FRw_trans g1 (FRw_of1 hF3), Or.inl ⟨kd, pl, by rw [g6]; dsimp only; rw [hS3]; rfl, rfl, hT3, hC3⟩⟩
                    · skip
                      cases hv
                      refine ⟨rfl, ?_⟩
                      refine mt_if_ne (pc := 64) (tgt := 69) dX2_readProduct_64 (by decide) (fun c64 => ?_) (fun c64 => ?_)
                      · skip
                        have hg3 := hGd _ (by omega) _ _ hS3
                        dsimp only at g6
                        rw [hS3] at g6
                        refine mt_aload_n (pc := 69) dX2_readProduct_69 rfl ?_
                        refine mt_iload (pc := 70) dX2_readProduct_70 rfl ?_
                        refine mt_bipush (pc := 72) (v := 42) dX2_readProduct_72 (by decide) ?_
                        refine mt_icmp_ne (pc := 74) (tgt := 83) dX2_readProduct_74 (by decide) (fun c74 => ?_) (fun c74 => ?_)
                        · skip
                          refine mt_iload (pc := 83) dX2_readProduct_83 rfl ?_
                          refine mt_bipush (pc := 85) (v := 47) dX2_readProduct_85 (by decide) ?_
                          refine mt_icmp_ne (pc := 87) (tgt := 96) dX2_readProduct_87 (by decide) (fun c87 => ?_) (fun c87 => ?_)
                          · skip
                            rw [opS, if_neg (by decide : ¬ 3 = 1), if_neg c74, if_neg c87] at hk
                            split at hk
                            rotate_left
                            · cases hk
                            cases hk
                            refine mt_sipush (pc := 96) (v := nI 2004) dX2_readProduct_96 (by decide) ?_
                            refine mt_aV (pc := 99) (c_put (d := 1) (Nat.le_refl 1) hx hC3 (by rw [List.length_append]; omega) (by decide)) cal_X2_put vir_X2_put ml_X2_77 dX2_readProduct_99 (by first | assumption | omega) hC3.1 (by first | assumption | (show _ ≤ d; omega)) ⟨(Nat.le_of_ble_eq_true rfl), (Nat.le_of_ble_eq_true rfl)⟩ rfl rfl (Nat.le_of_ble_eq_true rfl) ?_ ?_
                            · rintro x9 n9 k9 h9
                              simp [P_sign, P_lw] at h9
                            · rintro v9 n9 k9 ⟨hv, rfl, hF4, hC4⟩
                              cases hv
                              refine ⟨rfl, ?_⟩
                              refine mt_pop (pc := 102) dX2_readProduct_102 rfl ?_
                              refine mt_iinc (pc := 103) (c9 := 1) dX2_readProduct_103 rfl (by decide) (Nat.le_of_ble_eq_true rfl) rfl ?_
                              refine mt_goto (pc := 106) (tgt := 13) dX2_readProduct_106 (by decide) ?_
                              rw [show (nI i + 1 : Int32) = nI (i + 1) from nI_1 i]
                              rw [List.append_assoc, List.append_assoc] at hC4
                              refine mt_forget 4 (ni (k9, r3, _) ⟨fun j z1 z2 z3 => (hF4 j z2 z3).trans ((FRw_trans g1 (FRw_of1 hF3)) j z1 z2 z3), ⟨s3, (hF4 1 (by decide) (by decide)).trans hT3⟩, hg3.2.1, hC4, ?_, ?_⟩)
                              · simp only [List.length_append, List.length_singleton] at g5 ⊢; omega
                              rw [g6]
                              show sbind (sbind (rstS b e 3 U (150 - (i + 1)) r3) _) _ = sbind (rstS b e 3 U (150 - (i + 1)) r3) _
                              rcases rstS b e 3 U (150 - (i + 1)) r3 with z | z
                              · rfl
                              · simp only [sbind, List.append_assoc, List.singleton_append]
                          · skip
                            rw [opS, if_neg (by decide : ¬ 3 = 1), if_neg c74, if_pos c87] at hk
                            cases hk
                            refine mt_sipush (pc := 90) (v := nI 2003) dX2_readProduct_90 (by decide) ?_
                            refine mt_goto (pc := 93) (tgt := 99) dX2_readProduct_93 (by decide) ?_
                            refine mt_aV (pc := 99) (c_put (d := 1) (Nat.le_refl 1) hx hC3 (by rw [List.length_append]; omega) (by decide)) cal_X2_put vir_X2_put ml_X2_77 dX2_readProduct_99 (by first | assumption | omega) hC3.1 (by first | assumption | (show _ ≤ d; omega)) ⟨(Nat.le_of_ble_eq_true rfl), (Nat.le_of_ble_eq_true rfl)⟩ rfl rfl (Nat.le_of_ble_eq_true rfl) ?_ ?_
                            · rintro x9 n9 k9 h9
                              simp [P_sign, P_lw] at h9
                            · rintro v9 n9 k9 ⟨hv, rfl, hF4, hC4⟩
                              cases hv
                              refine ⟨rfl, ?_⟩
                              refine mt_pop (pc := 102) dX2_readProduct_102 rfl ?_
                              refine mt_iinc (pc := 103) (c9 := 1) dX2_readProduct_103 rfl (by decide) (Nat.le_of_ble_eq_true rfl) rfl ?_
                              refine mt_goto (pc := 106) (tgt := 13) dX2_readProduct_106 (by decide) ?_
                              rw [show (nI i + 1 : Int32) = nI (i + 1) from nI_1 i]
                              rw [List.append_assoc, List.append_assoc] at hC4
                              refine mt_forget 4 (ni (k9, r3, _) ⟨fun j z1 z2 z3 => (hF4 j z2 z3).trans ((FRw_trans g1 (FRw_of1 hF3)) j z1 z2 z3), ⟨s3, (hF4 1 (by decide) (by decide)).trans hT3⟩, hg3.2.1, hC4, ?_, ?_⟩)
                              · simp only [List.length_append, List.length_singleton] at g5 ⊢; omega
                              rw [g6]
                              show sbind (sbind (rstS b e 3 U (150 - (i + 1)) r3) _) _ = sbind (rstS b e 3 U (150 - (i + 1)) r3) _
                              rcases rstS b e 3 U (150 - (i + 1)) r3 with z | z
                              · rfl
                              · simp only [sbind, List.append_assoc, List.singleton_append]
                        · skip
                          rw [opS, if_neg (by decide : ¬ 3 = 1), if_pos c74] at hk
                          cases hk
                          refine mt_sipush (pc := 77) (v := nI 2002) dX2_readProduct_77 (by decide) ?_
                          refine mt_goto (pc := 80) (tgt := 99) dX2_readProduct_80 (by decide) ?_
                          refine mt_aV (pc := 99) (c_put (d := 1) (Nat.le_refl 1) hx hC3 (by rw [List.length_append]; omega) (by decide)) cal_X2_put vir_X2_put ml_X2_77 dX2_readProduct_99 (by first | assumption | omega) hC3.1 (by first | assumption | (show _ ≤ d; omega)) ⟨(Nat.le_of_ble_eq_true rfl), (Nat.le_of_ble_eq_true rfl)⟩ rfl rfl (Nat.le_of_ble_eq_true rfl) ?_ ?_
                          · rintro x9 n9 k9 h9
                            simp [P_sign, P_lw] at h9
                          · rintro v9 n9 k9 ⟨hv, rfl, hF4, hC4⟩
                            cases hv
                            refine ⟨rfl, ?_⟩
                            refine mt_pop (pc := 102) dX2_readProduct_102 rfl ?_
                            refine mt_iinc (pc := 103) (c9 := 1) dX2_readProduct_103 rfl (by decide) (Nat.le_of_ble_eq_true rfl) rfl ?_
                            refine mt_goto (pc := 106) (tgt := 13) dX2_readProduct_106 (by decide) ?_
                            rw [show (nI i + 1 : Int32) = nI (i + 1) from nI_1 i]
                            rw [List.append_assoc, List.append_assoc] at hC4
                            refine mt_forget 4 (ni (k9, r3, _) ⟨fun j z1 z2 z3 => (hF4 j z2 z3).trans ((FRw_trans g1 (FRw_of1 hF3)) j z1 z2 z3), ⟨s3, (hF4 1 (by decide) (by decide)).trans hT3⟩, hg3.2.1, hC4, ?_, ?_⟩)
                            · simp only [List.length_append, List.length_singleton] at g5 ⊢; omega
                            rw [g6]
                            show sbind (sbind (rstS b e 3 U (150 - (i + 1)) r3) _) _ = sbind (rstS b e 3 U (150 - (i + 1)) r3) _
                            rcases rstS b e 3 U (150 - (i + 1)) r3 with z | z
                            · rfl
                            · simp only [sbind, List.append_assoc, List.singleton_append]
                      · exact absurd c64 (by decide)
              · skip
                cases hv
                refine ⟨rfl, ?_⟩
                exact absurd hpk hc
          refine mt_iload_n (pc := 13) dX2_readProduct_13 rfl ?_
          refine mt_sipush (pc := 14) (v := 150) dX2_readProduct_14 (by decide) ?_
          refine mt_icmp_ge (pc := 17) (tgt := 109) dX2_readProduct_17 (by decide) (fun c17 => ?_) (fun c17 => ?_)
          · exact absurd c17 (nI_ge (b := 150) hi (by decide))
          · skip
            refine mt_aload_n (pc := 20) dX2_readProduct_20 rfl ?_
            refine mt_cV (pc := 21) (c_peek (d := 0) (by omega) hBm g2 g3 (by omega)) cal_X7_peek vir_X7_peek ml_X2_69 dX2_readProduct_21 (by first | assumption | omega) (by repeat (first | exact hset_eq _ _ _ | assumption | rw [hset_ne (by first | assumption | decide | omega)])) (by first | assumption | (show _ ≤ d; omega)) ⟨(Nat.le_of_ble_eq_true rfl), (Nat.le_of_ble_eq_true rfl)⟩ rfl rfl (Nat.le_of_ble_eq_true rfl) ?_
            refine mt_istore (pc := 24) dX2_readProduct_24 (Nat.le_of_ble_eq_true rfl) rfl ?_
            refine mt_iload (pc := 26) dX2_readProduct_26 rfl ?_
            refine mt_bipush (pc := 28) (v := 42) dX2_readProduct_28 (by decide) ?_
            refine mt_icmp_eq (pc := 30) (tgt := 49) dX2_readProduct_30 (by decide) (fun c30 => ?_) (fun c30 => ?_)
            · exact go 2002 (by rw [opS, if_neg (by decide : ¬ 3 = 1), if_pos c30])
            · skip
              refine mt_iload (pc := 33) dX2_readProduct_33 rfl ?_
              refine mt_bipush (pc := 35) (v := 47) dX2_readProduct_35 (by decide) ?_
              refine mt_icmp_eq (pc := 37) (tgt := 49) dX2_readProduct_37 (by decide) (fun c37 => ?_) (fun c37 => ?_)
              · exact go 2003 (by rw [opS, if_neg (by decide : ¬ 3 = 1), if_neg c30, if_pos c37])
              · skip
                refine mt_iload (pc := 40) dX2_readProduct_40 rfl ?_
                refine mt_bipush (pc := 42) (v := 37) dX2_readProduct_42 (by decide) ?_
                refine mt_icmp_eq (pc := 44) (tgt := 49) dX2_readProduct_44 (by decide) (fun c44 => ?_) (fun c44 => ?_)
                · exact go 2004 (by rw [opS, if_neg (by decide : ¬ 3 = 1), if_neg c30, if_neg c37, if_pos c44])
                · skip
                  have hno : opS 3 (pk b e q) = none := by rw [opS, if_neg (by decide : ¬ 3 = 1), if_neg c30, if_neg c37, if_neg c44]
                  rw [hno] at g6
                  refine mt_iconst (pc := 47) (v := 1) dX2_readProduct_47 (by decide) ?_
                  exact mt_zret rfl (by first | exact Or.inl rfl | exact Or.inr rfl) dX2_readProduct_48 (Nat.le_of_ble_eq_true rfl) (Nat.le_of_ble_eq_true rfl) ⟨rfl, FRw_s1 g1, Or.inr ⟨sk b e q, ac, by rw [g6]; show (Sum.inr (sk b e q, ac ++ []) : rsL) = _; rw [List.append_nil], rfl, ⟨_, hset_eq _ _ _⟩, LR_s1 g4⟩⟩
        · skip
          obtain ⟨g1, g2, g3, g4, g5, g6⟩ := fi
          obtain ⟨m, q, ac⟩ := a
          dsimp only at g1 g2 g3 g4 g5 g6 ⊢
          have hS9 : stS b e 3 U p = .inr (q, ac ++ []) := g6
          rw [List.append_nil] at hS9
          refine mt_iload_n (pc := 13) dX2_readProduct_13 rfl ?_
          refine mt_sipush (pc := 14) (v := 150) dX2_readProduct_14 (by decide) ?_
          refine mt_icmp_ge (pc := 17) (tgt := 109) dX2_readProduct_17 (by decide) (fun c17 => ?_) (fun c17 => ?_)
          · skip
            refine mt_iconst (pc := 109) (v := 1) dX2_readProduct_109 (by decide) ?_
            exact mt_zret rfl (by first | exact Or.inl rfl | exact Or.inr rfl) dX2_readProduct_110 (Nat.le_of_ble_eq_true rfl) (Nat.le_of_ble_eq_true rfl) ⟨rfl, g1, Or.inr ⟨q, ac, hS9, rfl, g2, g4⟩⟩
          · exact absurd (nI_le (a := 150) (b := 150) (by decide) (by decide)) c17
      · exact absurd c6 (by decide)
theorem c_readSum {o p : Nat} {U : Nat → rsL} {cs : List Nat} (hd2 : 2 ≤ d) (hUc : CLr G l b e sz fk fp yX2_readProduct cX2_readProduct 5 (d - 1) o U) (hGd : GdU e U) (hx : 34 ≤ nx) (hB : h 2 = byE b) (hT : h 1 = tpE sz (nI e) (nI p) st fk fp) (hp : p ≤ e) (he : e ≤ 150) (hL : LR h cs) (hl : cs.length ≤ p) : mm_Con G l yX2_readSum cX2_readSum 5 (some .boolean) d 0 0 [.ref 19, .ref 1, .int (nI o)] nx h (P_lw (stS b e 1 U p) cs e sz fk fp nx h) := by
  have hL1 := hL.1
  refine mm_start (lo := [some (.ref 19), some (.ref 1), some (.int (nI o)), none, none]) pn_X2 rfl rfl (Nat.le_of_ble_eq_true rfl) ?_
  refine mt_aload_n (pc := 0) dX2_readSum_0 rfl ?_
  refine mt_aload_n (pc := 1) dX2_readSum_1 rfl ?_
  refine mt_iload_n (pc := 2) dX2_readSum_2 rfl ?_
  refine mt_aV (pc := 3) (hUc _ _ _ _ cs hx hB hT hp hL hl) cal_X2_readProduct vir_X2_readProduct ml_X2_66 dX2_readSum_3 (by first | assumption | omega) hL1 (by show _ ≤ d; omega) ⟨(Nat.le_of_ble_eq_true rfl), (Nat.le_of_ble_eq_true rfl)⟩ rfl rfl (Nat.le_of_ble_eq_true rfl) ?_ ?_
  · rintro x9 n9 k9 h9
    simp [P_sign, P_lw] at h9
  · rintro v9 n9 k9 ⟨rfl, hF, ⟨kd, pl, hS, hv, hT2, hC2⟩ | ⟨r2, c2, hS, hv, hT2, hC2⟩⟩
    · skip
      cases hv
      refine ⟨rfl, ?_⟩
      refine mt_if_ne (pc := 6) (tgt := 11) dX2_readSum_6 (by decide) (fun z => absurd rfl z) (fun _ => ?_)
      refine mt_iconst (pc := 9) (v := 0) dX2_readSum_9 (by decide) ?_
      exact mt_zret rfl (Or.inl rfl) dX2_readSum_10 (Nat.le_of_ble_eq_true rfl) (Nat.le_of_ble_eq_true rfl) ⟨rfl, hF, Or.inl ⟨kd, pl, by rw [stS, hS]; rfl, rfl, hT2, hC2⟩⟩
    · skip
      cases hv
      refine ⟨rfl, ?_⟩
      refine mt_if_ne (pc := 6) (tgt := 11) dX2_readSum_6 (by decide) (fun c6 => ?_) (fun c6 => ?_)
      · skip
        have hg := hGd _ hp _ _ hS
        have hS0 : stS b e 1 U p = sbind (rstS b e 1 U 150 r2) fun y => .inr (y.1, c2 ++ y.2) := by rw [stS, hS]; rfl
        refine mt_iconst (pc := 11) (v := 0) dX2_readSum_11 (by decide) ?_
        refine mt_istore_n (pc := 12) dX2_readSum_12 (Nat.le_of_ble_eq_true rfl) rfl ?_
        refine mt_forget 4 ?_
        refine mt_forE (pc := 13) (α := (Nat → mm_E) × Nat × List Nat) (H := fun i (a : (Nat → mm_E) × Nat × List Nat) => a.1) (L := fun i (a : (Nat → mm_E) × Nat × List Nat) => [some (.ref 19), some (.ref 1), some (.int (nI o)), some (.int (nI i)), none]) (I := fun i (a : (Nat → mm_E) × Nat × List Nat) => FRw h a.1 ∧ (∃ s, a.1 1 = tpE sz (nI e) (nI a.2.1) s fk fp) ∧ a.2.1 ≤ e ∧ LR a.1 (cs ++ a.2.2) ∧ (cs ++ a.2.2).length ≤ a.2.1 ∧ stS b e 1 U p = sbind (rstS b e 1 U (150 - i) a.2.1) (fun y => .inr (y.1, a.2.2 ++ y.2))) 150 (fun i a hi fi ni => ?_) (fun a fi => ?_) ((k9, r2, c2)) (⟨hF, hT2, hg.2.1, hC2, by show (cs ++ c2).length ≤ r2; rw [List.length_append]; omega, hS0⟩)
        · skip
          obtain ⟨g1, ⟨s2, g2⟩, g3, g4, g5, g6⟩ := fi
          obtain ⟨m, q, ac⟩ := a
          dsimp only at g1 g2 g3 g4 g5 g6 ⊢
          have hBm := (g1 2 (by decide) (by decide) (by decide)).trans hB
          have hskm := sk_le (b := b) g3
          have hpp : sk b e (sk b e q) = sk b e q := sk_sk g3
          have hpk : pk b e (sk b e q) = pk b e q := by simp only [pk, hpp]
          have hq1 : 150 - i = 150 - (i + 1) + 1 := by omega
          rw [hq1, rstS] at g6
          have go : ∀ k, opS 1 (pk b e q) = some k → mm_T (G, l, yX2_readSum, 5, some .boolean, d, 0, 0, P_lw (stS b e 1 U p) cs e sz fk fp n9 h, n9) RX2 cX2_readSum n9 (hset m 1 (tpE sz (nI e) (nI (sk b e q)) s2 fk fp)) 0 0 42 [some (.ref 19), some (.ref 1), some (.int (nI o)), some (.int (nI i)), some (.int (pk b e q))] [] := by
            intro k hk
            rw [hk] at g6
            have hlt := pkv_lt rfl (opS_le hk).2
            refine mt_aload_n (pc := 42) dX2_readSum_42 rfl ?_
            refine mt_iload (pc := 43) dX2_readSum_43 rfl ?_
            refine mt_aV (pc := 45) (c_takeSign (d := 1) (Nat.le_refl 1) (by omega) (by rw [hset_ne (by decide)]; exact hBm) (hset_eq _ _ _) hskm.2 (by omega)) cal_X7_takeSign vir_X7_takeSign ml_X2_73 dX2_readSum_45 (by first | assumption | omega) (by repeat (first | exact hset_eq _ _ _ | assumption | rw [hset_ne (by first | assumption | decide | omega)])) (by first | assumption | (show _ ≤ d; omega)) ⟨(Nat.le_of_ble_eq_true rfl), (Nat.le_of_ble_eq_true rfl)⟩ rfl rfl (Nat.le_of_ble_eq_true rfl) ?_ ?_
            · rintro x9 n9 k9 h9
              simp [P_sign, P_lw] at h9
            · rintro v9 n9 k9 ⟨rfl, ⟨hc, hv, rfl⟩ | ⟨hc, hv, rfl⟩⟩
              · skip
                cases hv
                refine ⟨rfl, ?_⟩
                rw [hset_hset, hpp]
                refine mt_if_eq (pc := 48) (tgt := 60) dX2_readSum_48 (by decide) (fun c48 => ?_) (fun c48 => ?_)
                · exact absurd c48 (by decide)
                · skip
                  refine mt_aload_n (pc := 51) dX2_readSum_51 rfl ?_
                  refine mt_aload_n (pc := 52) dX2_readSum_52 rfl ?_
                  refine mt_iload_n (pc := 53) dX2_readSum_53 rfl ?_
                  refine mt_aV (pc := 54) (hUc _ _ _ _ (cs ++ ac) hx (by rw [hset_ne (by decide)]; exact hBm) (hset_eq _ _ _) (by omega) (LR_s1 g4) (by omega)) cal_X2_readProduct vir_X2_readProduct ml_X2_66 dX2_readSum_54 (by first | assumption | omega) (by rw [hset_ne (by decide)]; exact g4.1) (by show _ ≤ d; omega) ⟨(Nat.le_of_ble_eq_true rfl), (Nat.le_of_ble_eq_true rfl)⟩ rfl rfl (Nat.le_of_ble_eq_true rfl) ?_ ?_
                  · rintro x9 n9 k9 h9
                    simp [P_sign, P_lw] at h9
                  · rintro v9 n9 k9 ⟨rfl, hF3, ⟨kd, pl, hS3, hv, hT3, hC3⟩ | ⟨r3, c3, hS3, hv, ⟨s3, hT3⟩, hC3⟩⟩
                    · skip
                      cases hv
                      refine ⟨rfl, ?_⟩
                      refine mt_if_ne (pc := 57) (tgt := 62) dX2_readSum_57 (by decide) (fun z => absurd rfl z) (fun _ => ?_)
                      refine mt_iconst (pc := 60) (v := 0) dX2_readSum_60 (by decide) ?_
                      exact mt_zret rfl (Or.inl rfl) dX2_readSum_61 (Nat.le_of_ble_eq_true rfl) (Nat.le_of_ble_eq_true rfl) ⟨rfl, FRw_trans g1 (FRw_of1 hF3), Or.inl ⟨kd, pl, by rw [g6]; dsimp only; rw [hS3]; rfl, rfl, hT3, hC3⟩⟩
                    · skip
                      cases hv
                      refine ⟨rfl, ?_⟩
                      refine mt_if_ne (pc := 57) (tgt := 62) dX2_readSum_57 (by decide) (fun c57 => ?_) (fun c57 => ?_)
                      · skip
                        have hg3 := hGd _ (by omega) _ _ hS3
                        dsimp only at g6
                        rw [hS3] at g6
                        refine mt_aload_n (pc := 62) dX2_readSum_62 rfl ?_
                        refine mt_iload (pc := 63) dX2_readSum_63 rfl ?_
                        refine mt_bipush (pc := 65) (v := 43) dX2_readSum_65 (by decide) ?_
                        refine mt_icmp_ne (pc := 67) (tgt := 76) dX2_readSum_67 (by decide) (fun c67 => ?_) (fun c67 => ?_)
                        · skip
                          rw [opS, if_pos rfl, if_neg c67] at hk
                          split at hk
                          rotate_left
                          · cases hk
                          cases hk
                          refine mt_sipush (pc := 76) (v := nI 2001) dX2_readSum_76 (by decide) ?_
                          refine mt_aV (pc := 79) (c_put (d := 1) (Nat.le_refl 1) hx hC3 (by rw [List.length_append]; omega) (by decide)) cal_X2_put vir_X2_put ml_X2_77 dX2_readSum_79 (by first | assumption | omega) hC3.1 (by first | assumption | (show _ ≤ d; omega)) ⟨(Nat.le_of_ble_eq_true rfl), (Nat.le_of_ble_eq_true rfl)⟩ rfl rfl (Nat.le_of_ble_eq_true rfl) ?_ ?_
                          · rintro x9 n9 k9 h9
                            simp [P_sign, P_lw] at h9
                          · rintro v9 n9 k9 ⟨hv, rfl, hF4, hC4⟩
                            cases hv
                            refine ⟨rfl, ?_⟩
                            refine mt_pop (pc := 82) dX2_readSum_82 rfl ?_
                            refine mt_iinc (pc := 83) (c9 := 1) dX2_readSum_83 rfl (by decide) (Nat.le_of_ble_eq_true rfl) rfl ?_
                            refine mt_goto (pc := 86) (tgt := 13) dX2_readSum_86 (by decide) ?_
                            rw [show (nI i + 1 : Int32) = nI (i + 1) from nI_1 i]
                            rw [List.append_assoc, List.append_assoc] at hC4
                            refine mt_forget 4 (ni (k9, r3, _) ⟨fun j z1 z2 z3 => (hF4 j z2 z3).trans ((FRw_trans g1 (FRw_of1 hF3)) j z1 z2 z3), ⟨s3, (hF4 1 (by decide) (by decide)).trans hT3⟩, hg3.2.1, hC4, ?_, ?_⟩)
                            · simp only [List.length_append, List.length_singleton] at g5 ⊢; omega
                            rw [g6]
                            show sbind (sbind (rstS b e 1 U (150 - (i + 1)) r3) _) _ = sbind (rstS b e 1 U (150 - (i + 1)) r3) _
                            rcases rstS b e 1 U (150 - (i + 1)) r3 with z | z
                            · rfl
                            · simp only [sbind, List.append_assoc, List.singleton_append]
                        · skip
                          rw [opS, if_pos rfl, if_pos c67] at hk
                          cases hk
                          refine mt_sipush (pc := 70) (v := nI 2000) dX2_readSum_70 (by decide) ?_
                          refine mt_goto (pc := 73) (tgt := 79) dX2_readSum_73 (by decide) ?_
                          refine mt_aV (pc := 79) (c_put (d := 1) (Nat.le_refl 1) hx hC3 (by rw [List.length_append]; omega) (by decide)) cal_X2_put vir_X2_put ml_X2_77 dX2_readSum_79 (by first | assumption | omega) hC3.1 (by first | assumption | (show _ ≤ d; omega)) ⟨(Nat.le_of_ble_eq_true rfl), (Nat.le_of_ble_eq_true rfl)⟩ rfl rfl (Nat.le_of_ble_eq_true rfl) ?_ ?_
                          · rintro x9 n9 k9 h9
                            simp [P_sign, P_lw] at h9
                          · rintro v9 n9 k9 ⟨hv, rfl, hF4, hC4⟩
                            cases hv
                            refine ⟨rfl, ?_⟩
                            refine mt_pop (pc := 82) dX2_readSum_82 rfl ?_
                            refine mt_iinc (pc := 83) (c9 := 1) dX2_readSum_83 rfl (by decide) (Nat.le_of_ble_eq_true rfl) rfl ?_
                            refine mt_goto (pc := 86) (tgt := 13) dX2_readSum_86 (by decide) ?_
                            rw [show (nI i + 1 : Int32) = nI (i + 1) from nI_1 i]
                            rw [List.append_assoc, List.append_assoc] at hC4
                            refine mt_forget 4 (ni (k9, r3, _) ⟨fun j z1 z2 z3 => (hF4 j z2 z3).trans ((FRw_trans g1 (FRw_of1 hF3)) j z1 z2 z3), ⟨s3, (hF4 1 (by decide) (by decide)).trans hT3⟩, hg3.2.1, hC4, ?_, ?_⟩)
                            · simp only [List.length_append, List.length_singleton] at g5 ⊢; omega
                            rw [g6]
                            show sbind (sbind (rstS b e 1 U (150 - (i + 1)) r3) _) _ = sbind (rstS b e 1 U (150 - (i + 1)) r3) _
                            rcases rstS b e 1 U (150 - (i + 1)) r3 with z | z
                            · rfl
                            · simp only [sbind, List.append_assoc, List.singleton_append]
                      · exact absurd c57 (by decide)
              · skip
                cases hv
                refine ⟨rfl, ?_⟩
                exact absurd hpk hc
          refine mt_iload_n (pc := 13) dX2_readSum_13 rfl ?_
          refine mt_sipush (pc := 14) (v := 150) dX2_readSum_14 (by decide) ?_
          refine mt_icmp_ge (pc := 17) (tgt := 89) dX2_readSum_17 (by decide) (fun c17 => ?_) (fun c17 => ?_)
          · exact absurd c17 (nI_ge (b := 150) hi (by decide))
          · skip
            refine mt_aload_n (pc := 20) dX2_readSum_20 rfl ?_
            refine mt_cV (pc := 21) (c_peek (d := 0) (by omega) hBm g2 g3 (by omega)) cal_X7_peek vir_X7_peek ml_X2_69 dX2_readSum_21 (by first | assumption | omega) (by repeat (first | exact hset_eq _ _ _ | assumption | rw [hset_ne (by first | assumption | decide | omega)])) (by first | assumption | (show _ ≤ d; omega)) ⟨(Nat.le_of_ble_eq_true rfl), (Nat.le_of_ble_eq_true rfl)⟩ rfl rfl (Nat.le_of_ble_eq_true rfl) ?_
            refine mt_istore (pc := 24) dX2_readSum_24 (Nat.le_of_ble_eq_true rfl) rfl ?_
            refine mt_iload (pc := 26) dX2_readSum_26 rfl ?_
            refine mt_bipush (pc := 28) (v := 43) dX2_readSum_28 (by decide) ?_
            refine mt_icmp_eq (pc := 30) (tgt := 42) dX2_readSum_30 (by decide) (fun c30 => ?_) (fun c30 => ?_)
            · exact go 2000 (by rw [opS, if_pos rfl, if_pos c30])
            · skip
              refine mt_iload (pc := 33) dX2_readSum_33 rfl ?_
              refine mt_bipush (pc := 35) (v := 45) dX2_readSum_35 (by decide) ?_
              refine mt_icmp_eq (pc := 37) (tgt := 42) dX2_readSum_37 (by decide) (fun c37 => ?_) (fun c37 => ?_)
              · exact go 2001 (by rw [opS, if_pos rfl, if_neg c30, if_pos c37])
              · skip
                have hno : opS 1 (pk b e q) = none := by rw [opS, if_pos rfl, if_neg c30, if_neg c37]
                rw [hno] at g6
                refine mt_iconst (pc := 40) (v := 1) dX2_readSum_40 (by decide) ?_
                exact mt_zret rfl (by first | exact Or.inl rfl | exact Or.inr rfl) dX2_readSum_41 (Nat.le_of_ble_eq_true rfl) (Nat.le_of_ble_eq_true rfl) ⟨rfl, FRw_s1 g1, Or.inr ⟨sk b e q, ac, by rw [g6]; show (Sum.inr (sk b e q, ac ++ []) : rsL) = _; rw [List.append_nil], rfl, ⟨_, hset_eq _ _ _⟩, LR_s1 g4⟩⟩
        · skip
          obtain ⟨g1, g2, g3, g4, g5, g6⟩ := fi
          obtain ⟨m, q, ac⟩ := a
          dsimp only at g1 g2 g3 g4 g5 g6 ⊢
          have hS9 : stS b e 1 U p = .inr (q, ac ++ []) := g6
          rw [List.append_nil] at hS9
          refine mt_iload_n (pc := 13) dX2_readSum_13 rfl ?_
          refine mt_sipush (pc := 14) (v := 150) dX2_readSum_14 (by decide) ?_
          refine mt_icmp_ge (pc := 17) (tgt := 89) dX2_readSum_17 (by decide) (fun c17 => ?_) (fun c17 => ?_)
          · skip
            refine mt_iconst (pc := 89) (v := 1) dX2_readSum_89 (by decide) ?_
            exact mt_zret rfl (by first | exact Or.inl rfl | exact Or.inr rfl) dX2_readSum_90 (Nat.le_of_ble_eq_true rfl) (Nat.le_of_ble_eq_true rfl) ⟨rfl, g1, Or.inr ⟨q, ac, hS9, rfl, g2, g4⟩⟩
          · exact absurd (nI_le (a := 150) (b := 150) (by decide) (by decide)) c17
      · exact absurd c6 (by decide)
theorem c_sumAt (hbb : BY b) (he : e ≤ 150) : ∀ (j d : Nat), j ≤ 6 → 8 + 4 * j ≤ d → CLr G l b e sz fk fp yX2_readSum cX2_readSum 5 d (6 - j) (sumS b e j)
  | 0, d, hj, hd => by
    intro nx h st p cs hx hB hT hp hL hl
    refine c_readSum (d := d) (by omega) (fun nx h st p cs hx hB hT hp hL hl => ?_) (stS_le (unS_le hbb (fun p hp r cs h => by cases h))) hx hB hT hp he hL hl
    refine c_readProduct (d := d - 1) (by omega) (fun nx h st p cs hx hB hT hp hL hl => ?_) (unS_le hbb (fun p hp r cs h => by cases h)) hx hB hT hp he hL hl
    exact c_readUnit (d := d - 1 - 1) (by omega) hbb (by omega) (fun z => absurd z (by omega)) (fun p hp r cs h => by cases h) hx hB hT hp he hL hl
  | j + 1, d, hj, hd => by
    intro nx h st p cs hx hB hT hp hL hl
    refine c_readSum (d := d) (by omega) (fun nx h st p cs hx hB hT hp hL hl => ?_) (stS_le (unS_le hbb (sumS_le hbb j))) hx hB hT hp he hL hl
    refine c_readProduct (d := d - 1) (by omega) (fun nx h st p cs hx hB hT hp hL hl => ?_) (unS_le hbb (sumS_le hbb j)) hx hB hT hp he hL hl
    refine c_readUnit (d := d - 1 - 1) (by omega) hbb (by omega) (fun _ => ?_) (sumS_le hbb j) hx hB hT hp he hL hl
    rw [show 6 - (j + 1) + 1 = 6 - j by omega]
    exact c_sumAt hbb he j (d - 1 - 1 - 1 - 1) (by omega) (by omega)
/-- Law.read -/
def P_lr (S : (Nat × Nat) ⊕ List Nat) (e : Nat) (sz fk fp : Int32) (nx : Nat) (h : Nat → mm_E) : mm_P := fun o n m => n = nx ∧ FRw h m ∧
  ((∃ kd pl, S = .inl (kd, pl) ∧ o = .inl (some (.int 0)) ∧ (∃ p' s', m 1 = tpE sz (nI e) p' s' (nI kd) (nI pl)) ∧ LX m) ∨
  (∃ cs, S = .inr cs ∧ o = .inl (some (.int 1)) ∧ (∃ p' s', m 1 = tpE sz (nI e) p' s' fk fp) ∧ LR m cs))
theorem c_lread (hd : 33 ≤ d) (hbb : BY b) (hx : 34 ≤ nx) (hB : h 2 = byE b) (hT : h 1 = tpE sz (nI e) (nI 0) st fk fp) (he : e ≤ 150) (hL : LX h) : mm_Con G l yX2_read cX2_read 2 (some .boolean) d 0 0 [.ref 19, .ref 1] nx h (P_lr (lawS b e) e sz fk fp nx h) := by
  obtain ⟨n0, R, h19, h20⟩ := hL
  have hL : LR (hset h 19 (lrE (nI ([] : List Nat).length))) [] := ⟨hset_eq _ _ _, R, (hset_ne (by decide)).trans h20, by decide, fun i k hk => by cases hk⟩
  refine mm_start (lo := [some (.ref 19), some (.ref 1)]) pn_X2 rfl rfl (Nat.le_of_ble_eq_true rfl) ?_
  refine mt_aload_n (pc := 0) dX2_read_0 rfl ?_
  refine mt_iconst (pc := 1) (v := 0) dX2_read_1 (by decide) ?_
  first
    | refine mt_puti2 (pc := 2) pf_X2_31 dX2_read_2 (by first | assumption | omega) (Nat.le_of_ble_eq_true rfl) ?_
    | refine mt_puti (pc := 2) pf_X2_31 dX2_read_2 (by first | assumption | omega) (by repeat (first | exact hset_eq _ _ _ | assumption | rw [hset_ne (by first | assumption | decide | omega)])) (Nat.le_of_ble_eq_true rfl) ?_
  refine mt_aload_n (pc := 5) dX2_read_5 rfl ?_
  refine mt_aload_n (pc := 6) dX2_read_6 rfl ?_
  refine mt_iconst (pc := 7) (v := 0) dX2_read_7 (by decide) ?_
  refine mt_aV (pc := 8) (c_sumAt hbb he 6 32 (by decide) (by decide) _ _ _ 0 [] hx ((hset_ne (by decide)).trans hB) ((hset_ne (by decide)).trans hT) (Nat.zero_le _) hL (Nat.zero_le _)) cal_X2_readSum vir_X2_readSum ml_X2_52 dX2_read_8 (by first | assumption | omega) (by repeat (first | exact hset_eq _ _ _ | assumption | rw [hset_ne (by first | assumption | decide | omega)])) (by first | assumption | (show _ ≤ d; omega)) ⟨(Nat.le_of_ble_eq_true rfl), (Nat.le_of_ble_eq_true rfl)⟩ rfl rfl (Nat.le_of_ble_eq_true rfl) ?_ ?_
  · rintro x9 n9 k9 h9
    simp [P_end, P_lw] at h9
  · rintro v9 n9 k9 ⟨rfl, hF, ⟨kd, pl, hS, hv, hT2, hC2⟩ | ⟨r2, c2, hS, hv, ⟨s2, hT2⟩, hC2⟩⟩
    · skip
      cases hv
      refine ⟨rfl, ?_⟩
      refine mt_if_eq (pc := 11) (tgt := 25) dX2_read_11 (by decide) (fun _ => ?_) (fun z => absurd rfl z)
      refine mt_iconst (pc := 25) (v := 0) dX2_read_25 (by decide) ?_
      exact mt_zret rfl (Or.inl rfl) dX2_read_26 (Nat.le_of_ble_eq_true rfl) (Nat.le_of_ble_eq_true rfl) ⟨rfl, fun j a b c => (hF j a b c).trans (hset_ne b), Or.inl ⟨kd, pl, by rw [lawS, hS]; rfl, rfl, hT2, hC2⟩⟩
    · skip
      cases hv
      refine ⟨rfl, ?_⟩
      refine mt_if_eq (pc := 11) (tgt := 25) dX2_read_11 (by decide) (fun c11 => ?_) (fun c11 => ?_)
      · exact absurd c11 (by decide)
      · skip
        have hg := sumS_le hbb 6 _ (Nat.zero_le _) _ _ hS
        have hS0 : lawS b e = if sk b e r2 < e then .inl (1, sk b e r2) else .inr c2 := by rw [lawS, hS]; rfl
        refine mt_aload_n (pc := 14) dX2_read_14 rfl ?_
        refine mt_aV (pc := 15) (c_takeEnd (d := 1) (Nat.le_refl 1) (by omega) ((hF 2 (by decide) (by decide) (by decide)).trans ((hset_ne (by decide)).trans hB)) hT2 hg.2.1 (by omega)) cal_X7_takeEnd vir_X7_takeEnd ml_X2_56 dX2_read_15 (by first | assumption | omega) (by repeat (first | exact hset_eq _ _ _ | assumption | rw [hset_ne (by first | assumption | decide | omega)])) (by first | assumption | (show _ ≤ d; omega)) ⟨(Nat.le_of_ble_eq_true rfl), (Nat.le_of_ble_eq_true rfl)⟩ rfl rfl (Nat.le_of_ble_eq_true rfl) ?_ ?_
        · rintro x9 n9 k9 h9
          simp [P_end, P_lw] at h9
        · rintro v9 n9 k9 ⟨rfl, ⟨hk, hv, rfl⟩ | ⟨hk, hv, rfl⟩⟩
          · skip
            cases hv
            refine ⟨rfl, ?_⟩
            refine mt_if_eq (pc := 18) (tgt := 25) dX2_read_18 (by decide) (fun c18 => ?_) (fun c18 => ?_)
            · exact absurd c18 (by decide)
            · skip
              refine mt_iconst (pc := 21) (v := 1) dX2_read_21 (by decide) ?_
              refine mt_goto (pc := 22) (tgt := 26) dX2_read_22 (by decide) ?_
              exact mt_zret rfl (by first | exact Or.inl rfl | exact Or.inr rfl) dX2_read_26 (Nat.le_of_ble_eq_true rfl) (Nat.le_of_ble_eq_true rfl) ⟨rfl, fun j a b c => (hset_ne a).trans ((hF j a b c).trans (hset_ne b)), Or.inr ⟨c2, by rw [hS0, if_neg (by omega)], rfl, ⟨_, _, hset_eq _ _ _⟩, LR_s1 hC2⟩⟩
          · skip
            cases hv
            refine ⟨rfl, ?_⟩
            refine mt_if_eq (pc := 18) (tgt := 25) dX2_read_18 (by decide) (fun _ => ?_) (fun z => absurd rfl z)
            refine mt_iconst (pc := 25) (v := 0) dX2_read_25 (by decide) ?_
            exact mt_zret rfl (Or.inl rfl) dX2_read_26 (Nat.le_of_ble_eq_true rfl) (Nat.le_of_ble_eq_true rfl) ⟨rfl, fun j a b c => (hset_ne a).trans ((hF j a b c).trans (hset_ne b)), Or.inl ⟨1, sk b e r2, by rw [hS0, if_pos hk], rfl, ⟨_, _, hset_eq _ _ _⟩, LX_s1 hC2.x⟩⟩
end LAWREAD3
