/-! Work: its reader, STEPS. -/
theorem SW_behind {R : Nat → Int32} {ss ts : List ST} {x z : Nat} (h : SW R (ss ++ (6, [x], 0) :: ts)) : SW (upd R (6 * ss.length + 5) (nI z)) (ss ++ (6, [x], z) :: ts) := by
  intro i u hu
  rcases Nat.lt_trichotomy i ss.length with hi | hi | hi
  · rw [List.getElem?_append_left hi] at hu
    have h1 := h i u (by rw [List.getElem?_append_left hi]; exact hu)
    exact ⟨stOK_low h1.1 h1.2 (fun j hj => upd_ne (by omega)), h1.2⟩
  · subst hi
    rw [List.getElem?_append_right (Nat.le_refl _), Nat.sub_self] at hu
    cases hu
    have h1 := (h ss.length (6, [x], 0) (by rw [List.getElem?_append_right (Nat.le_refl _), Nat.sub_self]; rfl)).1
    refine ⟨⟨by rw [upd_ne (by omega)]; exact h1.1, fun j y hy => ?_, fun _ => upd_eq _ _ _⟩, by simp⟩
    have hj : j < 1 := (List.getElem?_eq_some_iff.mp hy).1
    rw [upd_ne (by omega)]
    exact h1.2.1 j y hy
  · obtain ⟨k, rfl⟩ : ∃ k, i = ss.length + (k + 1) := ⟨i - ss.length - 1, by omega⟩
    rw [List.getElem?_append_right (by omega), show ss.length + (k + 1) - ss.length = k + 1 by omega, List.getElem?_cons_succ] at hu
    have h1 := h (ss.length + (k + 1)) u (by rw [List.getElem?_append_right (by omega), show ss.length + (k + 1) - ss.length = k + 1 by omega, List.getElem?_cons_succ]; exact hu)
    refine ⟨⟨by rw [upd_ne (by omega)]; exact h1.1.1, fun j y hy => ?_, fun q => by rw [upd_ne (by omega)]; exact h1.1.2.2 q⟩, h1.2⟩
    rw [upd_ne (by omega)]
    exact h1.1.2.1 j y hy
def agS (b : Nat → Int32) (e : Nat) (T : Nat → Nat → rsW) (o n q r : Nat) : rsW := if 6 ≤ o then .inl (3, q) else sbind (numS b e r 0 30) fun x => sbind (signS b e x.2 91) fun y => sbind (T (n + 1) y) fun z => sbind (signS b e z.1 93) fun u => .inr (u, (6, [x.1], n + 1 + z.2.length) :: z.2)
section WORK3
variable {G : mm_G} {l : Launch} {d nx : Nat} {h : Nat → mm_E} {b : Nat → Int32} {sz st fk fp bg dn rf : Int32} {e sl so : Nat} {R : Nat → Int32}
theorem c_readAgain {o q r : Nat} {T : Nat → Nat → rsW} {ss : List ST} (hd2 : 3 ≤ d) (ho : o ≤ 6) (hbb : BY b) (hTc : o < 6 → CLw G l b e sl so bg dn rf sz fk fp (d - 1) (o + 1) T) (hGd : GdW e so sl T) (hx : 34 ≤ nx) (hB : h 2 = byE b) (hT : h 1 = tpE sz (nI e) (nI r) (nI q) fk fp) (hr : r ≤ e) (he : e ≤ 150) (hl : 5 * ss.length + 5 ≤ r) (h31 : h 31 = wkE (nI (ss.length + 1)) (nI sl) (nI so) bg dn rf) (h32 : h 32 = iaE 180 R) (hS : SW R ss) (hR6 : R (6 * ss.length) = nI 6) : mm_Con G l yX9_readAgain cX9_readAgain 4 (some .boolean) d 0 0 [.ref 31, .ref 1, .int (nI ss.length), .int (nI o)] nx h (P_wk (agS b e T o ss.length q r) ss e sl so bg dn rf sz fk fp nx h) := by
  refine mm_start (lo := [some (.ref 31), some (.ref 1), some (.int (nI ss.length)), some (.int (nI o))]) pn_X9 rfl rfl (Nat.le_of_ble_eq_true rfl) ?_
  refine mt_iload_n (pc := 0) dX9_readAgain_0 rfl ?_
  refine mt_bipush (pc := 1) (v := 6) dX9_readAgain_1 (by decide) ?_
  refine mt_icmp_lt (pc := 3) (tgt := 12) dX9_readAgain_3 (by decide) (fun c3 => ?_) (fun c3 => ?_)
  · skip
    have ho2 : o < 6 := (nI_ltI (a := o) (b := 6) (by omega) (by decide)).mp c3
    refine mt_aload_n (pc := 12) dX9_readAgain_12 rfl ?_
    refine mt_aload_n (pc := 13) dX9_readAgain_13 rfl ?_
    refine mt_iload_n (pc := 14) dX9_readAgain_14 rfl ?_
    refine mt_iconst (pc := 15) (v := 1) dX9_readAgain_15 (by decide) ?_
    refine mt_iconst (pc := 16) (v := 0) dX9_readAgain_16 (by decide) ?_
    refine mt_bipush (pc := 17) (v := 30) dX9_readAgain_17 (by decide) ?_
    refine mt_aV (pc := 19) (c_readNumber (d := 2) (i := ss.length) (k := 1) (by decide) (by decide) (Nat.le_refl 2) hx hB hT hr he (by omega) h31 h32) cal_X9_readNumber vir_X9_readNumber ml_X9_69 dX9_readAgain_19 (by first | assumption | omega) (by repeat (first | exact hset_eq _ _ _ | assumption | rw [hset_ne (by first | assumption | decide | omega)])) (by first | assumption | (show _ ≤ d; omega)) ⟨(Nat.le_of_ble_eq_true rfl), (Nat.le_of_ble_eq_true rfl)⟩ rfl rfl (Nat.le_of_ble_eq_true rfl) ?_ ?_
    · rintro x9 n9 k9 h9
      simp [P_sign, P_rn, P_wk] at h9
    · rintro v9 n9 k9 ⟨rfl, hF1, hE1, ⟨kd, pl, hN, hv, hT1, hR1⟩ | ⟨x, r1, hN, hv, hT1, hR1⟩⟩
      · skip
        cases hv
        refine ⟨rfl, ?_⟩
        refine mt_if_eq (pc := 22) (tgt := 45) dX9_readAgain_22 (by decide) (fun _ => ?_) (fun z => absurd rfl z)
        refine mt_iconst (pc := 45) (v := 0) dX9_readAgain_45 (by decide) ?_
        exact mt_zret rfl (Or.inl rfl) dX9_readAgain_46 (Nat.le_of_ble_eq_true rfl) (Nat.le_of_ble_eq_true rfl) ⟨rfl, hF1, Or.inl ⟨kd, pl, by rw [agS, if_neg (Nat.not_le.mpr ho2), hN]; rfl, rfl, hT1, by obtain ⟨R1, hR1⟩ := hR1; exact ⟨_, _, _, _, _, _, _, hE1.trans h31, hR1⟩⟩⟩
      · skip
        cases hv
        refine ⟨rfl, ?_⟩
        refine mt_if_eq (pc := 22) (tgt := 45) dX9_readAgain_22 (by decide) (fun c22 => ?_) (fun c22 => ?_)
        · exact absurd c22 (by decide)
        · skip
          have hn := numS_k (lo := 0) (hi := 30) hbb hr (by decide) (by decide) hN
          have hB1 := (hF1 2 (by decide) (by decide) (by decide)).trans hB
          have hS0 : agS b e T o ss.length q r = sbind (signS b e r1 91) fun y => sbind (T (ss.length + 1) y) fun z => sbind (signS b e z.1 93) fun u => .inr (u, (6, [x], ss.length + 1 + z.2.length) :: z.2) := by rw [agS, if_neg (Nat.not_le.mpr ho2), hN]; rfl
          refine mt_aload_n (pc := 25) dX9_readAgain_25 rfl ?_
          refine mt_bipush (pc := 26) (v := 91) dX9_readAgain_26 (by decide) ?_
          refine mt_aV (pc := 28) (c_takeSign (d := 1) (Nat.le_refl 1) (by omega) hB1 hT1 hn.2.1 (by omega)) cal_X7_takeSign vir_X7_takeSign ml_X9_55 dX9_readAgain_28 (by first | assumption | omega) (by repeat (first | exact hset_eq _ _ _ | assumption | rw [hset_ne (by first | assumption | decide | omega)])) (by first | assumption | (show _ ≤ d; omega)) ⟨(Nat.le_of_ble_eq_true rfl), (Nat.le_of_ble_eq_true rfl)⟩ rfl rfl (Nat.le_of_ble_eq_true rfl) ?_ ?_
          · rintro x9 n9 k9 h9
            simp [P_sign, P_rn, P_wk] at h9
          · rintro v9 n9 k9 ⟨rfl, ⟨hc, hv, rfl⟩ | ⟨hc, hv, rfl⟩⟩
            · skip
              cases hv
              refine ⟨rfl, ?_⟩
              refine mt_if_eq (pc := 31) (tgt := 45) dX9_readAgain_31 (by decide) (fun c31 => ?_) (fun c31 => ?_)
              · exact absurd c31 (by decide)
              · skip
                have hlt := pkv_lt hc (by decide)
                have hsk := sk_le (b := b) hn.2.1
                have hW1 : WR (hset k9 1 (tpE sz (nI e) (nI (sk b e r1 + 1)) (nI (sk b e r)) fk fp)) sl so bg dn rf (ss ++ [(6, [x], 0)]) := by
                  refine WR_1 ⟨by rw [List.length_append]; exact hE1.trans h31, _, hR1, SW_push hS (fun j hj => upd_ne (by omega)) ⟨by rw [upd_ne (by omega)]; exact hR6, fun j y hy => ?_, fun z => absurd rfl z⟩ (by simp)⟩
                  have hj : j < 1 := (List.getElem?_eq_some_iff.mp hy).1
                  obtain rfl : j = 0 := by omega
                  cases hy
                  exact upd_eq _ _ _
                refine mt_aload_n (pc := 34) dX9_readAgain_34 rfl ?_
                refine mt_aload_n (pc := 35) dX9_readAgain_35 rfl ?_
                refine mt_iload_n (pc := 36) dX9_readAgain_36 rfl ?_
                refine mt_iconst (pc := 37) (v := 1) dX9_readAgain_37 (by decide) ?_
                refine mt_iadd (pc := 38) dX9_readAgain_38 ?_
                rw [show (nI o + 1 : Int32) = nI (o + 1) from nI_1 o]
                refine mt_aV (pc := 39) (hTc ho2 _ _ _ _ (ss ++ [(6, [x], 0)]) hx ((hset_ne (by decide)).trans hB1) (hset_eq _ _ _) (by omega) hW1 (by rw [List.length_append, List.length_singleton]; omega)) cal_X9_readSteps vir_X9_readSteps ml_X9_38 dX9_readAgain_39 (by first | assumption | omega) hW1.1 (by show _ ≤ d; omega) ⟨(Nat.le_of_ble_eq_true rfl), (Nat.le_of_ble_eq_true rfl)⟩ rfl rfl (Nat.le_of_ble_eq_true rfl) ?_ ?_
                · rintro x9 n9 k9 h9
                  simp [P_sign, P_rn, P_wk] at h9
                · rintro v9 n9 k9 ⟨rfl, hF2, ⟨kd, pl, hS2, hv, hT2, hW2⟩ | ⟨r2, ts, hS2, hv, ⟨s2, hT2⟩, hW2⟩⟩
                  · skip
                    cases hv
                    refine ⟨rfl, ?_⟩
                    refine mt_if_ne (pc := 42) (tgt := 47) dX9_readAgain_42 (by decide) (fun z => absurd rfl z) (fun _ => ?_)
                    refine mt_iconst (pc := 45) (v := 0) dX9_readAgain_45 (by decide) ?_
                    exact mt_zret rfl (Or.inl rfl) dX9_readAgain_46 (Nat.le_of_ble_eq_true rfl) (Nat.le_of_ble_eq_true rfl) ⟨rfl, FRk_trans (FRk_1 hF1) hF2, Or.inl ⟨kd, pl, by rw [List.length_append, List.length_singleton] at hS2; rw [hS0, signS, if_pos hc]; show sbind (T (ss.length + 1) (sk b e r1 + 1)) _ = _; rw [hS2]; rfl, rfl, hT2, hW2⟩⟩
                  · skip
                    cases hv
                    refine ⟨rfl, ?_⟩
                    refine mt_if_ne (pc := 42) (tgt := 47) dX9_readAgain_42 (by decide) (fun c42 => ?_) (fun c42 => ?_)
                    · skip
                      have hg := hGd _ _ (by omega) _ _ hS2
                      have hB2 := (hF2 2 (by decide) (by decide) (by decide)).trans ((hset_ne (by decide)).trans hB1)
                      rw [List.length_append, List.length_singleton] at hS2
                      have hS3 : agS b e T o ss.length q r = sbind (signS b e r2 93) fun u => .inr (u, (6, [x], ss.length + 1 + ts.length) :: ts) := by rw [hS0, signS, if_pos hc]; show sbind (T (ss.length + 1) (sk b e r1 + 1)) _ = _; rw [hS2]; rfl
                      obtain ⟨hW31, R2, hW32, hSW2⟩ := hW2
                      have hln : (ss ++ [(6, [x], 0)] ++ ts).length = ss.length + 1 + ts.length := by simp only [List.length_append, List.length_singleton]
                      rw [hln] at hW31
                      rw [List.append_assoc, List.singleton_append] at hSW2
                      refine mt_aload_n (pc := 47) dX9_readAgain_47 rfl ?_
                      refine mt_get (pc := 48) gf_X9_11 dX9_readAgain_48 (by first | assumption | omega) (by repeat (first | exact hset_eq _ _ _ | assumption | rw [hset_ne (by first | assumption | decide | omega)])) rfl ?_
                      refine mt_iload_n (pc := 51) dX9_readAgain_51 rfl ?_
                      refine mt_bipush (pc := 52) (v := 6) dX9_readAgain_52 (by decide) ?_
                      refine mt_imul (pc := 54) dX9_readAgain_54 ?_
                      refine mt_iconst (pc := 55) (v := 5) dX9_readAgain_55 (by decide) ?_
                      refine mt_iadd (pc := 56) dX9_readAgain_56 ?_
                      refine mt_aload_n (pc := 57) dX9_readAgain_57 rfl ?_
                      refine mt_get (pc := 58) gf_X9_15 dX9_readAgain_58 (by first | assumption | omega) (by repeat (first | exact hset_eq _ _ _ | assumption | rw [hset_ne (by first | assumption | decide | omega)])) rfl ?_
                      rw [show (nI ss.length * 6 + 5 : Int32) = nI (6 * ss.length + 5) from ix61 ss.length 5]
                      refine mt_cN (pc := 61) (c_setEntry (d := 0) (by omega) hW32 (by decide)) cal_X10_setEntry sta_X10_setEntry mn_X9_92 dX9_readAgain_61 (by first | assumption | (show _ ≤ d; omega)) ⟨(Nat.le_of_ble_eq_true rfl), (Nat.le_of_ble_eq_true rfl)⟩ rfl rfl (Nat.le_of_ble_eq_true rfl) ?_
                      rw [mm_wr_nI (by omega) (by decide)]
                      refine mt_aload_n (pc := 64) dX9_readAgain_64 rfl ?_
                      refine mt_bipush (pc := 65) (v := 93) dX9_readAgain_65 (by decide) ?_
                      refine mt_aV (pc := 67) (c_takeSign (d := 1) (Nat.le_refl 1) (by omega) ((hset_ne (by decide)).trans hB2) ((hset_ne (by decide)).trans hT2) hg.2.1 (by omega)) cal_X7_takeSign vir_X7_takeSign ml_X9_55 dX9_readAgain_67 (by first | assumption | omega) (by repeat (first | exact hset_eq _ _ _ | assumption | rw [hset_ne (by first | assumption | decide | omega)])) (by first | assumption | (show _ ≤ d; omega)) ⟨(Nat.le_of_ble_eq_true rfl), (Nat.le_of_ble_eq_true rfl)⟩ rfl rfl (Nat.le_of_ble_eq_true rfl) ?_ ?_
                      · rintro x9 n9 k9 h9
                        simp [P_sign, P_rn, P_wk] at h9
                      · rintro v9 n9 k9 ⟨rfl, ⟨hc2, hv, rfl⟩ | ⟨hc2, hv, rfl⟩⟩
                        · skip
                          cases hv
                          refine ⟨rfl, ?_⟩
                          exact mt_zret rfl (Or.inr rfl) dX9_readAgain_70 (Nat.le_of_ble_eq_true rfl) (Nat.le_of_ble_eq_true rfl) ⟨rfl, FRk_1 (FRk_32 (FRk_trans (FRk_1 hF1) hF2)), Or.inr ⟨_, (6, [x], ss.length + 1 + ts.length) :: ts, by rw [hS3, signS, if_pos hc2]; rfl, rfl, ⟨_, hset_eq _ _ _⟩, WR_1 ⟨by rw [hset_ne (by decide), hW31]; simp only [List.length_append, List.length_cons]; rw [show ss.length + 1 + ts.length = ss.length + (ts.length + 1) by omega], _, hset_eq _ _ _, SW_behind hSW2⟩⟩⟩
                        · skip
                          cases hv
                          refine ⟨rfl, ?_⟩
                          exact mt_zret rfl (Or.inl rfl) dX9_readAgain_70 (Nat.le_of_ble_eq_true rfl) (Nat.le_of_ble_eq_true rfl) ⟨rfl, FRk_1 (FRk_32 (FRk_trans (FRk_1 hF1) hF2)), Or.inl ⟨1, _, by rw [hS3, signS, if_neg hc2]; rfl, rfl, ⟨_, _, hset_eq _ _ _⟩, WX_1 ⟨_, _, _, _, _, _, _, by rw [hset_ne (by decide)]; exact hW31, hset_eq _ _ _⟩⟩⟩
                    · exact absurd c42 (by decide)
            · skip
              cases hv
              refine ⟨rfl, ?_⟩
              refine mt_if_eq (pc := 31) (tgt := 45) dX9_readAgain_31 (by decide) (fun _ => ?_) (fun z => absurd rfl z)
              refine mt_iconst (pc := 45) (v := 0) dX9_readAgain_45 (by decide) ?_
              exact mt_zret rfl (Or.inl rfl) dX9_readAgain_46 (Nat.le_of_ble_eq_true rfl) (Nat.le_of_ble_eq_true rfl) ⟨rfl, FRk_1 hF1, Or.inl ⟨1, _, by rw [hS0, signS, if_neg hc]; rfl, rfl, ⟨_, _, hset_eq _ _ _⟩, WX_1 ⟨_, _, _, _, _, _, _, hE1.trans h31, hR1⟩⟩⟩
  · skip
    have ho2 : 6 ≤ o := Nat.le_of_not_lt fun z => c3 (nI_lt (b := 6) z (by decide))
    refine mt_aload_n (pc := 6) dX9_readAgain_6 rfl ?_
    refine mt_iconst (pc := 7) (v := 3) dX9_readAgain_7 (by decide) ?_
    refine mt_cV (pc := 8) (c_failAtStart (d := 0) (by omega) hT) cal_X7_failAtStart vir_X7_failAtStart ml_X9_89 dX9_readAgain_8 (by first | assumption | omega) (by repeat (first | exact hset_eq _ _ _ | assumption | rw [hset_ne (by first | assumption | decide | omega)])) (by first | assumption | (show _ ≤ d; omega)) ⟨(Nat.le_of_ble_eq_true rfl), (Nat.le_of_ble_eq_true rfl)⟩ rfl rfl (Nat.le_of_ble_eq_true rfl) ?_
    exact mt_zret rfl (by first | exact Or.inl rfl | exact Or.inr rfl) dX9_readAgain_11 (Nat.le_of_ble_eq_true rfl) (Nat.le_of_ble_eq_true rfl) ⟨rfl, FRk_1 FRk_rf, Or.inl ⟨3, q, by rw [agS, if_pos ho2], rfl, ⟨_, _, hset_eq _ _ _⟩, WX_1 ⟨_, _, _, _, _, _, _, h31, h32⟩⟩⟩
theorem c_readStep {o q r : Nat} {T : Nat → Nat → rsW} {ss : List ST} (hd2 : 5 ≤ d) (ho : o ≤ 6) (hbb : BY b) (hso : so ≤ 8) (hsl : sl ≤ 8) (hTc : o < 6 → CLw G l b e sl so bg dn rf sz fk fp (d - 1 - 1) (o + 1) T) (hGd : GdW e so sl T) (hx : 34 ≤ nx) (hB : h 2 = byE b) (hT : h 1 = tpE sz (nI e) (nI r) (nI q) fk fp) (hq : q < r) (hr : r ≤ e) (he : e ≤ 150) (hl : 5 * ss.length ≤ q) (hW : WR h sl so bg dn rf ss) : mm_Con G l yX9_readStep cX9_readStep 4 (some .boolean) d 0 0 [.ref 31, .ref 1, .int (nI o)] nx h (P_wk (stepS b e so sl T o ss.length q r) ss e sl so bg dn rf sz fk fp nx h) := by
  obtain ⟨h31, R, h32, hS⟩ := hW
  have hS0 : stepS b e so sl T o ss.length q r = stepS b e so sl T o ss.length q r := rfl
  conv at hS0 => rhs; unfold stepS
  have hW31 : hset h 31 (wkE (nI (ss.length + 1)) (nI sl) (nI so) bg dn rf) 31 = wkE (nI (ss.length + 1)) (nI sl) (nI so) bg dn rf := hset_eq _ _ _
  have hW32 : hset h 31 (wkE (nI (ss.length + 1)) (nI sl) (nI so) bg dn rf) 32 = iaE 180 R := (hset_ne (by decide)).trans h32
  have hWT : hset h 31 (wkE (nI (ss.length + 1)) (nI sl) (nI so) bg dn rf) 1 = tpE sz (nI e) (nI r) (nI q) fk fp := (hset_ne (by decide)).trans hT
  have hWB : hset h 31 (wkE (nI (ss.length + 1)) (nI sl) (nI so) bg dn rf) 2 = byE b := (hset_ne (by decide)).trans hB
  have hWF : FRk h (hset h 31 (wkE (nI (ss.length + 1)) (nI sl) (nI so) bg dn rf)) := FRk_31 FRk_rf
  have s1 := sub1_le hso
  have s2 := sub1_le hsl
  refine mm_start (lo := [some (.ref 31), some (.ref 1), some (.int (nI o)), none]) pn_X9 rfl rfl (Nat.le_of_ble_eq_true rfl) ?_
  refine mt_aload_n (pc := 0) dX9_readStep_0 rfl ?_
  refine mt_get (pc := 1) gf_X9_15 dX9_readStep_1 (by first | assumption | omega) (by repeat (first | exact hset_eq _ _ _ | assumption | rw [hset_ne (by first | assumption | decide | omega)])) rfl ?_
  refine mt_istore_n (pc := 4) dX9_readStep_4 (Nat.le_of_ble_eq_true rfl) rfl ?_
  refine mt_aload_n (pc := 5) dX9_readStep_5 rfl ?_
  refine mt_dup (pc := 6) dX9_readStep_6 rfl ?_
  refine mt_get (pc := 7) gf_X9_15 dX9_readStep_7 (by first | assumption | omega) (by repeat (first | exact hset_eq _ _ _ | assumption | rw [hset_ne (by first | assumption | decide | omega)])) rfl ?_
  refine mt_iconst (pc := 10) (v := 1) dX9_readStep_10 (by decide) ?_
  refine mt_iadd (pc := 11) dX9_readStep_11 ?_
  first
    | refine mt_puti2 (pc := 12) pf_X9_15 dX9_readStep_12 (by first | assumption | omega) (Nat.le_of_ble_eq_true rfl) ?_
    | refine mt_puti (pc := 12) pf_X9_15 dX9_readStep_12 (by first | assumption | omega) (by repeat (first | exact hset_eq _ _ _ | assumption | rw [hset_ne (by first | assumption | decide | omega)])) (Nat.le_of_ble_eq_true rfl) ?_
  rw [show (nI ss.length + 1 : Int32) = nI (ss.length + 1) from nI_1 _]
  show mm_T _ _ _ _ (hset h 31 (wkE (nI (ss.length + 1)) (nI sl) (nI so) bg dn rf)) _ _ _ _ _
  generalize hset h 31 (wkE (nI (ss.length + 1)) (nI sl) (nI so) bg dn rf) = h0 at hW31 hW32 hWT hWB hWF
  refine mt_aload_n (pc := 15) dX9_readStep_15 rfl ?_
  refine mt_ldcS (pc := 16) (tx := "lend") (j := 12) (by decide +kernel) dX9_readStep_16 ?_
  refine mt_cV (pc := 18) (c_wordIs (d := 4) (Nat.le_refl 4) (by omega) (by decide) hWB hWT (by omega) (by omega)) cal_X7_wordIs vir_X7_wordIs ml_X9_61 dX9_readStep_18 (by first | assumption | omega) (by repeat (first | exact hset_eq _ _ _ | assumption | rw [hset_ne (by first | assumption | decide | omega)])) (by first | assumption | (show _ ≤ d; omega)) ⟨(Nat.le_of_ble_eq_true rfl), (Nat.le_of_ble_eq_true rfl)⟩ rfl rfl (Nat.le_of_ble_eq_true rfl) ?_
  refine mt_if_eq (pc := 21) (tgt := 99) dX9_readStep_21 (by decide) (fun c21 => ?_) (fun c21 => ?_)
  · skip
    rw [if_neg (wdi0.mp c21)] at hS0
    refine mt_aload_n (pc := 99) dX9_readStep_99 rfl ?_
    refine mt_ldcS (pc := 100) (tx := "pay") (j := 13) (by decide +kernel) dX9_readStep_100 ?_
    refine mt_cV (pc := 102) (c_wordIs (d := 4) (Nat.le_refl 4) (by omega) (by decide) hWB hWT (by omega) (by omega)) cal_X7_wordIs vir_X7_wordIs ml_X9_61 dX9_readStep_102 (by first | assumption | omega) (by repeat (first | exact hset_eq _ _ _ | assumption | rw [hset_ne (by first | assumption | decide | omega)])) (by first | assumption | (show _ ≤ d; omega)) ⟨(Nat.le_of_ble_eq_true rfl), (Nat.le_of_ble_eq_true rfl)⟩ rfl rfl (Nat.le_of_ble_eq_true rfl) ?_
    refine mt_if_eq (pc := 105) (tgt := 136) dX9_readStep_105 (by decide) (fun c105 => ?_) (fun c105 => ?_)
    · skip
      rw [if_neg (wdi0.mp c105)] at hS0
      refine mt_aload_n (pc := 136) dX9_readStep_136 rfl ?_
      refine mt_ldcS (pc := 137) (tx := "earn") (j := 14) (by decide +kernel) dX9_readStep_137 ?_
      refine mt_cV (pc := 139) (c_wordIs (d := 4) (Nat.le_refl 4) (by omega) (by decide) hWB hWT (by omega) (by omega)) cal_X7_wordIs vir_X7_wordIs ml_X9_61 dX9_readStep_139 (by first | assumption | omega) (by repeat (first | exact hset_eq _ _ _ | assumption | rw [hset_ne (by first | assumption | decide | omega)])) (by first | assumption | (show _ ≤ d; omega)) ⟨(Nat.le_of_ble_eq_true rfl), (Nat.le_of_ble_eq_true rfl)⟩ rfl rfl (Nat.le_of_ble_eq_true rfl) ?_
      refine mt_if_eq (pc := 142) (tgt := 190) dX9_readStep_142 (by decide) (fun c142 => ?_) (fun c142 => ?_)
      · skip
        rw [if_neg (wdi0.mp c142)] at hS0
        refine mt_aload_n (pc := 190) dX9_readStep_190 rfl ?_
        refine mt_ldcS (pc := 191) (tx := "seal") (j := 15) (by decide +kernel) dX9_readStep_191 ?_
        refine mt_cV (pc := 193) (c_wordIs (d := 4) (Nat.le_refl 4) (by omega) (by decide) hWB hWT (by omega) (by omega)) cal_X7_wordIs vir_X7_wordIs ml_X9_61 dX9_readStep_193 (by first | assumption | omega) (by repeat (first | exact hset_eq _ _ _ | assumption | rw [hset_ne (by first | assumption | decide | omega)])) (by first | assumption | (show _ ≤ d; omega)) ⟨(Nat.le_of_ble_eq_true rfl), (Nat.le_of_ble_eq_true rfl)⟩ rfl rfl (Nat.le_of_ble_eq_true rfl) ?_
        refine mt_if_eq (pc := 196) (tgt := 231) dX9_readStep_196 (by decide) (fun c196 => ?_) (fun c196 => ?_)
        · skip
          rw [if_neg (wdi0.mp c196)] at hS0
          refine mt_aload_n (pc := 231) dX9_readStep_231 rfl ?_
          refine mt_ldcS (pc := 232) (tx := "open") (j := 16) (by decide +kernel) dX9_readStep_232 ?_
          refine mt_cV (pc := 234) (c_wordIs (d := 4) (Nat.le_refl 4) (by omega) (by decide) hWB hWT (by omega) (by omega)) cal_X7_wordIs vir_X7_wordIs ml_X9_61 dX9_readStep_234 (by first | assumption | omega) (by repeat (first | exact hset_eq _ _ _ | assumption | rw [hset_ne (by first | assumption | decide | omega)])) (by first | assumption | (show _ ≤ d; omega)) ⟨(Nat.le_of_ble_eq_true rfl), (Nat.le_of_ble_eq_true rfl)⟩ rfl rfl (Nat.le_of_ble_eq_true rfl) ?_
          refine mt_if_eq (pc := 237) (tgt := 272) dX9_readStep_237 (by decide) (fun c237 => ?_) (fun c237 => ?_)
          · skip
            rw [if_neg (wdi0.mp c237)] at hS0
            refine mt_aload_n (pc := 272) dX9_readStep_272 rfl ?_
            refine mt_ldcS (pc := 273) (tx := "night") (j := 11) (by decide +kernel) dX9_readStep_273 ?_
            refine mt_cV (pc := 275) (c_wordIs (d := 4) (Nat.le_refl 4) (by omega) (by decide) hWB hWT (by omega) (by omega)) cal_X7_wordIs vir_X7_wordIs ml_X9_61 dX9_readStep_275 (by first | assumption | omega) (by repeat (first | exact hset_eq _ _ _ | assumption | rw [hset_ne (by first | assumption | decide | omega)])) (by first | assumption | (show _ ≤ d; omega)) ⟨(Nat.le_of_ble_eq_true rfl), (Nat.le_of_ble_eq_true rfl)⟩ rfl rfl (Nat.le_of_ble_eq_true rfl) ?_
            refine mt_if_eq (pc := 278) (tgt := 288) dX9_readStep_278 (by decide) (fun c278 => ?_) (fun c278 => ?_)
            · skip
              rw [if_neg (wdi0.mp c278)] at hS0
              refine mt_aload_n (pc := 288) dX9_readStep_288 rfl ?_
              refine mt_ldcS (pc := 289) (tx := "again") (j := 17) (by decide +kernel) dX9_readStep_289 ?_
              refine mt_cV (pc := 291) (c_wordIs (d := 4) (Nat.le_refl 4) (by omega) (by decide) hWB hWT (by omega) (by omega)) cal_X7_wordIs vir_X7_wordIs ml_X9_61 dX9_readStep_291 (by first | assumption | omega) (by repeat (first | exact hset_eq _ _ _ | assumption | rw [hset_ne (by first | assumption | decide | omega)])) (by first | assumption | (show _ ≤ d; omega)) ⟨(Nat.le_of_ble_eq_true rfl), (Nat.le_of_ble_eq_true rfl)⟩ rfl rfl (Nat.le_of_ble_eq_true rfl) ?_
              refine mt_if_eq (pc := 294) (tgt := 323) dX9_readStep_294 (by decide) (fun c294 => ?_) (fun c294 => ?_)
              · skip
                rw [if_neg (wdi0.mp c294)] at hS0
                refine mt_aload_n (pc := 323) dX9_readStep_323 rfl ?_
                refine mt_iconst (pc := 324) (v := 1) dX9_readStep_324 (by decide) ?_
                refine mt_cV (pc := 325) (c_failAtStart (d := 0) (by omega) hWT) cal_X7_failAtStart vir_X7_failAtStart ml_X9_89 dX9_readStep_325 (by first | assumption | omega) (by repeat (first | exact hset_eq _ _ _ | assumption | rw [hset_ne (by first | assumption | decide | omega)])) (by first | assumption | (show _ ≤ d; omega)) ⟨(Nat.le_of_ble_eq_true rfl), (Nat.le_of_ble_eq_true rfl)⟩ rfl rfl (Nat.le_of_ble_eq_true rfl) ?_
                exact mt_zret rfl (by first | exact Or.inl rfl | exact Or.inr rfl) dX9_readStep_328 (Nat.le_of_ble_eq_true rfl) (Nat.le_of_ble_eq_true rfl) ⟨rfl, FRk_1 hWF, Or.inl ⟨1, q, hS0, rfl, ⟨_, _, hset_eq _ _ _⟩, WX_1 ⟨_, _, _, _, _, _, _, hW31, hW32⟩⟩⟩
              · skip
                have hwd := Classical.not_not.mp fun z => c294 (wdi0.mpr z)
                rw [if_pos hwd] at hS0
                refine mt_aload_n (pc := 297) dX9_readStep_297 rfl ?_
                refine mt_iload_n (pc := 298) dX9_readStep_298 rfl ?_
                refine mt_bipush (pc := 299) (v := 6) dX9_readStep_299 (by decide) ?_
                refine mt_cV (pc := 301) (c_wbegin (d := 1) (Nat.le_refl 1) hx (by omega) hW31 hW32) cal_X9_begin vir_X9_begin ml_X9_65 dX9_readStep_301 (by first | assumption | omega) hW31 (by first | assumption | (show _ ≤ d; omega)) ⟨(Nat.le_of_ble_eq_true rfl), (Nat.le_of_ble_eq_true rfl)⟩ rfl rfl (Nat.le_of_ble_eq_true rfl) ?_
                refine mt_if_eq (pc := 304) (tgt := 321) dX9_readStep_304 (by decide) (fun c304 => ?_) (fun c304 => ?_)
                · exact absurd c304 (by decide)
                · skip
                  refine mt_aload_n (pc := 307) dX9_readStep_307 rfl ?_
                  refine mt_aload_n (pc := 308) dX9_readStep_308 rfl ?_
                  refine mt_iload_n (pc := 309) dX9_readStep_309 rfl ?_
                  refine mt_iload_n (pc := 310) dX9_readStep_310 rfl ?_
                  refine mt_aV (pc := 311) (c_readAgain (d := d - 1) (q := q) (r := r) (T := T) (ss := ss) (by omega) ho hbb hTc hGd hx ((hset_ne (by decide)).trans hWB) ((hset_ne (by decide)).trans hWT) hr he (by have := hwd.1; rw [show mm_tl.getD 17 0 = 5 from rfl] at this; omega) ((hset_ne (by decide)).trans hW31) (hset_eq _ _ _) (R := upd R (6 * ss.length) 6) (fun i t ht => ⟨stOK_low (hS i t ht).1 (hS i t ht).2 (fun j hj => upd_ne (by have := (List.getElem?_eq_some_iff.mp ht).1; omega)), (hS i t ht).2⟩) (upd_eq _ _ _)) cal_X9_readAgain vir_X9_readAgain ml_X9_85 dX9_readStep_311 (by first | assumption | omega) ((hset_ne (by decide)).trans hW31) (by show _ ≤ d; omega) ⟨(Nat.le_of_ble_eq_true rfl), (Nat.le_of_ble_eq_true rfl)⟩ rfl rfl (Nat.le_of_ble_eq_true rfl) ?_ ?_
                  · rintro x9 n9 k9 h9
                    simp [P_rn, P_wk] at h9
                  · rintro v9 n9 k9 ⟨rfl, hF2, ⟨kd, pl, hS2, hv, hT2, hW2⟩ | ⟨r2, ts, hS2, hv, hT2, hW2⟩⟩
                    · skip
                      cases hv
                      refine ⟨rfl, ?_⟩
                      refine mt_if_eq (pc := 314) (tgt := 321) dX9_readStep_314 (by decide) (fun _ => ?_) (fun z => absurd rfl z)
                      refine mt_iconst (pc := 321) (v := 0) dX9_readStep_321 (by decide) ?_
                      exact mt_zret rfl (Or.inl rfl) dX9_readStep_322 (Nat.le_of_ble_eq_true rfl) (Nat.le_of_ble_eq_true rfl) ⟨rfl, FRk_trans (FRk_32 hWF) hF2, Or.inl ⟨kd, pl, hS0.trans hS2, rfl, hT2, hW2⟩⟩
                    · skip
                      cases hv
                      refine ⟨rfl, ?_⟩
                      refine mt_if_eq (pc := 314) (tgt := 321) dX9_readStep_314 (by decide) (fun c314 => ?_) (fun c314 => ?_)
                      · exact absurd c314 (by decide)
                      · skip
                        refine mt_iconst (pc := 317) (v := 1) dX9_readStep_317 (by decide) ?_
                        refine mt_goto (pc := 318) (tgt := 322) dX9_readStep_318 (by decide) ?_
                        exact mt_zret rfl (by first | exact Or.inl rfl | exact Or.inr rfl) dX9_readStep_322 (Nat.le_of_ble_eq_true rfl) (Nat.le_of_ble_eq_true rfl) ⟨rfl, FRk_trans (FRk_32 hWF) hF2, Or.inr ⟨r2, ts, hS0.trans hS2, rfl, hT2, hW2⟩⟩
            · skip
              have hwd := Classical.not_not.mp fun z => c278 (wdi0.mpr z)
              rw [if_pos hwd] at hS0
              refine mt_aload_n (pc := 281) dX9_readStep_281 rfl ?_
              refine mt_iload_n (pc := 282) dX9_readStep_282 rfl ?_
              refine mt_iconst (pc := 283) (v := 5) dX9_readStep_283 (by decide) ?_
              refine mt_cV (pc := 284) (c_wbegin (d := 1) (Nat.le_refl 1) hx (by omega) hW31 hW32) cal_X9_begin vir_X9_begin ml_X9_65 dX9_readStep_284 (by first | assumption | omega) hW31 (by first | assumption | (show _ ≤ d; omega)) ⟨(Nat.le_of_ble_eq_true rfl), (Nat.le_of_ble_eq_true rfl)⟩ rfl rfl (Nat.le_of_ble_eq_true rfl) ?_
              exact mt_zret rfl (by first | exact Or.inl rfl | exact Or.inr rfl) dX9_readStep_287 (Nat.le_of_ble_eq_true rfl) (Nat.le_of_ble_eq_true rfl) ⟨rfl, FRk_32 hWF, Or.inr ⟨r, [(5, [], 0)], hS0, rfl, ⟨_, (hset_ne (by decide)).trans hWT⟩, by rw [List.length_append]; exact (hset_ne (by decide)).trans hW31, _, hset_eq _ _ _, SW_push hS (fun j hj => upd_ne (by omega)) ⟨upd_eq _ _ _, fun j y hy => (by simp at hy), fun z => absurd rfl z⟩ (by simp)⟩⟩
          · skip
            have hwd := Classical.not_not.mp fun z => c237 (wdi0.mpr z)
            rw [if_pos hwd] at hS0
            refine mt_aload_n (pc := 240) dX9_readStep_240 rfl ?_
            refine mt_iload_n (pc := 241) dX9_readStep_241 rfl ?_
            refine mt_iconst (pc := 242) (v := 4) dX9_readStep_242 (by decide) ?_
            refine mt_cV (pc := 243) (c_wbegin (d := 1) (Nat.le_refl 1) hx (by omega) hW31 hW32) cal_X9_begin vir_X9_begin ml_X9_65 dX9_readStep_243 (by first | assumption | omega) hW31 (by first | assumption | (show _ ≤ d; omega)) ⟨(Nat.le_of_ble_eq_true rfl), (Nat.le_of_ble_eq_true rfl)⟩ rfl rfl (Nat.le_of_ble_eq_true rfl) ?_
            refine mt_if_eq (pc := 246) (tgt := 270) dX9_readStep_246 (by decide) (fun c246 => ?_) (fun c246 => ?_)
            · exact absurd c246 (by decide)
            · skip
              refine mt_aload_n (pc := 249) dX9_readStep_249 rfl ?_
              refine mt_aload_n (pc := 250) dX9_readStep_250 rfl ?_
              refine mt_iload_n (pc := 251) dX9_readStep_251 rfl ?_
              refine mt_iconst (pc := 252) (v := 1) dX9_readStep_252 (by decide) ?_
              refine mt_iconst (pc := 253) (v := 0) dX9_readStep_253 (by decide) ?_
              refine mt_aload_n (pc := 254) dX9_readStep_254 rfl ?_
              refine mt_get (pc := 255) gf_X9_33 dX9_readStep_255 (by first | assumption | omega) ((hset_ne (by decide)).trans hW31) rfl ?_
              refine mt_iconst (pc := 258) (v := 1) dX9_readStep_258 (by decide) ?_
              refine mt_isub (pc := 259) dX9_readStep_259 ?_
              refine mt_aV (pc := 260) (c_readNumber (d := 2) (i := ss.length) (k := 1) (by decide) (by omega) (Nat.le_refl 2) hx ((hset_ne (by decide)).trans hWB) ((hset_ne (by decide)).trans hWT) hr he (by omega) ((hset_ne (by decide)).trans hW31) (hset_eq _ _ _)) cal_X9_readNumber vir_X9_readNumber ml_X9_69 dX9_readStep_260 (by first | assumption | omega) ((hset_ne (by decide)).trans hW31) (by first | assumption | (show _ ≤ d; omega)) ⟨(Nat.le_of_ble_eq_true rfl), (Nat.le_of_ble_eq_true rfl)⟩ rfl rfl (Nat.le_of_ble_eq_true rfl) ?_ ?_
              · rintro x9 n9 k9 h9
                simp [P_rn, P_wk] at h9
              · rintro v9 n9 k9 ⟨rfl, hF1, hE1, ⟨kd, pl, hN1, hv, hT1, hR1⟩ | ⟨v1, r1, hN1, hv, hT1, hR1⟩⟩
                · skip
                  cases hv
                  refine ⟨rfl, ?_⟩
                  refine mt_if_eq (pc := 263) (tgt := 270) dX9_readStep_263 (by decide) (fun _ => ?_) (fun z => absurd rfl z)
                  refine mt_iconst (pc := 270) (v := 0) dX9_readStep_270 (by decide) ?_
                  exact mt_zret rfl (Or.inl rfl) dX9_readStep_271 (Nat.le_of_ble_eq_true rfl) (Nat.le_of_ble_eq_true rfl) ⟨rfl, FRk_trans (FRk_32 hWF) hF1, Or.inl ⟨kd, pl, by rw [hS0]; simp only [sbind, hN1], rfl, hT1, by obtain ⟨R9, hR9⟩ := hR1; exact ⟨_, _, _, _, _, _, _, hE1.trans ((hset_ne (by decide)).trans hW31), hR9⟩⟩⟩
                · skip
                  cases hv
                  refine ⟨rfl, ?_⟩
                  refine mt_if_eq (pc := 263) (tgt := 270) dX9_readStep_263 (by decide) (fun c263 => ?_) (fun c263 => ?_)
                  · exact absurd c263 (by decide)
                  · skip
                    have hn1 := numS_so hbb hr hsl hN1
                    refine mt_iconst (pc := 266) (v := 1) dX9_readStep_266 (by decide) ?_
                    refine mt_goto (pc := 267) (tgt := 271) dX9_readStep_267 (by decide) ?_
                    exact mt_zret rfl (by first | exact Or.inl rfl | exact Or.inr rfl) dX9_readStep_271 (Nat.le_of_ble_eq_true rfl) (Nat.le_of_ble_eq_true rfl) ⟨rfl, FRk_trans (FRk_32 hWF) hF1, Or.inr ⟨r1, [(4, [v1], 0)], by rw [hS0]; simp only [sbind, hN1], rfl, ⟨_, hT1⟩, by rw [List.length_append]; exact (hE1.trans ((hset_ne (by decide)).trans hW31)), _, hR1, SW_push hS (fun j hj => by rw [upd_ne (by omega), upd_ne (by omega)]) ⟨by rw [upd_ne (by omega), upd_eq]; rfl, fun j y hy => by
                        have hj : j < 1 := (List.getElem?_eq_some_iff.mp hy).1
                        rcases (show j = 0 by omega) with rfl
                        · cases hy; rw [upd_eq], fun z => absurd rfl z⟩ (by simp)⟩⟩
        · skip
          have hwd := Classical.not_not.mp fun z => c196 (wdi0.mpr z)
          rw [if_pos hwd] at hS0
          refine mt_aload_n (pc := 199) dX9_readStep_199 rfl ?_
          refine mt_iload_n (pc := 200) dX9_readStep_200 rfl ?_
          refine mt_iconst (pc := 201) (v := 3) dX9_readStep_201 (by decide) ?_
          refine mt_cV (pc := 202) (c_wbegin (d := 1) (Nat.le_refl 1) hx (by omega) hW31 hW32) cal_X9_begin vir_X9_begin ml_X9_65 dX9_readStep_202 (by first | assumption | omega) hW31 (by first | assumption | (show _ ≤ d; omega)) ⟨(Nat.le_of_ble_eq_true rfl), (Nat.le_of_ble_eq_true rfl)⟩ rfl rfl (Nat.le_of_ble_eq_true rfl) ?_
          refine mt_if_eq (pc := 205) (tgt := 229) dX9_readStep_205 (by decide) (fun c205 => ?_) (fun c205 => ?_)
          · exact absurd c205 (by decide)
          · skip
            refine mt_aload_n (pc := 208) dX9_readStep_208 rfl ?_
            refine mt_aload_n (pc := 209) dX9_readStep_209 rfl ?_
            refine mt_iload_n (pc := 210) dX9_readStep_210 rfl ?_
            refine mt_iconst (pc := 211) (v := 1) dX9_readStep_211 (by decide) ?_
            refine mt_iconst (pc := 212) (v := 0) dX9_readStep_212 (by decide) ?_
            refine mt_aload_n (pc := 213) dX9_readStep_213 rfl ?_
            refine mt_get (pc := 214) gf_X9_33 dX9_readStep_214 (by first | assumption | omega) ((hset_ne (by decide)).trans hW31) rfl ?_
            refine mt_iconst (pc := 217) (v := 1) dX9_readStep_217 (by decide) ?_
            refine mt_isub (pc := 218) dX9_readStep_218 ?_
            refine mt_aV (pc := 219) (c_readNumber (d := 2) (i := ss.length) (k := 1) (by decide) (by omega) (Nat.le_refl 2) hx ((hset_ne (by decide)).trans hWB) ((hset_ne (by decide)).trans hWT) hr he (by omega) ((hset_ne (by decide)).trans hW31) (hset_eq _ _ _)) cal_X9_readNumber vir_X9_readNumber ml_X9_69 dX9_readStep_219 (by first | assumption | omega) ((hset_ne (by decide)).trans hW31) (by first | assumption | (show _ ≤ d; omega)) ⟨(Nat.le_of_ble_eq_true rfl), (Nat.le_of_ble_eq_true rfl)⟩ rfl rfl (Nat.le_of_ble_eq_true rfl) ?_ ?_
            · rintro x9 n9 k9 h9
              simp [P_rn, P_wk] at h9
            · rintro v9 n9 k9 ⟨rfl, hF1, hE1, ⟨kd, pl, hN1, hv, hT1, hR1⟩ | ⟨v1, r1, hN1, hv, hT1, hR1⟩⟩
              · skip
                cases hv
                refine ⟨rfl, ?_⟩
                refine mt_if_eq (pc := 222) (tgt := 229) dX9_readStep_222 (by decide) (fun _ => ?_) (fun z => absurd rfl z)
                refine mt_iconst (pc := 229) (v := 0) dX9_readStep_229 (by decide) ?_
                exact mt_zret rfl (Or.inl rfl) dX9_readStep_230 (Nat.le_of_ble_eq_true rfl) (Nat.le_of_ble_eq_true rfl) ⟨rfl, FRk_trans (FRk_32 hWF) hF1, Or.inl ⟨kd, pl, by rw [hS0]; simp only [sbind, hN1], rfl, hT1, by obtain ⟨R9, hR9⟩ := hR1; exact ⟨_, _, _, _, _, _, _, hE1.trans ((hset_ne (by decide)).trans hW31), hR9⟩⟩⟩
              · skip
                cases hv
                refine ⟨rfl, ?_⟩
                refine mt_if_eq (pc := 222) (tgt := 229) dX9_readStep_222 (by decide) (fun c222 => ?_) (fun c222 => ?_)
                · exact absurd c222 (by decide)
                · skip
                  have hn1 := numS_so hbb hr hsl hN1
                  refine mt_iconst (pc := 225) (v := 1) dX9_readStep_225 (by decide) ?_
                  refine mt_goto (pc := 226) (tgt := 230) dX9_readStep_226 (by decide) ?_
                  exact mt_zret rfl (by first | exact Or.inl rfl | exact Or.inr rfl) dX9_readStep_230 (Nat.le_of_ble_eq_true rfl) (Nat.le_of_ble_eq_true rfl) ⟨rfl, FRk_trans (FRk_32 hWF) hF1, Or.inr ⟨r1, [(3, [v1], 0)], by rw [hS0]; simp only [sbind, hN1], rfl, ⟨_, hT1⟩, by rw [List.length_append]; exact (hE1.trans ((hset_ne (by decide)).trans hW31)), _, hR1, SW_push hS (fun j hj => by rw [upd_ne (by omega), upd_ne (by omega)]) ⟨by rw [upd_ne (by omega), upd_eq]; rfl, fun j y hy => by
                      have hj : j < 1 := (List.getElem?_eq_some_iff.mp hy).1
                      rcases (show j = 0 by omega) with rfl
                      · cases hy; rw [upd_eq], fun z => absurd rfl z⟩ (by simp)⟩⟩
      · skip
        have hwd := Classical.not_not.mp fun z => c142 (wdi0.mpr z)
        rw [if_pos hwd] at hS0
        refine mt_aload_n (pc := 145) dX9_readStep_145 rfl ?_
        refine mt_iload_n (pc := 146) dX9_readStep_146 rfl ?_
        refine mt_iconst (pc := 147) (v := 2) dX9_readStep_147 (by decide) ?_
        refine mt_cV (pc := 148) (c_wbegin (d := 1) (Nat.le_refl 1) hx (by omega) hW31 hW32) cal_X9_begin vir_X9_begin ml_X9_65 dX9_readStep_148 (by first | assumption | omega) hW31 (by first | assumption | (show _ ≤ d; omega)) ⟨(Nat.le_of_ble_eq_true rfl), (Nat.le_of_ble_eq_true rfl)⟩ rfl rfl (Nat.le_of_ble_eq_true rfl) ?_
        refine mt_if_eq (pc := 151) (tgt := 188) dX9_readStep_151 (by decide) (fun c151 => ?_) (fun c151 => ?_)
        · exact absurd c151 (by decide)
        · skip
          refine mt_aload_n (pc := 154) dX9_readStep_154 rfl ?_
          refine mt_aload_n (pc := 155) dX9_readStep_155 rfl ?_
          refine mt_iload_n (pc := 156) dX9_readStep_156 rfl ?_
          refine mt_iconst (pc := 157) (v := 1) dX9_readStep_157 (by decide) ?_
          refine mt_iconst (pc := 158) (v := 0) dX9_readStep_158 (by decide) ?_
          refine mt_aload_n (pc := 159) dX9_readStep_159 rfl ?_
          refine mt_get (pc := 160) gf_X9_37 dX9_readStep_160 (by first | assumption | omega) ((hset_ne (by decide)).trans hW31) rfl ?_
          refine mt_iconst (pc := 163) (v := 1) dX9_readStep_163 (by decide) ?_
          refine mt_isub (pc := 164) dX9_readStep_164 ?_
          refine mt_aV (pc := 165) (c_readNumber (d := 2) (i := ss.length) (k := 1) (by decide) (by omega) (Nat.le_refl 2) hx ((hset_ne (by decide)).trans hWB) ((hset_ne (by decide)).trans hWT) hr he (by omega) ((hset_ne (by decide)).trans hW31) (hset_eq _ _ _)) cal_X9_readNumber vir_X9_readNumber ml_X9_69 dX9_readStep_165 (by first | assumption | omega) ((hset_ne (by decide)).trans hW31) (by first | assumption | (show _ ≤ d; omega)) ⟨(Nat.le_of_ble_eq_true rfl), (Nat.le_of_ble_eq_true rfl)⟩ rfl rfl (Nat.le_of_ble_eq_true rfl) ?_ ?_
          · rintro x9 n9 k9 h9
            simp [P_rn, P_wk] at h9
          · rintro v9 n9 k9 ⟨rfl, hF1, hE1, ⟨kd, pl, hN1, hv, hT1, hR1⟩ | ⟨v1, r1, hN1, hv, hT1, hR1⟩⟩
            · skip
              cases hv
              refine ⟨rfl, ?_⟩
              refine mt_if_eq (pc := 168) (tgt := 188) dX9_readStep_168 (by decide) (fun _ => ?_) (fun z => absurd rfl z)
              refine mt_iconst (pc := 188) (v := 0) dX9_readStep_188 (by decide) ?_
              exact mt_zret rfl (Or.inl rfl) dX9_readStep_189 (Nat.le_of_ble_eq_true rfl) (Nat.le_of_ble_eq_true rfl) ⟨rfl, FRk_trans (FRk_32 hWF) hF1, Or.inl ⟨kd, pl, by rw [hS0]; simp only [sbind, hN1], rfl, hT1, by obtain ⟨R9, hR9⟩ := hR1; exact ⟨_, _, _, _, _, _, _, hE1.trans ((hset_ne (by decide)).trans hW31), hR9⟩⟩⟩
            · skip
              cases hv
              refine ⟨rfl, ?_⟩
              refine mt_if_eq (pc := 168) (tgt := 188) dX9_readStep_168 (by decide) (fun c168 => ?_) (fun c168 => ?_)
              · exact absurd c168 (by decide)
              · skip
                have hn1 := numS_so hbb hr hso hN1
                refine mt_aload_n (pc := 171) dX9_readStep_171 rfl ?_
                refine mt_aload_n (pc := 172) dX9_readStep_172 rfl ?_
                refine mt_iload_n (pc := 173) dX9_readStep_173 rfl ?_
                refine mt_iconst (pc := 174) (v := 2) dX9_readStep_174 (by decide) ?_
                refine mt_iconst (pc := 175) (v := 1) dX9_readStep_175 (by decide) ?_
                refine mt_bipush (pc := 176) (v := 60) dX9_readStep_176 (by decide) ?_
                refine mt_aV (pc := 178) (c_readNumber (d := 2) (i := ss.length) (k := 2) (by decide) (by decide) (Nat.le_refl 2) hx ((hF1 2 (by decide) (by decide) (by decide)).trans ((hset_ne (by decide)).trans hWB)) hT1 hn1.2.1 he (by omega) (hE1.trans ((hset_ne (by decide)).trans hW31)) hR1) cal_X9_readNumber vir_X9_readNumber ml_X9_69 dX9_readStep_178 (by first | assumption | omega) (hE1.trans ((hset_ne (by decide)).trans hW31)) (by first | assumption | (show _ ≤ d; omega)) ⟨(Nat.le_of_ble_eq_true rfl), (Nat.le_of_ble_eq_true rfl)⟩ rfl rfl (Nat.le_of_ble_eq_true rfl) ?_ ?_
                · rintro x9 n9 k9 h9
                  simp [P_rn, P_wk] at h9
                · rintro v9 n9 k9 ⟨rfl, hF2, hE2, ⟨kd, pl, hN2, hv, hT2, hR2⟩ | ⟨v2, r2, hN2, hv, hT2, hR2⟩⟩
                  · skip
                    cases hv
                    refine ⟨rfl, ?_⟩
                    refine mt_if_eq (pc := 181) (tgt := 188) dX9_readStep_181 (by decide) (fun _ => ?_) (fun z => absurd rfl z)
                    refine mt_iconst (pc := 188) (v := 0) dX9_readStep_188 (by decide) ?_
                    exact mt_zret rfl (Or.inl rfl) dX9_readStep_189 (Nat.le_of_ble_eq_true rfl) (Nat.le_of_ble_eq_true rfl) ⟨rfl, FRk_trans (FRk_trans (FRk_32 hWF) hF1) hF2, Or.inl ⟨kd, pl, by rw [hS0]; simp only [sbind, hN1, hN2], rfl, hT2, by obtain ⟨R9, hR9⟩ := hR2; exact ⟨_, _, _, _, _, _, _, hE2.trans (hE1.trans ((hset_ne (by decide)).trans hW31)), hR9⟩⟩⟩
                  · skip
                    cases hv
                    refine ⟨rfl, ?_⟩
                    refine mt_if_eq (pc := 181) (tgt := 188) dX9_readStep_181 (by decide) (fun c181 => ?_) (fun c181 => ?_)
                    · exact absurd c181 (by decide)
                    · skip
                      have hn2 := numS_k (lo := 1) (hi := 60) hbb hn1.2.1 (by decide) (by decide) hN2
                      refine mt_iconst (pc := 184) (v := 1) dX9_readStep_184 (by decide) ?_
                      refine mt_goto (pc := 185) (tgt := 189) dX9_readStep_185 (by decide) ?_
                      exact mt_zret rfl (by first | exact Or.inl rfl | exact Or.inr rfl) dX9_readStep_189 (Nat.le_of_ble_eq_true rfl) (Nat.le_of_ble_eq_true rfl) ⟨rfl, FRk_trans (FRk_trans (FRk_32 hWF) hF1) hF2, Or.inr ⟨r2, [(2, [v1, v2], 0)], by rw [hS0]; simp only [sbind, hN1, hN2], rfl, ⟨_, hT2⟩, by rw [List.length_append]; exact (hE2.trans (hE1.trans ((hset_ne (by decide)).trans hW31))), _, hR2, SW_push hS (fun j hj => by rw [upd_ne (by omega), upd_ne (by omega), upd_ne (by omega)]) ⟨by rw [upd_ne (by omega), upd_ne (by omega), upd_eq]; rfl, fun j y hy => by
                          have hj : j < 2 := (List.getElem?_eq_some_iff.mp hy).1
                          rcases (show j = 0 ∨ j = 1 by omega) with rfl | rfl
                          · cases hy; rw [upd_ne (by omega), upd_eq]
                          · cases hy; rw [upd_eq], fun z => absurd rfl z⟩ (by simp)⟩⟩
    · skip
      have hwd := Classical.not_not.mp fun z => c105 (wdi0.mpr z)
      rw [if_pos hwd] at hS0
      refine mt_aload_n (pc := 108) dX9_readStep_108 rfl ?_
      refine mt_iload_n (pc := 109) dX9_readStep_109 rfl ?_
      refine mt_iconst (pc := 110) (v := 1) dX9_readStep_110 (by decide) ?_
      refine mt_cV (pc := 111) (c_wbegin (d := 1) (Nat.le_refl 1) hx (by omega) hW31 hW32) cal_X9_begin vir_X9_begin ml_X9_65 dX9_readStep_111 (by first | assumption | omega) hW31 (by first | assumption | (show _ ≤ d; omega)) ⟨(Nat.le_of_ble_eq_true rfl), (Nat.le_of_ble_eq_true rfl)⟩ rfl rfl (Nat.le_of_ble_eq_true rfl) ?_
      refine mt_if_eq (pc := 114) (tgt := 134) dX9_readStep_114 (by decide) (fun c114 => ?_) (fun c114 => ?_)
      · exact absurd c114 (by decide)
      · skip
        refine mt_aload_n (pc := 117) dX9_readStep_117 rfl ?_
        refine mt_aload_n (pc := 118) dX9_readStep_118 rfl ?_
        refine mt_iload_n (pc := 119) dX9_readStep_119 rfl ?_
        refine mt_iconst (pc := 120) (v := 1) dX9_readStep_120 (by decide) ?_
        refine mt_iconst (pc := 121) (v := 0) dX9_readStep_121 (by decide) ?_
        refine mt_bipush (pc := 122) (v := 9) dX9_readStep_122 (by decide) ?_
        refine mt_aV (pc := 124) (c_readNumber (d := 2) (i := ss.length) (k := 1) (by decide) (by decide) (Nat.le_refl 2) hx ((hset_ne (by decide)).trans hWB) ((hset_ne (by decide)).trans hWT) hr he (by omega) ((hset_ne (by decide)).trans hW31) (hset_eq _ _ _)) cal_X9_readNumber vir_X9_readNumber ml_X9_69 dX9_readStep_124 (by first | assumption | omega) ((hset_ne (by decide)).trans hW31) (by first | assumption | (show _ ≤ d; omega)) ⟨(Nat.le_of_ble_eq_true rfl), (Nat.le_of_ble_eq_true rfl)⟩ rfl rfl (Nat.le_of_ble_eq_true rfl) ?_ ?_
        · rintro x9 n9 k9 h9
          simp [P_rn, P_wk] at h9
        · rintro v9 n9 k9 ⟨rfl, hF1, hE1, ⟨kd, pl, hN1, hv, hT1, hR1⟩ | ⟨v1, r1, hN1, hv, hT1, hR1⟩⟩
          · skip
            cases hv
            refine ⟨rfl, ?_⟩
            refine mt_if_eq (pc := 127) (tgt := 134) dX9_readStep_127 (by decide) (fun _ => ?_) (fun z => absurd rfl z)
            refine mt_iconst (pc := 134) (v := 0) dX9_readStep_134 (by decide) ?_
            exact mt_zret rfl (Or.inl rfl) dX9_readStep_135 (Nat.le_of_ble_eq_true rfl) (Nat.le_of_ble_eq_true rfl) ⟨rfl, FRk_trans (FRk_32 hWF) hF1, Or.inl ⟨kd, pl, by rw [hS0]; simp only [sbind, hN1], rfl, hT1, by obtain ⟨R9, hR9⟩ := hR1; exact ⟨_, _, _, _, _, _, _, hE1.trans ((hset_ne (by decide)).trans hW31), hR9⟩⟩⟩
          · skip
            cases hv
            refine ⟨rfl, ?_⟩
            refine mt_if_eq (pc := 127) (tgt := 134) dX9_readStep_127 (by decide) (fun c127 => ?_) (fun c127 => ?_)
            · exact absurd c127 (by decide)
            · skip
              have hn1 := numS_k (lo := 0) (hi := 9) hbb hr (by decide) (by decide) hN1
              refine mt_iconst (pc := 130) (v := 1) dX9_readStep_130 (by decide) ?_
              refine mt_goto (pc := 131) (tgt := 135) dX9_readStep_131 (by decide) ?_
              exact mt_zret rfl (by first | exact Or.inl rfl | exact Or.inr rfl) dX9_readStep_135 (Nat.le_of_ble_eq_true rfl) (Nat.le_of_ble_eq_true rfl) ⟨rfl, FRk_trans (FRk_32 hWF) hF1, Or.inr ⟨r1, [(1, [v1], 0)], by rw [hS0]; simp only [sbind, hN1], rfl, ⟨_, hT1⟩, by rw [List.length_append]; exact (hE1.trans ((hset_ne (by decide)).trans hW31)), _, hR1, SW_push hS (fun j hj => by rw [upd_ne (by omega), upd_ne (by omega)]) ⟨by rw [upd_ne (by omega), upd_eq]; rfl, fun j y hy => by
                  have hj : j < 1 := (List.getElem?_eq_some_iff.mp hy).1
                  rcases (show j = 0 by omega) with rfl
                  · cases hy; rw [upd_eq], fun z => absurd rfl z⟩ (by simp)⟩⟩
  · skip
    have hwd := Classical.not_not.mp fun z => c21 (wdi0.mpr z)
    rw [if_pos hwd] at hS0
    refine mt_aload_n (pc := 24) dX9_readStep_24 rfl ?_
    refine mt_iload_n (pc := 25) dX9_readStep_25 rfl ?_
    refine mt_iconst (pc := 26) (v := 0) dX9_readStep_26 (by decide) ?_
    refine mt_cV (pc := 27) (c_wbegin (d := 1) (Nat.le_refl 1) hx (by omega) hW31 hW32) cal_X9_begin vir_X9_begin ml_X9_65 dX9_readStep_27 (by first | assumption | omega) hW31 (by first | assumption | (show _ ≤ d; omega)) ⟨(Nat.le_of_ble_eq_true rfl), (Nat.le_of_ble_eq_true rfl)⟩ rfl rfl (Nat.le_of_ble_eq_true rfl) ?_
    refine mt_if_eq (pc := 30) (tgt := 97) dX9_readStep_30 (by decide) (fun c30 => ?_) (fun c30 => ?_)
    · exact absurd c30 (by decide)
    · skip
      refine mt_aload_n (pc := 33) dX9_readStep_33 rfl ?_
      refine mt_aload_n (pc := 34) dX9_readStep_34 rfl ?_
      refine mt_iload_n (pc := 35) dX9_readStep_35 rfl ?_
      refine mt_iconst (pc := 36) (v := 1) dX9_readStep_36 (by decide) ?_
      refine mt_iconst (pc := 37) (v := 0) dX9_readStep_37 (by decide) ?_
      refine mt_aload_n (pc := 38) dX9_readStep_38 rfl ?_
      refine mt_get (pc := 39) gf_X9_37 dX9_readStep_39 (by first | assumption | omega) ((hset_ne (by decide)).trans hW31) rfl ?_
      refine mt_iconst (pc := 42) (v := 1) dX9_readStep_42 (by decide) ?_
      refine mt_isub (pc := 43) dX9_readStep_43 ?_
      refine mt_aV (pc := 44) (c_readNumber (d := 2) (i := ss.length) (k := 1) (by decide) (by omega) (Nat.le_refl 2) hx ((hset_ne (by decide)).trans hWB) ((hset_ne (by decide)).trans hWT) hr he (by omega) ((hset_ne (by decide)).trans hW31) (hset_eq _ _ _)) cal_X9_readNumber vir_X9_readNumber ml_X9_69 dX9_readStep_44 (by first | assumption | omega) ((hset_ne (by decide)).trans hW31) (by first | assumption | (show _ ≤ d; omega)) ⟨(Nat.le_of_ble_eq_true rfl), (Nat.le_of_ble_eq_true rfl)⟩ rfl rfl (Nat.le_of_ble_eq_true rfl) ?_ ?_
      · rintro x9 n9 k9 h9
        simp [P_rn, P_wk] at h9
      · rintro v9 n9 k9 ⟨rfl, hF1, hE1, ⟨kd, pl, hN1, hv, hT1, hR1⟩ | ⟨v1, r1, hN1, hv, hT1, hR1⟩⟩
        · skip
          cases hv
          refine ⟨rfl, ?_⟩
          refine mt_if_eq (pc := 47) (tgt := 97) dX9_readStep_47 (by decide) (fun _ => ?_) (fun z => absurd rfl z)
          refine mt_iconst (pc := 97) (v := 0) dX9_readStep_97 (by decide) ?_
          exact mt_zret rfl (Or.inl rfl) dX9_readStep_98 (Nat.le_of_ble_eq_true rfl) (Nat.le_of_ble_eq_true rfl) ⟨rfl, FRk_trans (FRk_32 hWF) hF1, Or.inl ⟨kd, pl, by rw [hS0]; simp only [sbind, hN1], rfl, hT1, by obtain ⟨R9, hR9⟩ := hR1; exact ⟨_, _, _, _, _, _, _, hE1.trans ((hset_ne (by decide)).trans hW31), hR9⟩⟩⟩
        · skip
          cases hv
          refine ⟨rfl, ?_⟩
          refine mt_if_eq (pc := 47) (tgt := 97) dX9_readStep_47 (by decide) (fun c47 => ?_) (fun c47 => ?_)
          · exact absurd c47 (by decide)
          · skip
            have hn1 := numS_so hbb hr hso hN1
            refine mt_aload_n (pc := 50) dX9_readStep_50 rfl ?_
            refine mt_aload_n (pc := 51) dX9_readStep_51 rfl ?_
            refine mt_iload_n (pc := 52) dX9_readStep_52 rfl ?_
            refine mt_iconst (pc := 53) (v := 2) dX9_readStep_53 (by decide) ?_
            refine mt_iconst (pc := 54) (v := 0) dX9_readStep_54 (by decide) ?_
            refine mt_aload_n (pc := 55) dX9_readStep_55 rfl ?_
            refine mt_get (pc := 56) gf_X9_33 dX9_readStep_56 (by first | assumption | omega) (hE1.trans ((hset_ne (by decide)).trans hW31)) rfl ?_
            refine mt_iconst (pc := 59) (v := 1) dX9_readStep_59 (by decide) ?_
            refine mt_isub (pc := 60) dX9_readStep_60 ?_
            refine mt_aV (pc := 61) (c_readNumber (d := 2) (i := ss.length) (k := 2) (by decide) (by omega) (Nat.le_refl 2) hx ((hF1 2 (by decide) (by decide) (by decide)).trans ((hset_ne (by decide)).trans hWB)) hT1 hn1.2.1 he (by omega) (hE1.trans ((hset_ne (by decide)).trans hW31)) hR1) cal_X9_readNumber vir_X9_readNumber ml_X9_69 dX9_readStep_61 (by first | assumption | omega) (hE1.trans ((hset_ne (by decide)).trans hW31)) (by first | assumption | (show _ ≤ d; omega)) ⟨(Nat.le_of_ble_eq_true rfl), (Nat.le_of_ble_eq_true rfl)⟩ rfl rfl (Nat.le_of_ble_eq_true rfl) ?_ ?_
            · rintro x9 n9 k9 h9
              simp [P_rn, P_wk] at h9
            · rintro v9 n9 k9 ⟨rfl, hF2, hE2, ⟨kd, pl, hN2, hv, hT2, hR2⟩ | ⟨v2, r2, hN2, hv, hT2, hR2⟩⟩
              · skip
                cases hv
                refine ⟨rfl, ?_⟩
                refine mt_if_eq (pc := 64) (tgt := 97) dX9_readStep_64 (by decide) (fun _ => ?_) (fun z => absurd rfl z)
                refine mt_iconst (pc := 97) (v := 0) dX9_readStep_97 (by decide) ?_
                exact mt_zret rfl (Or.inl rfl) dX9_readStep_98 (Nat.le_of_ble_eq_true rfl) (Nat.le_of_ble_eq_true rfl) ⟨rfl, FRk_trans (FRk_trans (FRk_32 hWF) hF1) hF2, Or.inl ⟨kd, pl, by rw [hS0]; simp only [sbind, hN1, hN2], rfl, hT2, by obtain ⟨R9, hR9⟩ := hR2; exact ⟨_, _, _, _, _, _, _, hE2.trans (hE1.trans ((hset_ne (by decide)).trans hW31)), hR9⟩⟩⟩
              · skip
                cases hv
                refine ⟨rfl, ?_⟩
                refine mt_if_eq (pc := 64) (tgt := 97) dX9_readStep_64 (by decide) (fun c64 => ?_) (fun c64 => ?_)
                · exact absurd c64 (by decide)
                · skip
                  have hn2 := numS_so hbb hn1.2.1 hsl hN2
                  refine mt_aload_n (pc := 67) dX9_readStep_67 rfl ?_
                  refine mt_aload_n (pc := 68) dX9_readStep_68 rfl ?_
                  refine mt_iload_n (pc := 69) dX9_readStep_69 rfl ?_
                  refine mt_iconst (pc := 70) (v := 3) dX9_readStep_70 (by decide) ?_
                  refine mt_iconst (pc := 71) (v := 1) dX9_readStep_71 (by decide) ?_
                  refine mt_bipush (pc := 72) (v := 60) dX9_readStep_72 (by decide) ?_
                  refine mt_aV (pc := 74) (c_readNumber (d := 2) (i := ss.length) (k := 3) (by decide) (by decide) (Nat.le_refl 2) hx ((hF2 2 (by decide) (by decide) (by decide)).trans ((hF1 2 (by decide) (by decide) (by decide)).trans ((hset_ne (by decide)).trans hWB))) hT2 hn2.2.1 he (by omega) (hE2.trans (hE1.trans ((hset_ne (by decide)).trans hW31))) hR2) cal_X9_readNumber vir_X9_readNumber ml_X9_69 dX9_readStep_74 (by first | assumption | omega) (hE2.trans (hE1.trans ((hset_ne (by decide)).trans hW31))) (by first | assumption | (show _ ≤ d; omega)) ⟨(Nat.le_of_ble_eq_true rfl), (Nat.le_of_ble_eq_true rfl)⟩ rfl rfl (Nat.le_of_ble_eq_true rfl) ?_ ?_
                  · rintro x9 n9 k9 h9
                    simp [P_rn, P_wk] at h9
                  · rintro v9 n9 k9 ⟨rfl, hF3, hE3, ⟨kd, pl, hN3, hv, hT3, hR3⟩ | ⟨v3, r3, hN3, hv, hT3, hR3⟩⟩
                    · skip
                      cases hv
                      refine ⟨rfl, ?_⟩
                      refine mt_if_eq (pc := 77) (tgt := 97) dX9_readStep_77 (by decide) (fun _ => ?_) (fun z => absurd rfl z)
                      refine mt_iconst (pc := 97) (v := 0) dX9_readStep_97 (by decide) ?_
                      exact mt_zret rfl (Or.inl rfl) dX9_readStep_98 (Nat.le_of_ble_eq_true rfl) (Nat.le_of_ble_eq_true rfl) ⟨rfl, FRk_trans (FRk_trans (FRk_trans (FRk_32 hWF) hF1) hF2) hF3, Or.inl ⟨kd, pl, by rw [hS0]; simp only [sbind, hN1, hN2, hN3], rfl, hT3, by obtain ⟨R9, hR9⟩ := hR3; exact ⟨_, _, _, _, _, _, _, hE3.trans (hE2.trans (hE1.trans ((hset_ne (by decide)).trans hW31))), hR9⟩⟩⟩
                    · skip
                      cases hv
                      refine ⟨rfl, ?_⟩
                      refine mt_if_eq (pc := 77) (tgt := 97) dX9_readStep_77 (by decide) (fun c77 => ?_) (fun c77 => ?_)
                      · exact absurd c77 (by decide)
                      · skip
                        have hn3 := numS_k (lo := 1) (hi := 60) hbb hn2.2.1 (by decide) (by decide) hN3
                        refine mt_aload_n (pc := 80) dX9_readStep_80 rfl ?_
                        refine mt_aload_n (pc := 81) dX9_readStep_81 rfl ?_
                        refine mt_iload_n (pc := 82) dX9_readStep_82 rfl ?_
                        refine mt_iconst (pc := 83) (v := 4) dX9_readStep_83 (by decide) ?_
                        refine mt_iconst (pc := 84) (v := 1) dX9_readStep_84 (by decide) ?_
                        refine mt_bipush (pc := 85) (v := 40) dX9_readStep_85 (by decide) ?_
                        refine mt_aV (pc := 87) (c_readNumber (d := 2) (i := ss.length) (k := 4) (by decide) (by decide) (Nat.le_refl 2) hx ((hF3 2 (by decide) (by decide) (by decide)).trans ((hF2 2 (by decide) (by decide) (by decide)).trans ((hF1 2 (by decide) (by decide) (by decide)).trans ((hset_ne (by decide)).trans hWB)))) hT3 hn3.2.1 he (by omega) (hE3.trans (hE2.trans (hE1.trans ((hset_ne (by decide)).trans hW31)))) hR3) cal_X9_readNumber vir_X9_readNumber ml_X9_69 dX9_readStep_87 (by first | assumption | omega) (hE3.trans (hE2.trans (hE1.trans ((hset_ne (by decide)).trans hW31)))) (by first | assumption | (show _ ≤ d; omega)) ⟨(Nat.le_of_ble_eq_true rfl), (Nat.le_of_ble_eq_true rfl)⟩ rfl rfl (Nat.le_of_ble_eq_true rfl) ?_ ?_
                        · rintro x9 n9 k9 h9
                          simp [P_rn, P_wk] at h9
                        · rintro v9 n9 k9 ⟨rfl, hF4, hE4, ⟨kd, pl, hN4, hv, hT4, hR4⟩ | ⟨v4, r4, hN4, hv, hT4, hR4⟩⟩
                          · skip
                            cases hv
                            refine ⟨rfl, ?_⟩
                            refine mt_if_eq (pc := 90) (tgt := 97) dX9_readStep_90 (by decide) (fun _ => ?_) (fun z => absurd rfl z)
                            refine mt_iconst (pc := 97) (v := 0) dX9_readStep_97 (by decide) ?_
                            exact mt_zret rfl (Or.inl rfl) dX9_readStep_98 (Nat.le_of_ble_eq_true rfl) (Nat.le_of_ble_eq_true rfl) ⟨rfl, FRk_trans (FRk_trans (FRk_trans (FRk_trans (FRk_32 hWF) hF1) hF2) hF3) hF4, Or.inl ⟨kd, pl, by rw [hS0]; simp only [sbind, hN1, hN2, hN3, hN4], rfl, hT4, by obtain ⟨R9, hR9⟩ := hR4; exact ⟨_, _, _, _, _, _, _, hE4.trans (hE3.trans (hE2.trans (hE1.trans ((hset_ne (by decide)).trans hW31)))), hR9⟩⟩⟩
                          · skip
                            cases hv
                            refine ⟨rfl, ?_⟩
                            refine mt_if_eq (pc := 90) (tgt := 97) dX9_readStep_90 (by decide) (fun c90 => ?_) (fun c90 => ?_)
                            · exact absurd c90 (by decide)
                            · skip
                              have hn4 := numS_k (lo := 1) (hi := 40) hbb hn3.2.1 (by decide) (by decide) hN4
                              refine mt_iconst (pc := 93) (v := 1) dX9_readStep_93 (by decide) ?_
                              refine mt_goto (pc := 94) (tgt := 98) dX9_readStep_94 (by decide) ?_
                              exact mt_zret rfl (by first | exact Or.inl rfl | exact Or.inr rfl) dX9_readStep_98 (Nat.le_of_ble_eq_true rfl) (Nat.le_of_ble_eq_true rfl) ⟨rfl, FRk_trans (FRk_trans (FRk_trans (FRk_trans (FRk_32 hWF) hF1) hF2) hF3) hF4, Or.inr ⟨r4, [(0, [v1, v2, v3, v4], 0)], by rw [hS0]; simp only [sbind, hN1, hN2, hN3, hN4], rfl, ⟨_, hT4⟩, by rw [List.length_append]; exact (hE4.trans (hE3.trans (hE2.trans (hE1.trans ((hset_ne (by decide)).trans hW31))))), _, hR4, SW_push hS (fun j hj => by rw [upd_ne (by omega), upd_ne (by omega), upd_ne (by omega), upd_ne (by omega), upd_ne (by omega)]) ⟨by rw [upd_ne (by omega), upd_ne (by omega), upd_ne (by omega), upd_ne (by omega), upd_eq]; rfl, fun j y hy => by
                                  have hj : j < 4 := (List.getElem?_eq_some_iff.mp hy).1
                                  rcases (show j = 0 ∨ j = 1 ∨ j = 2 ∨ j = 3 by omega) with rfl | rfl | rfl | rfl
                                  · cases hy; rw [upd_ne (by omega), upd_ne (by omega), upd_ne (by omega), upd_eq]
                                  · cases hy; rw [upd_ne (by omega), upd_ne (by omega), upd_eq]
                                  · cases hy; rw [upd_ne (by omega), upd_eq]
                                  · cases hy; rw [upd_eq], fun z => absurd rfl z⟩ (by simp)⟩⟩
end WORK3
