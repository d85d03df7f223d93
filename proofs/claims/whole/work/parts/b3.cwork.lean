/-! The class: work, undo, image, restore, texts refused. -/
section CWK
variable {G : mm_G} {l : Launch} {d nx : Nat} {h : Nat → mm_E} {b : Nat → Int32} {sz : Nat} {fp : Int32} {ic : Nat} {rs ne ia : Int32} {k : CS} {cs : List Nat} {bk : BS} {pg : PGS} {im : Nat → PGS}
theorem c_work16 {e : Nat} (hl : l.stackTraces = false) (hd : 35 ≤ d) (hx : 188 ≤ nx) (hW : CW h b sz fp ic rs ne ia k cs bk pg im) (he : e ≤ sz) (he2 : e ≤ 150) (hw : pg.1 = 16) : mm_Con G l yX10_work cX10_work 2 (some .int) d 1 6 [.ref 0, .int (nI e)] nx h (fun o n m => n = nx ∧ FX h m ∧ o = .inl (some (.int (-20))) ∧ CW m b 0 (-1) ic rs ne ia k cs bk pg im) := by
  obtain ⟨w0, wC, wL, wF, wB, wP, wR, wS, ⟨en, pl, st, fk, wt⟩, wy, ⟨K, wCR⟩, wLX, ⟨K2, wBR⟩, wWX, wI, w1, w2, w3⟩ := id hW
  have q34 := wP.1
  rw [hw] at q34
  have hyes : ¬ nI e < 0 ∧ ¬ nI sz < nI e ∧ ¬ nI 150 < nI e := ⟨nI_pos (by omega), nI_nlt he (by omega), nI_nlt he2 (by decide)⟩
  refine mm_start (lo := [some (.ref 0), some (.int (nI e))]) pn_X10 rfl rfl (Nat.le_of_ble_eq_true rfl) ?_
  refine mt_aload_n (pc := 0) dX10_work_0 rfl ?_
  refine mt_iload_n (pc := 1) dX10_work_1 rfl ?_
  refine mt_sipush (pc := 2) (v := 150) dX10_work_2 (by decide) ?_
  refine mt_aV (pc := 5) (c_beginText (d := 8) (t := 150) hl (Nat.le_refl 8) hx w2 (by decide) w0 wt wy) cal_X10_beginText vir_X10_beginText ml_X10_110 dX10_work_5 (by first | assumption | omega) (by repeat (first | exact hset_eq _ _ _ | assumption | rw [hset_ne (by first | assumption | decide | omega)])) (by first | assumption | (show _ ≤ d; omega)) ⟨(Nat.le_of_ble_eq_true rfl), (Nat.le_of_ble_eq_true rfl)⟩ rfl rfl (Nat.le_of_ble_eq_true rfl) ?_ ?_
  · rintro x9 n9 k9 h9
    obtain ⟨rfl, rfl, hno, rfl⟩ := h9
    exact absurd hyes hno
  · rintro v9 n9 k9 ⟨rfl, rfl, hok, rfl⟩
    refine ⟨rfl, ?_⟩
    refine mt_aload_n (pc := 8) dX10_work_8 rfl ?_
    refine mt_get (pc := 9) gf_X10_65 dX10_work_9 (by first | assumption | omega) (by repeat (first | exact hset_eq _ _ _ | assumption | rw [hset_ne (by first | assumption | decide | omega)])) rfl ?_
    refine mt_get (pc := 12) gf_X10_148 dX10_work_12 (by first | assumption | omega) (by repeat (first | exact hset_eq _ _ _ | assumption | rw [hset_ne (by first | assumption | decide | omega)])) rfl ?_
    refine mt_bipush (pc := 15) (v := 16) dX10_work_15 (by decide) ?_
    refine mt_icmp_lt (pc := 17) (tgt := 23) dX10_work_17 (by decide) (fun c17 => ?_) (fun c17 => ?_)
    · exact absurd c17 (by decide)
    · skip
      refine mt_bipush (pc := 20) (v := (-20)) dX10_work_20 (by decide) ?_
      exact mt_iret rfl dX10_work_22 (Nat.le_of_ble_eq_true rfl) (Nat.le_of_ble_eq_true rfl) ⟨rfl, (fun j hj => hset_ne (by omega)), rfl, hW.c1 (sz' := 0) ((hset_ne (by decide)).trans wy) (hset_eq _ _ _) (fun j y1 y2 => hset_ne y1) (Nat.zero_le _) w3⟩
theorem c_work {e : Nat} (hl : l.stackTraces = false) (hd : 35 ≤ d) (hx : 188 ≤ nx) (hW : CW h b sz fp ic rs ne ia k cs bk pg im) (he : e ≤ sz) (he2 : e ≤ 150) (hw : pg.1 < 16) : mm_Con G l yX10_work cX10_work 2 (some .int) d 1 6 [.ref 0, .int (nI e)] nx h (P_tx (wokS b e k.2.1 k.1 6 0 0) (fun a => nI (carS k cs a.2 7 0 a.2.length (pg.2.1, 0, 0, 0)).2.2.1) (fun q m => CW m b 0 q ic rs ne ia k cs bk pg im) (fun a m => RC (carS k cs a.2 7 0 a.2.length (pg.2.1, 0, 0, 0)).1 → CW m b 0 (-1) ic (nI (carS k cs a.2 7 0 a.2.length (pg.2.1, 0, 0, 0)).2.2.2) ne ia k cs bk (pg.1 + 1, (carS k cs a.2 7 0 a.2.length (pg.2.1, 0, 0, 0)).1, updR pg.2.2 pg.1 pg.2.1) im) nx h) := by
  obtain ⟨w0, wC, wL, wF, wB, wP, wR, wS, ⟨en, pl, st, fk, wt⟩, wy, ⟨K, wCR⟩, wLX, ⟨K2, wBR⟩, wWX, wI, w1, w2, w3⟩ := id hW
  have q34 := wP.1
  have x3 := wC.1
  have hk1 : k.1 ≤ 8 := wC.2.2.2.2.2.2.1
  have hk2 : k.2.1 ≤ 6 := wC.2.2.2.2.2.2.2
  obtain ⟨z1, z2, z3, z4, z5, z6, R1, x31, x32⟩ := id wWX
  have hyes : ¬ nI e < 0 ∧ ¬ nI sz < nI e ∧ ¬ nI 150 < nI e := ⟨nI_pos (by omega), nI_nlt he (by omega), nI_nlt he2 (by decide)⟩
  refine mm_start (lo := [some (.ref 0), some (.int (nI e))]) pn_X10 rfl rfl (Nat.le_of_ble_eq_true rfl) ?_
  refine mt_aload_n (pc := 0) dX10_work_0 rfl ?_
  refine mt_iload_n (pc := 1) dX10_work_1 rfl ?_
  refine mt_sipush (pc := 2) (v := 150) dX10_work_2 (by decide) ?_
  refine mt_aV (pc := 5) (c_beginText (d := 8) (t := 150) hl (Nat.le_refl 8) hx w2 (by decide) w0 wt wy) cal_X10_beginText vir_X10_beginText ml_X10_110 dX10_work_5 (by first | assumption | omega) (by repeat (first | exact hset_eq _ _ _ | assumption | rw [hset_ne (by first | assumption | decide | omega)])) (by first | assumption | (show _ ≤ d; omega)) ⟨(Nat.le_of_ble_eq_true rfl), (Nat.le_of_ble_eq_true rfl)⟩ rfl rfl (Nat.le_of_ble_eq_true rfl) ?_ ?_
  · rintro x9 n9 k9 h9
    obtain ⟨rfl, rfl, hno, rfl⟩ := h9
    exact absurd hyes hno
  · rintro v9 n9 k9 ⟨rfl, rfl, hok, rfl⟩
    refine ⟨rfl, ?_⟩
    refine mt_aload_n (pc := 8) dX10_work_8 rfl ?_
    refine mt_get (pc := 9) gf_X10_65 dX10_work_9 (by first | assumption | omega) (by repeat (first | exact hset_eq _ _ _ | assumption | rw [hset_ne (by first | assumption | decide | omega)])) rfl ?_
    refine mt_get (pc := 12) gf_X10_148 dX10_work_12 (by first | assumption | omega) (by repeat (first | exact hset_eq _ _ _ | assumption | rw [hset_ne (by first | assumption | decide | omega)])) rfl ?_
    refine mt_bipush (pc := 15) (v := 16) dX10_work_15 (by decide) ?_
    refine mt_icmp_lt (pc := 17) (tgt := 23) dX10_work_17 (by decide) (fun c17 => ?_) (fun c17 => ?_)
    · skip
      refine mt_aload_n (pc := 23) dX10_work_23 rfl ?_
      refine mt_get (pc := 24) gf_X10_49 dX10_work_24 (by first | assumption | omega) (by repeat (first | exact hset_eq _ _ _ | assumption | rw [hset_ne (by first | assumption | decide | omega)])) rfl ?_
      refine mt_aload_n (pc := 27) dX10_work_27 rfl ?_
      refine mt_get (pc := 28) gf_X10_10 dX10_work_28 (by first | assumption | omega) (by repeat (first | exact hset_eq _ _ _ | assumption | rw [hset_ne (by first | assumption | decide | omega)])) rfl ?_
      refine mt_aload_n (pc := 31) dX10_work_31 rfl ?_
      refine mt_get (pc := 32) gf_X10_19 dX10_work_32 (by first | assumption | omega) (by repeat (first | exact hset_eq _ _ _ | assumption | rw [hset_ne (by first | assumption | decide | omega)])) rfl ?_
      refine mt_aV (pc := 35) (c_wread (d := 25) (e := e) (sz := 0) (st := 0) (fk := 0) (fp := -1) (Nat.le_refl 25) w3 (by omega) ((hset_ne (by decide)).trans wy) (hset_eq _ _ _) he2 (CO_fe wC fun j a b => hset_ne (by omega)) (WX_fe wWX fun j a b => hset_ne (by omega))) cal_X9_read vir_X9_read ml_X10_151 dX10_work_35 (by first | assumption | omega) (by repeat (first | exact hset_eq _ _ _ | assumption | rw [hset_ne (by first | assumption | decide | omega)])) (by first | assumption | (show _ ≤ d; omega)) ⟨(Nat.le_of_ble_eq_true rfl), (Nat.le_of_ble_eq_true rfl)⟩ rfl rfl (Nat.le_of_ble_eq_true rfl) ?_ ?_
      · rintro x9 n9 k9 h9
        simp [P_wk] at h9
      · rintro v9 n9 k9 ⟨rfl, hF, ⟨kd, pl2, hS, hv, ⟨p2, s2, hT2⟩, hX⟩ | ⟨r, ss, hS, hv, ⟨s2, hT2⟩, hX⟩⟩
        · skip
          cases hv
          refine ⟨rfl, ?_⟩
          have e1 : ∀ j, j ≠ 1 → j ≠ 31 → j ≠ 32 → k9 j = h j := fun j a b c => (hF j a b c).trans (hset_ne a)
          have q0 : k9 0 = cbE (nI ic) rs ne ia := (e1 0 (by decide) (by decide) (by decide)).trans w0
          have hW2 := hW.rd hT2 (fun j a b c d f => e1 j a (by omega) (by omega)) ⟨K, CR_fe wCR fun j a b => e1 j (by omega) (by omega) (by omega)⟩ (LX_fe wLX fun j a b => e1 j (by omega) (by omega) (by omega)) ⟨K2, BR_fe wBR fun j a b => e1 j (by omega) (by omega) (by omega)⟩ hX
          refine mt_if_ne (pc := 38) (tgt := 49) dX10_work_38 (by decide) (fun c38 => ?_) (fun c38 => ?_)
          · exact absurd rfl c38
          · skip
            refine mt_aload_n (pc := 41) dX10_work_41 rfl ?_
            refine mt_get (pc := 42) gf_X10_10 dX10_work_42 (by first | assumption | omega) (by repeat (first | exact hset_eq _ _ _ | assumption | rw [hset_ne (by first | assumption | decide | omega)])) rfl ?_
            refine mt_cV (pc := 45) (c_faultAnswer (d := 0) (by omega) hT2) cal_X7_faultAnswer vir_X7_faultAnswer ml_X10_118 dX10_work_45 (by first | assumption | omega) (by repeat (first | exact hset_eq _ _ _ | assumption | rw [hset_ne (by first | assumption | decide | omega)])) (by first | assumption | (show _ ≤ d; omega)) ⟨(Nat.le_of_ble_eq_true rfl), (Nat.le_of_ble_eq_true rfl)⟩ rfl rfl (Nat.le_of_ble_eq_true rfl) ?_
            exact mt_iret rfl dX10_work_48 (Nat.le_of_ble_eq_true rfl) (Nat.le_of_ble_eq_true rfl) ⟨rfl, (fun j hj => e1 j (by omega) (by omega) (by omega)), by rw [hS]; exact ⟨rfl, hW2⟩⟩
        · skip
          cases hv
          refine ⟨rfl, ?_⟩
          have e1 : ∀ j, j ≠ 1 → j ≠ 31 → j ≠ 32 → k9 j = h j := fun j a b c => (hF j a b c).trans (hset_ne a)
          have q0 : k9 0 = cbE (nI ic) rs ne ia := (e1 0 (by decide) (by decide) (by decide)).trans w0
          rw [List.nil_append] at hX
          obtain ⟨y31, R, y32, hSW⟩ := hX
          have hW2 := hW.rd hT2 (fun j a b c d f => e1 j a (by omega) (by omega)) ⟨K, CR_fe wCR fun j a b => e1 j (by omega) (by omega) (by omega)⟩ (LX_fe wLX fun j a b => e1 j (by omega) (by omega) (by omega)) ⟨K2, BR_fe wBR fun j a b => e1 j (by omega) (by omega) (by omega)⟩ ⟨_, _, _, _, _, _, R, y31, y32⟩
          have hle := wokS_le w3 (by omega) hk1 6 0 0 (Nat.zero_le _) r ss hS
          have hlen : ss.length ≤ 30 := by omega
          have hP2 := hW2.2.2.2.2.2.1
          have y34 := hP2.1
          have y3 := hW2.2.1.1
          refine mt_if_ne (pc := 38) (tgt := 49) dX10_work_38 (by decide) (fun c38 => ?_) (fun c38 => ?_)
          · skip
            refine mt_aload_n (pc := 49) dX10_work_49 rfl ?_
            refine mt_get (pc := 50) gf_X10_65 dX10_work_50 (by first | assumption | omega) (by repeat (first | exact hset_eq _ _ _ | assumption | rw [hset_ne (by first | assumption | decide | omega)])) rfl ?_
            refine mt_aV (pc := 53) (c_keep (d := 3) (b := 34) (Nat.le_refl 3) (by decide) (by omega) hP2 hw) cal_X3_keep vir_X3_keep ml_X10_154 dX10_work_53 (by first | assumption | omega) (by repeat (first | exact hset_eq _ _ _ | assumption | rw [hset_ne (by first | assumption | decide | omega)])) (by first | assumption | (show _ ≤ d; omega)) ⟨(Nat.le_of_ble_eq_true rfl), (Nat.le_of_ble_eq_true rfl)⟩ rfl rfl (Nat.le_of_ble_eq_true rfl) ?_ ?_
            · rintro x9 n9 k9 h9
              obtain ⟨⟨⟩, -⟩ := h9
            · rintro v9 n9 k9 ⟨⟨⟩, rfl, e2, hP3⟩
              refine ⟨rfl, ?_⟩
              have v0 := (e2 0 (by decide)).trans q0
              have v31 := (e2 31 (by decide)).trans y31
              have v32 := (e2 32 (by decide)).trans y32
              have v33 := (e2 33 (by decide)).trans hW2.2.2.2.2.2.2.2.1.1
              have v34 := hP3.1
              have v35 := hP3.2.1
              have v36 := hP3.2.2.1
              have hWC : WC k9 k cs R 35 36 (nI ss.length) (nI k.1) (nI k.2.1) (pg.2.1, 0, 0, 0) := ⟨v31, v32, LA_fe hW2.2.2.1 fun j a b => e2 j (by omega), CO_fe hW2.2.1 fun j a b => e2 j (by omega), v33, v35, v36, wR.1, Nat.zero_le _⟩
              refine mt_aload_n (pc := 56) dX10_work_56 rfl ?_
              refine mt_get (pc := 57) gf_X10_49 dX10_work_57 (by first | assumption | omega) (by repeat (first | exact hset_eq _ _ _ | assumption | rw [hset_ne (by first | assumption | decide | omega)])) rfl ?_
              refine mt_aload_n (pc := 60) dX10_work_60 rfl ?_
              refine mt_get (pc := 61) gf_X10_58 dX10_work_61 (by first | assumption | omega) (by repeat (first | exact hset_eq _ _ _ | assumption | rw [hset_ne (by first | assumption | decide | omega)])) rfl ?_
              refine mt_aload_n (pc := 64) dX10_work_64 rfl ?_
              refine mt_get (pc := 65) gf_X10_65 dX10_work_65 (by first | assumption | omega) (by repeat (first | exact hset_eq _ _ _ | assumption | rw [hset_ne (by first | assumption | decide | omega)])) rfl ?_
              refine mt_get (pc := 68) gf_X10_157 dX10_work_68 (by first | assumption | omega) (by repeat (first | exact hset_eq _ _ _ | assumption | rw [hset_ne (by first | assumption | decide | omega)])) rfl ?_
              refine mt_iconst (pc := 71) (v := 0) dX10_work_71 (by decide) ?_
              refine mt_aload_n (pc := 72) dX10_work_72 rfl ?_
              refine mt_get (pc := 73) gf_X10_49 dX10_work_73 (by first | assumption | omega) (by repeat (first | exact hset_eq _ _ _ | assumption | rw [hset_ne (by first | assumption | decide | omega)])) rfl ?_
              refine mt_get (pc := 76) gf_X10_160 dX10_work_76 (by first | assumption | omega) (by repeat (first | exact hset_eq _ _ _ | assumption | rw [hset_ne (by first | assumption | decide | omega)])) rfl ?_
              refine mt_iconst (pc := 79) (v := 0) dX10_work_79 (by decide) ?_
              refine mt_aVN (pc := 80) (c_carL (G := G) (l := l) (so := k.2.1) (sl := k.1) hlen (wokS_bw hS) hSW hle.2.2.2 hk2 hk1 wF (by decide) (by decide) (by decide) 7 14 (by decide) (by decide) _ _ (pg.2.1, 0, 0, 0) 0 ss.length (by omega) (by omega) (by omega) hWC (Nat.le_refl _) (by decide)) cal_X9_carryOut vir_X9_carryOut mn_X10_163 dX10_work_80 (by first | assumption | omega) (by repeat (first | exact hset_eq _ _ _ | assumption | rw [hset_ne (by first | assumption | decide | omega)])) (by first | assumption | (show _ ≤ d; omega)) ⟨(Nat.le_of_ble_eq_true rfl), (Nat.le_of_ble_eq_true rfl)⟩ rfl rfl (Nat.le_of_ble_eq_true rfl) ?_ ?_
              · rintro x9 n9 k9 h9
                obtain ⟨⟨⟩, -⟩ := h9
              · rintro v9 n9 k9 ⟨⟨⟩, rfl, e3, hW3⟩
                refine ⟨rfl, ?_⟩
                generalize hWW : carS k cs ss 7 0 ss.length (pg.2.1, 0, 0, 0) = W at hW3
                obtain ⟨u31, u32, uL, uC, u33, u35, u36, uR, u9⟩ := hW3
                have u0 := (e3 0 (by decide) (by decide) (by decide) (by decide)).trans v0
                refine mt_aload_n (pc := 83) dX10_work_83 rfl ?_
                refine mt_aload_n (pc := 84) dX10_work_84 rfl ?_
                refine mt_get (pc := 85) gf_X10_49 dX10_work_85 (by first | assumption | omega) (by repeat (first | exact hset_eq _ _ _ | assumption | rw [hset_ne (by first | assumption | decide | omega)])) rfl ?_
                refine mt_get (pc := 88) gf_X10_167 dX10_work_88 (by first | assumption | omega) (by repeat (first | exact hset_eq _ _ _ | assumption | rw [hset_ne (by first | assumption | decide | omega)])) rfl ?_
                first
                  | refine mt_puti2 (pc := 91) pf_X10_138 dX10_work_91 (by first | assumption | omega) (Nat.le_of_ble_eq_true rfl) ?_
                  | refine mt_puti (pc := 91) pf_X10_138 dX10_work_91 (by first | assumption | omega) (by repeat (first | exact hset_eq _ _ _ | assumption | rw [hset_ne (by first | assumption | decide | omega)])) (Nat.le_of_ble_eq_true rfl) ?_
                refine mt_aload_n (pc := 94) dX10_work_94 rfl ?_
                refine mt_get (pc := 95) gf_X10_49 dX10_work_95 (by first | assumption | omega) (by repeat (first | exact hset_eq _ _ _ | assumption | rw [hset_ne (by first | assumption | decide | omega)])) rfl ?_
                refine mt_get (pc := 98) gf_X10_170 dX10_work_98 (by first | assumption | omega) (by repeat (first | exact hset_eq _ _ _ | assumption | rw [hset_ne (by first | assumption | decide | omega)])) rfl ?_
                exact mt_iret rfl dX10_work_101 (Nat.le_of_ble_eq_true rfl) (Nat.le_of_ble_eq_true rfl) ⟨rfl, (fun j hj => by rw [hset_ne (by omega), e3 j (by omega) (by omega) (by omega) (by omega), e2 j (by omega)]; exact e1 j (by omega) (by omega) (by omega)), by
                    rw [hS]
                    dsimp only
                    rw [hWW]
                    refine ⟨rfl, fun hRC => hW2.wk (hset_eq _ _ _) (LA_fe uL fun j a b => hset_ne (by omega)) ⟨_, _, _, _, _, _, R, (hset_ne (by decide)).trans u31, (hset_ne (by decide)).trans u32⟩ ?_ hRC (fun j y1 y2 y3 y4 y5 y6 => by rw [hset_ne y1, e3 j y2 y3 y4 (by omega), e2 j (by omega)])⟩
                    obtain ⟨p1, p2, p3, p4, p5, p6, p7⟩ := hP3
                    have e4 : ∀ j, 34 ≤ j → j ≠ 36 → ∀ x, hset k9 0 x j = k9 j := fun j y1 y2 x => hset_ne (by omega)
                    have e5 : ∀ j, 34 ≤ j → j ≠ 36 → k9 j = _ := fun j y1 y2 => e3 j (by omega) (by omega) (by omega) y2
                    refine ⟨(e4 _ (by decide) (by decide) _).trans ((e5 _ (by decide) (by decide)).trans p1), (e4 _ (by decide) (by decide) _).trans ((e5 _ (by decide) (by decide)).trans p2), (hset_ne (by decide)).trans u36, (e4 _ (by decide) (by decide) _).trans ((e5 _ (by decide) (by decide)).trans p4), fun i hi => ⟨(e4 _ (by omega) (by omega) _).trans ((e5 _ (by omega) (by omega)).trans (p5 i hi).1), ?_⟩, p6, hRC.2⟩
                    obtain ⟨g, g1, g2⟩ := (p5 i hi).2
                    exact ⟨g, (e4 _ (by omega) (by omega) _).trans ((e5 _ (by omega) (by omega)).trans g1), g2⟩⟩
          · exact absurd c38 (by decide)
    · exact absurd (nI_lt (b := 16) hw (by decide)) c17
end CWK
