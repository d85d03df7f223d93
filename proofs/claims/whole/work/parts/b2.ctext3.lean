/-! The class: county, work. -/
theorem begR_rc {k : CS} (h1 : k.1 ≤ 8) (h2 : k.2.1 ≤ 6) : RC (begR k) := by
  refine ⟨⟨0, ?_, Nat.zero_le _, fun i hi => absurd hi (Nat.not_lt_zero i)⟩, begR_cn h1 h2⟩
  unfold begR
  rw [spF_at _ _ h2, if_neg (by omega), if_neg (by omega), unF_at, if_neg (by omega)]
  rfl
/-- the same county, as far as it goes -/
def AG (c k : CS) : Prop := k.1 = c.1 ∧ k.2.1 = c.2.1 ∧ (∀ p, p < 8 → k.2.2.1 p = c.2.2.1 p ∧ k.2.2.2.1 p = c.2.2.2.1 p ∧ k.2.2.2.2.1 p = c.2.2.2.2.1 p) ∧ ∀ a, a < 6 → k.2.2.2.2.2.1 a = c.2.2.2.2.2.1 a ∧ k.2.2.2.2.2.2 a = c.2.2.2.2.2.2 a
theorem AG_cpy {c k : CS} : AG c (c.1, c.2.1, va_cpy c.2.2.1 k.2.2.1 0 0 8, va_cpy c.2.2.2.1 k.2.2.2.1 0 0 8, va_cpy c.2.2.2.2.1 k.2.2.2.2.1 0 0 8, va_cpy c.2.2.2.2.2.1 k.2.2.2.2.2.1 0 0 6, va_cpy c.2.2.2.2.2.2 k.2.2.2.2.2.2 0 0 6) :=
  ⟨rfl, rfl, fun p hp => ⟨cpy_all hp, cpy_all hp, cpy_all hp⟩, fun a ha => ⟨cpy_all ha, cpy_all ha⟩⟩
theorem AG_MCN {c k : CS} {S2 S3 K : Nat → Int32} (h : AG c k) (hM : MCN c S2 S3 K) : MCN k S2 S3 K := by
  obtain ⟨a1, a2, a3, a4⟩ := h
  obtain ⟨m1, m2, m3, m4, m5⟩ := hM
  unfold MCN
  rw [a1, a2]
  refine ⟨m1, m2, fun p hp => ?_, fun a ha => ?_, fun a ha => ?_⟩
  · obtain ⟨b1, b2, b3⟩ := a3 p (by omega)
    rw [b1, b2, b3]
    exact m3 p hp
  · obtain ⟨b1, b2⟩ := a4 a (by omega)
    rw [b1, b2]
    exact m4 a ha
  · obtain ⟨K', k1, k2, k3⟩ := m5 a ha
    exact ⟨K', k1, k2, fun p hp => by rw [(a3 p (by omega)).2.2]; exact k3 p hp⟩
theorem AG_beg {c k : CS} (h : AG c k) (h1 : c.1 ≤ 8) (h2 : c.2.1 ≤ 6) : begR k = begR c := by
  obtain ⟨a1, a2, a3, a4⟩ := h
  funext j
  unfold begR
  rw [spF_at _ _ (by omega), spF_at _ _ h2, unF_at, unF_at, a1, a2]
  by_cases q1 : 12 ≤ j ∧ j < 12 + c.2.1
  · rw [if_pos q1, if_pos q1, (a4 _ (by omega)).1]
  · rw [if_neg q1, if_neg q1]
    by_cases q2 : 18 ≤ j ∧ j < 18 + c.2.1
    · rw [if_pos q2, if_pos q2, (a4 _ (by omega)).2]
    · rw [if_neg q2, if_neg q2]
      by_cases q3 : 4 ≤ j ∧ j < 4 + c.1
      · rw [if_pos q3, if_pos q3, (a3 _ (by omega)).2.1]
      · rw [if_neg q3, if_neg q3]
section FRU
variable {h m : Nat → mm_E} {b : Nat → Int32} {sz : Nat} {fp : Int32} {ic : Nat} {rs ne ia : Int32} {k : CS} {cs : List Nat} {bk : BS} {pg : PGS} {im : Nat → PGS}
theorem CW.cn {k' : CS} (hW : CW h b sz fp ic rs ne ia k cs bk pg im) (h0 : m 0 = cbE 0 0 ne ia) (hC : CO m k') (hL : LA m untL) (hB : BO m (0, bk.2)) (hP : PG m 34 (0, begR k', fun _ _ => 0)) (e : ∀ j, j ≠ 0 → (j < 3 ∨ 8 < j) → j ≠ 15 → j ≠ 16 → j ≠ 23 → (j < 34 ∨ 70 ≤ j) → m j = h j) : CW m b sz fp 0 0 ne ia k' untL (0, bk.2) (0, begR k', fun _ _ => 0) im := by
  obtain ⟨w0, wC, wL, wF, wB, wP, wR, wS, ⟨en, pl, st, fk, wt⟩, wy, ⟨K, wCR⟩, wLX, ⟨K2, wBR⟩, wWX, wI, w1, w2, w3⟩ := hW
  exact ⟨h0, hC, hL, unt_wf, hB, hP, begR_rc hC.2.2.2.2.2.2.1 hC.2.2.2.2.2.2.2, RST_fe wS fun j a b => e j (by omega) (by omega) (by omega) (by omega) (by omega) (by omega), ⟨en, pl, st, fk, (e 1 (by decide) (by decide) (by decide) (by decide) (by decide) (by decide)).trans wt⟩, (e 2 (by decide) (by decide) (by decide) (by decide) (by decide) (by decide)).trans wy, ⟨K, CR_fe wCR fun j a b => e j (by omega) (by omega) (by omega) (by omega) (by omega) (by omega)⟩, LX_fe wLX fun j a b => e j (by omega) (by omega) (by omega) (by omega) (by omega) (by omega), ⟨K2, BR_fe wBR fun j a b => e j (by omega) (by omega) (by omega) (by omega) (by omega) (by omega)⟩, WX_fe wWX fun j a b => e j (by omega) (by omega) (by omega) (by omega) (by omega) (by omega), fun i hi => PG_fe (wI i hi) fun j a b => e j (by omega) (by omega) (by omega) (by omega) (by omega) (by omega), Nat.zero_le _, w2, w3⟩
/-- a work was carried out -/
theorem CW.wk {rs' : Int32} {pg' : PGS} (hW : CW h b sz fp ic rs ne ia k cs bk pg im) (h0 : m 0 = cbE (nI ic) rs' ne ia) (hL : LA m cs) (hX : WX m) (hP : PG m 34 pg') (hR : RC pg'.2.1) (e : ∀ j, j ≠ 0 → j ≠ 17 → j ≠ 18 → j ≠ 31 → j ≠ 32 → (j < 34 ∨ 70 ≤ j) → m j = h j) : CW m b sz fp ic rs' ne ia k cs bk pg' im := by
  obtain ⟨w0, wC, wL, wF, wB, wP, wR, wS, ⟨en, pl, st, fk, wt⟩, wy, ⟨K, wCR⟩, wLX, ⟨K2, wBR⟩, wWX, wI, w1, w2, w3⟩ := hW
  exact ⟨h0, CO_fe wC fun j a b => e j (by omega) (by omega) (by omega) (by omega) (by omega) (by omega), hL, wF, BO_fe wB fun j a b => e j (by omega) (by omega) (by omega) (by omega) (by omega) (by omega), hP, hR, RST_fe wS fun j a b => e j (by omega) (by omega) (by omega) (by omega) (by omega) (by omega), ⟨en, pl, st, fk, (e 1 (by decide) (by decide) (by decide) (by decide) (by decide) (by decide)).trans wt⟩, (e 2 (by decide) (by decide) (by decide) (by decide) (by decide) (by decide)).trans wy, ⟨K, CR_fe wCR fun j a b => e j (by omega) (by omega) (by omega) (by omega) (by omega) (by omega)⟩, LX_fe wLX fun j a b => e j (by omega) (by omega) (by omega) (by omega) (by omega) (by omega), ⟨K2, BR_fe wBR fun j a b => e j (by omega) (by omega) (by omega) (by omega) (by omega) (by omega)⟩, hX, fun i hi => PG_fe (wI i hi) fun j a b => e j (by omega) (by omega) (by omega) (by omega) (by omega) (by omega), w1, w2, w3⟩
end FRU
section CTZ
variable {G : mm_G} {l : Launch} {d nx : Nat} {h : Nat → mm_E} {b : Nat → Int32} {sz : Nat} {fp : Int32} {ic : Nat} {rs ne ia : Int32} {k : CS} {cs : List Nat} {bk : BS} {pg : PGS} {im : Nat → PGS}
theorem c_county {e : Nat} {K : CS} (hl : l.stackTraces = false) (hd : 35 ≤ d) (hx : 188 ≤ nx) (hW : CW h b sz fp ic rs ne ia k cs bk pg im) (wCR : CR h K) (he : e ≤ sz) : mm_Con G l yX10_county cX10_county 2 (some .int) d 1 6 [.ref 0, .int (nI e)] nx h (P_tx (cntS b e 61 0 0 (0, 0, K.2.2)) (fun c => nI c.1) (fun q m => CW m b 0 q ic rs ne ia k cs bk pg im) (fun c m => ∃ k', AG c k' ∧ CW m b 0 (-1) 0 0 ne ia k' untL (0, bk.2) (0, begR k', fun _ _ => 0) im) nx h) := by
  obtain ⟨w0, wC, wL, wF, wB, wP, wR, wS, ⟨en, pl, st, fk, wt⟩, wy, -, wLX, ⟨K2, wBR⟩, wWX, wI, w1, w2, w3⟩ := id hW
  have x9 := wCR.1
  have hyes : ¬ nI e < 0 ∧ ¬ nI sz < nI e ∧ ¬ nI 600 < nI e := ⟨nI_pos (by omega), nI_nlt he (by omega), nI_nlt (by omega) (by decide)⟩
  refine mm_start (lo := [some (.ref 0), some (.int (nI e))]) pn_X10 rfl rfl (Nat.le_of_ble_eq_true rfl) ?_
  refine mt_aload_n (pc := 0) dX10_county_0 rfl ?_
  refine mt_iload_n (pc := 1) dX10_county_1 rfl ?_
  refine mt_sipush (pc := 2) (v := 600) dX10_county_2 (by decide) ?_
  refine mt_aV (pc := 5) (c_beginText (d := 8) (t := 600) hl (Nat.le_refl 8) hx w2 (by decide) w0 wt wy) cal_X10_beginText vir_X10_beginText ml_X10_110 dX10_county_5 (by first | assumption | omega) (by repeat (first | exact hset_eq _ _ _ | assumption | rw [hset_ne (by first | assumption | decide | omega)])) (by first | assumption | (show _ ≤ d; omega)) ⟨(Nat.le_of_ble_eq_true rfl), (Nat.le_of_ble_eq_true rfl)⟩ rfl rfl (Nat.le_of_ble_eq_true rfl) ?_ ?_
  · rintro x9 n9 k9 h9
    obtain ⟨rfl, rfl, hno, rfl⟩ := h9
    exact absurd hyes hno
  · rintro v9 n9 k9 ⟨rfl, rfl, hok, rfl⟩
    refine ⟨rfl, ?_⟩
    refine mt_aload_n (pc := 8) dX10_county_8 rfl ?_
    refine mt_get (pc := 9) gf_X10_23 dX10_county_9 (by first | assumption | omega) (by repeat (first | exact hset_eq _ _ _ | assumption | rw [hset_ne (by first | assumption | decide | omega)])) rfl ?_
    refine mt_aload_n (pc := 12) dX10_county_12 rfl ?_
    refine mt_get (pc := 13) gf_X10_10 dX10_county_13 (by first | assumption | omega) (by repeat (first | exact hset_eq _ _ _ | assumption | rw [hset_ne (by first | assumption | decide | omega)])) rfl ?_
    refine mt_aV (pc := 16) (c_cread (d := 6) (e := e) (sz := 0) (st := 0) (fk := 0) (fp := -1) (so0 := 0) (sl0 := 0) (Nat.le_refl 6) (by omega) ((hset_ne (by decide)).trans wy) (hset_eq _ _ _) (by omega) (CR_fe wCR fun j a b => hset_ne (by omega))) cal_X1_read vir_X1_read ml_X10_114 dX10_county_16 (by first | assumption | omega) (by repeat (first | exact hset_eq _ _ _ | assumption | rw [hset_ne (by first | assumption | decide | omega)])) (by first | assumption | (show _ ≤ d; omega)) ⟨(Nat.le_of_ble_eq_true rfl), (Nat.le_of_ble_eq_true rfl)⟩ rfl rfl (Nat.le_of_ble_eq_true rfl) ?_ ?_
    · rintro x9 n9 k9 h9
      simp [P_rc] at h9
    · rintro v9 n9 k9 ⟨rfl, hF, ⟨kd, pl2, hS, hv, ⟨p2, s2, hT2⟩, hX⟩ | ⟨c, hS, hv, ⟨p2, s2, hT2⟩, hX⟩⟩
      · skip
        cases hv
        refine ⟨rfl, ?_⟩
        have e1 : ∀ j, j ≠ 1 → j < 9 ∨ 14 < j → k9 j = h j := fun j a b => (hF j a b).trans (hset_ne a)
        have q0 : k9 0 = cbE (nI ic) rs ne ia := (e1 0 (by decide) (by decide)).trans w0
        have hW2 := hW.rd hT2 (fun j a b c d f => e1 j a b) hX (LX_fe wLX fun j a b => e1 j (by omega) (by omega)) ⟨K2, BR_fe wBR fun j a b => e1 j (by omega) (by omega)⟩ (WX_fe wWX fun j a b => e1 j (by omega) (by omega))
        refine mt_if_ne (pc := 19) (tgt := 30) dX10_county_19 (by decide) (fun c19 => ?_) (fun c19 => ?_)
        · exact absurd rfl c19
        · skip
          refine mt_aload_n (pc := 22) dX10_county_22 rfl ?_
          refine mt_get (pc := 23) gf_X10_10 dX10_county_23 (by first | assumption | omega) (by repeat (first | exact hset_eq _ _ _ | assumption | rw [hset_ne (by first | assumption | decide | omega)])) rfl ?_
          refine mt_cV (pc := 26) (c_faultAnswer (d := 0) (by omega) hT2) cal_X7_faultAnswer vir_X7_faultAnswer ml_X10_118 dX10_county_26 (by first | assumption | omega) (by repeat (first | exact hset_eq _ _ _ | assumption | rw [hset_ne (by first | assumption | decide | omega)])) (by first | assumption | (show _ ≤ d; omega)) ⟨(Nat.le_of_ble_eq_true rfl), (Nat.le_of_ble_eq_true rfl)⟩ rfl rfl (Nat.le_of_ble_eq_true rfl) ?_
          exact mt_iret rfl dX10_county_29 (Nat.le_of_ble_eq_true rfl) (Nat.le_of_ble_eq_true rfl) ⟨rfl, (fun j hj => e1 j (by omega) (by omega)), by rw [hS]; exact ⟨rfl, hW2⟩⟩
      · skip
        cases hv
        refine ⟨rfl, ?_⟩
        have e1 : ∀ j, j ≠ 1 → j < 9 ∨ 14 < j → k9 j = h j := fun j a b => (hF j a b).trans (hset_ne a)
        have q0 : k9 0 = cbE (nI ic) rs ne ia := (e1 0 (by decide) (by decide)).trans w0
        have hW2 := hW.rd hT2 (fun j a b c d f => e1 j a b) ⟨c, hX⟩ (LX_fe wLX fun j a b => e1 j (by omega) (by omega)) ⟨K2, BR_fe wBR fun j a b => e1 j (by omega) (by omega)⟩ (WX_fe wWX fun j a b => e1 j (by omega) (by omega))
        have hCO := hW2.2.1
        have q3 := hCO.1
        have q9 := hX.1
        refine mt_if_ne (pc := 19) (tgt := 30) dX10_county_19 (by decide) (fun c19 => ?_) (fun c19 => ?_)
        · skip
          refine mt_aload_n (pc := 30) dX10_county_30 rfl ?_
          refine mt_get (pc := 31) gf_X10_19 dX10_county_31 (by first | assumption | omega) (by repeat (first | exact hset_eq _ _ _ | assumption | rw [hset_ne (by first | assumption | decide | omega)])) rfl ?_
          refine mt_aload_n (pc := 34) dX10_county_34 rfl ?_
          refine mt_get (pc := 35) gf_X10_23 dX10_county_35 (by first | assumption | omega) (by repeat (first | exact hset_eq _ _ _ | assumption | rw [hset_ne (by first | assumption | decide | omega)])) rfl ?_
          refine mt_aV (pc := 38) (c_ccopy (d := 2) (Nat.le_refl 2) (by omega) hCO hX) cal_X1_copyFrom vir_X1_copyFrom ml_X10_122 dX10_county_38 (by first | assumption | omega) (by repeat (first | exact hset_eq _ _ _ | assumption | rw [hset_ne (by first | assumption | decide | omega)])) (by first | assumption | (show _ ≤ d; omega)) ⟨(Nat.le_of_ble_eq_true rfl), (Nat.le_of_ble_eq_true rfl)⟩ rfl rfl (Nat.le_of_ble_eq_true rfl) ?_ ?_
          · rintro x9 n9 k9 h9
            obtain ⟨⟨⟩, -⟩ := h9
          · rintro v9 n9 k9 ⟨⟨⟩, rfl, e2, hC2⟩
            refine ⟨rfl, ?_⟩
            have hAG := AG_cpy (c := c) (k := k)
            obtain ⟨k', hk'⟩ : ∃ k', k' = (c.1, c.2.1, va_cpy c.2.2.1 k.2.2.1 0 0 8, va_cpy c.2.2.2.1 k.2.2.2.1 0 0 8, va_cpy c.2.2.2.2.1 k.2.2.2.2.1 0 0 8, va_cpy c.2.2.2.2.2.1 k.2.2.2.2.2.1 0 0 6, va_cpy c.2.2.2.2.2.2 k.2.2.2.2.2.2 0 0 6) := ⟨_, rfl⟩
            rw [← hk'] at hAG hC2
            have q0' := (e2 0 (by decide)).trans q0
            obtain ⟨l1, ⟨R0, l2, l3⟩, ⟨F, l4⟩, S, l5⟩ := hW2.2.2.1
            have q15 := (e2 15 (by decide)).trans l1
            have q16 := (e2 16 (by decide)).trans l2
            have q17 := (e2 17 (by decide)).trans l4
            have q18 := (e2 18 (by decide)).trans l5
            obtain ⟨b1, b2, b3, b4, b5⟩ := hW2.2.2.2.2.1
            have q23 := (e2 23 (by decide)).trans b1
            have hPG := PG_fe hW2.2.2.2.2.2.1 (m := k9) (fun j a b => e2 j (by omega))
            have q34 := hPG.1
            refine mt_aload_n (pc := 41) dX10_county_41 rfl ?_
            refine mt_get (pc := 42) gf_X10_29 dX10_county_42 (by first | assumption | omega) (by repeat (first | exact hset_eq _ _ _ | assumption | rw [hset_ne (by first | assumption | decide | omega)])) rfl ?_
            refine mt_cV (pc := 45) (c_becomeUntold (d := 2) (s := 15) (r := 16) (q := 17) (t := 18) (z := nI cs.length) (g := R0) (n := 0) (Nat.le_refl 2) (by omega) (by omega) (by decide) q15 q16) cal_X2_becomeUntold vir_X2_becomeUntold ml_X10_126 dX10_county_45 (by first | assumption | omega) (by repeat (first | exact hset_eq _ _ _ | assumption | rw [hset_ne (by first | assumption | decide | omega)])) (by first | assumption | (show _ ≤ d; omega)) ⟨(Nat.le_of_ble_eq_true rfl), (Nat.le_of_ble_eq_true rfl)⟩ rfl rfl (Nat.le_of_ble_eq_true rfl) ?_
            refine mt_aload_n (pc := 48) dX10_county_48 rfl ?_
            refine mt_get (pc := 49) gf_X10_39 dX10_county_49 (by first | assumption | omega) (by repeat (first | exact hset_eq _ _ _ | assumption | rw [hset_ne (by first | assumption | decide | omega)])) rfl ?_
            refine mt_cV (pc := 52) (c_bclear (d := 0) (x := nI bk.1) (by omega) (by (repeat rw [hset_ne (by decide)]); exact q23)) cal_X0_clear vir_X0_clear ml_X10_129 dX10_county_52 (by first | assumption | omega) (by repeat (first | exact hset_eq _ _ _ | assumption | rw [hset_ne (by first | assumption | decide | omega)])) (by first | assumption | (show _ ≤ d; omega)) ⟨(Nat.le_of_ble_eq_true rfl), (Nat.le_of_ble_eq_true rfl)⟩ rfl rfl (Nat.le_of_ble_eq_true rfl) ?_
            generalize hm3 : hset (hset (hset k9 16 (iaE 150 (va_cpy untF R0 0 0 9))) 15 (.inr (2, [.ref 16, .ref 17, .ref 18, .int (nI 9)]))) 23 (boE 0) = m3
            have e3 : ∀ j, j ≠ 15 → j ≠ 16 → j ≠ 23 → m3 j = k9 j := fun j y1 y2 y3 => by rw [← hm3, hset_ne y3, hset_ne y1, hset_ne y2]
            have r15 : m3 15 = laE (nI untL.length) := by rw [← hm3, hset_ne (by decide), hset_eq]; rfl
            have r16 : m3 16 = iaE 150 (va_cpy untF R0 0 0 9) := by rw [← hm3, hset_ne (by decide), hset_ne (by decide), hset_eq]
            have r23 : m3 23 = boE 0 := by rw [← hm3, hset_eq]
            have r0 := (e3 0 (by decide) (by decide) (by decide)).trans q0'
            have r34 := (e3 34 (by decide) (by decide) (by decide)).trans q34
            refine mt_aload_n (pc := 55) dX10_county_55 rfl ?_
            refine mt_get (pc := 56) gf_X10_65 dX10_county_56 (by first | assumption | omega) (by repeat (first | exact hset_eq _ _ _ | assumption | rw [hset_ne (by first | assumption | decide | omega)])) rfl ?_
            refine mt_aload_n (pc := 59) dX10_county_59 rfl ?_
            refine mt_get (pc := 60) gf_X10_19 dX10_county_60 (by first | assumption | omega) (by repeat (first | exact hset_eq _ _ _ | assumption | rw [hset_ne (by first | assumption | decide | omega)])) rfl ?_
            refine mt_aV (pc := 63) (c_pbegin (d := 3) (b := 34) (Nat.le_refl 3) (by omega) (by decide) (by omega) (CO_fe hC2 fun j a b => e3 j (by omega) (by omega) (by omega)) (PG_fe hPG fun j a b => e3 j (by omega) (by omega) (by omega))) cal_X3_begin vir_X3_begin ml_X10_132 dX10_county_63 (by first | assumption | omega) (by repeat (first | exact hset_eq _ _ _ | assumption | rw [hset_ne (by first | assumption | decide | omega)])) (by first | assumption | (show _ ≤ d; omega)) ⟨(Nat.le_of_ble_eq_true rfl), (Nat.le_of_ble_eq_true rfl)⟩ rfl rfl (Nat.le_of_ble_eq_true rfl) ?_ ?_
            · rintro x9 n9 k9 h9
              obtain ⟨⟨⟩, -⟩ := h9
            · rintro v9 n9 k9 ⟨⟨⟩, rfl, e4, hP4⟩
              refine ⟨rfl, ?_⟩
              have s0 := (e4 0 (by decide)).trans r0
              have hC4 : CO k9 k' := CO_fe hC2 fun j a b => (e4 j (by omega)).trans (e3 j (by omega) (by omega) (by omega))
              have s3 := hC4.1
              refine mt_aload_n (pc := 66) dX10_county_66 rfl ?_
              refine mt_iconst (pc := 67) (v := 0) dX10_county_67 (by decide) ?_
              first
                | refine mt_puti2 (pc := 68) pf_X10_135 dX10_county_68 (by first | assumption | omega) (Nat.le_of_ble_eq_true rfl) ?_
                | refine mt_puti (pc := 68) pf_X10_135 dX10_county_68 (by first | assumption | omega) (by repeat (first | exact hset_eq _ _ _ | assumption | rw [hset_ne (by first | assumption | decide | omega)])) (Nat.le_of_ble_eq_true rfl) ?_
              refine mt_aload_n (pc := 71) dX10_county_71 rfl ?_
              refine mt_iconst (pc := 72) (v := 0) dX10_county_72 (by decide) ?_
              first
                | refine mt_puti2 (pc := 73) pf_X10_138 dX10_county_73 (by first | assumption | omega) (Nat.le_of_ble_eq_true rfl) ?_
                | refine mt_puti (pc := 73) pf_X10_138 dX10_county_73 (by first | assumption | omega) (by repeat (first | exact hset_eq _ _ _ | assumption | rw [hset_ne (by first | assumption | decide | omega)])) (Nat.le_of_ble_eq_true rfl) ?_
              refine mt_aload_n (pc := 76) dX10_county_76 rfl ?_
              refine mt_get (pc := 77) gf_X10_19 dX10_county_77 (by first | assumption | omega) (by repeat (first | exact hset_eq _ _ _ | assumption | rw [hset_ne (by first | assumption | decide | omega)])) rfl ?_
              refine mt_get (pc := 80) gf_X10_141 dX10_county_80 (by first | assumption | omega) (by repeat (first | exact hset_eq _ _ _ | assumption | rw [hset_ne (by first | assumption | decide | omega)])) rfl ?_
              exact mt_iret rfl dX10_county_83 (Nat.le_of_ble_eq_true rfl) (Nat.le_of_ble_eq_true rfl) ⟨rfl, (fun j hj => by rw [hset_ne (by omega), e4 j (by omega), e3 j (by omega) (by omega) (by omega), e2 j (by omega)]; exact e1 j (by omega) (by omega)), by
                  rw [hS]
                  have f5 : ∀ j, j ≠ 0 → hset k9 0 (cbE 0 0 ne ia) j = k9 j := fun j hj => hset_ne hj
                  refine ⟨by rw [hAG.1], k', hAG, hW2.cn (hset_eq _ _ _) (CO_fe hC4 fun j a b => f5 j (by omega)) ⟨by rw [hset_ne (by decide), e4 15 (by decide)]; exact r15, ⟨_, by rw [hset_ne (by decide), e4 16 (by decide)]; exact r16, LW_unt⟩, ⟨F, by rw [hset_ne (by decide), e4 17 (by decide), e3 17 (by decide) (by decide) (by decide)]; exact q17⟩, S, by rw [hset_ne (by decide), e4 18 (by decide), e3 18 (by decide) (by decide) (by decide)]; exact q18⟩ ⟨by rw [hset_ne (by decide), e4 23 (by decide)]; exact r23, ?_, ?_, ?_, Nat.zero_le _⟩ (PG_fe hP4 fun j a b => f5 j (by omega)) (fun j y1 y2 y3 y4 y5 y6 => by rw [hset_ne y1, e4 j (by omega), e3 j y3 y4 y5, e2 j y2])⟩
                  · rw [hset_ne (by decide), e4 24 (by decide), e3 24 (by decide) (by decide) (by decide), e2 24 (by decide)]; exact b2
                  · rw [hset_ne (by decide), e4 25 (by decide), e3 25 (by decide) (by decide) (by decide), e2 25 (by decide)]; exact b3
                  · rw [hset_ne (by decide), e4 26 (by decide), e3 26 (by decide) (by decide) (by decide), e2 26 (by decide)]; exact b4⟩
        · exact absurd c19 (by decide)
end CTZ
