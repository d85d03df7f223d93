/-! The class: texts refused, undo, image, restore. -/
def updG (F : Nat → PGS) (i : Nat) (g : PGS) : Nat → PGS := fun j => if j = i then g else F j
section CKP
variable {G : mm_G} {l : Launch} {d nx : Nat} {h m : Nat → mm_E} {b : Nat → Int32} {sz : Nat} {fp : Int32} {ic : Nat} {rs ne ia : Int32} {k : CS} {cs : List Nat} {bk : BS} {pg : PGS} {im : Nat → PGS}
theorem c_countyN {z : Int32} (hl : l.stackTraces = false) (hd : 35 ≤ d) (hx : 188 ≤ nx) (hW : CW h b sz fp ic rs ne ia k cs bk pg im) (hz : ¬ (¬ z < 0 ∧ ¬ nI sz < z ∧ ¬ nI 600 < z)) : mm_Con G l yX10_county cX10_county 2 (some .int) d 1 6 [.ref 0, .int z] nx h (mm_thr 1 nx (hset h 0 (bmp 1 (nI ic) rs ne ia))) := by
  obtain ⟨w0, wC, wL, wF, wB, wP, wR, wS, ⟨en, pl, st, fk, wt⟩, wy, ⟨K, wCR⟩, wLX, ⟨K2, wBR⟩, wWX, wI, w1, w2, w3⟩ := id hW
  refine mm_start (lo := [some (.ref 0), some (.int z)]) pn_X10 rfl rfl (Nat.le_of_ble_eq_true rfl) ?_
  refine mt_aload_n (pc := 0) dX10_county_0 rfl ?_
  refine mt_iload_n (pc := 1) dX10_county_1 rfl ?_
  refine mt_sipush (pc := 2) (v := 600) dX10_county_2 (by decide) ?_
  refine mt_aV (pc := 5) (c_beginText (d := 8) (t := 600) hl (Nat.le_refl 8) hx w2 (by decide) w0 wt wy) cal_X10_beginText vir_X10_beginText ml_X10_110 dX10_county_5 (by first | assumption | omega) (by repeat (first | exact hset_eq _ _ _ | assumption | rw [hset_ne (by first | assumption | decide | omega)])) (by first | assumption | (show _ ≤ d; omega)) ⟨(Nat.le_of_ble_eq_true rfl), (Nat.le_of_ble_eq_true rfl)⟩ rfl rfl (Nat.le_of_ble_eq_true rfl) ?_ ?_
  · rintro x9 n9 k9 h9
    obtain ⟨rfl, rfl, hno, rfl⟩ := h9
    exact ⟨rfl, rfl, rfl⟩
  · rintro v9 n9 k9 ⟨rfl, rfl, hok, rfl⟩
    refine ⟨rfl, ?_⟩
    exact absurd hok hz
theorem c_lawN {z : Int32} (hl : l.stackTraces = false) (hd : 35 ≤ d) (hx : 188 ≤ nx) (hW : CW h b sz fp ic rs ne ia k cs bk pg im) (hz : ¬ (¬ z < 0 ∧ ¬ nI sz < z ∧ ¬ nI 150 < z)) : mm_Con G l yX10_law cX10_law 2 (some .int) d 1 6 [.ref 0, .int z] nx h (mm_thr 1 nx (hset h 0 (bmp 1 (nI ic) rs ne ia))) := by
  obtain ⟨w0, wC, wL, wF, wB, wP, wR, wS, ⟨en, pl, st, fk, wt⟩, wy, ⟨K, wCR⟩, wLX, ⟨K2, wBR⟩, wWX, wI, w1, w2, w3⟩ := id hW
  refine mm_start (lo := [some (.ref 0), some (.int z)]) pn_X10 rfl rfl (Nat.le_of_ble_eq_true rfl) ?_
  refine mt_aload_n (pc := 0) dX10_law_0 rfl ?_
  refine mt_iload_n (pc := 1) dX10_law_1 rfl ?_
  refine mt_sipush (pc := 2) (v := 150) dX10_law_2 (by decide) ?_
  refine mt_aV (pc := 5) (c_beginText (d := 8) (t := 150) hl (Nat.le_refl 8) hx w2 (by decide) w0 wt wy) cal_X10_beginText vir_X10_beginText ml_X10_110 dX10_law_5 (by first | assumption | omega) (by repeat (first | exact hset_eq _ _ _ | assumption | rw [hset_ne (by first | assumption | decide | omega)])) (by first | assumption | (show _ ≤ d; omega)) ⟨(Nat.le_of_ble_eq_true rfl), (Nat.le_of_ble_eq_true rfl)⟩ rfl rfl (Nat.le_of_ble_eq_true rfl) ?_ ?_
  · rintro x9 n9 k9 h9
    obtain ⟨rfl, rfl, hno, rfl⟩ := h9
    exact ⟨rfl, rfl, rfl⟩
  · rintro v9 n9 k9 ⟨rfl, rfl, hok, rfl⟩
    refine ⟨rfl, ?_⟩
    exact absurd hok hz
theorem c_workN {z : Int32} (hl : l.stackTraces = false) (hd : 35 ≤ d) (hx : 188 ≤ nx) (hW : CW h b sz fp ic rs ne ia k cs bk pg im) (hz : ¬ (¬ z < 0 ∧ ¬ nI sz < z ∧ ¬ nI 150 < z)) : mm_Con G l yX10_work cX10_work 2 (some .int) d 1 6 [.ref 0, .int z] nx h (mm_thr 1 nx (hset h 0 (bmp 1 (nI ic) rs ne ia))) := by
  obtain ⟨w0, wC, wL, wF, wB, wP, wR, wS, ⟨en, pl, st, fk, wt⟩, wy, ⟨K, wCR⟩, wLX, ⟨K2, wBR⟩, wWX, wI, w1, w2, w3⟩ := id hW
  refine mm_start (lo := [some (.ref 0), some (.int z)]) pn_X10 rfl rfl (Nat.le_of_ble_eq_true rfl) ?_
  refine mt_aload_n (pc := 0) dX10_work_0 rfl ?_
  refine mt_iload_n (pc := 1) dX10_work_1 rfl ?_
  refine mt_sipush (pc := 2) (v := 150) dX10_work_2 (by decide) ?_
  refine mt_aV (pc := 5) (c_beginText (d := 8) (t := 150) hl (Nat.le_refl 8) hx w2 (by decide) w0 wt wy) cal_X10_beginText vir_X10_beginText ml_X10_110 dX10_work_5 (by first | assumption | omega) (by repeat (first | exact hset_eq _ _ _ | assumption | rw [hset_ne (by first | assumption | decide | omega)])) (by first | assumption | (show _ ≤ d; omega)) ⟨(Nat.le_of_ble_eq_true rfl), (Nat.le_of_ble_eq_true rfl)⟩ rfl rfl (Nat.le_of_ble_eq_true rfl) ?_ ?_
  · rintro x9 n9 k9 h9
    obtain ⟨rfl, rfl, hno, rfl⟩ := h9
    exact ⟨rfl, rfl, rfl⟩
  · rintro v9 n9 k9 ⟨rfl, rfl, hok, rfl⟩
    refine ⟨rfl, ?_⟩
    exact absurd hok hz
theorem c_bookN {z : Int32} (hl : l.stackTraces = false) (hd : 35 ≤ d) (hx : 188 ≤ nx) (hW : CW h b sz fp ic rs ne ia k cs bk pg im) (hz : ¬ (¬ z < 0 ∧ ¬ nI sz < z ∧ ¬ nI 60 < z)) : mm_Con G l yX10_book cX10_book 2 (some .int) d 1 6 [.ref 0, .int z] nx h (mm_thr 1 nx (hset h 0 (bmp 1 (nI ic) rs ne ia))) := by
  obtain ⟨w0, wC, wL, wF, wB, wP, wR, wS, ⟨en, pl, st, fk, wt⟩, wy, ⟨K, wCR⟩, wLX, ⟨K2, wBR⟩, wWX, wI, w1, w2, w3⟩ := id hW
  refine mm_start (lo := [some (.ref 0), some (.int z)]) pn_X10 rfl rfl (Nat.le_of_ble_eq_true rfl) ?_
  refine mt_aload_n (pc := 0) dX10_book_0 rfl ?_
  refine mt_iload_n (pc := 1) dX10_book_1 rfl ?_
  refine mt_bipush (pc := 2) (v := 60) dX10_book_2 (by decide) ?_
  refine mt_aV (pc := 4) (c_beginText (d := 8) (t := 60) hl (Nat.le_refl 8) hx w2 (by decide) w0 wt wy) cal_X10_beginText vir_X10_beginText ml_X10_110 dX10_book_4 (by first | assumption | omega) (by repeat (first | exact hset_eq _ _ _ | assumption | rw [hset_ne (by first | assumption | decide | omega)])) (by first | assumption | (show _ ≤ d; omega)) ⟨(Nat.le_of_ble_eq_true rfl), (Nat.le_of_ble_eq_true rfl)⟩ rfl rfl (Nat.le_of_ble_eq_true rfl) ?_ ?_
  · rintro x9 n9 k9 h9
    obtain ⟨rfl, rfl, hno, rfl⟩ := h9
    exact ⟨rfl, rfl, rfl⟩
  · rintro v9 n9 k9 ⟨rfl, rfl, hok, rfl⟩
    refine ⟨rfl, ?_⟩
    exact absurd hok hz
/-- another page -/
theorem CW.pag {rs' : Int32} {ic' : Nat} {pg' : PGS} (hW : CW h b sz fp ic rs ne ia k cs bk pg im) (h0 : m 0 = cbE (nI ic') rs' ne ia) (hi : ic' ≤ 3) (hP : PG m 34 pg') (hR : RC pg'.2.1) (e : ∀ j, j ≠ 0 → (j < 34 ∨ 70 ≤ j) → m j = h j) : CW m b sz fp ic' rs' ne ia k cs bk pg' im := by
  obtain ⟨w0, wC, wL, wF, wB, wP, wR, wS, ⟨en, pl, st, fk, wt⟩, wy, ⟨K, wCR⟩, wLX, ⟨K2, wBR⟩, wWX, wI, w1, w2, w3⟩ := hW
  exact ⟨h0, CO_fe wC fun j a b => e j (by omega) (by omega), LA_fe wL fun j a b => e j (by omega) (by omega), wF, BO_fe wB fun j a b => e j (by omega) (by omega), hP, hR, RST_fe wS fun j a b => e j (by omega) (by omega), ⟨en, pl, st, fk, (e 1 (by decide) (by decide)).trans wt⟩, (e 2 (by decide) (by decide)).trans wy, ⟨K, CR_fe wCR fun j a b => e j (by omega) (by omega)⟩, LX_fe wLX fun j a b => e j (by omega) (by omega), ⟨K2, BR_fe wBR fun j a b => e j (by omega) (by omega)⟩, WX_fe wWX fun j a b => e j (by omega) (by omega), fun i hi => PG_fe (wI i hi) fun j a b => e j (by omega) (by omega), hi, w2, w3⟩
theorem c_undo0 (hd : 4 ≤ d) (hx : 188 ≤ nx) (hW : CW h b sz fp ic rs ne ia k cs bk pg im) (hw : pg.1 = 0) : mm_Con G l yX10_undo cX10_undo 1 (some .int) d 0 0 [.ref 0] nx h (mm_ret (some (.int (-1))) nx h) := by
  obtain ⟨w0, wC, wL, wF, wB, wP, wR, wS, ⟨en, pl, st, fk, wt⟩, wy, ⟨K, wCR⟩, wLX, ⟨K2, wBR⟩, wWX, wI, w1, w2, w3⟩ := id hW
  have q34 := wP.1
  refine mm_start (lo := [some (.ref 0)]) pn_X10 rfl rfl (Nat.le_of_ble_eq_true rfl) ?_
  refine mt_aload_n (pc := 0) dX10_undo_0 rfl ?_
  refine mt_get (pc := 1) gf_X10_65 dX10_undo_1 (by first | assumption | omega) (by repeat (first | exact hset_eq _ _ _ | assumption | rw [hset_ne (by first | assumption | decide | omega)])) rfl ?_
  refine mt_cV (pc := 4) (c_goBack0 (d := 3) (b := 34) (by decide) (by omega) wP hw) cal_X3_goBack vir_X3_goBack ml_X10_188 dX10_undo_4 (by first | assumption | omega) (by repeat (first | exact hset_eq _ _ _ | assumption | rw [hset_ne (by first | assumption | decide | omega)])) (by first | assumption | (show _ ≤ d; omega)) ⟨(Nat.le_of_ble_eq_true rfl), (Nat.le_of_ble_eq_true rfl)⟩ rfl rfl (Nat.le_of_ble_eq_true rfl) ?_
  refine mt_if_ne (pc := 7) (tgt := 12) dX10_undo_7 (by decide) (fun c7 => ?_) (fun c7 => ?_)
  · exact absurd rfl c7
  · skip
    refine mt_iconst (pc := 10) (v := (-1)) dX10_undo_10 (by decide) ?_
    exact mt_iret rfl dX10_undo_11 (Nat.le_of_ble_eq_true rfl) (Nat.le_of_ble_eq_true rfl) ⟨rfl, rfl, rfl⟩
theorem c_undo (hd : 4 ≤ d) (hx : 188 ≤ nx) (hW : CW h b sz fp ic rs ne ia k cs bk pg im) (hw : 0 < pg.1) (hR : RC (pg.2.2 (pg.1 - 1))) : mm_Con G l yX10_undo cX10_undo 1 (some .int) d 0 0 [.ref 0] nx h (fun o n m => o = .inl (some (.int (nI (pg.1 - 1)))) ∧ n = nx ∧ FX h m ∧ CW m b sz fp ic 0 ne ia k cs bk (pg.1 - 1, pg.2.2 (pg.1 - 1), pg.2.2) im) := by
  obtain ⟨w0, wC, wL, wF, wB, wP, wR, wS, ⟨en, pl, st, fk, wt⟩, wy, ⟨K, wCR⟩, wLX, ⟨K2, wBR⟩, wWX, wI, w1, w2, w3⟩ := id hW
  have q34 := wP.1
  refine mm_start (lo := [some (.ref 0)]) pn_X10 rfl rfl (Nat.le_of_ble_eq_true rfl) ?_
  refine mt_aload_n (pc := 0) dX10_undo_0 rfl ?_
  refine mt_get (pc := 1) gf_X10_65 dX10_undo_1 (by first | assumption | omega) (by repeat (first | exact hset_eq _ _ _ | assumption | rw [hset_ne (by first | assumption | decide | omega)])) rfl ?_
  refine mt_aV (pc := 4) (c_goBack (d := 3) (b := 34) (Nat.le_refl 3) (by decide) (by omega) wP hw) cal_X3_goBack vir_X3_goBack ml_X10_188 dX10_undo_4 (by first | assumption | omega) (by repeat (first | exact hset_eq _ _ _ | assumption | rw [hset_ne (by first | assumption | decide | omega)])) (by first | assumption | (show _ ≤ d; omega)) ⟨(Nat.le_of_ble_eq_true rfl), (Nat.le_of_ble_eq_true rfl)⟩ rfl rfl (Nat.le_of_ble_eq_true rfl) ?_ ?_
  · rintro x9 n9 k9 h9
    obtain ⟨⟨⟩, -⟩ := h9
  · rintro v9 n9 k9 ⟨⟨⟩, rfl, e2, hP2⟩
    refine ⟨rfl, ?_⟩
    have q0 := (e2 0 (by decide)).trans w0
    have r34 := hP2.1
    refine mt_if_ne (pc := 7) (tgt := 12) dX10_undo_7 (by decide) (fun c7 => ?_) (fun c7 => ?_)
    · skip
      refine mt_aload_n (pc := 12) dX10_undo_12 rfl ?_
      refine mt_iconst (pc := 13) (v := 0) dX10_undo_13 (by decide) ?_
      first
        | refine mt_puti2 (pc := 14) pf_X10_138 dX10_undo_14 (by first | assumption | omega) (Nat.le_of_ble_eq_true rfl) ?_
        | refine mt_puti (pc := 14) pf_X10_138 dX10_undo_14 (by first | assumption | omega) (by repeat (first | exact hset_eq _ _ _ | assumption | rw [hset_ne (by first | assumption | decide | omega)])) (Nat.le_of_ble_eq_true rfl) ?_
      refine mt_aload_n (pc := 17) dX10_undo_17 rfl ?_
      refine mt_get (pc := 18) gf_X10_65 dX10_undo_18 (by first | assumption | omega) (by repeat (first | exact hset_eq _ _ _ | assumption | rw [hset_ne (by first | assumption | decide | omega)])) rfl ?_
      refine mt_get (pc := 21) gf_X10_148 dX10_undo_21 (by first | assumption | omega) (by repeat (first | exact hset_eq _ _ _ | assumption | rw [hset_ne (by first | assumption | decide | omega)])) rfl ?_
      exact mt_iret rfl dX10_undo_24 (Nat.le_of_ble_eq_true rfl) (Nat.le_of_ble_eq_true rfl) ⟨rfl, rfl, (fun j hj => by rw [hset_ne (by omega)]; exact e2 j (by omega)), hW.pag (hset_eq _ _ _) w1 (PG_fe hP2 fun j a b => hset_ne (by omega)) hR (fun j y1 y2 => (hset_ne y1).trans (e2 j (by omega)))⟩
    · exact absurd c7 (by decide)
theorem imF3_nI {i : Nat} (hi : i < 3) : imF3 (nI i).toNatClampNeg = some (71 + 36 * i) := by
  rw [nI_clamp (by omega)]
  exact if_pos hi
theorem c_image3 (hx : 188 ≤ nx) (hW : CW h b sz fp ic rs ne ia k cs bk pg im) (hi : ic = 3) : mm_Con G l yX10_image cX10_image 1 (some .int) d 0 0 [.ref 0] nx h (mm_ret (some (.int (-1))) nx h) := by
  obtain ⟨w0, wC, wL, wF, wB, wP, wR, wS, ⟨en, pl, st, fk, wt⟩, wy, ⟨K, wCR⟩, wLX, ⟨K2, wBR⟩, wWX, wI, w1, w2, w3⟩ := id hW
  have q70 := wS.2.1
  subst hi
  refine mm_start (lo := [some (.ref 0)]) pn_X10 rfl rfl (Nat.le_of_ble_eq_true rfl) ?_
  refine mt_aload_n (pc := 0) dX10_image_0 rfl ?_
  refine mt_get (pc := 1) gf_X10_135 dX10_image_1 (by first | assumption | omega) (by repeat (first | exact hset_eq _ _ _ | assumption | rw [hset_ne (by first | assumption | decide | omega)])) rfl ?_
  refine mt_if_lt (pc := 4) (tgt := 19) dX10_image_4 (by decide) (fun c4 => ?_) (fun c4 => ?_)
  · skip
    refine mt_iconst (pc := 19) (v := (-1)) dX10_image_19 (by decide) ?_
    exact mt_iret rfl dX10_image_20 (Nat.le_of_ble_eq_true rfl) (Nat.le_of_ble_eq_true rfl) ⟨rfl, rfl, rfl⟩
  · skip
    refine mt_aload_n (pc := 7) dX10_image_7 rfl ?_
    refine mt_get (pc := 8) gf_X10_135 dX10_image_8 (by first | assumption | omega) (by repeat (first | exact hset_eq _ _ _ | assumption | rw [hset_ne (by first | assumption | decide | omega)])) rfl ?_
    refine mt_aload_n (pc := 11) dX10_image_11 rfl ?_
    refine mt_get (pc := 12) gf_X10_69 dX10_image_12 (by first | assumption | omega) (by repeat (first | exact hset_eq _ _ _ | assumption | rw [hset_ne (by first | assumption | decide | omega)])) rfl ?_
    refine mt_alen (pc := 15) dX10_image_15 (by first | assumption | omega) (by repeat (first | exact hset_eq _ _ _ | assumption | rw [hset_ne (by first | assumption | decide | omega)])) (by decide) ?_
    refine mt_icmp_lt (pc := 16) (tgt := 21) dX10_image_16 (by decide) (fun c16 => ?_) (fun c16 => ?_)
    · exact absurd c16 (by decide)
    · skip
      refine mt_iconst (pc := 19) (v := (-1)) dX10_image_19 (by decide) ?_
      exact mt_iret rfl dX10_image_20 (Nat.le_of_ble_eq_true rfl) (Nat.le_of_ble_eq_true rfl) ⟨rfl, rfl, rfl⟩
theorem c_image (hd : 4 ≤ d) (hx : 188 ≤ nx) (hW : CW h b sz fp ic rs ne ia k cs bk pg im) (hi : ic < 3) : mm_Con G l yX10_image cX10_image 1 (some .int) d 0 0 [.ref 0] nx h (fun o n m => o = .inl (some (.int (nI (ic + 1)))) ∧ n = nx ∧ FX h m ∧ CW m b sz fp (ic + 1) rs ne ia k cs bk pg (updG im ic pg)) := by
  obtain ⟨w0, wC, wL, wF, wB, wP, wR, wS, ⟨en, pl, st, fk, wt⟩, wy, ⟨K, wCR⟩, wLX, ⟨K2, wBR⟩, wWX, wI, w1, w2, w3⟩ := id hW
  have q70 := wS.2.1
  have qI := (wI ic hi).1
  refine mm_start (lo := [some (.ref 0)]) pn_X10 rfl rfl (Nat.le_of_ble_eq_true rfl) ?_
  refine mt_aload_n (pc := 0) dX10_image_0 rfl ?_
  refine mt_get (pc := 1) gf_X10_135 dX10_image_1 (by first | assumption | omega) (by repeat (first | exact hset_eq _ _ _ | assumption | rw [hset_ne (by first | assumption | decide | omega)])) rfl ?_
  refine mt_if_lt (pc := 4) (tgt := 19) dX10_image_4 (by decide) (fun c4 => ?_) (fun c4 => ?_)
  · exact absurd c4 (nI_pos (by omega))
  · skip
    refine mt_aload_n (pc := 7) dX10_image_7 rfl ?_
    refine mt_get (pc := 8) gf_X10_135 dX10_image_8 (by first | assumption | omega) (by repeat (first | exact hset_eq _ _ _ | assumption | rw [hset_ne (by first | assumption | decide | omega)])) rfl ?_
    refine mt_aload_n (pc := 11) dX10_image_11 rfl ?_
    refine mt_get (pc := 12) gf_X10_69 dX10_image_12 (by first | assumption | omega) (by repeat (first | exact hset_eq _ _ _ | assumption | rw [hset_ne (by first | assumption | decide | omega)])) rfl ?_
    refine mt_alen (pc := 15) dX10_image_15 (by first | assumption | omega) (by repeat (first | exact hset_eq _ _ _ | assumption | rw [hset_ne (by first | assumption | decide | omega)])) (by decide) ?_
    refine mt_icmp_lt (pc := 16) (tgt := 21) dX10_image_16 (by decide) (fun c16 => ?_) (fun c16 => ?_)
    · skip
      refine mt_aload_n (pc := 21) dX10_image_21 rfl ?_
      refine mt_get (pc := 22) gf_X10_69 dX10_image_22 (by first | assumption | omega) (by repeat (first | exact hset_eq _ _ _ | assumption | rw [hset_ne (by first | assumption | decide | omega)])) rfl ?_
      refine mt_aload_n (pc := 25) dX10_image_25 rfl ?_
      refine mt_get (pc := 26) gf_X10_135 dX10_image_26 (by first | assumption | omega) (by repeat (first | exact hset_eq _ _ _ | assumption | rw [hset_ne (by first | assumption | decide | omega)])) rfl ?_
      refine mt_aald (pc := 29) (cl := "CryptBank$Page") rfl dX10_image_29 (by first | assumption | omega) (by repeat (first | exact hset_eq _ _ _ | assumption | rw [hset_ne (by first | assumption | decide | omega)])) (vp_in_nI hi (by decide)) (imF3_nI hi) ?_
      refine mt_aload_n (pc := 30) dX10_image_30 rfl ?_
      refine mt_get (pc := 31) gf_X10_65 dX10_image_31 (by first | assumption | omega) (by repeat (first | exact hset_eq _ _ _ | assumption | rw [hset_ne (by first | assumption | decide | omega)])) rfl ?_
      refine mt_aV (pc := 34) (c_pcopyFrom (d := 3) (b := 71 + 36 * ic) (b2 := 34) (Nat.le_refl 3) (by omega) (by omega) (by decide) (by omega) (by omega) (wI ic hi) wP) cal_X3_copyFrom vir_X3_copyFrom ml_X10_359 dX10_image_34 (by first | assumption | omega) (by repeat (first | exact hset_eq _ _ _ | assumption | rw [hset_ne (by first | assumption | decide | omega)])) (by first | assumption | (show _ ≤ d; omega)) ⟨(Nat.le_of_ble_eq_true rfl), (Nat.le_of_ble_eq_true rfl)⟩ rfl rfl (Nat.le_of_ble_eq_true rfl) ?_ ?_
      · rintro x9 n9 k9 h9
        obtain ⟨⟨⟩, -⟩ := h9
      · rintro v9 n9 k9 ⟨⟨⟩, rfl, e2, hP2⟩
        refine ⟨rfl, ?_⟩
        have q0 := (e2 0 (by omega)).trans w0
        refine mt_aload_n (pc := 37) dX10_image_37 rfl ?_
        refine mt_dup (pc := 38) dX10_image_38 rfl ?_
        refine mt_get (pc := 39) gf_X10_135 dX10_image_39 (by first | assumption | omega) (by repeat (first | exact hset_eq _ _ _ | assumption | rw [hset_ne (by first | assumption | decide | omega)])) rfl ?_
        refine mt_iconst (pc := 42) (v := 1) dX10_image_42 (by decide) ?_
        refine mt_iadd (pc := 43) dX10_image_43 ?_
        first
          | refine mt_puti2 (pc := 44) pf_X10_135 dX10_image_44 (by first | assumption | omega) (Nat.le_of_ble_eq_true rfl) ?_
          | refine mt_puti (pc := 44) pf_X10_135 dX10_image_44 (by first | assumption | omega) (by repeat (first | exact hset_eq _ _ _ | assumption | rw [hset_ne (by first | assumption | decide | omega)])) (Nat.le_of_ble_eq_true rfl) ?_
        refine mt_aload_n (pc := 47) dX10_image_47 rfl ?_
        refine mt_get (pc := 48) gf_X10_135 dX10_image_48 (by first | assumption | omega) (by repeat (first | exact hset_eq _ _ _ | assumption | rw [hset_ne (by first | assumption | decide | omega)])) rfl ?_
        exact mt_iret rfl dX10_image_51 (Nat.le_of_ble_eq_true rfl) (Nat.le_of_ble_eq_true rfl) ⟨by rw [show (nI ic + 1 : Int32) = nI (ic + 1) from nI_1 ic], rfl, (fun j hj => by rw [hset_ne (by omega)]; exact e2 j (by omega)), by
            rw [show (nI ic + 1 : Int32) = nI (ic + 1) from nI_1 ic]
            have f0 : ∀ x j, j ≠ 0 → hset k9 0 x j = k9 j := fun x j hj => hset_ne hj
            refine ⟨hset_eq _ _ _, CO_fe wC fun j a b => (f0 _ j (by omega)).trans (e2 j (by omega)), LA_fe wL fun j a b => (f0 _ j (by omega)).trans (e2 j (by omega)), wF, BO_fe wB fun j a b => (f0 _ j (by omega)).trans (e2 j (by omega)), PG_fe wP fun j a b => (f0 _ j (by omega)).trans (e2 j (by omega)), wR, RST_fe wS fun j a b => (f0 _ j (by omega)).trans (e2 j (by omega)), ⟨en, pl, st, fk, (f0 _ 1 (by decide)).trans ((e2 1 (by omega)).trans wt)⟩, (f0 _ 2 (by decide)).trans ((e2 2 (by omega)).trans wy), ⟨K, CR_fe wCR fun j a b => (f0 _ j (by omega)).trans (e2 j (by omega))⟩, LX_fe wLX fun j a b => (f0 _ j (by omega)).trans (e2 j (by omega)), ⟨K2, BR_fe wBR fun j a b => (f0 _ j (by omega)).trans (e2 j (by omega))⟩, WX_fe wWX fun j a b => (f0 _ j (by omega)).trans (e2 j (by omega)), fun i hi2 => ?_, by omega, w2, w3⟩
            by_cases hq : i = ic
            · subst hq
              rw [show updG im i pg i = pg from if_pos rfl]
              exact PG_fe hP2 fun j a b => f0 _ j (by omega)
            · rw [show updG im ic pg i = im i from if_neg hq]
              exact PG_fe (wI i hi2) fun j a b => (f0 _ j (by omega)).trans (e2 j (by omega))⟩
    · exact absurd (nI_lt (b := 3) hi (by decide)) c16
theorem c_restore0 (hx : 188 ≤ nx) (hW : CW h b sz fp ic rs ne ia k cs bk pg im) (hi : ic = 0) : mm_Con G l yX10_restore cX10_restore 1 (some .int) d 0 0 [.ref 0] nx h (mm_ret (some (.int (-1))) nx h) := by
  obtain ⟨w0, wC, wL, wF, wB, wP, wR, wS, ⟨en, pl, st, fk, wt⟩, wy, ⟨K, wCR⟩, wLX, ⟨K2, wBR⟩, wWX, wI, w1, w2, w3⟩ := id hW
  have q70 := wS.2.1
  subst hi
  refine mm_start (lo := [some (.ref 0)]) pn_X10 rfl rfl (Nat.le_of_ble_eq_true rfl) ?_
  refine mt_aload_n (pc := 0) dX10_restore_0 rfl ?_
  refine mt_get (pc := 1) gf_X10_135 dX10_restore_1 (by first | assumption | omega) (by repeat (first | exact hset_eq _ _ _ | assumption | rw [hset_ne (by first | assumption | decide | omega)])) rfl ?_
  refine mt_if_le (pc := 4) (tgt := 19) dX10_restore_4 (by decide) (fun c4 => ?_) (fun c4 => ?_)
  · skip
    refine mt_iconst (pc := 19) (v := (-1)) dX10_restore_19 (by decide) ?_
    exact mt_iret rfl dX10_restore_20 (Nat.le_of_ble_eq_true rfl) (Nat.le_of_ble_eq_true rfl) ⟨rfl, rfl, rfl⟩
  · exact absurd (by decide) c4
theorem c_restore (hd : 4 ≤ d) (hx : 188 ≤ nx) (hW : CW h b sz fp ic rs ne ia k cs bk pg im) (hi : 0 < ic) (hR : RC (im (ic - 1)).2.1) : mm_Con G l yX10_restore cX10_restore 1 (some .int) d 0 0 [.ref 0] nx h (fun o n m => o = .inl (some (.int (nI (ic - 1)))) ∧ n = nx ∧ FX h m ∧ CW m b sz fp (ic - 1) 0 ne ia k cs bk (im (ic - 1)) im) := by
  obtain ⟨w0, wC, wL, wF, wB, wP, wR, wS, ⟨en, pl, st, fk, wt⟩, wy, ⟨K, wCR⟩, wLX, ⟨K2, wBR⟩, wWX, wI, w1, w2, w3⟩ := id hW
  have q70 := wS.2.1
  have q34 := wP.1
  have eic : (nI ic - 1 : Int32) = nI (ic - 1) := by rcases (show ic = 1 ∨ ic = 2 ∨ ic = 3 by omega) with rfl | rfl | rfl <;> rfl
  refine mm_start (lo := [some (.ref 0)]) pn_X10 rfl rfl (Nat.le_of_ble_eq_true rfl) ?_
  refine mt_aload_n (pc := 0) dX10_restore_0 rfl ?_
  refine mt_get (pc := 1) gf_X10_135 dX10_restore_1 (by first | assumption | omega) (by repeat (first | exact hset_eq _ _ _ | assumption | rw [hset_ne (by first | assumption | decide | omega)])) rfl ?_
  refine mt_if_le (pc := 4) (tgt := 19) dX10_restore_4 (by decide) (fun c4 => ?_) (fun c4 => ?_)
  · exact absurd c4 (nI_ge (a := 0) (b := ic) hi (by omega))
  · skip
    refine mt_aload_n (pc := 7) dX10_restore_7 rfl ?_
    refine mt_get (pc := 8) gf_X10_135 dX10_restore_8 (by first | assumption | omega) (by repeat (first | exact hset_eq _ _ _ | assumption | rw [hset_ne (by first | assumption | decide | omega)])) rfl ?_
    refine mt_aload_n (pc := 11) dX10_restore_11 rfl ?_
    refine mt_get (pc := 12) gf_X10_69 dX10_restore_12 (by first | assumption | omega) (by repeat (first | exact hset_eq _ _ _ | assumption | rw [hset_ne (by first | assumption | decide | omega)])) rfl ?_
    refine mt_alen (pc := 15) dX10_restore_15 (by first | assumption | omega) (by repeat (first | exact hset_eq _ _ _ | assumption | rw [hset_ne (by first | assumption | decide | omega)])) (by decide) ?_
    refine mt_icmp_le (pc := 16) (tgt := 21) dX10_restore_16 (by decide) (fun c16 => ?_) (fun c16 => ?_)
    · skip
      refine mt_aload_n (pc := 21) dX10_restore_21 rfl ?_
      refine mt_dup (pc := 22) dX10_restore_22 rfl ?_
      refine mt_get (pc := 23) gf_X10_135 dX10_restore_23 (by first | assumption | omega) (by repeat (first | exact hset_eq _ _ _ | assumption | rw [hset_ne (by first | assumption | decide | omega)])) rfl ?_
      refine mt_iconst (pc := 26) (v := 1) dX10_restore_26 (by decide) ?_
      refine mt_isub (pc := 27) dX10_restore_27 ?_
      first
        | refine mt_puti2 (pc := 28) pf_X10_135 dX10_restore_28 (by first | assumption | omega) (Nat.le_of_ble_eq_true rfl) ?_
        | refine mt_puti (pc := 28) pf_X10_135 dX10_restore_28 (by first | assumption | omega) (by repeat (first | exact hset_eq _ _ _ | assumption | rw [hset_ne (by first | assumption | decide | omega)])) (Nat.le_of_ble_eq_true rfl) ?_
      rw [eic]
      refine mt_aload_n (pc := 31) dX10_restore_31 rfl ?_
      refine mt_get (pc := 32) gf_X10_65 dX10_restore_32 (by first | assumption | omega) (by repeat (first | exact hset_eq _ _ _ | assumption | rw [hset_ne (by first | assumption | decide | omega)])) rfl ?_
      refine mt_aload_n (pc := 35) dX10_restore_35 rfl ?_
      refine mt_get (pc := 36) gf_X10_69 dX10_restore_36 (by first | assumption | omega) ((hset_eq _ _ _)) rfl ?_
      refine mt_aload_n (pc := 39) dX10_restore_39 rfl ?_
      refine mt_get (pc := 40) gf_X10_135 dX10_restore_40 (by first | assumption | omega) (by repeat (first | exact hset_eq _ _ _ | assumption | rw [hset_ne (by first | assumption | decide | omega)])) rfl ?_
      refine mt_aald (pc := 43) (cl := "CryptBank$Page") rfl dX10_restore_43 (by first | assumption | omega) (by repeat (first | exact hset_eq _ _ _ | assumption | rw [hset_ne (by first | assumption | decide | omega)])) (vp_in_nI (by omega) (by decide)) (imF3_nI (by omega)) ?_
      refine mt_aV (pc := 44) (c_pcopyFrom (d := 3) (b := 34) (b2 := 71 + 36 * (ic - 1)) (Nat.le_refl 3) (by decide) (by omega) (by omega) (by omega) (by omega) (PG_fe wP fun j a b => hset_ne (by omega)) (PG_fe (wI (ic - 1) (by omega)) fun j a b => hset_ne (by omega))) cal_X3_copyFrom vir_X3_copyFrom ml_X10_359 dX10_restore_44 (by first | assumption | omega) (by repeat (first | exact hset_eq _ _ _ | assumption | rw [hset_ne (by first | assumption | decide | omega)])) (by first | assumption | (show _ ≤ d; omega)) ⟨(Nat.le_of_ble_eq_true rfl), (Nat.le_of_ble_eq_true rfl)⟩ rfl rfl (Nat.le_of_ble_eq_true rfl) ?_ ?_
      · rintro x9 n9 k9 h9
        obtain ⟨⟨⟩, -⟩ := h9
      · rintro v9 n9 k9 ⟨⟨⟩, rfl, e2, hP2⟩
        refine ⟨rfl, ?_⟩
        have q0 := (e2 0 (by decide)).trans (hset_eq _ _ _)
        refine mt_aload_n (pc := 47) dX10_restore_47 rfl ?_
        refine mt_iconst (pc := 48) (v := 0) dX10_restore_48 (by decide) ?_
        first
          | refine mt_puti2 (pc := 49) pf_X10_138 dX10_restore_49 (by first | assumption | omega) (Nat.le_of_ble_eq_true rfl) ?_
          | refine mt_puti (pc := 49) pf_X10_138 dX10_restore_49 (by first | assumption | omega) (by repeat (first | exact hset_eq _ _ _ | assumption | rw [hset_ne (by first | assumption | decide | omega)])) (Nat.le_of_ble_eq_true rfl) ?_
        refine mt_aload_n (pc := 52) dX10_restore_52 rfl ?_
        refine mt_get (pc := 53) gf_X10_135 dX10_restore_53 (by first | assumption | omega) (by repeat (first | exact hset_eq _ _ _ | assumption | rw [hset_ne (by first | assumption | decide | omega)])) rfl ?_
        exact mt_iret rfl dX10_restore_56 (Nat.le_of_ble_eq_true rfl) (Nat.le_of_ble_eq_true rfl) ⟨rfl, rfl, (fun j hj => by rw [hset_ne (by omega), e2 j (by omega), hset_ne (by omega)]), hW.pag (hset_eq _ _ _) (by omega) (PG_fe hP2 fun j a b => hset_ne (by omega)) hR (fun j y1 y2 => (hset_ne y1).trans ((e2 j (by omega)).trans (hset_ne y1)))⟩
    · exact absurd (nI_le (b := 3) w1 (by decide)) c16
end CKP
