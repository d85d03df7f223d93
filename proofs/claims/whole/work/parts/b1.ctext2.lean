/-! The class: law, book. -/
def FX (h m : Nat → mm_E) : Prop := ∀ j, 188 ≤ j → m j = h j
def P_tx {α : Type} (z : (Nat × Nat) ⊕ α) (v : α → Int32) (Bad : Int32 → (Nat → mm_E) → Prop) (Good : α → (Nat → mm_E) → Prop) (nx : Nat) (h : Nat → mm_E) : mm_P := fun o n m => n = nx ∧ FX h m ∧ match z with
  | .inl y => o = .inl (some (.int (nI y.1 - 10))) ∧ Bad (nI y.2) m
  | .inr a => o = .inl (some (.int (v a))) ∧ Good a m
theorem P_txB {α : Type} {z : (Nat × Nat) ⊕ α} {v : α → Int32} {Bad : Int32 → (Nat → mm_E) → Prop} {Good : α → (Nat → mm_E) → Prop} {nx : Nat} {h m : Nat → mm_E} {x y : Nat} (hz : z = .inl (x, y)) (hf : FX h m) (hB : Bad (nI y) m) : P_tx z v Bad Good nx h (.inl (some (.int (nI x - 10)))) nx m := by
  subst hz
  exact ⟨rfl, hf, rfl, hB⟩
theorem P_txG {α : Type} {z : (Nat × Nat) ⊕ α} {v : α → Int32} {Bad : Int32 → (Nat → mm_E) → Prop} {Good : α → (Nat → mm_E) → Prop} {nx : Nat} {h m : Nat → mm_E} {a : α} {r : Int32} (hz : z = .inr a) (hf : FX h m) (hr : v a = r) (hB : Good a m) : P_tx z v Bad Good nx h (.inl (some (.int r))) nx m := by
  subst hz
  subst hr
  exact ⟨rfl, hf, rfl, hB⟩
section FRT
variable {h m : Nat → mm_E} {b : Nat → Int32} {sz : Nat} {fp : Int32} {ic : Nat} {rs ne ia : Int32} {k : CS} {cs : List Nat} {bk : BS} {pg : PGS} {im : Nat → PGS}
/-- a text was read -/
theorem CW.rd {en pl st fk fp' : Int32} (hW : CW h b sz fp ic rs ne ia k cs bk pg im) (h1 : m 1 = tpE 0 en pl st fk fp') (e : ∀ j, j ≠ 1 → (j < 9 ∨ 14 < j) → j ≠ 19 → j ≠ 20 → (j < 27 ∨ 32 < j) → m j = h j) (hc : ∃ K, CR m K) (hl : LX m) (hb : ∃ K, BR m K) (hw : WX m) : CW m b 0 fp' ic rs ne ia k cs bk pg im := by
  obtain ⟨w0, wC, wL, wF, wB, wP, wR, wS, -, wy, -, -, -, -, wI, w1, w2, w3⟩ := hW
  exact ⟨(e 0 (by decide) (by decide) (by decide) (by decide) (by decide)).trans w0, CO_fe wC fun j a b => e j (by omega) (by omega) (by omega) (by omega) (by omega), LA_fe wL fun j a b => e j (by omega) (by omega) (by omega) (by omega) (by omega), wF, BO_fe wB fun j a b => e j (by omega) (by omega) (by omega) (by omega) (by omega), PG_fe wP fun j a b => e j (by omega) (by omega) (by omega) (by omega) (by omega), wR, RST_fe wS fun j a b => e j (by omega) (by omega) (by omega) (by omega) (by omega), ⟨en, pl, st, fk, h1⟩, (e 2 (by decide) (by decide) (by decide) (by decide) (by decide)).trans wy, hc, hl, hb, hw, fun i hi => PG_fe (wI i hi) fun j a b => e j (by omega) (by omega) (by omega) (by omega) (by omega), w1, Nat.zero_le _, w3⟩
/-- another law -/
theorem CW.lw {c : List Nat} {R : Nat → Int32} (hW : CW h b sz fp ic rs ne ia k cs bk pg im) (hR : LW R c) (hc : LWF c) : CW (hset (hset h 16 (iaE 150 R)) 15 (laE (nI c.length))) b sz fp ic rs ne ia k c bk pg im := by
  obtain ⟨w0, wC, ⟨-, -, ⟨F, l4⟩, S, l5⟩, wF, wB, wP, wR, wS, ⟨en, pl, st, fk, wt⟩, wy, ⟨K, wCR⟩, wLX, ⟨K2, wBR⟩, wWX, wI, w1, w2, w3⟩ := hW
  have e : ∀ j, j ≠ 15 → j ≠ 16 → hset (hset h 16 (iaE 150 R)) 15 (laE (nI c.length)) j = h j := fun j a b => by rw [hset_ne a, hset_ne b]
  exact ⟨(e 0 (by decide) (by decide)).trans w0, CO_fe wC fun j a b => e j (by omega) (by omega), ⟨hset_eq _ _ _, ⟨R, by rw [hset_ne (by decide), hset_eq], hR⟩, ⟨F, (e 17 (by decide) (by decide)).trans l4⟩, S, (e 18 (by decide) (by decide)).trans l5⟩, hc, BO_fe wB fun j a b => e j (by omega) (by omega), PG_fe wP fun j a b => e j (by omega) (by omega), wR, RST_fe wS fun j a b => e j (by omega) (by omega), ⟨en, pl, st, fk, (e 1 (by decide) (by decide)).trans wt⟩, (e 2 (by decide) (by decide)).trans wy, ⟨K, CR_fe wCR fun j a b => e j (by omega) (by omega)⟩, LX_fe wLX fun j a b => e j (by omega) (by omega), ⟨K2, BR_fe wBR fun j a b => e j (by omega) (by omega)⟩, WX_fe wWX fun j a b => e j (by omega) (by omega), fun i hi => PG_fe (wI i hi) fun j a b => e j (by omega) (by omega), w1, w2, w3⟩
/-- another book -/
theorem CW.bok {bk' : BS} (hW : CW h b sz fp ic rs ne ia k cs bk pg im) (e : ∀ j, j < 23 ∨ 26 < j → m j = h j) (hB : BO m bk') : CW m b sz fp ic rs ne ia k cs bk' pg im := by
  obtain ⟨w0, wC, wL, wF, -, wP, wR, wS, ⟨en, pl, st, fk, wt⟩, wy, ⟨K, wCR⟩, wLX, ⟨K2, wBR⟩, wWX, wI, w1, w2, w3⟩ := hW
  exact ⟨(e 0 (by decide)).trans w0, CO_fe wC fun j a b => e j (by omega), LA_fe wL fun j a b => e j (by omega), wF, hB, PG_fe wP fun j a b => e j (by omega), wR, RST_fe wS fun j a b => e j (by omega), ⟨en, pl, st, fk, (e 1 (by decide)).trans wt⟩, (e 2 (by decide)).trans wy, ⟨K, CR_fe wCR fun j a b => e j (by omega)⟩, LX_fe wLX fun j a b => e j (by omega), ⟨K2, BR_fe wBR fun j a b => e j (by omega)⟩, WX_fe wWX fun j a b => e j (by omega), fun i hi => PG_fe (wI i hi) fun j a b => e j (by omega), w1, w2, w3⟩
end FRT
section CTY
variable {G : mm_G} {l : Launch} {d nx : Nat} {h : Nat → mm_E} {b : Nat → Int32} {sz : Nat} {fp : Int32} {ic : Nat} {rs ne ia : Int32} {k : CS} {cs : List Nat} {bk : BS} {pg : PGS} {im : Nat → PGS}
theorem c_law {e : Nat} (hl : l.stackTraces = false) (hd : 35 ≤ d) (hx : 188 ≤ nx) (hW : CW h b sz fp ic rs ne ia k cs bk pg im) (he : e ≤ sz) (he2 : e ≤ 150) : mm_Con G l yX10_law cX10_law 2 (some .int) d 1 6 [.ref 0, .int (nI e)] nx h (P_tx (lawS b e) (fun _ => 1) (fun q m => CW m b 0 q ic rs ne ia k cs bk pg im) (fun c m => CW m b 0 (-1) ic rs ne ia k c bk pg im) nx h) := by
  obtain ⟨w0, wC, wL, wF, wB, wP, wR, wS, ⟨en, pl, st, fk, wt⟩, wy, ⟨K, wCR⟩, wLX, ⟨K2, wBR⟩, wWX, wI, w1, w2, w3⟩ := id hW
  obtain ⟨n19, R19, x19', -⟩ := id wLX
  have hyes : ¬ nI e < 0 ∧ ¬ nI sz < nI e ∧ ¬ nI 150 < nI e := ⟨nI_pos (by omega), nI_nlt he (by omega), nI_nlt he2 (by decide)⟩
  refine mm_start (lo := [some (.ref 0), some (.int (nI e))]) pn_X10 rfl rfl (Nat.le_of_ble_eq_true rfl) ?_
  refine mt_aload_n (pc := 0) dX10_law_0 rfl ?_
  refine mt_iload_n (pc := 1) dX10_law_1 rfl ?_
  refine mt_sipush (pc := 2) (v := 150) dX10_law_2 (by decide) ?_
  refine mt_aV (pc := 5) (c_beginText (d := 8) (t := 150) hl (Nat.le_refl 8) hx w2 (by decide) w0 wt wy) cal_X10_beginText vir_X10_beginText ml_X10_110 dX10_law_5 (by first | assumption | omega) (by repeat (first | exact hset_eq _ _ _ | assumption | rw [hset_ne (by first | assumption | decide | omega)])) (by first | assumption | (show _ ≤ d; omega)) ⟨(Nat.le_of_ble_eq_true rfl), (Nat.le_of_ble_eq_true rfl)⟩ rfl rfl (Nat.le_of_ble_eq_true rfl) ?_ ?_
  · rintro x9 n9 k9 h9
    obtain ⟨rfl, rfl, hno, rfl⟩ := h9
    exact absurd hyes hno
  · rintro v9 n9 k9 ⟨rfl, rfl, hok, rfl⟩
    refine ⟨rfl, ?_⟩
    refine mt_aload_n (pc := 8) dX10_law_8 rfl ?_
    refine mt_get (pc := 9) gf_X10_33 dX10_law_9 (by first | assumption | omega) (by repeat (first | exact hset_eq _ _ _ | assumption | rw [hset_ne (by first | assumption | decide | omega)])) rfl ?_
    refine mt_aload_n (pc := 12) dX10_law_12 rfl ?_
    refine mt_get (pc := 13) gf_X10_10 dX10_law_13 (by first | assumption | omega) (by repeat (first | exact hset_eq _ _ _ | assumption | rw [hset_ne (by first | assumption | decide | omega)])) rfl ?_
    refine mt_aV (pc := 16) (c_lread (d := 33) (e := e) (sz := 0) (st := 0) (fk := 0) (fp := -1) (Nat.le_refl 33) w3 (by omega) ((hset_ne (by decide)).trans wy) (hset_eq _ _ _) he2 (LX_fe wLX fun j a b => hset_ne (by omega))) cal_X2_read vir_X2_read ml_X10_144 dX10_law_16 (by first | assumption | omega) (by repeat (first | exact hset_eq _ _ _ | assumption | rw [hset_ne (by first | assumption | decide | omega)])) (by first | assumption | (show _ ≤ d; omega)) ⟨(Nat.le_of_ble_eq_true rfl), (Nat.le_of_ble_eq_true rfl)⟩ rfl rfl (Nat.le_of_ble_eq_true rfl) ?_ ?_
    · rintro x9 n9 k9 h9
      simp [P_lr] at h9
    · rintro v9 n9 k9 ⟨rfl, hF, ⟨kd, pl2, hS, hv, ⟨p2, s2, hT2⟩, hX⟩ | ⟨c, hS, hv, ⟨p2, s2, hT2⟩, hX⟩⟩
      · skip
        cases hv
        refine ⟨rfl, ?_⟩
        have e1 : ∀ j, j ≠ 1 → j ≠ 19 → j ≠ 20 → k9 j = h j := fun j a b c => (hF j a b c).trans (hset_ne a)
        have q0 : k9 0 = cbE (nI ic) rs ne ia := (e1 0 (by decide) (by decide) (by decide)).trans w0
        have hW2 := hW.rd hT2 (fun j a b c d f => e1 j a c d) ⟨K, CR_fe wCR fun j a b => e1 j (by omega) (by omega) (by omega)⟩ hX ⟨K2, BR_fe wBR fun j a b => e1 j (by omega) (by omega) (by omega)⟩ (WX_fe wWX fun j a b => e1 j (by omega) (by omega) (by omega))
        refine mt_if_ne (pc := 19) (tgt := 30) dX10_law_19 (by decide) (fun c19 => ?_) (fun c19 => ?_)
        · exact absurd rfl c19
        · skip
          refine mt_aload_n (pc := 22) dX10_law_22 rfl ?_
          refine mt_get (pc := 23) gf_X10_10 dX10_law_23 (by first | assumption | omega) (by repeat (first | exact hset_eq _ _ _ | assumption | rw [hset_ne (by first | assumption | decide | omega)])) rfl ?_
          refine mt_cV (pc := 26) (c_faultAnswer (d := 0) (by omega) hT2) cal_X7_faultAnswer vir_X7_faultAnswer ml_X10_118 dX10_law_26 (by first | assumption | omega) (by repeat (first | exact hset_eq _ _ _ | assumption | rw [hset_ne (by first | assumption | decide | omega)])) (by first | assumption | (show _ ≤ d; omega)) ⟨(Nat.le_of_ble_eq_true rfl), (Nat.le_of_ble_eq_true rfl)⟩ rfl rfl (Nat.le_of_ble_eq_true rfl) ?_
          exact mt_iret rfl dX10_law_29 (Nat.le_of_ble_eq_true rfl) (Nat.le_of_ble_eq_true rfl) ⟨rfl, (fun j hj => e1 j (by omega) (by omega) (by omega)), by rw [hS]; exact ⟨rfl, hW2⟩⟩
      · skip
        cases hv
        refine ⟨rfl, ?_⟩
        have e1 : ∀ j, j ≠ 1 → j ≠ 19 → j ≠ 20 → k9 j = h j := fun j a b c => (hF j a b c).trans (hset_ne a)
        have q0 : k9 0 = cbE (nI ic) rs ne ia := (e1 0 (by decide) (by decide) (by decide)).trans w0
        obtain ⟨x19, R, x20, hR⟩ := hX
        have hW2 := hW.rd hT2 (fun j a b c d f => e1 j a c d) ⟨K, CR_fe wCR fun j a b => e1 j (by omega) (by omega) (by omega)⟩ ⟨_, R, x19, x20⟩ ⟨K2, BR_fe wBR fun j a b => e1 j (by omega) (by omega) (by omega)⟩ (WX_fe wWX fun j a b => e1 j (by omega) (by omega) (by omega))
        obtain ⟨l1, ⟨R0, l2, l3⟩, l4⟩ := hW2.2.2.1
        refine mt_if_ne (pc := 19) (tgt := 30) dX10_law_19 (by decide) (fun c19 => ?_) (fun c19 => ?_)
        · skip
          refine mt_aload_n (pc := 30) dX10_law_30 rfl ?_
          refine mt_get (pc := 31) gf_X10_29 dX10_law_31 (by first | assumption | omega) (by repeat (first | exact hset_eq _ _ _ | assumption | rw [hset_ne (by first | assumption | decide | omega)])) rfl ?_
          refine mt_aload_n (pc := 34) dX10_law_34 rfl ?_
          refine mt_get (pc := 35) gf_X10_33 dX10_law_35 (by first | assumption | omega) (by repeat (first | exact hset_eq _ _ _ | assumption | rw [hset_ne (by first | assumption | decide | omega)])) rfl ?_
          refine mt_cV (pc := 38) (c_lcopyFrom (d := 2) (Nat.le_refl 2) (by omega) l1 l2 x19 x20) cal_X2_copyFrom vir_X2_copyFrom ml_X10_145 dX10_law_38 (by first | assumption | omega) (by repeat (first | exact hset_eq _ _ _ | assumption | rw [hset_ne (by first | assumption | decide | omega)])) (by first | assumption | (show _ ≤ d; omega)) ⟨(Nat.le_of_ble_eq_true rfl), (Nat.le_of_ble_eq_true rfl)⟩ rfl rfl (Nat.le_of_ble_eq_true rfl) ?_
          refine mt_iconst (pc := 41) (v := 1) dX10_law_41 (by decide) ?_
          exact mt_iret rfl dX10_law_42 (Nat.le_of_ble_eq_true rfl) (Nat.le_of_ble_eq_true rfl) ⟨rfl, (fun j hj => by rw [hset_ne (by omega), hset_ne (by omega)]; exact e1 j (by omega) (by omega) (by omega)), by rw [hS]; exact ⟨rfl, (hW2.lw (LW_cpy hR) (lawS_wf w3 he2 hS))⟩⟩
        · exact absurd c19 (by decide)
theorem c_book {e : Nat} {K2 : BS} (hl : l.stackTraces = false) (hd : 35 ≤ d) (hx : 188 ≤ nx) (hW : CW h b sz fp ic rs ne ia k cs bk pg im) (wBR : BR h K2) (he : e ≤ sz) (he2 : e ≤ 60) : mm_Con G l yX10_book cX10_book 2 (some .int) d 1 6 [.ref 0, .int (nI e)] nx h (P_tx (bokS b e (nI k.2.1) 7 0 (0, K2.2)) (fun c => nI c.1) (fun q m => CW m b 0 q ic rs ne ia k cs bk pg im) (fun c m => CW m b 0 (-1) ic rs ne ia k cs (c.1, va_cpy c.2.1 bk.2.1 0 0 6, va_cpy c.2.2.1 bk.2.2.1 0 0 6, va_cpy c.2.2.2 bk.2.2.2 0 0 6) pg im) nx h) := by
  obtain ⟨w0, wC, wL, wF, wB, wP, wR, wS, ⟨en, pl, st, fk, wt⟩, wy, ⟨K, wCR⟩, wLX, -, wWX, wI, w1, w2, w3⟩ := id hW
  have c1 := wC.1
  have x27 := wBR.1
  have hk2 : k.2.1 ≤ 6 := wC.2.2.2.2.2.2.2
  have hyes : ¬ nI e < 0 ∧ ¬ nI sz < nI e ∧ ¬ nI 60 < nI e := ⟨nI_pos (by omega), nI_nlt he (by omega), nI_nlt he2 (by decide)⟩
  refine mm_start (lo := [some (.ref 0), some (.int (nI e))]) pn_X10 rfl rfl (Nat.le_of_ble_eq_true rfl) ?_
  refine mt_aload_n (pc := 0) dX10_book_0 rfl ?_
  refine mt_iload_n (pc := 1) dX10_book_1 rfl ?_
  refine mt_bipush (pc := 2) (v := 60) dX10_book_2 (by decide) ?_
  refine mt_aV (pc := 4) (c_beginText (d := 8) (t := 60) hl (Nat.le_refl 8) hx w2 (by decide) w0 wt wy) cal_X10_beginText vir_X10_beginText ml_X10_110 dX10_book_4 (by first | assumption | omega) (by repeat (first | exact hset_eq _ _ _ | assumption | rw [hset_ne (by first | assumption | decide | omega)])) (by first | assumption | (show _ ≤ d; omega)) ⟨(Nat.le_of_ble_eq_true rfl), (Nat.le_of_ble_eq_true rfl)⟩ rfl rfl (Nat.le_of_ble_eq_true rfl) ?_ ?_
  · rintro x9 n9 k9 h9
    obtain ⟨rfl, rfl, hno, rfl⟩ := h9
    exact absurd hyes hno
  · rintro v9 n9 k9 ⟨rfl, rfl, hok, rfl⟩
    refine ⟨rfl, ?_⟩
    refine mt_aload_n (pc := 7) dX10_book_7 rfl ?_
    refine mt_get (pc := 8) gf_X10_43 dX10_book_8 (by first | assumption | omega) (by repeat (first | exact hset_eq _ _ _ | assumption | rw [hset_ne (by first | assumption | decide | omega)])) rfl ?_
    refine mt_aload_n (pc := 11) dX10_book_11 rfl ?_
    refine mt_get (pc := 12) gf_X10_10 dX10_book_12 (by first | assumption | omega) (by repeat (first | exact hset_eq _ _ _ | assumption | rw [hset_ne (by first | assumption | decide | omega)])) rfl ?_
    refine mt_aload_n (pc := 15) dX10_book_15 rfl ?_
    refine mt_get (pc := 16) gf_X10_19 dX10_book_16 (by first | assumption | omega) (by repeat (first | exact hset_eq _ _ _ | assumption | rw [hset_ne (by first | assumption | decide | omega)])) rfl ?_
    refine mt_get (pc := 19) gf_X10_173 dX10_book_19 (by first | assumption | omega) (by repeat (first | exact hset_eq _ _ _ | assumption | rw [hset_ne (by first | assumption | decide | omega)])) rfl ?_
    refine mt_aV (pc := 22) (c_bread (d := 3) (e := e) (so := k.2.1) (sz := 0) (st := 0) (fk := 0) (fp := -1) (Nat.le_refl 3) (by omega) hk2 ((hset_ne (by decide)).trans wy) (hset_eq _ _ _) (by omega) (BR_fe wBR fun j a b => hset_ne (by omega))) cal_X0_read vir_X0_read ml_X10_176 dX10_book_22 (by first | assumption | omega) (by repeat (first | exact hset_eq _ _ _ | assumption | rw [hset_ne (by first | assumption | decide | omega)])) (by first | assumption | (show _ ≤ d; omega)) ⟨(Nat.le_of_ble_eq_true rfl), (Nat.le_of_ble_eq_true rfl)⟩ rfl rfl (Nat.le_of_ble_eq_true rfl) ?_ ?_
    · rintro x9 n9 k9 h9
      simp [P_bk] at h9
    · rintro v9 n9 k9 ⟨rfl, hF, ⟨kd, pl2, hS, hv, ⟨p2, s2, hT2⟩, hX⟩ | ⟨c, hS, hv, ⟨p2, s2, hT2⟩, hX⟩⟩
      · skip
        cases hv
        refine ⟨rfl, ?_⟩
        have e1 : ∀ j, j ≠ 1 → j < 27 ∨ 30 < j → k9 j = h j := fun j a b => (hF j a b).trans (hset_ne a)
        have q0 : k9 0 = cbE (nI ic) rs ne ia := (e1 0 (by decide) (by decide)).trans w0
        have hW2 := hW.rd hT2 (fun j a b c d f => e1 j a (by omega)) ⟨K, CR_fe wCR fun j a b => e1 j (by omega) (by omega)⟩ (LX_fe wLX fun j a b => e1 j (by omega) (by omega)) hX (WX_fe wWX fun j a b => e1 j (by omega) (by omega))
        refine mt_if_ne (pc := 25) (tgt := 36) dX10_book_25 (by decide) (fun c25 => ?_) (fun c25 => ?_)
        · exact absurd rfl c25
        · skip
          refine mt_aload_n (pc := 28) dX10_book_28 rfl ?_
          refine mt_get (pc := 29) gf_X10_10 dX10_book_29 (by first | assumption | omega) (by repeat (first | exact hset_eq _ _ _ | assumption | rw [hset_ne (by first | assumption | decide | omega)])) rfl ?_
          refine mt_cV (pc := 32) (c_faultAnswer (d := 0) (by omega) hT2) cal_X7_faultAnswer vir_X7_faultAnswer ml_X10_118 dX10_book_32 (by first | assumption | omega) (by repeat (first | exact hset_eq _ _ _ | assumption | rw [hset_ne (by first | assumption | decide | omega)])) (by first | assumption | (show _ ≤ d; omega)) ⟨(Nat.le_of_ble_eq_true rfl), (Nat.le_of_ble_eq_true rfl)⟩ rfl rfl (Nat.le_of_ble_eq_true rfl) ?_
          exact mt_iret rfl dX10_book_35 (Nat.le_of_ble_eq_true rfl) (Nat.le_of_ble_eq_true rfl) ⟨rfl, (fun j hj => e1 j (by omega) (by omega)), by rw [hS]; exact ⟨rfl, hW2⟩⟩
      · skip
        cases hv
        refine ⟨rfl, ?_⟩
        have e1 : ∀ j, j ≠ 1 → j < 27 ∨ 30 < j → k9 j = h j := fun j a b => (hF j a b).trans (hset_ne a)
        have q0 : k9 0 = cbE (nI ic) rs ne ia := (e1 0 (by decide) (by decide)).trans w0
        have hW2 := hW.rd hT2 (fun j a b c d f => e1 j a (by omega)) ⟨K, CR_fe wCR fun j a b => e1 j (by omega) (by omega)⟩ (LX_fe wLX fun j a b => e1 j (by omega) (by omega)) ⟨c, hX⟩ (WX_fe wWX fun j a b => e1 j (by omega) (by omega))
        have hBO := hW2.2.2.2.2.1
        have q23 := hBO.1
        refine mt_if_ne (pc := 25) (tgt := 36) dX10_book_25 (by decide) (fun c25 => ?_) (fun c25 => ?_)
        · skip
          refine mt_aload_n (pc := 36) dX10_book_36 rfl ?_
          refine mt_get (pc := 37) gf_X10_39 dX10_book_37 (by first | assumption | omega) (by repeat (first | exact hset_eq _ _ _ | assumption | rw [hset_ne (by first | assumption | decide | omega)])) rfl ?_
          refine mt_aload_n (pc := 40) dX10_book_40 rfl ?_
          refine mt_get (pc := 41) gf_X10_43 dX10_book_41 (by first | assumption | omega) (by repeat (first | exact hset_eq _ _ _ | assumption | rw [hset_ne (by first | assumption | decide | omega)])) rfl ?_
          refine mt_aV (pc := 44) (c_bcopy (d := 2) (Nat.le_refl 2) (by omega) hBO hX) cal_X0_copyFrom vir_X0_copyFrom ml_X10_179 dX10_book_44 (by first | assumption | omega) (by repeat (first | exact hset_eq _ _ _ | assumption | rw [hset_ne (by first | assumption | decide | omega)])) (by first | assumption | (show _ ≤ d; omega)) ⟨(Nat.le_of_ble_eq_true rfl), (Nat.le_of_ble_eq_true rfl)⟩ rfl rfl (Nat.le_of_ble_eq_true rfl) ?_ ?_
          · rintro x9 n9 k9 h9
            obtain ⟨⟨⟩, -⟩ := h9
          · rintro v9 n9 k9 ⟨⟨⟩, rfl, e2, hB2⟩
            refine ⟨rfl, ?_⟩
            have q23' := hB2.1
            have q0' := (e2 0 (by decide)).trans q0
            refine mt_aload_n (pc := 47) dX10_book_47 rfl ?_
            refine mt_get (pc := 48) gf_X10_39 dX10_book_48 (by first | assumption | omega) (by repeat (first | exact hset_eq _ _ _ | assumption | rw [hset_ne (by first | assumption | decide | omega)])) rfl ?_
            refine mt_get (pc := 51) gf_X10_182 dX10_book_51 (by first | assumption | omega) (by repeat (first | exact hset_eq _ _ _ | assumption | rw [hset_ne (by first | assumption | decide | omega)])) rfl ?_
            exact mt_iret rfl dX10_book_54 (Nat.le_of_ble_eq_true rfl) (Nat.le_of_ble_eq_true rfl) ⟨rfl, (fun j hj => (e2 j (by omega)).trans (e1 j (by omega) (by omega))), by rw [hS]; exact ⟨rfl, (hW2.bok e2 hB2)⟩⟩
        · exact absurd c25 (by decide)
end CTY
