/-! Work: its reader, contracts. -/
def FRk (h m : Nat → mm_E) : Prop := ∀ j, j ≠ 1 → j ≠ 31 → j ≠ 32 → m j = h j
def WX (m : Nat → mm_E) : Prop := ∃ a1 a2 a3 a4 a5 a6 R, m 31 = wkE a1 a2 a3 a4 a5 a6 ∧ m 32 = iaE 180 R
/-- STEPS read so far -/
def WR (m : Nat → mm_E) (sl so : Nat) (bg dn rf : Int32) (ss : List ST) : Prop := m 31 = wkE (nI ss.length) (nI sl) (nI so) bg dn rf ∧ ∃ R, m 32 = iaE 180 R ∧ SW R ss
def P_wk (S : rsW) (ss : List ST) (e sl so : Nat) (bg dn rf sz fk fp : Int32) (nx : Nat) (h : Nat → mm_E) : mm_P := fun o n m => n = nx ∧ FRk h m ∧
  ((∃ kd pl, S = .inl (kd, pl) ∧ o = .inl (some (.int 0)) ∧ (∃ p' s', m 1 = tpE sz (nI e) p' s' (nI kd) (nI pl)) ∧ WX m) ∨
  (∃ r ts, S = .inr (r, ts) ∧ o = .inl (some (.int 1)) ∧ (∃ s', m 1 = tpE sz (nI e) (nI r) s' fk fp) ∧ WR m sl so bg dn rf (ss ++ ts)))
theorem FRk_trans {h m q : Nat → mm_E} (h1 : FRk h m) (h2 : FRk m q) : FRk h q := fun j a b c => (h2 j a b c).trans (h1 j a b c)
theorem FRk_rf {h : Nat → mm_E} : FRk h h := fun _ _ _ _ => rfl
theorem FRk_1 {h m : Nat → mm_E} {x : mm_E} (h1 : FRk h m) : FRk h (hset m 1 x) := fun j a b c => (hset_ne a).trans (h1 j a b c)
theorem FRk_31 {h m : Nat → mm_E} {x : mm_E} (h1 : FRk h m) : FRk h (hset m 31 x) := fun j a b c => (hset_ne b).trans (h1 j a b c)
theorem FRk_32 {h m : Nat → mm_E} {x : mm_E} (h1 : FRk h m) : FRk h (hset m 32 x) := fun j a b c => (hset_ne c).trans (h1 j a b c)
theorem WR_1 {m : Nat → mm_E} {sl so : Nat} {bg dn rf : Int32} {ss : List ST} {x : mm_E} (h : WR m sl so bg dn rf ss) : WR (hset m 1 x) sl so bg dn rf ss := ⟨(hset_ne (by decide)).trans h.1, by obtain ⟨R, h1, h2⟩ := h.2; exact ⟨R, (hset_ne (by decide)).trans h1, h2⟩⟩
theorem WX_1 {m : Nat → mm_E} {x : mm_E} (h : WX m) : WX (hset m 1 x) := by
  obtain ⟨a1, a2, a3, a4, a5, a6, R, h1, h2⟩ := h
  exact ⟨a1, a2, a3, a4, a5, a6, R, (hset_ne (by decide)).trans h1, (hset_ne (by decide)).trans h2⟩
theorem WR.x {m : Nat → mm_E} {sl so : Nat} {bg dn rf : Int32} {ss : List ST} (h : WR m sl so bg dn rf ss) : WX m := by
  obtain ⟨h1, R, h2, -⟩ := h
  exact ⟨_, _, _, _, _, _, R, h1, h2⟩
theorem ix61 (i k : Nat) : (nI i * 6 + nI k : Int32) = nI (6 * i + k) := by
  rw [show (6 : Int32) = nI 6 from rfl, pk_mul, nI_add]
  congr 1
  omega
theorem ix60 (i : Nat) : (nI i * 6 : Int32) = nI (6 * i) := by
  rw [show (6 : Int32) = nI 6 from rfl, pk_mul]
  congr 1
  omega
section WORK2
variable {G : mm_G} {l : Launch} {d nx : Nat} {h : Nat → mm_E} {b : Nat → Int32} {sz st fk fp : Int32} {e : Nat} {x1 x2 x3 x4 x5 x6 : Int32} {R : Nat → Int32}
def P_rn (b : Nat → Int32) (e p : Nat) (lw hi : Int32) (i k : Nat) (R : Nat → Int32) (sz fk fp : Int32) (nx : Nat) (h : Nat → mm_E) : mm_P := fun o n m => n = nx ∧ FRk h m ∧ m 31 = h 31 ∧
  ((∃ kd pl, numS b e p lw hi = .inl (kd, pl) ∧ o = .inl (some (.int 0)) ∧ (∃ p' s', m 1 = tpE sz (nI e) p' s' (nI kd) (nI pl)) ∧ ∃ R', m 32 = iaE 180 R') ∨
  (∃ v r, numS b e p lw hi = .inr (v, r) ∧ o = .inl (some (.int 1)) ∧ m 1 = tpE sz (nI e) (nI r) (nI (sk b e p)) fk fp ∧ m 32 = iaE 180 (upd R (6 * i + k) (nI v))))
theorem c_readNumber {p i k : Nat} {lw hi : Int32} (hlw : lw.toInt ≤ 1000) (hhi : hi.toInt ≤ 1000) (hd : 2 ≤ d) (hx : 34 ≤ nx) (hB : h 2 = byE b) (hT : h 1 = tpE sz (nI e) (nI p) st fk fp) (hp : p ≤ e) (he : e ≤ 150) (hi6 : 6 * i + k < 180) (h31 : h 31 = wkE x1 x2 x3 x4 x5 x6) (h32 : h 32 = iaE 180 R) : mm_Con G l yX9_readNumber cX9_readNumber 7 (some .boolean) d 0 0 [.ref 31, .ref 1, .int (nI i), .int (nI k), .int lw, .int hi] nx h (P_rn b e p lw hi i k R sz fk fp nx h) := by
  refine mm_start (lo := [some (.ref 31), some (.ref 1), some (.int (nI i)), some (.int (nI k)), some (.int lw), some (.int hi), none]) pn_X9 rfl rfl (Nat.le_of_ble_eq_true rfl) ?_
  refine mt_aload_n (pc := 0) dX9_readNumber_0 rfl ?_
  refine mt_iload (pc := 1) dX9_readNumber_1 rfl ?_
  refine mt_iload (pc := 3) dX9_readNumber_3 rfl ?_
  refine mt_aV (pc := 5) (c_takeNumber (d := 1) hlw hhi (Nat.le_refl 1) (by omega) hB hT hp (by omega)) cal_X7_takeNumber vir_X7_takeNumber ml_X9_96 dX9_readNumber_5 (by first | assumption | omega) (by repeat (first | exact hset_eq _ _ _ | assumption | rw [hset_ne (by first | assumption | decide | omega)])) (by first | assumption | (show _ ≤ d; omega)) ⟨(Nat.le_of_ble_eq_true rfl), (Nat.le_of_ble_eq_true rfl)⟩ rfl rfl (Nat.le_of_ble_eq_true rfl) ?_ ?_
  · rintro x9 n9 k9 h9
    simp [P_num] at h9
  · rintro v9 n9 k9 ⟨rfl, ⟨kd, pl, hN, hv, p', s', rfl⟩ | ⟨v, r, hN, hv, rfl⟩⟩
    · skip
      cases hv
      have hcase : (-1 : Int32) = -1 := rfl
      refine ⟨rfl, ?_⟩
      refine mt_istore (pc := 8) dX9_readNumber_8 (Nat.le_of_ble_eq_true rfl) rfl ?_
      refine mt_aload_n (pc := 10) dX9_readNumber_10 rfl ?_
      refine mt_get (pc := 11) gf_X9_11 dX9_readNumber_11 (by first | assumption | omega) (by rw [hset_ne (by decide)]; exact h31) rfl ?_
      refine mt_iload_n (pc := 14) dX9_readNumber_14 rfl ?_
      refine mt_bipush (pc := 15) (v := 6) dX9_readNumber_15 (by decide) ?_
      refine mt_imul (pc := 17) dX9_readNumber_17 ?_
      refine mt_iload_n (pc := 18) dX9_readNumber_18 rfl ?_
      refine mt_iadd (pc := 19) dX9_readNumber_19 ?_
      refine mt_iload (pc := 20) dX9_readNumber_20 rfl ?_
      rw [ix61]
      refine mt_cN (pc := 22) (c_setEntry (d := 0) (by omega) (by rw [hset_ne (by decide)]; exact h32) (by decide)) cal_X10_setEntry sta_X10_setEntry mn_X9_92 dX9_readNumber_22 (by first | assumption | (show _ ≤ d; omega)) ⟨(Nat.le_of_ble_eq_true rfl), (Nat.le_of_ble_eq_true rfl)⟩ rfl rfl (Nat.le_of_ble_eq_true rfl) ?_
      refine mt_iload (pc := 25) dX9_readNumber_25 rfl ?_
      refine mt_iconst (pc := 27) (v := (-1)) dX9_readNumber_27 (by decide) ?_
      refine mt_icmp_eq (pc := 28) (tgt := 35) dX9_readNumber_28 (by decide) (fun c28 => ?_) (fun c28 => ?_)
      · skip
        refine mt_iconst (pc := 35) (v := 0) dX9_readNumber_35 (by decide) ?_
        exact mt_zret rfl (by first | exact Or.inl rfl | exact Or.inr rfl) dX9_readNumber_36 (Nat.le_of_ble_eq_true rfl) (Nat.le_of_ble_eq_true rfl) ⟨rfl, FRk_32 (FRk_1 FRk_rf), by rw [hset_ne (by decide), hset_ne (by decide)], by first | exact Or.inl ⟨kd, pl, hN, rfl, ⟨_, _, by rw [hset_ne (by decide), hset_eq]⟩, _, hset_eq _ _ _⟩ | exact Or.inr ⟨v, r, hN, rfl, by rw [hset_ne (by decide), hset_eq], by rw [hset_eq, mm_wr_nI hi6 (by decide)]⟩⟩
      · exact absurd hcase c28
    · skip
      cases hv
      have hcase : ¬ nI v = -1 := nI_m1 (numS_le hp hN).2.2
      refine ⟨rfl, ?_⟩
      refine mt_istore (pc := 8) dX9_readNumber_8 (Nat.le_of_ble_eq_true rfl) rfl ?_
      refine mt_aload_n (pc := 10) dX9_readNumber_10 rfl ?_
      refine mt_get (pc := 11) gf_X9_11 dX9_readNumber_11 (by first | assumption | omega) (by rw [hset_ne (by decide)]; exact h31) rfl ?_
      refine mt_iload_n (pc := 14) dX9_readNumber_14 rfl ?_
      refine mt_bipush (pc := 15) (v := 6) dX9_readNumber_15 (by decide) ?_
      refine mt_imul (pc := 17) dX9_readNumber_17 ?_
      refine mt_iload_n (pc := 18) dX9_readNumber_18 rfl ?_
      refine mt_iadd (pc := 19) dX9_readNumber_19 ?_
      refine mt_iload (pc := 20) dX9_readNumber_20 rfl ?_
      rw [ix61]
      refine mt_cN (pc := 22) (c_setEntry (d := 0) (by omega) (by rw [hset_ne (by decide)]; exact h32) (by decide)) cal_X10_setEntry sta_X10_setEntry mn_X9_92 dX9_readNumber_22 (by first | assumption | (show _ ≤ d; omega)) ⟨(Nat.le_of_ble_eq_true rfl), (Nat.le_of_ble_eq_true rfl)⟩ rfl rfl (Nat.le_of_ble_eq_true rfl) ?_
      refine mt_iload (pc := 25) dX9_readNumber_25 rfl ?_
      refine mt_iconst (pc := 27) (v := (-1)) dX9_readNumber_27 (by decide) ?_
      refine mt_icmp_eq (pc := 28) (tgt := 35) dX9_readNumber_28 (by decide) (fun c28 => ?_) (fun c28 => ?_)
      · exact absurd c28 hcase
      · skip
        refine mt_iconst (pc := 31) (v := 1) dX9_readNumber_31 (by decide) ?_
        refine mt_goto (pc := 32) (tgt := 36) dX9_readNumber_32 (by decide) ?_
        exact mt_zret rfl (by first | exact Or.inl rfl | exact Or.inr rfl) dX9_readNumber_36 (Nat.le_of_ble_eq_true rfl) (Nat.le_of_ble_eq_true rfl) ⟨rfl, FRk_32 (FRk_1 FRk_rf), by rw [hset_ne (by decide), hset_ne (by decide)], by first | exact Or.inl ⟨kd, pl, hN, rfl, ⟨_, _, by rw [hset_ne (by decide), hset_eq]⟩, _, hset_eq _ _ _⟩ | exact Or.inr ⟨v, r, hN, rfl, by rw [hset_ne (by decide), hset_eq], by rw [hset_eq, mm_wr_nI hi6 (by decide)]⟩⟩
theorem c_wbegin {i : Nat} {z : Int32} (hd : 1 ≤ d) (hx : 34 ≤ nx) (hi6 : 6 * i < 180) (h31 : h 31 = wkE x1 x2 x3 x4 x5 x6) (h32 : h 32 = iaE 180 R) : mm_Con G l yX9_begin cX9_begin 3 (some .boolean) d 0 0 [.ref 31, .int (nI i), .int z] nx h (mm_ret (some (.int 1)) nx (hset h 32 (iaE 180 (upd R (6 * i) z)))) := by
  refine mm_start (lo := [some (.ref 31), some (.int (nI i)), some (.int z)]) pn_X9 rfl rfl (Nat.le_of_ble_eq_true rfl) ?_
  refine mt_aload_n (pc := 0) dX9_begin_0 rfl ?_
  refine mt_get (pc := 1) gf_X9_11 dX9_begin_1 (by first | assumption | omega) (by repeat (first | exact hset_eq _ _ _ | assumption | rw [hset_ne (by first | assumption | decide | omega)])) rfl ?_
  refine mt_iload_n (pc := 4) dX9_begin_4 rfl ?_
  refine mt_bipush (pc := 5) (v := 6) dX9_begin_5 (by decide) ?_
  refine mt_imul (pc := 7) dX9_begin_7 ?_
  refine mt_iload_n (pc := 8) dX9_begin_8 rfl ?_
  rw [ix60]
  refine mt_cN (pc := 9) (c_setEntry (d := 0) (by omega) h32 (by decide)) cal_X10_setEntry sta_X10_setEntry mn_X9_92 dX9_begin_9 (by first | assumption | (show _ ≤ d; omega)) ⟨(Nat.le_of_ble_eq_true rfl), (Nat.le_of_ble_eq_true rfl)⟩ rfl rfl (Nat.le_of_ble_eq_true rfl) ?_
  refine mt_iconst (pc := 12) (v := 1) dX9_begin_12 (by decide) ?_
  exact mt_zret rfl (by first | exact Or.inl rfl | exact Or.inr rfl) dX9_begin_13 (Nat.le_of_ble_eq_true rfl) (Nat.le_of_ble_eq_true rfl) ⟨rfl, rfl, by rw [mm_wr_nI hi6 (by decide)]⟩
/-- a reader of STEPS: its contract at any place -/
def CLw (G : mm_G) (l : Launch) (b : Nat → Int32) (e sl so : Nat) (bg dn rf sz fk fp : Int32) (d o : Nat) (S : Nat → Nat → rsW) : Prop := ∀ (nx : Nat) (h : Nat → mm_E) (st : Int32) (p : Nat) (ss : List ST), 34 ≤ nx → h 2 = byE b → h 1 = tpE sz (nI e) (nI p) st fk fp → p ≤ e → WR h sl so bg dn rf ss → 5 * ss.length ≤ p → mm_Con G l yX9_readSteps cX9_readSteps 5 (some .boolean) d 0 0 [.ref 31, .ref 1, .int (nI o)] nx h (P_wk (S ss.length p) ss e sl so bg dn rf sz fk fp nx h)
end WORK2
