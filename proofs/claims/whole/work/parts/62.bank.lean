/-! CryptBank: refusals, what a question needs. -/
abbrev cbE (ic rs ne ia : Int32) : mm_E := .inr (10, [.ref 1, .ref 3, .ref 9, .ref 15, .ref 19, .ref 23, .ref 27, .ref 31, .ref 33, .ref 34, .ref 70, .ref 179, .ref 181, .ref 186, .ref 187, .int ic, .int rs, .int ne, .int ia])
def bmp (x : Nat) (ic rs ne ia : Int32) : mm_E := if x = 0 then cbE ic rs (ne + 1) ia else cbE ic rs ne (ia + 1)
/-- a demand: it is met, or x is thrown -/
def P_n (x : Nat) (c : Prop) (ic rs ne ia : Int32) (nx : Nat) (h : Nat → mm_E) : mm_P := fun o n m => nx = n ∧ match o with
  | .inl v => v = none ∧ c ∧ h = m
  | .inr y => y = x ∧ ¬ c ∧ hset h 0 (bmp x ic rs ne ia) = m
theorem sw_cases (x : Int32) (n : Nat) : (∃ c, c ≤ n ∧ x = nI c) ∨ (x.toInt < 0 ∨ (n : Int) < x.toInt) := by
  by_cases h0 : x < 0
  · exact Or.inr (Or.inl (by have := Int32.lt_iff_toInt_lt.mp h0; rwa [show (0 : Int32).toInt = 0 from rfl] at this))
  · obtain ⟨j, hj, rfl⟩ := nI_of h0
    by_cases h1 : j ≤ n
    · exact Or.inl ⟨j, h1, rfl⟩
    · exact Or.inr (Or.inr (by rw [nI_toInt hj]; omega))
abbrev inR (p : Int32) (n : Nat) : Prop := ¬ p < 0 ∧ ¬ nI n ≤ p
theorem inR_of {p : Int32} {n : Nat} (h : inR p n) (hn : n < 2 ^ 31) : ∃ j, j < n ∧ p = nI j := by
  obtain ⟨j, hj, rfl⟩ := nI_of h.1
  exact ⟨j, Nat.lt_of_not_le fun z => h.2 (nI_le z hj), rfl⟩
theorem inR_nI {j n : Nat} (h : j < n) (hn : n < 2 ^ 31) : inR (nI j) n := ⟨nI_pos (by omega), nI_ge h hn⟩
section BANK
variable {G : mm_G} {l : Launch} {d nx : Nat} {h : Nat → mm_E} {ic rs ne ia : Int32} {k : CS}
theorem c_needElement {z : Int32} (hl : l.stackTraces = false) (hd : 6 ≤ d) (hx : 1 ≤ nx) (h0 : h 0 = cbE ic rs ne ia) : mm_Con G l yX10_needElement cX10_needElement 2 none d 1 6 [.ref 0, .int z] nx h (P_n 0 (¬ z = 0) ic rs ne ia nx h) := by
  refine mm_start (lo := [some (.ref 0), some (.int z)]) pn_X10 rfl rfl (Nat.le_of_ble_eq_true rfl) ?_
  refine mt_iload_n (pc := 0) dX10_needElement_0 rfl ?_
  refine mt_if_ne (pc := 1) (tgt := 25) dX10_needElement_1 (by decide) (fun c1 => ?_) (fun c1 => ?_)
  · skip
    exact mt_vret rfl dX10_needElement_25 (Nat.le_of_ble_eq_true rfl) (Nat.le_of_ble_eq_true rfl) ⟨rfl, rfl, c1, rfl⟩
  · skip
    refine mt_aload_n (pc := 4) dX10_needElement_4 rfl ?_
    refine mt_dup (pc := 5) dX10_needElement_5 rfl ?_
    refine mt_get (pc := 6) gf_X10_362 dX10_needElement_6 (by first | assumption | omega) (by repeat (first | exact hset_eq _ _ _ | assumption | rw [hset_ne (by first | assumption | decide | omega)])) rfl ?_
    refine mt_iconst (pc := 9) (v := 1) dX10_needElement_9 (by decide) ?_
    refine mt_iadd (pc := 10) dX10_needElement_10 ?_
    first
      | refine mt_puti2 (pc := 11) pf_X10_362 dX10_needElement_11 (by first | assumption | omega) (Nat.le_of_ble_eq_true rfl) ?_
      | refine mt_puti (pc := 11) pf_X10_362 dX10_needElement_11 (by first | assumption | omega) (by repeat (first | exact hset_eq _ _ _ | assumption | rw [hset_ne (by first | assumption | decide | omega)])) (Nat.le_of_ble_eq_true rfl) ?_
    exact mt_throw (pc := 14) (x := 0) (is := 370) (ic := 372) (ik := 368) (ix := 13) (j := 18) (text := "there is none such") (up := "java/lang/RuntimeException") (names := ["java/lang/Exception"]) (rx := xB0) (by decide +kernel) (by decide +kernel) (by decide +kernel) (by decide +kernel) (by decide +kernel) hl (by decide +kernel) (by decide +kernel) x0_k x0_i (by decide +kernel) x0_w1 x0_w2 x0_g dX10_needElement_14 dX10_needElement_17 dX10_needElement_18 dX10_needElement_21 dX10_needElement_24 (by show _ ≤ d; simp; omega) (Nat.le_of_ble_eq_true rfl) (Nat.le_of_ble_eq_true rfl) (Nat.le_of_ble_eq_true rfl) ⟨rfl, rfl, fun z => z c1, rfl⟩
theorem c_needArgument {z : Int32} (hl : l.stackTraces = false) (hd : 6 ≤ d) (hx : 1 ≤ nx) (h0 : h 0 = cbE ic rs ne ia) : mm_Con G l yX10_needArgument cX10_needArgument 2 none d 1 6 [.ref 0, .int z] nx h (P_n 1 (¬ z = 0) ic rs ne ia nx h) := by
  refine mm_start (lo := [some (.ref 0), some (.int z)]) pn_X10 rfl rfl (Nat.le_of_ble_eq_true rfl) ?_
  refine mt_iload_n (pc := 0) dX10_needArgument_0 rfl ?_
  refine mt_if_ne (pc := 1) (tgt := 25) dX10_needArgument_1 (by decide) (fun c1 => ?_) (fun c1 => ?_)
  · skip
    exact mt_vret rfl dX10_needArgument_25 (Nat.le_of_ble_eq_true rfl) (Nat.le_of_ble_eq_true rfl) ⟨rfl, rfl, c1, rfl⟩
  · skip
    refine mt_aload_n (pc := 4) dX10_needArgument_4 rfl ?_
    refine mt_dup (pc := 5) dX10_needArgument_5 rfl ?_
    refine mt_get (pc := 6) gf_X10_365 dX10_needArgument_6 (by first | assumption | omega) (by repeat (first | exact hset_eq _ _ _ | assumption | rw [hset_ne (by first | assumption | decide | omega)])) rfl ?_
    refine mt_iconst (pc := 9) (v := 1) dX10_needArgument_9 (by decide) ?_
    refine mt_iadd (pc := 10) dX10_needArgument_10 ?_
    first
      | refine mt_puti2 (pc := 11) pf_X10_365 dX10_needArgument_11 (by first | assumption | omega) (Nat.le_of_ble_eq_true rfl) ?_
      | refine mt_puti (pc := 11) pf_X10_365 dX10_needArgument_11 (by first | assumption | omega) (by repeat (first | exact hset_eq _ _ _ | assumption | rw [hset_ne (by first | assumption | decide | omega)])) (Nat.le_of_ble_eq_true rfl) ?_
    exact mt_throw (pc := 14) (x := 1) (is := 377) (ic := 379) (ik := 375) (ix := 7) (j := 0) (text := "an argument is none such") (up := "java/lang/RuntimeException") (names := ["java/lang/Exception"]) (rx := xB1) (by decide +kernel) (by decide +kernel) (by decide +kernel) (by decide +kernel) (by decide +kernel) hl (by decide +kernel) (by decide +kernel) x1_k x1_i (by decide +kernel) x1_w1 x1_w2 x1_g dX10_needArgument_14 dX10_needArgument_17 dX10_needArgument_18 dX10_needArgument_21 dX10_needArgument_24 (by show _ ≤ d; simp; omega) (Nat.le_of_ble_eq_true rfl) (Nat.le_of_ble_eq_true rfl) (Nat.le_of_ble_eq_true rfl) ⟨rfl, rfl, fun z => z c1, rfl⟩
theorem c_needSlab {z : Int32} (hl : l.stackTraces = false) (hd : 7 ≤ d) (hx : 34 ≤ nx) (h0 : h 0 = cbE ic rs ne ia) (hC : CO h k) : mm_Con G l yX10_needSlab cX10_needSlab 2 none d 1 6 [.ref 0, .int z] nx h (P_n 0 (inR z k.1) ic rs ne ia nx h) := by
  have c0 := hC.1
  refine mm_start (lo := [some (.ref 0), some (.int z)]) pn_X10 rfl rfl (Nat.le_of_ble_eq_true rfl) ?_
  refine mt_aload_n (pc := 0) dX10_needSlab_0 rfl ?_
  refine mt_iload_n (pc := 1) dX10_needSlab_1 rfl ?_
  refine mt_if_lt (pc := 2) (tgt := 20) dX10_needSlab_2 (by decide) (fun c2 => ?_) (fun c2 => ?_)
  · skip
    have hq : ¬ inR z k.1 := fun y => y.1 c2
    refine mt_iconst (pc := 20) (v := 0) dX10_needSlab_20 (by decide) ?_
    refine mt_aV (pc := 21) (c_needElement (d := 6) hl (Nat.le_refl 6) (by omega) h0) cal_X10_needElement vir_X10_needElement ml_X10_263 dX10_needSlab_21 (by first | assumption | omega) (by repeat (first | exact hset_eq _ _ _ | assumption | rw [hset_ne (by first | assumption | decide | omega)])) (by first | assumption | (show _ ≤ d; omega)) ⟨(Nat.le_of_ble_eq_true rfl), (Nat.le_of_ble_eq_true rfl)⟩ rfl rfl (Nat.le_of_ble_eq_true rfl) ?_ ?_
    · rintro x9 n9 k9 h9
      obtain ⟨rfl, rfl, hno, rfl⟩ := h9
      exact ⟨rfl, rfl, hq, rfl⟩
    · rintro v9 n9 k9 ⟨rfl, rfl, hok, rfl⟩
      refine ⟨rfl, ?_⟩
      exact mt_vret rfl dX10_needSlab_24 (Nat.le_of_ble_eq_true rfl) (Nat.le_of_ble_eq_true rfl) ⟨rfl, rfl, absurd rfl hok, rfl⟩
  · skip
    refine mt_iload_n (pc := 5) dX10_needSlab_5 rfl ?_
    refine mt_aload_n (pc := 6) dX10_needSlab_6 rfl ?_
    refine mt_get (pc := 7) gf_X10_19 dX10_needSlab_7 (by first | assumption | omega) (by repeat (first | exact hset_eq _ _ _ | assumption | rw [hset_ne (by first | assumption | decide | omega)])) rfl ?_
    refine mt_get (pc := 10) gf_X10_141 dX10_needSlab_10 (by first | assumption | omega) (by repeat (first | exact hset_eq _ _ _ | assumption | rw [hset_ne (by first | assumption | decide | omega)])) rfl ?_
    refine mt_icmp_ge (pc := 13) (tgt := 20) dX10_needSlab_13 (by decide) (fun c13 => ?_) (fun c13 => ?_)
    · skip
      have hq : ¬ inR z k.1 := fun y => y.2 c13
      refine mt_iconst (pc := 20) (v := 0) dX10_needSlab_20 (by decide) ?_
      refine mt_aV (pc := 21) (c_needElement (d := 6) hl (Nat.le_refl 6) (by omega) h0) cal_X10_needElement vir_X10_needElement ml_X10_263 dX10_needSlab_21 (by first | assumption | omega) (by repeat (first | exact hset_eq _ _ _ | assumption | rw [hset_ne (by first | assumption | decide | omega)])) (by first | assumption | (show _ ≤ d; omega)) ⟨(Nat.le_of_ble_eq_true rfl), (Nat.le_of_ble_eq_true rfl)⟩ rfl rfl (Nat.le_of_ble_eq_true rfl) ?_ ?_
      · rintro x9 n9 k9 h9
        obtain ⟨rfl, rfl, hno, rfl⟩ := h9
        exact ⟨rfl, rfl, hq, rfl⟩
      · rintro v9 n9 k9 ⟨rfl, rfl, hok, rfl⟩
        refine ⟨rfl, ?_⟩
        exact mt_vret rfl dX10_needSlab_24 (Nat.le_of_ble_eq_true rfl) (Nat.le_of_ble_eq_true rfl) ⟨rfl, rfl, absurd rfl hok, rfl⟩
    · skip
      have hq : inR z k.1 := ⟨c2, c13⟩
      refine mt_iconst (pc := 16) (v := 1) dX10_needSlab_16 (by decide) ?_
      refine mt_goto (pc := 17) (tgt := 21) dX10_needSlab_17 (by decide) ?_
      refine mt_aV (pc := 21) (c_needElement (d := 6) hl (Nat.le_refl 6) (by omega) h0) cal_X10_needElement vir_X10_needElement ml_X10_263 dX10_needSlab_21 (by first | assumption | omega) (by repeat (first | exact hset_eq _ _ _ | assumption | rw [hset_ne (by first | assumption | decide | omega)])) (by first | assumption | (show _ ≤ d; omega)) ⟨(Nat.le_of_ble_eq_true rfl), (Nat.le_of_ble_eq_true rfl)⟩ rfl rfl (Nat.le_of_ble_eq_true rfl) ?_ ?_
      · rintro x9 n9 k9 h9
        obtain ⟨rfl, rfl, hno, rfl⟩ := h9
        exact absurd (by decide) hno
      · rintro v9 n9 k9 ⟨rfl, rfl, hok, rfl⟩
        refine ⟨rfl, ?_⟩
        exact mt_vret rfl dX10_needSlab_24 (Nat.le_of_ble_eq_true rfl) (Nat.le_of_ble_eq_true rfl) ⟨rfl, rfl, hq, rfl⟩
theorem c_needSoul {z : Int32} (hl : l.stackTraces = false) (hd : 7 ≤ d) (hx : 34 ≤ nx) (h0 : h 0 = cbE ic rs ne ia) (hC : CO h k) : mm_Con G l yX10_needSoul cX10_needSoul 2 none d 1 6 [.ref 0, .int z] nx h (P_n 0 (inR z k.2.1) ic rs ne ia nx h) := by
  have c0 := hC.1
  refine mm_start (lo := [some (.ref 0), some (.int z)]) pn_X10 rfl rfl (Nat.le_of_ble_eq_true rfl) ?_
  refine mt_aload_n (pc := 0) dX10_needSoul_0 rfl ?_
  refine mt_iload_n (pc := 1) dX10_needSoul_1 rfl ?_
  refine mt_if_lt (pc := 2) (tgt := 20) dX10_needSoul_2 (by decide) (fun c2 => ?_) (fun c2 => ?_)
  · skip
    have hq : ¬ inR z k.2.1 := fun y => y.1 c2
    refine mt_iconst (pc := 20) (v := 0) dX10_needSoul_20 (by decide) ?_
    refine mt_aV (pc := 21) (c_needElement (d := 6) hl (Nat.le_refl 6) (by omega) h0) cal_X10_needElement vir_X10_needElement ml_X10_263 dX10_needSoul_21 (by first | assumption | omega) (by repeat (first | exact hset_eq _ _ _ | assumption | rw [hset_ne (by first | assumption | decide | omega)])) (by first | assumption | (show _ ≤ d; omega)) ⟨(Nat.le_of_ble_eq_true rfl), (Nat.le_of_ble_eq_true rfl)⟩ rfl rfl (Nat.le_of_ble_eq_true rfl) ?_ ?_
    · rintro x9 n9 k9 h9
      obtain ⟨rfl, rfl, hno, rfl⟩ := h9
      exact ⟨rfl, rfl, hq, rfl⟩
    · rintro v9 n9 k9 ⟨rfl, rfl, hok, rfl⟩
      refine ⟨rfl, ?_⟩
      exact mt_vret rfl dX10_needSoul_24 (Nat.le_of_ble_eq_true rfl) (Nat.le_of_ble_eq_true rfl) ⟨rfl, rfl, absurd rfl hok, rfl⟩
  · skip
    refine mt_iload_n (pc := 5) dX10_needSoul_5 rfl ?_
    refine mt_aload_n (pc := 6) dX10_needSoul_6 rfl ?_
    refine mt_get (pc := 7) gf_X10_19 dX10_needSoul_7 (by first | assumption | omega) (by repeat (first | exact hset_eq _ _ _ | assumption | rw [hset_ne (by first | assumption | decide | omega)])) rfl ?_
    refine mt_get (pc := 10) gf_X10_173 dX10_needSoul_10 (by first | assumption | omega) (by repeat (first | exact hset_eq _ _ _ | assumption | rw [hset_ne (by first | assumption | decide | omega)])) rfl ?_
    refine mt_icmp_ge (pc := 13) (tgt := 20) dX10_needSoul_13 (by decide) (fun c13 => ?_) (fun c13 => ?_)
    · skip
      have hq : ¬ inR z k.2.1 := fun y => y.2 c13
      refine mt_iconst (pc := 20) (v := 0) dX10_needSoul_20 (by decide) ?_
      refine mt_aV (pc := 21) (c_needElement (d := 6) hl (Nat.le_refl 6) (by omega) h0) cal_X10_needElement vir_X10_needElement ml_X10_263 dX10_needSoul_21 (by first | assumption | omega) (by repeat (first | exact hset_eq _ _ _ | assumption | rw [hset_ne (by first | assumption | decide | omega)])) (by first | assumption | (show _ ≤ d; omega)) ⟨(Nat.le_of_ble_eq_true rfl), (Nat.le_of_ble_eq_true rfl)⟩ rfl rfl (Nat.le_of_ble_eq_true rfl) ?_ ?_
      · rintro x9 n9 k9 h9
        obtain ⟨rfl, rfl, hno, rfl⟩ := h9
        exact ⟨rfl, rfl, hq, rfl⟩
      · rintro v9 n9 k9 ⟨rfl, rfl, hok, rfl⟩
        refine ⟨rfl, ?_⟩
        exact mt_vret rfl dX10_needSoul_24 (Nat.le_of_ble_eq_true rfl) (Nat.le_of_ble_eq_true rfl) ⟨rfl, rfl, absurd rfl hok, rfl⟩
    · skip
      have hq : inR z k.2.1 := ⟨c2, c13⟩
      refine mt_iconst (pc := 16) (v := 1) dX10_needSoul_16 (by decide) ?_
      refine mt_goto (pc := 17) (tgt := 21) dX10_needSoul_17 (by decide) ?_
      refine mt_aV (pc := 21) (c_needElement (d := 6) hl (Nat.le_refl 6) (by omega) h0) cal_X10_needElement vir_X10_needElement ml_X10_263 dX10_needSoul_21 (by first | assumption | omega) (by repeat (first | exact hset_eq _ _ _ | assumption | rw [hset_ne (by first | assumption | decide | omega)])) (by first | assumption | (show _ ≤ d; omega)) ⟨(Nat.le_of_ble_eq_true rfl), (Nat.le_of_ble_eq_true rfl)⟩ rfl rfl (Nat.le_of_ble_eq_true rfl) ?_ ?_
      · rintro x9 n9 k9 h9
        obtain ⟨rfl, rfl, hno, rfl⟩ := h9
        exact absurd (by decide) hno
      · rintro v9 n9 k9 ⟨rfl, rfl, hok, rfl⟩
        refine ⟨rfl, ?_⟩
        exact mt_vret rfl dX10_needSoul_24 (Nat.le_of_ble_eq_true rfl) (Nat.le_of_ble_eq_true rfl) ⟨rfl, rfl, hq, rfl⟩
theorem c_needRange {z lo hi : Int32} (hl : l.stackTraces = false) (hd : 7 ≤ d) (hx : 34 ≤ nx) (h0 : h 0 = cbE ic rs ne ia) : mm_Con G l yX10_needRange cX10_needRange 4 none d 1 6 [.ref 0, .int z, .int lo, .int hi] nx h (P_n 1 (¬ z < lo ∧ ¬ hi < z) ic rs ne ia nx h) := by
  refine mm_start (lo := [some (.ref 0), some (.int z), some (.int lo), some (.int hi)]) pn_X10 rfl rfl (Nat.le_of_ble_eq_true rfl) ?_
  refine mt_aload_n (pc := 0) dX10_needRange_0 rfl ?_
  refine mt_iload_n (pc := 1) dX10_needRange_1 rfl ?_
  refine mt_iload_n (pc := 2) dX10_needRange_2 rfl ?_
  refine mt_icmp_lt (pc := 3) (tgt := 15) dX10_needRange_3 (by decide) (fun c3 => ?_) (fun c3 => ?_)
  · skip
    have hq : ¬ (¬ z < lo ∧ ¬ hi < z) := fun y => y.1 c3
    refine mt_iconst (pc := 15) (v := 0) dX10_needRange_15 (by decide) ?_
    refine mt_aV (pc := 16) (c_needArgument (d := 6) hl (Nat.le_refl 6) (by omega) h0) cal_X10_needArgument vir_X10_needArgument ml_X10_218 dX10_needRange_16 (by first | assumption | omega) (by repeat (first | exact hset_eq _ _ _ | assumption | rw [hset_ne (by first | assumption | decide | omega)])) (by first | assumption | (show _ ≤ d; omega)) ⟨(Nat.le_of_ble_eq_true rfl), (Nat.le_of_ble_eq_true rfl)⟩ rfl rfl (Nat.le_of_ble_eq_true rfl) ?_ ?_
    · rintro x9 n9 k9 h9
      obtain ⟨rfl, rfl, hno, rfl⟩ := h9
      exact ⟨rfl, rfl, hq, rfl⟩
    · rintro v9 n9 k9 ⟨rfl, rfl, hok, rfl⟩
      refine ⟨rfl, ?_⟩
      exact mt_vret rfl dX10_needRange_19 (Nat.le_of_ble_eq_true rfl) (Nat.le_of_ble_eq_true rfl) ⟨rfl, rfl, absurd rfl hok, rfl⟩
  · skip
    refine mt_iload_n (pc := 6) dX10_needRange_6 rfl ?_
    refine mt_iload_n (pc := 7) dX10_needRange_7 rfl ?_
    refine mt_icmp_gt (pc := 8) (tgt := 15) dX10_needRange_8 (by decide) (fun c8 => ?_) (fun c8 => ?_)
    · skip
      have hq : ¬ (¬ z < lo ∧ ¬ hi < z) := fun y => y.2 c8
      refine mt_iconst (pc := 15) (v := 0) dX10_needRange_15 (by decide) ?_
      refine mt_aV (pc := 16) (c_needArgument (d := 6) hl (Nat.le_refl 6) (by omega) h0) cal_X10_needArgument vir_X10_needArgument ml_X10_218 dX10_needRange_16 (by first | assumption | omega) (by repeat (first | exact hset_eq _ _ _ | assumption | rw [hset_ne (by first | assumption | decide | omega)])) (by first | assumption | (show _ ≤ d; omega)) ⟨(Nat.le_of_ble_eq_true rfl), (Nat.le_of_ble_eq_true rfl)⟩ rfl rfl (Nat.le_of_ble_eq_true rfl) ?_ ?_
      · rintro x9 n9 k9 h9
        obtain ⟨rfl, rfl, hno, rfl⟩ := h9
        exact ⟨rfl, rfl, hq, rfl⟩
      · rintro v9 n9 k9 ⟨rfl, rfl, hok, rfl⟩
        refine ⟨rfl, ?_⟩
        exact mt_vret rfl dX10_needRange_19 (Nat.le_of_ble_eq_true rfl) (Nat.le_of_ble_eq_true rfl) ⟨rfl, rfl, absurd rfl hok, rfl⟩
    · skip
      have hq : ¬ z < lo ∧ ¬ hi < z := ⟨c3, c8⟩
      refine mt_iconst (pc := 11) (v := 1) dX10_needRange_11 (by decide) ?_
      refine mt_goto (pc := 12) (tgt := 16) dX10_needRange_12 (by decide) ?_
      refine mt_aV (pc := 16) (c_needArgument (d := 6) hl (Nat.le_refl 6) (by omega) h0) cal_X10_needArgument vir_X10_needArgument ml_X10_218 dX10_needRange_16 (by first | assumption | omega) (by repeat (first | exact hset_eq _ _ _ | assumption | rw [hset_ne (by first | assumption | decide | omega)])) (by first | assumption | (show _ ≤ d; omega)) ⟨(Nat.le_of_ble_eq_true rfl), (Nat.le_of_ble_eq_true rfl)⟩ rfl rfl (Nat.le_of_ble_eq_true rfl) ?_ ?_
      · rintro x9 n9 k9 h9
        obtain ⟨rfl, rfl, hno, rfl⟩ := h9
        exact absurd (by decide) hno
      · rintro v9 n9 k9 ⟨rfl, rfl, hok, rfl⟩
        refine ⟨rfl, ?_⟩
        exact mt_vret rfl dX10_needRange_19 (Nat.le_of_ble_eq_true rfl) (Nat.le_of_ble_eq_true rfl) ⟨rfl, rfl, hq, rfl⟩
end BANK
