/-! Rules (cell 33), over a State at s whose row is at r. -/
theorem mm_at_congr {F F' : Nat → Int32} {n : Nat} {i : Int32} (hn : n < 2 ^ 31) (h : ∀ j, j < n → F j = F' j) : mm_at F n i = mm_at F' n i := by
  simp only [mm_at]
  by_cases h0 : i < 0
  · rw [if_pos h0, if_pos h0]
  · by_cases h1 : nI n ≤ i
    · rw [if_neg h0, if_neg h0, if_pos h1, if_pos h1]
    · rw [if_neg h0, if_neg h0, if_neg h1, if_neg h1]
      obtain ⟨j, hj, rfl⟩ := nI_of h0
      rw [nI_clamp hj]
      exact h j (Nat.lt_of_not_le fun z => h1 (nI_le z hj))
theorem evL_congr {F F' : Nat → Int32} (h : ∀ j, j < 8 → F j = F' j) : ∀ (cs : List Nat) (s : List Int32), evL F cs s = evL F' cs s
  | [], s => rfl
  | k :: cs, s => by
    rw [evL_c, evL_c, mm_at_congr (by decide) h]
    by_cases hk : 2000 ≤ k
    · rw [if_pos hk, if_pos hk]
      rcases s with _ | ⟨y, _ | ⟨x, r⟩⟩
      · rfl
      · rfl
      · exact evL_congr h cs _
    · rw [if_neg hk, if_neg hk]
      by_cases hs : s.length < 32
      · rw [if_pos hs, if_pos hs]
        exact evL_congr h cs _
      · rw [if_neg hs, if_neg hs]
/-- what the LAW makes of the eight facts -/
def lawV (cs : List Nat) (F : Nat → Int32) : Int32 := match evL F cs [] with
  | some (v :: _) => v
  | _ => 0
/-- codes that always leave one value -/
def LWF (cs : List Nat) : Prop := cs.length ≤ 150 ∧ (∀ k ∈ cs, k ≤ 2006) ∧ ∀ F, ∃ v, evL F cs [] = some [v]
/-- the cells of the law -/
def LA (h : Nat → mm_E) (cs : List Nat) : Prop := h 15 = laE (nI cs.length) ∧ (∃ R, h 16 = iaE 150 R ∧ LW R cs) ∧ (∃ F, h 17 = iaE 8 F) ∧ ∃ S, h 18 = iaE 32 S
theorem fact_base {F : Nat → Int32} {a0 a1 a2 a3 a4 a5 a6 a7 : Int32} : ∀ j, j < 8 → upd (upd (upd (upd (upd (upd (upd (upd F 0 a0) 1 a1) 2 a2) 3 a3) 4 a4) 5 a5) 6 a6) 7 a7 j = factF a0 a1 a2 a3 a4 a5 a6 a7 j := by
  intro j hj
  rcases (show j = 0 ∨ j = 1 ∨ j = 2 ∨ j = 3 ∨ j = 4 ∨ j = 5 ∨ j = 6 ∨ j = 7 by omega) with rfl | rfl | rfl | rfl | rfl | rfl | rfl | rfl <;> simp [factF, upd]
/-- kin, as a number; whether a SLAB would lend, LOANS not counted -/
def kinN (k : CS) (a p : Nat) : Int32 := if (k.2.2.2.2.1 p >>> (nI a &&& 31)) &&& 1 = 1 then 1 else 0
abbrev openC (k : CS) (f : Nat → Int32) (a p : Nat) (n : Int32) : Prop := ¬ (f 1 >>> (nI p &&& 31)) &&& 1 = 1 ∧ ¬ f (4 + p) < n ∧ (0 < f (12 + a) ∨ (k.2.2.2.2.1 p >>> (nI a &&& 31)) &&& 1 = 1)
def owV (k : CS) (cs : List Nat) (f : Nat → Int32) (i a p : Nat) : Int32 := clamp (lawV cs (factF (f (24 + 6 * i + 2)) (f 0 - f (24 + 6 * i + 3)) (k.2.2.1 p) (kinN k a p) (f (12 + a)) (f (4 + p)) (f 0) (nI a)))
/-- only the law's own scratch has changed -/
def FRl (h m : Nat → mm_E) : Prop := (∀ j, j ≠ 17 → j ≠ 18 → m j = h j) ∧ (∃ F, m 17 = iaE 8 F) ∧ ∃ S, m 18 = iaE 32 S
theorem FRl_trans {h m q : Nat → mm_E} (h1 : FRl h m) (h2 : FRl m q) : FRl h q := ⟨fun j a b => (h2.1 j a b).trans (h1.1 j a b), h2.2⟩
theorem FRl_rf {h : Nat → mm_E} {cs : List Nat} (hA : LA h cs) : FRl h h := ⟨fun _ _ _ => rfl, hA.2.2.1, hA.2.2.2⟩
theorem LA_fr {h m : Nat → mm_E} {cs : List Nat} (hA : LA h cs) (hF : FRl h m) : LA m cs := ⟨(hF.1 15 (by decide) (by decide)).trans hA.1, by obtain ⟨R, h1, h2⟩ := hA.2.1; exact ⟨R, (hF.1 16 (by decide) (by decide)).trans h1, h2⟩, hF.2.1, hF.2.2⟩
theorem CO_fr {h m : Nat → mm_E} {k : CS} (hC : CO h k) (hF : FRl h m) : CO m k := by
  obtain ⟨c1, c2, c3, c4, c5, c6, c7⟩ := hC
  exact ⟨(hF.1 3 (by decide) (by decide)).trans c1, (hF.1 4 (by decide) (by decide)).trans c2, (hF.1 5 (by decide) (by decide)).trans c3, (hF.1 6 (by decide) (by decide)).trans c4, (hF.1 7 (by decide) (by decide)).trans c5, (hF.1 8 (by decide) (by decide)).trans c6, c7⟩
abbrev ruE : mm_E := .inr (4, [.ref 3, .ref 15])
section RULES
variable {G : mm_G} {l : Launch} {d nx : Nat} {h : Nat → mm_E} {s r : Nat} {f : Nat → Int32} {k : CS} {cs : List Nat}
theorem c_kindOf {p : Nat} (hd : 1 ≤ d) (hx : 34 ≤ nx) (hp : p < 8) (hC : CO h k) : mm_Con G l yX1_kindOf cX1_kindOf 2 (some .int) d 0 0 [.ref 3, .int (nI p)] nx h (mm_ret (some (.int (k.2.2.1 p))) nx h) := by
  obtain ⟨c1, c2, -⟩ := hC
  refine mm_start (lo := [some (.ref 3), some (.int (nI p))]) pn_X1 rfl rfl (Nat.le_of_ble_eq_true rfl) ?_
  refine mt_aload_n (pc := 0) dX1_kindOf_0 rfl ?_
  refine mt_get (pc := 1) gf_X1_9 dX1_kindOf_1 (by first | assumption | omega) (by repeat (first | exact hset_eq _ _ _ | assumption | rw [hset_ne (by first | assumption | decide | omega)])) rfl ?_
  refine mt_iload_n (pc := 4) dX1_kindOf_4 rfl ?_
  refine mt_cN (pc := 5) (c_entry (d := 0) (r := 4) (i := nI p) (by omega) c2 (by decide)) cal_X10_entry sta_X10_entry mn_X1_38 dX1_kindOf_5 (by first | assumption | (show _ ≤ d; omega)) ⟨(Nat.le_of_ble_eq_true rfl), (Nat.le_of_ble_eq_true rfl)⟩ rfl rfl (Nat.le_of_ble_eq_true rfl) ?_
  exact mt_iret rfl dX1_kindOf_8 (Nat.le_of_ble_eq_true rfl) (Nat.le_of_ble_eq_true rfl) ⟨by rw [mm_at_nI hp (by decide)], rfl, rfl⟩
theorem c_isKin {a p : Nat} (hd : 1 ≤ d) (hx : 34 ≤ nx) (hp : p < 8) (hC : CO h k) : mm_Con G l yX1_isKin cX1_isKin 3 (some .boolean) d 0 0 [.ref 3, .int (nI a), .int (nI p)] nx h (mm_ret (some (.int (kinN k a p))) nx h) := by
  obtain ⟨c1, c2, c3, c4, -⟩ := hC
  refine mm_start (lo := [some (.ref 3), some (.int (nI a)), some (.int (nI p))]) pn_X1 rfl rfl (Nat.le_of_ble_eq_true rfl) ?_
  refine mt_aload_n (pc := 0) dX1_isKin_0 rfl ?_
  refine mt_get (pc := 1) gf_X1_18 dX1_isKin_1 (by first | assumption | omega) (by repeat (first | exact hset_eq _ _ _ | assumption | rw [hset_ne (by first | assumption | decide | omega)])) rfl ?_
  refine mt_iload_n (pc := 4) dX1_isKin_4 rfl ?_
  refine mt_cN (pc := 5) (c_entry (d := 0) (r := 6) (i := nI p) (by omega) c4 (by decide)) cal_X10_entry sta_X10_entry mn_X1_38 dX1_isKin_5 (by first | assumption | (show _ ≤ d; omega)) ⟨(Nat.le_of_ble_eq_true rfl), (Nat.le_of_ble_eq_true rfl)⟩ rfl rfl (Nat.le_of_ble_eq_true rfl) ?_
  rw [mm_at_nI hp (by decide)]
  refine mt_iload_n (pc := 8) dX1_isKin_8 rfl ?_
  refine mt_ishr (pc := 9) dX1_isKin_9 ?_
  refine mt_iconst (pc := 10) (v := 1) dX1_isKin_10 (by decide) ?_
  refine mt_iand (pc := 11) dX1_isKin_11 ?_
  refine mt_iconst (pc := 12) (v := 1) dX1_isKin_12 (by decide) ?_
  refine mt_icmp_ne (pc := 13) (tgt := 20) dX1_isKin_13 (by decide) (fun c13 => ?_) (fun c13 => ?_)
  · skip
    have e1 : kinN k a p = 0 := if_neg c13
    refine mt_iconst (pc := 20) (v := 0) dX1_isKin_20 (by decide) ?_
    exact mt_zret rfl (by first | exact Or.inl rfl | exact Or.inr rfl) dX1_isKin_21 (Nat.le_of_ble_eq_true rfl) (Nat.le_of_ble_eq_true rfl) ⟨by rw [e1], rfl, rfl⟩
  · skip
    have e1 : kinN k a p = 1 := if_pos c13
    refine mt_iconst (pc := 16) (v := 1) dX1_isKin_16 (by decide) ?_
    refine mt_goto (pc := 17) (tgt := 21) dX1_isKin_17 (by decide) ?_
    exact mt_zret rfl (by first | exact Or.inl rfl | exact Or.inr rfl) dX1_isKin_21 (Nat.le_of_ble_eq_true rfl) (Nat.le_of_ble_eq_true rfl) ⟨by rw [e1], rfl, rfl⟩
theorem kinN_01 {a p : Nat} : kinN k a p = 0 ∨ kinN k a p = 1 := by
  unfold kinN
  split
  · exact Or.inr rfl
  · exact Or.inl rfl
theorem kinN_0 {a p : Nat} : kinN k a p = 0 ↔ ¬ (k.2.2.2.2.1 p >>> (nI a &&& 31)) &&& 1 = 1 := by
  unfold kinN
  split
  · next hc => exact ⟨fun z => absurd z (by decide), fun z => absurd hc z⟩
  · next hc => exact ⟨fun _ => hc, fun _ => rfl⟩
theorem c_kinAsNumber {a p : Nat} (hd : 2 ≤ d) (hx : 34 ≤ nx) (hp : p < 8) (hC : CO h k) (h33 : h 33 = ruE) : mm_Con G l yX4_kinAsNumber cX4_kinAsNumber 3 (some .int) d 0 0 [.ref 33, .int (nI a), .int (nI p)] nx h (mm_ret (some (.int (kinN k a p))) nx h) := by
  have c1 := hC.1
  refine mm_start (lo := [some (.ref 33), some (.int (nI a)), some (.int (nI p))]) pn_X4 rfl rfl (Nat.le_of_ble_eq_true rfl) ?_
  refine mt_aload_n (pc := 0) dX4_kinAsNumber_0 rfl ?_
  refine mt_get (pc := 1) gf_X4_9 dX4_kinAsNumber_1 (by first | assumption | omega) (by repeat (first | exact hset_eq _ _ _ | assumption | rw [hset_ne (by first | assumption | decide | omega)])) rfl ?_
  refine mt_iload_n (pc := 4) dX4_kinAsNumber_4 rfl ?_
  refine mt_iload_n (pc := 5) dX4_kinAsNumber_5 rfl ?_
  refine mt_cV (pc := 6) (c_isKin (d := 1) (a := a) (p := p) (Nat.le_refl 1) hx hp hC) cal_X1_isKin vir_X1_isKin ml_X4_32 dX4_kinAsNumber_6 (by first | assumption | omega) (by repeat (first | exact hset_eq _ _ _ | assumption | rw [hset_ne (by first | assumption | decide | omega)])) (by first | assumption | (show _ ≤ d; omega)) ⟨(Nat.le_of_ble_eq_true rfl), (Nat.le_of_ble_eq_true rfl)⟩ rfl rfl (Nat.le_of_ble_eq_true rfl) ?_
  refine mt_if_eq (pc := 9) (tgt := 16) dX4_kinAsNumber_9 (by decide) (fun c9 => ?_) (fun c9 => ?_)
  · skip
    have e1 : kinN k a p = 0 := c9
    refine mt_iconst (pc := 16) (v := 0) dX4_kinAsNumber_16 (by decide) ?_
    exact mt_iret rfl dX4_kinAsNumber_17 (Nat.le_of_ble_eq_true rfl) (Nat.le_of_ble_eq_true rfl) ⟨by rw [e1], rfl, rfl⟩
  · skip
    have e1 : kinN k a p = 1 := kinN_01.resolve_left c9
    refine mt_iconst (pc := 12) (v := 1) dX4_kinAsNumber_12 (by decide) ?_
    refine mt_goto (pc := 13) (tgt := 17) dX4_kinAsNumber_13 (by decide) ?_
    exact mt_iret rfl dX4_kinAsNumber_17 (Nat.le_of_ble_eq_true rfl) (Nat.le_of_ble_eq_true rfl) ⟨by rw [e1], rfl, rfl⟩
theorem c_isOpenTo {a p : Nat} {n : Int32} (hd : 2 ≤ d) (hx : 34 ≤ nx) (ha : a < 6) (hp : p < 8) (hC : CO h k) (h33 : h 33 = ruE) (hs : s < nx) (hr : r < nx) (hS : h s = stE r) (hR : h r = rwE f) : mm_Con G l yX4_isOpenTo cX4_isOpenTo 5 (some .boolean) d 0 0 [.ref 33, .ref s, .int (nI a), .int (nI p), .int n] nx h (mm_ret (some (.int (if openC k f a p n then 1 else 0))) nx h) := by
  have c1 := hC.1
  refine mm_start (lo := [some (.ref 33), some (.ref s), some (.int (nI a)), some (.int (nI p)), some (.int n)]) pn_X4 rfl rfl (Nat.le_of_ble_eq_true rfl) ?_
  refine mt_aload_n (pc := 0) dX4_isOpenTo_0 rfl ?_
  refine mt_iload_n (pc := 1) dX4_isOpenTo_1 rfl ?_
  refine mt_cV (pc := 2) (c_isSealed (d := 1) hs hr hS hR) cal_X6_isSealed vir_X6_isSealed ml_X4_19 dX4_isOpenTo_2 (by first | assumption | omega) (by repeat (first | exact hset_eq _ _ _ | assumption | rw [hset_ne (by first | assumption | decide | omega)])) (by first | assumption | (show _ ≤ d; omega)) ⟨(Nat.le_of_ble_eq_true rfl), (Nat.le_of_ble_eq_true rfl)⟩ rfl rfl (Nat.le_of_ble_eq_true rfl) ?_
  refine mt_if_ne (pc := 5) (tgt := 42) dX4_isOpenTo_5 (by decide) (fun c5 => ?_) (fun c5 => ?_)
  · skip
    have hq : (f 1 >>> (nI p &&& 31)) &&& 1 = 1 := Classical.not_not.mp fun z => c5 (if_neg z)
    have e1 : (if openC k f a p n then (1 : Int32) else 0) = 0 := if_neg fun z => z.1 hq
    refine mt_iconst (pc := 42) (v := 0) dX4_isOpenTo_42 (by decide) ?_
    exact mt_zret rfl (by first | exact Or.inl rfl | exact Or.inr rfl) dX4_isOpenTo_43 (Nat.le_of_ble_eq_true rfl) (Nat.le_of_ble_eq_true rfl) ⟨by rw [e1], rfl, rfl⟩
  · skip
    have hq : ¬ (f 1 >>> (nI p &&& 31)) &&& 1 = 1 := fun z => by rw [if_pos z] at c5; exact absurd c5 (by decide)
    refine mt_aload_n (pc := 8) dX4_isOpenTo_8 rfl ?_
    refine mt_iload_n (pc := 9) dX4_isOpenTo_9 rfl ?_
    refine mt_cV (pc := 10) (c_under (d := 1) (Nat.le_refl 1) hp hs hr hS hR) cal_X6_under vir_X6_under ml_X4_25 dX4_isOpenTo_10 (by first | assumption | omega) (by repeat (first | exact hset_eq _ _ _ | assumption | rw [hset_ne (by first | assumption | decide | omega)])) (by first | assumption | (show _ ≤ d; omega)) ⟨(Nat.le_of_ble_eq_true rfl), (Nat.le_of_ble_eq_true rfl)⟩ rfl rfl (Nat.le_of_ble_eq_true rfl) ?_
    refine mt_iload (pc := 13) dX4_isOpenTo_13 rfl ?_
    refine mt_icmp_lt (pc := 15) (tgt := 42) dX4_isOpenTo_15 (by decide) (fun c15 => ?_) (fun c15 => ?_)
    · skip
      have e1 : (if openC k f a p n then (1 : Int32) else 0) = 0 := if_neg fun z => z.2.1 c15
      refine mt_iconst (pc := 42) (v := 0) dX4_isOpenTo_42 (by decide) ?_
      exact mt_zret rfl (by first | exact Or.inl rfl | exact Or.inr rfl) dX4_isOpenTo_43 (Nat.le_of_ble_eq_true rfl) (Nat.le_of_ble_eq_true rfl) ⟨by rw [e1], rfl, rfl⟩
    · skip
      refine mt_aload_n (pc := 18) dX4_isOpenTo_18 rfl ?_
      refine mt_iload_n (pc := 19) dX4_isOpenTo_19 rfl ?_
      refine mt_cV (pc := 20) (c_standing (d := 1) (Nat.le_refl 1) ha hs hr hS hR) cal_X6_standing vir_X6_standing ml_X4_29 dX4_isOpenTo_20 (by first | assumption | omega) (by repeat (first | exact hset_eq _ _ _ | assumption | rw [hset_ne (by first | assumption | decide | omega)])) (by first | assumption | (show _ ≤ d; omega)) ⟨(Nat.le_of_ble_eq_true rfl), (Nat.le_of_ble_eq_true rfl)⟩ rfl rfl (Nat.le_of_ble_eq_true rfl) ?_
      refine mt_if_gt (pc := 23) (tgt := 38) dX4_isOpenTo_23 (by decide) (fun c23 => ?_) (fun c23 => ?_)
      · skip
        have e1 : (if openC k f a p n then (1 : Int32) else 0) = 1 := if_pos ⟨hq, c15, Or.inl c23⟩
        refine mt_iconst (pc := 38) (v := 1) dX4_isOpenTo_38 (by decide) ?_
        refine mt_goto (pc := 39) (tgt := 43) dX4_isOpenTo_39 (by decide) ?_
        exact mt_zret rfl (by first | exact Or.inl rfl | exact Or.inr rfl) dX4_isOpenTo_43 (Nat.le_of_ble_eq_true rfl) (Nat.le_of_ble_eq_true rfl) ⟨by rw [e1], rfl, rfl⟩
      · skip
        refine mt_aload_n (pc := 26) dX4_isOpenTo_26 rfl ?_
        refine mt_get (pc := 27) gf_X4_9 dX4_isOpenTo_27 (by first | assumption | omega) (by repeat (first | exact hset_eq _ _ _ | assumption | rw [hset_ne (by first | assumption | decide | omega)])) rfl ?_
        refine mt_iload_n (pc := 30) dX4_isOpenTo_30 rfl ?_
        refine mt_iload_n (pc := 31) dX4_isOpenTo_31 rfl ?_
        refine mt_cV (pc := 32) (c_isKin (d := 1) (a := a) (p := p) (Nat.le_refl 1) hx hp hC) cal_X1_isKin vir_X1_isKin ml_X4_32 dX4_isOpenTo_32 (by first | assumption | omega) (by repeat (first | exact hset_eq _ _ _ | assumption | rw [hset_ne (by first | assumption | decide | omega)])) (by first | assumption | (show _ ≤ d; omega)) ⟨(Nat.le_of_ble_eq_true rfl), (Nat.le_of_ble_eq_true rfl)⟩ rfl rfl (Nat.le_of_ble_eq_true rfl) ?_
        refine mt_if_eq (pc := 35) (tgt := 42) dX4_isOpenTo_35 (by decide) (fun c35 => ?_) (fun c35 => ?_)
        · skip
          have e1 : (if openC k f a p n then (1 : Int32) else 0) = 0 := if_neg fun z => z.2.2.elim c23 (kinN_0.mp c35)
          refine mt_iconst (pc := 42) (v := 0) dX4_isOpenTo_42 (by decide) ?_
          exact mt_zret rfl (by first | exact Or.inl rfl | exact Or.inr rfl) dX4_isOpenTo_43 (Nat.le_of_ble_eq_true rfl) (Nat.le_of_ble_eq_true rfl) ⟨by rw [e1], rfl, rfl⟩
        · skip
          have e1 : (if openC k f a p n then (1 : Int32) else 0) = 1 := if_pos ⟨hq, c15, Or.inr (Classical.not_not.mp fun z => c35 (kinN_0.mpr z))⟩
          refine mt_iconst (pc := 38) (v := 1) dX4_isOpenTo_38 (by decide) ?_
          refine mt_goto (pc := 39) (tgt := 43) dX4_isOpenTo_39 (by decide) ?_
          exact mt_zret rfl (by first | exact Or.inl rfl | exact Or.inr rfl) dX4_isOpenTo_43 (Nat.le_of_ble_eq_true rfl) (Nat.le_of_ble_eq_true rfl) ⟨by rw [e1], rfl, rfl⟩
theorem c_wouldLend {a p : Nat} {n : Int32} (hd : 3 ≤ d) (hx : 34 ≤ nx) (ha : a < 6) (hp : p < 8) (hC : CO h k) (h33 : h 33 = ruE) (hs : s < nx) (hr : r < nx) (hS : h s = stE r) (hR : h r = rwE f) : mm_Con G l yX4_wouldLend cX4_wouldLend 5 (some .boolean) d 0 0 [.ref 33, .ref s, .int (nI a), .int (nI p), .int n] nx h (mm_ret (some (.int (if ¬ 10 ≤ f 3 ∧ openC k f a p n then 1 else 0))) nx h) := by
  refine mm_start (lo := [some (.ref 33), some (.ref s), some (.int (nI a)), some (.int (nI p)), some (.int n)]) pn_X4 rfl rfl (Nat.le_of_ble_eq_true rfl) ?_
  refine mt_aload_n (pc := 0) dX4_wouldLend_0 rfl ?_
  refine mt_cV (pc := 1) (c_loans (d := 1) hs hr hS hR) cal_X6_loans vir_X6_loans ml_X4_38 dX4_wouldLend_1 (by first | assumption | omega) (by repeat (first | exact hset_eq _ _ _ | assumption | rw [hset_ne (by first | assumption | decide | omega)])) (by first | assumption | (show _ ≤ d; omega)) ⟨(Nat.le_of_ble_eq_true rfl), (Nat.le_of_ble_eq_true rfl)⟩ rfl rfl (Nat.le_of_ble_eq_true rfl) ?_
  refine mt_bipush (pc := 4) (v := 10) dX4_wouldLend_4 (by decide) ?_
  refine mt_icmp_ge (pc := 6) (tgt := 25) dX4_wouldLend_6 (by decide) (fun c6 => ?_) (fun c6 => ?_)
  · skip
    have e1 : (if ¬ 10 ≤ f 3 ∧ openC k f a p n then (1 : Int32) else 0) = 0 := if_neg fun z => z.1 c6
    refine mt_iconst (pc := 25) (v := 0) dX4_wouldLend_25 (by decide) ?_
    exact mt_zret rfl (by first | exact Or.inl rfl | exact Or.inr rfl) dX4_wouldLend_26 (Nat.le_of_ble_eq_true rfl) (Nat.le_of_ble_eq_true rfl) ⟨by rw [e1], rfl, rfl⟩
  · skip
    refine mt_aload_n (pc := 9) dX4_wouldLend_9 rfl ?_
    refine mt_aload_n (pc := 10) dX4_wouldLend_10 rfl ?_
    refine mt_iload_n (pc := 11) dX4_wouldLend_11 rfl ?_
    refine mt_iload_n (pc := 12) dX4_wouldLend_12 rfl ?_
    refine mt_iload (pc := 13) dX4_wouldLend_13 rfl ?_
    refine mt_cV (pc := 15) (c_isOpenTo (d := 2) (n := n) (Nat.le_refl 2) hx ha hp hC h33 hs hr hS hR) cal_X4_isOpenTo vir_X4_isOpenTo ml_X4_42 dX4_wouldLend_15 (by first | assumption | omega) (by repeat (first | exact hset_eq _ _ _ | assumption | rw [hset_ne (by first | assumption | decide | omega)])) (by first | assumption | (show _ ≤ d; omega)) ⟨(Nat.le_of_ble_eq_true rfl), (Nat.le_of_ble_eq_true rfl)⟩ rfl rfl (Nat.le_of_ble_eq_true rfl) ?_
    refine mt_if_eq (pc := 18) (tgt := 25) dX4_wouldLend_18 (by decide) (fun c18 => ?_) (fun c18 => ?_)
    · skip
      have hq : ¬ openC k f a p n := fun z => by rw [if_pos z] at c18; exact absurd c18 (by decide)
      have e1 : (if ¬ 10 ≤ f 3 ∧ openC k f a p n then (1 : Int32) else 0) = 0 := if_neg fun z => hq z.2
      refine mt_iconst (pc := 25) (v := 0) dX4_wouldLend_25 (by decide) ?_
      exact mt_zret rfl (by first | exact Or.inl rfl | exact Or.inr rfl) dX4_wouldLend_26 (Nat.le_of_ble_eq_true rfl) (Nat.le_of_ble_eq_true rfl) ⟨by rw [e1], rfl, rfl⟩
    · skip
      have hq : openC k f a p n := Classical.not_not.mp fun z => c18 (if_neg z)
      have e1 : (if ¬ 10 ≤ f 3 ∧ openC k f a p n then (1 : Int32) else 0) = 1 := if_pos ⟨c6, hq⟩
      refine mt_iconst (pc := 21) (v := 1) dX4_wouldLend_21 (by decide) ?_
      refine mt_goto (pc := 22) (tgt := 26) dX4_wouldLend_22 (by decide) ?_
      exact mt_zret rfl (by first | exact Or.inl rfl | exact Or.inr rfl) dX4_wouldLend_26 (Nat.le_of_ble_eq_true rfl) (Nat.le_of_ble_eq_true rfl) ⟨by rw [e1], rfl, rfl⟩
end RULES
