/-! County: the one that is told (cells 3..8), the one that is read (cells 9..14). -/
abbrev iaE (n : Nat) (f : Nat → Int32) : mm_E := .inl (0, n, .inl f)
abbrev coE (a b : Int32) : mm_E := .inr (1, [.int a, .int b, .ref 4, .ref 5, .ref 6, .ref 7, .ref 8])
abbrev crE (a b : Int32) : mm_E := .inr (1, [.int a, .int b, .ref 10, .ref 11, .ref 12, .ref 13, .ref 14])
/-- a county: slabs, souls, kinds, unders, kin (by slab, bits of souls), standings, purses -/
abbrev CS : Type := Nat × Nat × (Nat → Int32) × (Nat → Int32) × (Nat → Int32) × (Nat → Int32) × (Nat → Int32)
/-- the cells of the county that is read -/
def CR (h : Nat → mm_E) (k : CS) : Prop := h 9 = crE (nI k.1) (nI k.2.1) ∧ h 10 = iaE 8 k.2.2.1 ∧ h 11 = iaE 8 k.2.2.2.1 ∧ h 12 = iaE 8 k.2.2.2.2.1 ∧ h 13 = iaE 6 k.2.2.2.2.2.1 ∧ h 14 = iaE 6 k.2.2.2.2.2.2 ∧ k.1 ≤ 8 ∧ k.2.1 ≤ 6
/-- the cells of the county that is told -/
def CO (h : Nat → mm_E) (k : CS) : Prop := h 3 = coE (nI k.1) (nI k.2.1) ∧ h 4 = iaE 8 k.2.2.1 ∧ h 5 = iaE 8 k.2.2.2.1 ∧ h 6 = iaE 8 k.2.2.2.2.1 ∧ h 7 = iaE 6 k.2.2.2.2.2.1 ∧ h 8 = iaE 6 k.2.2.2.2.2.2 ∧ k.1 ≤ 8 ∧ k.2.1 ≤ 6
/-- what stays of the heap but for the tape and the county that is read -/
def FRc (h k : Nat → mm_E) : Prop := ∀ j, j ≠ 1 → j < 9 ∨ 14 < j → k j = h j
def sbind {α β : Type} (x : (Nat × Nat) ⊕ α) (f : α → (Nat × Nat) ⊕ β) : (Nat × Nat) ⊕ β := match x with
  | .inl e => .inl e
  | .inr a => f a
/-- the rest of a "slab", a "soul", a "kin" -/
def slabS (b : Nat → Int32) (e p : Nat) (k : CS) : (Nat × Nat) ⊕ (Nat × CS) := sbind (numS b e p 0 5) fun x => sbind (numS b e x.2 0 60) fun y => .inr (y.2, k.1 + 1, k.2.1, upd k.2.2.1 k.1 (nI x.1), upd k.2.2.2.1 k.1 (nI y.1), upd k.2.2.2.2.1 k.1 0, k.2.2.2.2.2.1, k.2.2.2.2.2.2)
def soulS (b : Nat → Int32) (e p : Nat) (k : CS) : (Nat × Nat) ⊕ (Nat × CS) := sbind (numS b e p 0 9) fun x => sbind (numS b e x.2 0 99) fun y => .inr (y.2, k.1, k.2.1 + 1, k.2.2.1, k.2.2.2.1, k.2.2.2.2.1, upd k.2.2.2.2.2.1 k.2.1 (nI x.1), upd k.2.2.2.2.2.2 k.2.1 (nI y.1))
def kinS (b : Nat → Int32) (e p : Nat) (k : CS) : (Nat × Nat) ⊕ (Nat × CS) := sbind (numS b e p 0 (nI k.2.1 - 1)) fun x => sbind (numS b e x.2 0 (nI k.1 - 1)) fun y => .inr (y.2, k.1, k.2.1, k.2.2.1, k.2.2.2.1, upd k.2.2.2.2.1 y.1 (k.2.2.2.2.1 y.1 ||| ((1 : Int32) <<< (nI x.1 &&& 31))), k.2.2.2.2.2.1, k.2.2.2.2.2.2)
/-- what a reader of the county promises -/
def P_rd (S : (Nat × Nat) ⊕ (Nat × CS)) (e : Nat) (sz fk fp : Int32) (nx : Nat) (h : Nat → mm_E) : mm_P := fun o n k => n = nx ∧ FRc h k ∧
  ((∃ kd pl, S = .inl (kd, pl) ∧ o = .inl (some (.int 0)) ∧ (∃ p' s', k 1 = tpE sz (nI e) p' s' (nI kd) (nI pl)) ∧ ∃ c, CR k c) ∨
  (∃ r c, S = .inr (r, c) ∧ o = .inl (some (.int 1)) ∧ (∃ s', k 1 = tpE sz (nI e) (nI r) s' fk fp) ∧ CR k c ∧ r ≤ e))
theorem numS_le {b : Nat → Int32} {e p : Nat} {lo hi : Int32} {v r : Nat} (hp : p ≤ e) (h : numS b e p lo hi = .inr (v, r)) : r ≤ e ∧ lo.toInt ≤ v ∧ (v : Int) ≤ hi.toInt := by
  have hq := sk_le (b := b) hp
  have hr := dgf_le (b := b) (e - sk b e p) (sk b e p) 0 hq.2
  simp only [numS] at h
  split at h
  · cases h
  · split at h
    · cases h
    · next hc =>
      cases h
      omega
theorem nI_m1 {v : Nat} {hi : Int32} (h : (v : Int) ≤ hi.toInt) : ¬ nI v = -1 := by
  have h1 : hi.toInt < 2 ^ 31 := Int32.toInt_lt hi
  intro z
  have := congrArg Int32.toInt z
  rw [nI_toInt (by omega)] at this
  have h6 : (-1 : Int32).toInt = -1 := by decide
  omega
section COUNTY
variable {G : mm_G} {l : Launch} {d nx : Nat} {h : Nat → mm_E} {b : Nat → Int32} {sz st fk fp : Int32}
theorem c_readSlab {e p : Nat} {k : CS} (hd : 2 ≤ d) (hx : 15 ≤ nx) (hB : h 2 = byE b) (hT : h 1 = tpE sz (nI e) (nI p) st fk fp) (hp : p ≤ e) (he : e ≤ 600) (hC : CR h k) (hk : k.1 < 8) : mm_Con G l yX1_readSlab cX1_readSlab 4 (some .boolean) d 0 0 [.ref 9, .ref 1] nx h (P_rd (slabS b e p k) e sz fk fp nx h) := by
  obtain ⟨sl, so, K, U, Q, S, P⟩ := k
  obtain ⟨h9, h10, h11, h12, h13, h14, hsl, hso⟩ := id hC
  dsimp only at h9 h10 h11 h12 h13 h14 hsl hso hk
  refine mm_start (lo := [some (.ref 9), some (.ref 1), none, none]) pn_X1 rfl rfl (Nat.le_of_ble_eq_true rfl) ?_
  refine mt_aload_n (pc := 0) dX1_readSlab_0 rfl ?_
  refine mt_iconst (pc := 1) (v := 0) dX1_readSlab_1 (by decide) ?_
  refine mt_iconst (pc := 2) (v := 5) dX1_readSlab_2 (by decide) ?_
  refine mt_aV (pc := 3) (c_takeNumber (d := 1) (by decide) (by decide) (Nat.le_refl 1) (by omega) hB hT hp he) cal_X7_takeNumber vir_X7_takeNumber ml_X1_82 dX1_readSlab_3 (by first | assumption | omega) (by repeat (first | exact hset_eq _ _ _ | assumption | rw [hset_ne (by first | assumption | decide | omega)])) (by first | assumption | (show _ ≤ d; omega)) ⟨(Nat.le_of_ble_eq_true rfl), (Nat.le_of_ble_eq_true rfl)⟩ rfl rfl (Nat.le_of_ble_eq_true rfl) ?_ ?_
  · rintro x9 n9 k9 h9
    simp [P_num] at h9
  · rintro v9 n9 k9 ⟨rfl, ⟨kd, pl, hN, hv, p', s', rfl⟩ | ⟨v, r, hN, hv, rfl⟩⟩
    · skip
      cases hv
      refine ⟨rfl, ?_⟩
      refine mt_istore_n (pc := 6) dX1_readSlab_6 (Nat.le_of_ble_eq_true rfl) rfl ?_
      refine mt_iload_n (pc := 7) dX1_readSlab_7 rfl ?_
      refine mt_iconst (pc := 8) (v := -1) dX1_readSlab_8 (by decide) ?_
      refine mt_icmp_ne (pc := 9) (tgt := 14) dX1_readSlab_9 (by decide) (fun c9 => absurd rfl c9) (fun c9 => ?_)
      refine mt_iconst (pc := 12) (v := 0) dX1_readSlab_12 (by decide) ?_
      exact mt_zret rfl (Or.inl rfl) dX1_readSlab_13 (Nat.le_of_ble_eq_true rfl) (Nat.le_of_ble_eq_true rfl) ⟨rfl, fun j h1 h2 => hset_ne h1, Or.inl ⟨kd, pl, by simp only [slabS, hN, sbind], rfl, ⟨_, _, hset_eq _ _ _⟩, (sl, so, K, U, Q, S, P), by simp only [CR, hset_ne, ne_eq, Nat.reduceEqDiff, not_false_eq_true]; exact hC⟩⟩
    · skip
      cases hv
      refine ⟨rfl, ?_⟩
      have hr := numS_le hp hN
      refine mt_istore_n (pc := 6) dX1_readSlab_6 (Nat.le_of_ble_eq_true rfl) rfl ?_
      refine mt_iload_n (pc := 7) dX1_readSlab_7 rfl ?_
      refine mt_iconst (pc := 8) (v := (-1)) dX1_readSlab_8 (by decide) ?_
      refine mt_icmp_ne (pc := 9) (tgt := 14) dX1_readSlab_9 (by decide) (fun c9 => ?_) (fun c9 => ?_)
      · skip
        skip
        refine mt_aload_n (pc := 14) dX1_readSlab_14 rfl ?_
        refine mt_iconst (pc := 15) (v := 0) dX1_readSlab_15 (by decide) ?_
        refine mt_bipush (pc := 16) (v := 60) dX1_readSlab_16 (by decide) ?_
        refine mt_aV (pc := 18) (c_takeNumber (d := 1) (by decide) (by decide) (Nat.le_refl 1) (by omega) (by rw [hset_ne (by decide)]; exact hB) (hset_eq _ _ _) hr.1 he) cal_X7_takeNumber vir_X7_takeNumber ml_X1_82 dX1_readSlab_18 (by first | assumption | omega) (by repeat (first | exact hset_eq _ _ _ | assumption | rw [hset_ne (by first | assumption | decide | omega)])) (by first | assumption | (show _ ≤ d; omega)) ⟨(Nat.le_of_ble_eq_true rfl), (Nat.le_of_ble_eq_true rfl)⟩ rfl rfl (Nat.le_of_ble_eq_true rfl) ?_ ?_
        · rintro x9 n9 k9 h9
          simp [P_num] at h9
        · rintro v9 n9 k9 ⟨rfl, ⟨kd, pl, hN2, hv, p', s', rfl⟩ | ⟨v2, r2, hN2, hv, rfl⟩⟩
          · skip
            cases hv
            refine ⟨rfl, ?_⟩
            refine mt_istore_n (pc := 21) dX1_readSlab_21 (Nat.le_of_ble_eq_true rfl) rfl ?_
            refine mt_iload_n (pc := 22) dX1_readSlab_22 rfl ?_
            refine mt_iconst (pc := 23) (v := -1) dX1_readSlab_23 (by decide) ?_
            refine mt_icmp_ne (pc := 24) (tgt := 29) dX1_readSlab_24 (by decide) (fun c9 => absurd rfl c9) (fun c9 => ?_)
            refine mt_iconst (pc := 27) (v := 0) dX1_readSlab_27 (by decide) ?_
            rw [hset_hset]
            exact mt_zret rfl (Or.inl rfl) dX1_readSlab_28 (Nat.le_of_ble_eq_true rfl) (Nat.le_of_ble_eq_true rfl) ⟨rfl, fun j h1 h2 => hset_ne h1, Or.inl ⟨kd, pl, by simp only [slabS, hN, hN2, sbind], rfl, ⟨_, _, hset_eq _ _ _⟩, (sl, so, K, U, Q, S, P), by simp only [CR, hset_ne, ne_eq, Nat.reduceEqDiff, not_false_eq_true]; exact hC⟩⟩
          · skip
            cases hv
            refine ⟨rfl, ?_⟩
            have hr2 := numS_le hr.1 hN2
            rw [hset_hset]
            refine mt_istore_n (pc := 21) dX1_readSlab_21 (Nat.le_of_ble_eq_true rfl) rfl ?_
            refine mt_iload_n (pc := 22) dX1_readSlab_22 rfl ?_
            refine mt_iconst (pc := 23) (v := (-1)) dX1_readSlab_23 (by decide) ?_
            refine mt_icmp_ne (pc := 24) (tgt := 29) dX1_readSlab_24 (by decide) (fun c24 => ?_) (fun c24 => ?_)
            · skip
              refine mt_aload_n (pc := 29) dX1_readSlab_29 rfl ?_
              refine mt_get (pc := 30) gf_X1_9 dX1_readSlab_30 (by first | assumption | omega) (by repeat (first | exact hset_eq _ _ _ | assumption | rw [hset_ne (by first | assumption | decide | omega)])) rfl ?_
              refine mt_aload_n (pc := 33) dX1_readSlab_33 rfl ?_
              refine mt_get (pc := 34) gf_X1_27 dX1_readSlab_34 (by first | assumption | omega) (by repeat (first | exact hset_eq _ _ _ | assumption | rw [hset_ne (by first | assumption | decide | omega)])) rfl ?_
              refine mt_iload_n (pc := 37) dX1_readSlab_37 rfl ?_
              refine mt_cN (pc := 38) (c_setEntry (d := 0) (r := 10) (n := 8) (i := nI sl) (f := K) (by omega) (by rw [hset_ne (by decide)]; exact h10) (by decide)) cal_X10_setEntry sta_X10_setEntry mn_X1_86 dX1_readSlab_38 (by first | assumption | (show _ ≤ d; omega)) ⟨(Nat.le_of_ble_eq_true rfl), (Nat.le_of_ble_eq_true rfl)⟩ rfl rfl (Nat.le_of_ble_eq_true rfl) ?_
              refine mt_aload_n (pc := 41) dX1_readSlab_41 rfl ?_
              refine mt_get (pc := 42) gf_X1_15 dX1_readSlab_42 (by first | assumption | omega) (by repeat (first | exact hset_eq _ _ _ | assumption | rw [hset_ne (by first | assumption | decide | omega)])) rfl ?_
              refine mt_aload_n (pc := 45) dX1_readSlab_45 rfl ?_
              refine mt_get (pc := 46) gf_X1_27 dX1_readSlab_46 (by first | assumption | omega) (by repeat (first | exact hset_eq _ _ _ | assumption | rw [hset_ne (by first | assumption | decide | omega)])) rfl ?_
              refine mt_iload_n (pc := 49) dX1_readSlab_49 rfl ?_
              refine mt_cN (pc := 50) (c_setEntry (d := 0) (r := 11) (n := 8) (i := nI sl) (f := U) (by omega) (by rw [hset_ne (by decide), hset_ne (by decide)]; exact h11) (by decide)) cal_X10_setEntry sta_X10_setEntry mn_X1_86 dX1_readSlab_50 (by first | assumption | (show _ ≤ d; omega)) ⟨(Nat.le_of_ble_eq_true rfl), (Nat.le_of_ble_eq_true rfl)⟩ rfl rfl (Nat.le_of_ble_eq_true rfl) ?_
              refine mt_aload_n (pc := 53) dX1_readSlab_53 rfl ?_
              refine mt_get (pc := 54) gf_X1_18 dX1_readSlab_54 (by first | assumption | omega) (by repeat (first | exact hset_eq _ _ _ | assumption | rw [hset_ne (by first | assumption | decide | omega)])) rfl ?_
              refine mt_aload_n (pc := 57) dX1_readSlab_57 rfl ?_
              refine mt_get (pc := 58) gf_X1_27 dX1_readSlab_58 (by first | assumption | omega) (by repeat (first | exact hset_eq _ _ _ | assumption | rw [hset_ne (by first | assumption | decide | omega)])) rfl ?_
              refine mt_iconst (pc := 61) (v := 0) dX1_readSlab_61 (by decide) ?_
              refine mt_cN (pc := 62) (c_setEntry (d := 0) (r := 12) (n := 8) (i := nI sl) (f := Q) (by omega) (by rw [hset_ne (by decide), hset_ne (by decide), hset_ne (by decide)]; exact h12) (by decide)) cal_X10_setEntry sta_X10_setEntry mn_X1_86 dX1_readSlab_62 (by first | assumption | (show _ ≤ d; omega)) ⟨(Nat.le_of_ble_eq_true rfl), (Nat.le_of_ble_eq_true rfl)⟩ rfl rfl (Nat.le_of_ble_eq_true rfl) ?_
              refine mt_aload_n (pc := 65) dX1_readSlab_65 rfl ?_
              refine mt_dup (pc := 66) dX1_readSlab_66 rfl ?_
              refine mt_get (pc := 67) gf_X1_27 dX1_readSlab_67 (by first | assumption | omega) (by repeat (first | exact hset_eq _ _ _ | assumption | rw [hset_ne (by first | assumption | decide | omega)])) rfl ?_
              refine mt_iconst (pc := 70) (v := 1) dX1_readSlab_70 (by decide) ?_
              refine mt_iadd (pc := 71) dX1_readSlab_71 ?_
              first
                | refine mt_puti2 (pc := 72) pf_X1_27 dX1_readSlab_72 (by first | assumption | omega) (Nat.le_of_ble_eq_true rfl) ?_
                | refine mt_puti (pc := 72) pf_X1_27 dX1_readSlab_72 (by first | assumption | omega) (by repeat (first | exact hset_eq _ _ _ | assumption | rw [hset_ne (by first | assumption | decide | omega)])) (Nat.le_of_ble_eq_true rfl) ?_
              refine mt_iconst (pc := 75) (v := 1) dX1_readSlab_75 (by decide) ?_
              refine mt_zret rfl (Or.inr rfl) dX1_readSlab_76 (Nat.le_of_ble_eq_true rfl) (Nat.le_of_ble_eq_true rfl) ⟨rfl, fun j h1 h2 => ?_, Or.inr ⟨r2, (sl + 1, so, upd K sl (nI v), upd U sl (nI v2), upd Q sl 0, S, P), by simp only [slabS, hN, hN2, sbind], rfl, ⟨nI (sk b e r), ?_⟩, ?_, hr2.1⟩⟩
              · rw [hset_ne (by omega), hset_ne (by omega), hset_ne (by omega), hset_ne (by omega), hset_ne h1]
              · rw [hset_ne (by decide), hset_ne (by decide), hset_ne (by decide), hset_ne (by decide), hset_eq]
              · refine ⟨?_, ?_, ?_, ?_, ?_, ?_, by show sl + 1 ≤ 8; omega, hso⟩
                · rw [hset_eq, ← nI_1]; rfl
                · rw [hset_ne (by decide), hset_ne (by decide), hset_ne (by decide), hset_eq, mm_wr_nI hk (by decide)]
                · rw [hset_ne (by decide), hset_ne (by decide), hset_eq, mm_wr_nI hk (by decide)]
                · rw [hset_ne (by decide), hset_eq, mm_wr_nI hk (by decide)]
                · rw [hset_ne (by decide), hset_ne (by decide), hset_ne (by decide), hset_ne (by decide), hset_ne (by decide)]; exact h13
                · rw [hset_ne (by decide), hset_ne (by decide), hset_ne (by decide), hset_ne (by decide), hset_ne (by decide)]; exact h14
            · exact absurd c24 (nI_m1 hr2.2.2)
      · exact absurd c9 (nI_m1 hr.2.2)
theorem c_readSoul {e p : Nat} {k : CS} (hd : 2 ≤ d) (hx : 15 ≤ nx) (hB : h 2 = byE b) (hT : h 1 = tpE sz (nI e) (nI p) st fk fp) (hp : p ≤ e) (he : e ≤ 600) (hC : CR h k) (hk : k.2.1 < 6) : mm_Con G l yX1_readSoul cX1_readSoul 4 (some .boolean) d 0 0 [.ref 9, .ref 1] nx h (P_rd (soulS b e p k) e sz fk fp nx h) := by
  obtain ⟨sl, so, K, U, Q, S, P⟩ := k
  obtain ⟨h9, h10, h11, h12, h13, h14, hsl, hso⟩ := id hC
  dsimp only at h9 h10 h11 h12 h13 h14 hsl hso hk
  refine mm_start (lo := [some (.ref 9), some (.ref 1), none, none]) pn_X1 rfl rfl (Nat.le_of_ble_eq_true rfl) ?_
  refine mt_aload_n (pc := 0) dX1_readSoul_0 rfl ?_
  refine mt_iconst (pc := 1) (v := 0) dX1_readSoul_1 (by decide) ?_
  refine mt_bipush (pc := 2) (v := 9) dX1_readSoul_2 (by decide) ?_
  refine mt_aV (pc := 4) (c_takeNumber (d := 1) (by decide) (by decide) (Nat.le_refl 1) (by omega) hB hT hp he) cal_X7_takeNumber vir_X7_takeNumber ml_X1_82 dX1_readSoul_4 (by first | assumption | omega) (by repeat (first | exact hset_eq _ _ _ | assumption | rw [hset_ne (by first | assumption | decide | omega)])) (by first | assumption | (show _ ≤ d; omega)) ⟨(Nat.le_of_ble_eq_true rfl), (Nat.le_of_ble_eq_true rfl)⟩ rfl rfl (Nat.le_of_ble_eq_true rfl) ?_ ?_
  · rintro x9 n9 k9 h9
    simp [P_num] at h9
  · rintro v9 n9 k9 ⟨rfl, ⟨kd, pl, hN, hv, p', s', rfl⟩ | ⟨v, r, hN, hv, rfl⟩⟩
    · skip
      cases hv
      refine ⟨rfl, ?_⟩
      refine mt_istore_n (pc := 7) dX1_readSoul_7 (Nat.le_of_ble_eq_true rfl) rfl ?_
      refine mt_iload_n (pc := 8) dX1_readSoul_8 rfl ?_
      refine mt_iconst (pc := 9) (v := -1) dX1_readSoul_9 (by decide) ?_
      refine mt_icmp_ne (pc := 10) (tgt := 15) dX1_readSoul_10 (by decide) (fun c9 => absurd rfl c9) (fun c9 => ?_)
      refine mt_iconst (pc := 13) (v := 0) dX1_readSoul_13 (by decide) ?_
      exact mt_zret rfl (Or.inl rfl) dX1_readSoul_14 (Nat.le_of_ble_eq_true rfl) (Nat.le_of_ble_eq_true rfl) ⟨rfl, fun j h1 h2 => hset_ne h1, Or.inl ⟨kd, pl, by simp only [soulS, hN, sbind], rfl, ⟨_, _, hset_eq _ _ _⟩, (sl, so, K, U, Q, S, P), by simp only [CR, hset_ne, ne_eq, Nat.reduceEqDiff, not_false_eq_true]; exact hC⟩⟩
    · skip
      cases hv
      refine ⟨rfl, ?_⟩
      have hr := numS_le hp hN
      refine mt_istore_n (pc := 7) dX1_readSoul_7 (Nat.le_of_ble_eq_true rfl) rfl ?_
      refine mt_iload_n (pc := 8) dX1_readSoul_8 rfl ?_
      refine mt_iconst (pc := 9) (v := (-1)) dX1_readSoul_9 (by decide) ?_
      refine mt_icmp_ne (pc := 10) (tgt := 15) dX1_readSoul_10 (by decide) (fun c10 => ?_) (fun c10 => ?_)
      · skip
        refine mt_aload_n (pc := 15) dX1_readSoul_15 rfl ?_
        refine mt_iconst (pc := 16) (v := 0) dX1_readSoul_16 (by decide) ?_
        refine mt_bipush (pc := 17) (v := 99) dX1_readSoul_17 (by decide) ?_
        refine mt_aV (pc := 19) (c_takeNumber (d := 1) (by decide) (by decide) (Nat.le_refl 1) (by omega) (by rw [hset_ne (by decide)]; exact hB) (hset_eq _ _ _) hr.1 he) cal_X7_takeNumber vir_X7_takeNumber ml_X1_82 dX1_readSoul_19 (by first | assumption | omega) (by repeat (first | exact hset_eq _ _ _ | assumption | rw [hset_ne (by first | assumption | decide | omega)])) (by first | assumption | (show _ ≤ d; omega)) ⟨(Nat.le_of_ble_eq_true rfl), (Nat.le_of_ble_eq_true rfl)⟩ rfl rfl (Nat.le_of_ble_eq_true rfl) ?_ ?_
        · rintro x9 n9 k9 h9
          simp [P_num] at h9
        · rintro v9 n9 k9 ⟨rfl, ⟨kd, pl, hN2, hv, p', s', rfl⟩ | ⟨v2, r2, hN2, hv, rfl⟩⟩
          · skip
            cases hv
            refine ⟨rfl, ?_⟩
            refine mt_istore_n (pc := 22) dX1_readSoul_22 (Nat.le_of_ble_eq_true rfl) rfl ?_
            refine mt_iload_n (pc := 23) dX1_readSoul_23 rfl ?_
            refine mt_iconst (pc := 24) (v := -1) dX1_readSoul_24 (by decide) ?_
            refine mt_icmp_ne (pc := 25) (tgt := 30) dX1_readSoul_25 (by decide) (fun c9 => absurd rfl c9) (fun c9 => ?_)
            refine mt_iconst (pc := 28) (v := 0) dX1_readSoul_28 (by decide) ?_
            rw [hset_hset]
            exact mt_zret rfl (Or.inl rfl) dX1_readSoul_29 (Nat.le_of_ble_eq_true rfl) (Nat.le_of_ble_eq_true rfl) ⟨rfl, fun j h1 h2 => hset_ne h1, Or.inl ⟨kd, pl, by simp only [soulS, hN, hN2, sbind], rfl, ⟨_, _, hset_eq _ _ _⟩, (sl, so, K, U, Q, S, P), by simp only [CR, hset_ne, ne_eq, Nat.reduceEqDiff, not_false_eq_true]; exact hC⟩⟩
          · skip
            cases hv
            refine ⟨rfl, ?_⟩
            have hr2 := numS_le hr.1 hN2
            rw [hset_hset]
            refine mt_istore_n (pc := 22) dX1_readSoul_22 (Nat.le_of_ble_eq_true rfl) rfl ?_
            refine mt_iload_n (pc := 23) dX1_readSoul_23 rfl ?_
            refine mt_iconst (pc := 24) (v := (-1)) dX1_readSoul_24 (by decide) ?_
            refine mt_icmp_ne (pc := 25) (tgt := 30) dX1_readSoul_25 (by decide) (fun c25 => ?_) (fun c25 => ?_)
            · skip
              refine mt_aload_n (pc := 30) dX1_readSoul_30 rfl ?_
              refine mt_get (pc := 31) gf_X1_21 dX1_readSoul_31 (by first | assumption | omega) (by repeat (first | exact hset_eq _ _ _ | assumption | rw [hset_ne (by first | assumption | decide | omega)])) rfl ?_
              refine mt_aload_n (pc := 34) dX1_readSoul_34 rfl ?_
              refine mt_get (pc := 35) gf_X1_31 dX1_readSoul_35 (by first | assumption | omega) (by repeat (first | exact hset_eq _ _ _ | assumption | rw [hset_ne (by first | assumption | decide | omega)])) rfl ?_
              refine mt_iload_n (pc := 38) dX1_readSoul_38 rfl ?_
              refine mt_cN (pc := 39) (c_setEntry (d := 0) (r := 13) (n := 6) (i := nI so) (f := S) (by omega) (by rw [hset_ne (by decide)]; exact h13) (by decide)) cal_X10_setEntry sta_X10_setEntry mn_X1_86 dX1_readSoul_39 (by first | assumption | (show _ ≤ d; omega)) ⟨(Nat.le_of_ble_eq_true rfl), (Nat.le_of_ble_eq_true rfl)⟩ rfl rfl (Nat.le_of_ble_eq_true rfl) ?_
              refine mt_aload_n (pc := 42) dX1_readSoul_42 rfl ?_
              refine mt_get (pc := 43) gf_X1_24 dX1_readSoul_43 (by first | assumption | omega) (by repeat (first | exact hset_eq _ _ _ | assumption | rw [hset_ne (by first | assumption | decide | omega)])) rfl ?_
              refine mt_aload_n (pc := 46) dX1_readSoul_46 rfl ?_
              refine mt_get (pc := 47) gf_X1_31 dX1_readSoul_47 (by first | assumption | omega) (by repeat (first | exact hset_eq _ _ _ | assumption | rw [hset_ne (by first | assumption | decide | omega)])) rfl ?_
              refine mt_iload_n (pc := 50) dX1_readSoul_50 rfl ?_
              refine mt_cN (pc := 51) (c_setEntry (d := 0) (r := 14) (n := 6) (i := nI so) (f := P) (by omega) (by rw [hset_ne (by decide), hset_ne (by decide)]; exact h14) (by decide)) cal_X10_setEntry sta_X10_setEntry mn_X1_86 dX1_readSoul_51 (by first | assumption | (show _ ≤ d; omega)) ⟨(Nat.le_of_ble_eq_true rfl), (Nat.le_of_ble_eq_true rfl)⟩ rfl rfl (Nat.le_of_ble_eq_true rfl) ?_
              refine mt_aload_n (pc := 54) dX1_readSoul_54 rfl ?_
              refine mt_dup (pc := 55) dX1_readSoul_55 rfl ?_
              refine mt_get (pc := 56) gf_X1_31 dX1_readSoul_56 (by first | assumption | omega) (by repeat (first | exact hset_eq _ _ _ | assumption | rw [hset_ne (by first | assumption | decide | omega)])) rfl ?_
              refine mt_iconst (pc := 59) (v := 1) dX1_readSoul_59 (by decide) ?_
              refine mt_iadd (pc := 60) dX1_readSoul_60 ?_
              first
                | refine mt_puti2 (pc := 61) pf_X1_31 dX1_readSoul_61 (by first | assumption | omega) (Nat.le_of_ble_eq_true rfl) ?_
                | refine mt_puti (pc := 61) pf_X1_31 dX1_readSoul_61 (by first | assumption | omega) (by repeat (first | exact hset_eq _ _ _ | assumption | rw [hset_ne (by first | assumption | decide | omega)])) (Nat.le_of_ble_eq_true rfl) ?_
              refine mt_iconst (pc := 64) (v := 1) dX1_readSoul_64 (by decide) ?_
              refine mt_zret rfl (Or.inr rfl) dX1_readSoul_65 (Nat.le_of_ble_eq_true rfl) (Nat.le_of_ble_eq_true rfl) ⟨rfl, fun j h1 h2 => ?_, Or.inr ⟨r2, (sl, so + 1, K, U, Q, upd S so (nI v), upd P so (nI v2)), by simp only [soulS, hN, hN2, sbind], rfl, ⟨nI (sk b e r), ?_⟩, ?_, hr2.1⟩⟩
              · rw [hset_ne (by omega), hset_ne (by omega), hset_ne (by omega), hset_ne h1]
              · rw [hset_ne (by decide), hset_ne (by decide), hset_ne (by decide), hset_eq]
              · refine ⟨?_, ?_, ?_, ?_, ?_, ?_, hsl, by show so + 1 ≤ 6; omega⟩
                · rw [hset_eq, ← nI_1]; rfl
                · rw [hset_ne (by decide), hset_ne (by decide), hset_ne (by decide), hset_ne (by decide)]; exact h10
                · rw [hset_ne (by decide), hset_ne (by decide), hset_ne (by decide), hset_ne (by decide)]; exact h11
                · rw [hset_ne (by decide), hset_ne (by decide), hset_ne (by decide), hset_ne (by decide)]; exact h12
                · rw [hset_ne (by decide), hset_ne (by decide), hset_eq, mm_wr_nI hk (by decide)]
                · rw [hset_ne (by decide), hset_eq, mm_wr_nI hk (by decide)]
            · exact absurd c25 (nI_m1 hr2.2.2)
      · exact absurd c10 (nI_m1 hr.2.2)
theorem c_kinOf9 {Q : Nat → Int32} {x y : Int32} {p : Nat} (hd : 1 ≤ d) (hx : 15 ≤ nx) (hp : p < 8) (h9 : h 9 = crE x y) (h12 : h 12 = iaE 8 Q) : mm_Con G l yX1_kinOf cX1_kinOf 2 (some .int) d 0 0 [.ref 9, .int (nI p)] nx h (mm_ret (some (.int (Q p))) nx h) := by
  refine mm_start (lo := [some (.ref 9), some (.int (nI p))]) pn_X1 rfl rfl (Nat.le_of_ble_eq_true rfl) ?_
  refine mt_aload_n (pc := 0) dX1_kinOf_0 rfl ?_
  refine mt_get (pc := 1) gf_X1_18 dX1_kinOf_1 (by first | assumption | omega) (by repeat (first | exact hset_eq _ _ _ | assumption | rw [hset_ne (by first | assumption | decide | omega)])) rfl ?_
  refine mt_iload_n (pc := 4) dX1_kinOf_4 rfl ?_
  refine mt_cN (pc := 5) (c_entry (d := 0) (r := 12) (i := nI p) (by omega) h12 (by decide)) cal_X10_entry sta_X10_entry mn_X1_38 dX1_kinOf_5 (by first | assumption | (show _ ≤ d; omega)) ⟨(Nat.le_of_ble_eq_true rfl), (Nat.le_of_ble_eq_true rfl)⟩ rfl rfl (Nat.le_of_ble_eq_true rfl) ?_
  exact mt_iret rfl dX1_kinOf_8 (Nat.le_of_ble_eq_true rfl) (Nat.le_of_ble_eq_true rfl) ⟨by rw [mm_at_nI hp (by decide)], rfl, rfl⟩
theorem sub1_le {n : Nat} (hn : n ≤ 8) : (nI n - 1).toInt = (n : Int) - 1 := by
  rw [show (1 : Int32) = nI 1 from rfl, pk_sub_toInt (by omega) (by decide)]
  rfl
theorem c_readKin {e p : Nat} {k : CS} (hd : 2 ≤ d) (hx : 15 ≤ nx) (hB : h 2 = byE b) (hT : h 1 = tpE sz (nI e) (nI p) st fk fp) (hp : p ≤ e) (he : e ≤ 600) (hC : CR h k) : mm_Con G l yX1_readKin cX1_readKin 4 (some .boolean) d 0 0 [.ref 9, .ref 1] nx h (P_rd (kinS b e p k) e sz fk fp nx h) := by
  obtain ⟨sl, so, K, U, Q, S, P⟩ := k
  obtain ⟨h9, h10, h11, h12, h13, h14, hsl, hso⟩ := id hC
  dsimp only at h9 h10 h11 h12 h13 h14 hsl hso
  refine mm_start (lo := [some (.ref 9), some (.ref 1), none, none]) pn_X1 rfl rfl (Nat.le_of_ble_eq_true rfl) ?_
  have e1 := sub1_le (n := so) (by omega)
  have e2 := sub1_le (n := sl) (by omega)
  refine mt_aload_n (pc := 0) dX1_readKin_0 rfl ?_
  refine mt_iconst (pc := 1) (v := 0) dX1_readKin_1 (by decide) ?_
  refine mt_aload_n (pc := 2) dX1_readKin_2 rfl ?_
  refine mt_get (pc := 3) gf_X1_31 dX1_readKin_3 (by first | assumption | omega) (by repeat (first | exact hset_eq _ _ _ | assumption | rw [hset_ne (by first | assumption | decide | omega)])) rfl ?_
  refine mt_iconst (pc := 6) (v := 1) dX1_readKin_6 (by decide) ?_
  refine mt_isub (pc := 7) dX1_readKin_7 ?_
  refine mt_aV (pc := 8) (c_takeNumber (d := 1) (by decide) (by omega) (Nat.le_refl 1) (by omega) hB hT hp he) cal_X7_takeNumber vir_X7_takeNumber ml_X1_82 dX1_readKin_8 (by first | assumption | omega) (by repeat (first | exact hset_eq _ _ _ | assumption | rw [hset_ne (by first | assumption | decide | omega)])) (by first | assumption | (show _ ≤ d; omega)) ⟨(Nat.le_of_ble_eq_true rfl), (Nat.le_of_ble_eq_true rfl)⟩ rfl rfl (Nat.le_of_ble_eq_true rfl) ?_ ?_
  · rintro x9 n9 k9 h9
    simp [P_num] at h9
  · rintro v9 n9 k9 ⟨rfl, ⟨kd, pl, hN, hv, p', s', rfl⟩ | ⟨v, r, hN, hv, rfl⟩⟩
    · skip
      cases hv
      refine ⟨rfl, ?_⟩
      refine mt_istore_n (pc := 11) dX1_readKin_11 (Nat.le_of_ble_eq_true rfl) rfl ?_
      refine mt_iload_n (pc := 12) dX1_readKin_12 rfl ?_
      refine mt_iconst (pc := 13) (v := -1) dX1_readKin_13 (by decide) ?_
      refine mt_icmp_ne (pc := 14) (tgt := 19) dX1_readKin_14 (by decide) (fun c9 => absurd rfl c9) (fun c9 => ?_)
      refine mt_iconst (pc := 17) (v := 0) dX1_readKin_17 (by decide) ?_
      exact mt_zret rfl (Or.inl rfl) dX1_readKin_18 (Nat.le_of_ble_eq_true rfl) (Nat.le_of_ble_eq_true rfl) ⟨rfl, fun j h1 h2 => hset_ne h1, Or.inl ⟨kd, pl, by simp only [kinS, hN, sbind], rfl, ⟨_, _, hset_eq _ _ _⟩, (sl, so, K, U, Q, S, P), by simp only [CR, hset_ne, ne_eq, Nat.reduceEqDiff, not_false_eq_true]; exact hC⟩⟩
    · skip
      cases hv
      refine ⟨rfl, ?_⟩
      have hr := numS_le hp hN
      refine mt_istore_n (pc := 11) dX1_readKin_11 (Nat.le_of_ble_eq_true rfl) rfl ?_
      refine mt_iload_n (pc := 12) dX1_readKin_12 rfl ?_
      refine mt_iconst (pc := 13) (v := (-1)) dX1_readKin_13 (by decide) ?_
      refine mt_icmp_ne (pc := 14) (tgt := 19) dX1_readKin_14 (by decide) (fun c14 => ?_) (fun c14 => ?_)
      · skip
        refine mt_aload_n (pc := 19) dX1_readKin_19 rfl ?_
        refine mt_iconst (pc := 20) (v := 0) dX1_readKin_20 (by decide) ?_
        refine mt_aload_n (pc := 21) dX1_readKin_21 rfl ?_
        refine mt_get (pc := 22) gf_X1_27 dX1_readKin_22 (by first | assumption | omega) (by repeat (first | exact hset_eq _ _ _ | assumption | rw [hset_ne (by first | assumption | decide | omega)])) rfl ?_
        refine mt_iconst (pc := 25) (v := 1) dX1_readKin_25 (by decide) ?_
        refine mt_isub (pc := 26) dX1_readKin_26 ?_
        refine mt_aV (pc := 27) (c_takeNumber (d := 1) (by decide) (by omega) (Nat.le_refl 1) (by omega) (by rw [hset_ne (by decide)]; exact hB) (hset_eq _ _ _) hr.1 he) cal_X7_takeNumber vir_X7_takeNumber ml_X1_82 dX1_readKin_27 (by first | assumption | omega) (by repeat (first | exact hset_eq _ _ _ | assumption | rw [hset_ne (by first | assumption | decide | omega)])) (by first | assumption | (show _ ≤ d; omega)) ⟨(Nat.le_of_ble_eq_true rfl), (Nat.le_of_ble_eq_true rfl)⟩ rfl rfl (Nat.le_of_ble_eq_true rfl) ?_ ?_
        · rintro x9 n9 k9 h9
          simp [P_num] at h9
        · rintro v9 n9 k9 ⟨rfl, ⟨kd, pl, hN2, hv, p', s', rfl⟩ | ⟨v2, r2, hN2, hv, rfl⟩⟩
          · skip
            cases hv
            refine ⟨rfl, ?_⟩
            refine mt_istore_n (pc := 30) dX1_readKin_30 (Nat.le_of_ble_eq_true rfl) rfl ?_
            refine mt_iload_n (pc := 31) dX1_readKin_31 rfl ?_
            refine mt_iconst (pc := 32) (v := -1) dX1_readKin_32 (by decide) ?_
            refine mt_icmp_ne (pc := 33) (tgt := 38) dX1_readKin_33 (by decide) (fun c9 => absurd rfl c9) (fun c9 => ?_)
            refine mt_iconst (pc := 36) (v := 0) dX1_readKin_36 (by decide) ?_
            rw [hset_hset]
            exact mt_zret rfl (Or.inl rfl) dX1_readKin_37 (Nat.le_of_ble_eq_true rfl) (Nat.le_of_ble_eq_true rfl) ⟨rfl, fun j h1 h2 => hset_ne h1, Or.inl ⟨kd, pl, by simp only [kinS, hN, hN2, sbind], rfl, ⟨_, _, hset_eq _ _ _⟩, (sl, so, K, U, Q, S, P), by simp only [CR, hset_ne, ne_eq, Nat.reduceEqDiff, not_false_eq_true]; exact hC⟩⟩
          · skip
            cases hv
            refine ⟨rfl, ?_⟩
            have hr2 := numS_le hr.1 hN2
            have hv2 : v2 < 8 := by have := hr2.2.2; omega
            rw [hset_hset]
            refine mt_istore_n (pc := 30) dX1_readKin_30 (Nat.le_of_ble_eq_true rfl) rfl ?_
            refine mt_iload_n (pc := 31) dX1_readKin_31 rfl ?_
            refine mt_iconst (pc := 32) (v := (-1)) dX1_readKin_32 (by decide) ?_
            refine mt_icmp_ne (pc := 33) (tgt := 38) dX1_readKin_33 (by decide) (fun c33 => ?_) (fun c33 => ?_)
            · skip
              refine mt_aload_n (pc := 38) dX1_readKin_38 rfl ?_
              refine mt_get (pc := 39) gf_X1_18 dX1_readKin_39 (by first | assumption | omega) (by repeat (first | exact hset_eq _ _ _ | assumption | rw [hset_ne (by first | assumption | decide | omega)])) rfl ?_
              refine mt_iload_n (pc := 42) dX1_readKin_42 rfl ?_
              refine mt_aload_n (pc := 43) dX1_readKin_43 rfl ?_
              refine mt_iload_n (pc := 44) dX1_readKin_44 rfl ?_
              refine mt_cV (pc := 45) (c_kinOf9 (d := 1) (Nat.le_refl 1) (by omega) hv2 (by rw [hset_ne (by decide)]; exact h9) (by rw [hset_ne (by decide)]; exact h12)) cal_X1_kinOf vir_X1_kinOf ml_X1_90 dX1_readKin_45 (by first | assumption | omega) (by repeat (first | exact hset_eq _ _ _ | assumption | rw [hset_ne (by first | assumption | decide | omega)])) (by first | assumption | (show _ ≤ d; omega)) ⟨(Nat.le_of_ble_eq_true rfl), (Nat.le_of_ble_eq_true rfl)⟩ rfl rfl (Nat.le_of_ble_eq_true rfl) ?_
              refine mt_iconst (pc := 48) (v := 1) dX1_readKin_48 (by decide) ?_
              refine mt_iload_n (pc := 49) dX1_readKin_49 rfl ?_
              refine mt_ishl (pc := 50) dX1_readKin_50 ?_
              refine mt_ior (pc := 51) dX1_readKin_51 ?_
              refine mt_cN (pc := 52) (c_setEntry (d := 0) (r := 12) (n := 8) (i := nI v2) (f := Q) (by omega) (by rw [hset_ne (by decide)]; exact h12) (by decide)) cal_X10_setEntry sta_X10_setEntry mn_X1_86 dX1_readKin_52 (by first | assumption | (show _ ≤ d; omega)) ⟨(Nat.le_of_ble_eq_true rfl), (Nat.le_of_ble_eq_true rfl)⟩ rfl rfl (Nat.le_of_ble_eq_true rfl) ?_
              refine mt_iconst (pc := 55) (v := 1) dX1_readKin_55 (by decide) ?_
              refine mt_zret rfl (Or.inr rfl) dX1_readKin_56 (Nat.le_of_ble_eq_true rfl) (Nat.le_of_ble_eq_true rfl) ⟨rfl, fun j h1 h2 => ?_, Or.inr ⟨r2, (sl, so, K, U, upd Q v2 (Q v2 ||| ((1 : Int32) <<< (nI v &&& 31))), S, P), by simp only [kinS, hN, hN2, sbind], rfl, ⟨nI (sk b e r), ?_⟩, ?_, hr2.1⟩⟩
              · rw [hset_ne (by omega), hset_ne h1]
              · rw [hset_ne (by decide), hset_eq]
              · refine ⟨?_, ?_, ?_, ?_, ?_, ?_, hsl, hso⟩
                · rw [hset_ne (by decide), hset_ne (by decide)]; exact h9
                · rw [hset_ne (by decide), hset_ne (by decide)]; exact h10
                · rw [hset_ne (by decide), hset_ne (by decide)]; exact h11
                · rw [hset_eq, mm_wr_nI hv2 (by decide)]
                · rw [hset_ne (by decide), hset_ne (by decide)]; exact h13
                · rw [hset_ne (by decide), hset_ne (by decide)]; exact h14
            · exact absurd c33 (nI_m1 hr2.2.2)
      · exact absurd c14 (nI_m1 hr.2.2)
/-- one CLAUSE; tm: there are sixty already -/
def clauseS (b : Nat → Int32) (e p : Nat) (tm : Int32) (k : CS) : (Nat × Nat) ⊕ (Nat × CS) :=
  if ¬ isL (pk b e p) then .inl (1, sk b e p)
  else if WD b (sk b e p) (lt b e (sk b e p)) 1 then (if ¬ tm = 0 ∨ 8 ≤ k.1 then .inl (3, sk b e p) else slabS b e (lt b e (sk b e p)) k)
  else if WD b (sk b e p) (lt b e (sk b e p)) 2 then (if ¬ tm = 0 ∨ 6 ≤ k.2.1 then .inl (3, sk b e p) else soulS b e (lt b e (sk b e p)) k)
  else if WD b (sk b e p) (lt b e (sk b e p)) 3 then (if ¬ tm = 0 then .inl (3, sk b e p) else kinS b e (lt b e (sk b e p)) k)
  else .inl (1, sk b e p)
theorem wdi0 {b : Nat → Int32} {q r j : Nat} : wdi b q r j = 0 ↔ ¬ WD b q r j := by
  constructor
  · intro h1 h2
    rw [wdi, if_pos h2] at h1
    exact absurd h1 (by decide)
  · intro h1
    exact if_neg h1
theorem lt_le {b : Nat → Int32} {e q : Nat} (hq : q ≤ e) : q ≤ lt b e q ∧ lt b e q ≤ e := ltf_le _ _ hq
theorem CR_set1 {h : Nat → mm_E} {k : CS} {x : mm_E} (hC : CR h k) : CR (hset h 1 x) k := by
  simp only [CR, hset_ne, ne_eq, Nat.reduceEqDiff, not_false_eq_true]
  exact hC
theorem FRc_set1 {h k : Nat → mm_E} {x : mm_E} (hF : FRc (hset h 1 x) k) : FRc h k := fun j h1 h2 => by rw [hF j h1 h2, hset_ne h1]
theorem FRc_1 {h : Nat → mm_E} {x : mm_E} : FRc h (hset h 1 x) := fun j h1 _ => hset_ne h1
theorem c_readClause {e p : Nat} {tm : Int32} {k : CS} (hd : 5 ≤ d) (hx : 15 ≤ nx) (hB : h 2 = byE b) (hT : h 1 = tpE sz (nI e) (nI p) st fk fp) (hp : p ≤ e) (he : e ≤ 600) (hC : CR h k) : mm_Con G l yX1_readClause cX1_readClause 3 (some .boolean) d 0 0 [.ref 9, .ref 1, .int tm] nx h (P_rd (clauseS b e p tm k) e sz fk fp nx h) := by
  have hq := sk_le (b := b) hp
  have hr := lt_le (b := b) hq.2
  obtain ⟨h9, h10, h11, h12, h13, h14, hsl, hso⟩ := id hC
  refine mm_start (lo := [some (.ref 9), some (.ref 1), some (.int tm)]) pn_X1 rfl rfl (Nat.le_of_ble_eq_true rfl) ?_
  refine mt_aload_n (pc := 0) dX1_readClause_0 rfl ?_
  refine mt_aV (pc := 1) (c_takeWord (d := 1) (Nat.le_refl 1) (by omega) hB hT hp he) cal_X7_takeWord vir_X7_takeWord ml_X1_56 dX1_readClause_1 (by first | assumption | omega) (by repeat (first | exact hset_eq _ _ _ | assumption | rw [hset_ne (by first | assumption | decide | omega)])) (by first | assumption | (show _ ≤ d; omega)) ⟨(Nat.le_of_ble_eq_true rfl), (Nat.le_of_ble_eq_true rfl)⟩ rfl rfl (Nat.le_of_ble_eq_true rfl) ?_ ?_
  · rintro x9 n9 k9 h9
    simp [P_word] at h9
  · rintro v9 n9 k9 ⟨rfl, ⟨hL, hv, rfl⟩ | ⟨hL, hv, rfl⟩⟩
    · skip
      cases hv
      refine ⟨rfl, ?_⟩
      have hS0 : clauseS b e p tm k = if WD b (sk b e p) (lt b e (sk b e p)) 1 then (if ¬ tm = 0 ∨ 8 ≤ k.1 then .inl (3, sk b e p) else slabS b e (lt b e (sk b e p)) k)
        else if WD b (sk b e p) (lt b e (sk b e p)) 2 then (if ¬ tm = 0 ∨ 6 ≤ k.2.1 then .inl (3, sk b e p) else soulS b e (lt b e (sk b e p)) k)
        else if WD b (sk b e p) (lt b e (sk b e p)) 3 then (if ¬ tm = 0 then .inl (3, sk b e p) else kinS b e (lt b e (sk b e p)) k)
        else .inl (1, sk b e p) := by rw [clauseS, if_neg (fun z => z hL)]
      refine mt_if_ne (pc := 4) (tgt := 9) dX1_readClause_4 (by decide) (fun c4 => ?_) (fun c4 => ?_)
      · skip
        refine mt_aload_n (pc := 9) dX1_readClause_9 rfl ?_
        refine mt_ldcS (pc := 10) (tx := "slab") (j := 1) (by decide +kernel) dX1_readClause_10 ?_
        refine mt_cV (pc := 12) (c_wordIs (d := 4) (Nat.le_refl 4) (by omega) (by decide) (by rw [hset_ne (by decide)]; exact hB) (hset_eq _ _ _) hr.1 (by omega)) cal_X7_wordIs vir_X7_wordIs ml_X1_62 dX1_readClause_12 (by first | assumption | omega) (by repeat (first | exact hset_eq _ _ _ | assumption | rw [hset_ne (by first | assumption | decide | omega)])) (by first | assumption | (show _ ≤ d; omega)) ⟨(Nat.le_of_ble_eq_true rfl), (Nat.le_of_ble_eq_true rfl)⟩ rfl rfl (Nat.le_of_ble_eq_true rfl) ?_
        refine mt_if_eq (pc := 15) (tgt := 45) dX1_readClause_15 (by decide) (fun c15 => ?_) (fun c15 => ?_)
        · skip
          rw [if_neg (wdi0.mp c15)] at hS0
          refine mt_aload_n (pc := 45) dX1_readClause_45 rfl ?_
          refine mt_ldcS (pc := 46) (tx := "soul") (j := 2) (by decide +kernel) dX1_readClause_46 ?_
          refine mt_cV (pc := 48) (c_wordIs (d := 4) (Nat.le_refl 4) (by omega) (by decide) (by rw [hset_ne (by decide)]; exact hB) (hset_eq _ _ _) hr.1 (by omega)) cal_X7_wordIs vir_X7_wordIs ml_X1_62 dX1_readClause_48 (by first | assumption | omega) (by repeat (first | exact hset_eq _ _ _ | assumption | rw [hset_ne (by first | assumption | decide | omega)])) (by first | assumption | (show _ ≤ d; omega)) ⟨(Nat.le_of_ble_eq_true rfl), (Nat.le_of_ble_eq_true rfl)⟩ rfl rfl (Nat.le_of_ble_eq_true rfl) ?_
          refine mt_if_eq (pc := 51) (tgt := 81) dX1_readClause_51 (by decide) (fun c51 => ?_) (fun c51 => ?_)
          · skip
            rw [if_neg (wdi0.mp c51)] at hS0
            refine mt_aload_n (pc := 81) dX1_readClause_81 rfl ?_
            refine mt_ldcS (pc := 82) (tx := "kin") (j := 3) (by decide +kernel) dX1_readClause_82 ?_
            refine mt_cV (pc := 84) (c_wordIs (d := 4) (Nat.le_refl 4) (by omega) (by decide) (by rw [hset_ne (by decide)]; exact hB) (hset_eq _ _ _) hr.1 (by omega)) cal_X7_wordIs vir_X7_wordIs ml_X1_62 dX1_readClause_84 (by first | assumption | omega) (by repeat (first | exact hset_eq _ _ _ | assumption | rw [hset_ne (by first | assumption | decide | omega)])) (by first | assumption | (show _ ≤ d; omega)) ⟨(Nat.le_of_ble_eq_true rfl), (Nat.le_of_ble_eq_true rfl)⟩ rfl rfl (Nat.le_of_ble_eq_true rfl) ?_
            refine mt_if_eq (pc := 87) (tgt := 108) dX1_readClause_87 (by decide) (fun c87 => ?_) (fun c87 => ?_)
            · skip
              rw [if_neg (wdi0.mp c87)] at hS0
              refine mt_aload_n (pc := 108) dX1_readClause_108 rfl ?_
              refine mt_iconst (pc := 109) (v := 1) dX1_readClause_109 (by decide) ?_
              refine mt_cV (pc := 110) (c_failAtStart (d := 0) (by omega) (hset_eq _ _ _)) cal_X7_failAtStart vir_X7_failAtStart ml_X1_66 dX1_readClause_110 (by first | assumption | omega) (by repeat (first | exact hset_eq _ _ _ | assumption | rw [hset_ne (by first | assumption | decide | omega)])) (by first | assumption | (show _ ≤ d; omega)) ⟨(Nat.le_of_ble_eq_true rfl), (Nat.le_of_ble_eq_true rfl)⟩ rfl rfl (Nat.le_of_ble_eq_true rfl) ?_
              rw [hset_hset]
              exact mt_zret rfl (by first | exact Or.inl rfl | exact Or.inr rfl) dX1_readClause_113 (Nat.le_of_ble_eq_true rfl) (Nat.le_of_ble_eq_true rfl) ⟨rfl, FRc_1, Or.inl ⟨1, sk b e p, hS0, rfl, ⟨_, _, hset_eq _ _ _⟩, k, CR_set1 hC⟩⟩
            · skip
              rw [if_pos (Classical.not_not.mp fun z => c87 (wdi0.mpr z))] at hS0
              refine mt_iload_n (pc := 90) dX1_readClause_90 rfl ?_
              refine mt_if_eq (pc := 91) (tgt := 102) dX1_readClause_91 (by decide) (fun c91 => ?_) (fun c91 => ?_)
              · skip
                rw [if_neg (fun z => z c91)] at hS0
                refine mt_aload_n (pc := 102) dX1_readClause_102 rfl ?_
                refine mt_aload_n (pc := 103) dX1_readClause_103 rfl ?_
                refine mt_aV (pc := 104) (c_readKin (d := 2) (Nat.le_refl 2) hx (by rw [hset_ne (by decide)]; exact hB) (hset_eq _ _ _) hr.2 he (CR_set1 hC)) cal_X1_readKin vir_X1_readKin ml_X1_79 dX1_readClause_104 (by first | assumption | omega) (by repeat (first | exact hset_eq _ _ _ | assumption | rw [hset_ne (by first | assumption | decide | omega)])) (by first | assumption | (show _ ≤ d; omega)) ⟨(Nat.le_of_ble_eq_true rfl), (Nat.le_of_ble_eq_true rfl)⟩ rfl rfl (Nat.le_of_ble_eq_true rfl) ?_ ?_
                · rintro x9 n9 k9 h9
                  simp [P_rd] at h9
                · rintro v9 n9 k9 ⟨rfl, hF, ⟨kd, pl, hS, hv, hT2, hC2⟩ | ⟨r2, c2, hS, hv, hT2, hC2, hr2⟩⟩
                  · skip
                    cases hv
                    refine ⟨rfl, ?_⟩
                    exact mt_zret rfl (Or.inl rfl) dX1_readClause_107 (Nat.le_of_ble_eq_true rfl) (Nat.le_of_ble_eq_true rfl) ⟨rfl, FRc_set1 hF, Or.inl ⟨kd, pl, hS0.trans hS, rfl, hT2, hC2⟩⟩
                  · skip
                    cases hv
                    refine ⟨rfl, ?_⟩
                    exact mt_zret rfl (Or.inr rfl) dX1_readClause_107 (Nat.le_of_ble_eq_true rfl) (Nat.le_of_ble_eq_true rfl) ⟨rfl, FRc_set1 hF, Or.inr ⟨r2, c2, hS0.trans hS, rfl, hT2, hC2, hr2⟩⟩
              · skip
                rw [if_pos c91] at hS0
                refine mt_aload_n (pc := 94) dX1_readClause_94 rfl ?_
                refine mt_iconst (pc := 95) (v := 3) dX1_readClause_95 (by decide) ?_
                refine mt_cV (pc := 96) (c_failAtStart (d := 0) (by omega) (hset_eq _ _ _)) cal_X7_failAtStart vir_X7_failAtStart ml_X1_66 dX1_readClause_96 (by first | assumption | omega) (by repeat (first | exact hset_eq _ _ _ | assumption | rw [hset_ne (by first | assumption | decide | omega)])) (by first | assumption | (show _ ≤ d; omega)) ⟨(Nat.le_of_ble_eq_true rfl), (Nat.le_of_ble_eq_true rfl)⟩ rfl rfl (Nat.le_of_ble_eq_true rfl) ?_
                rw [hset_hset]
                refine mt_goto (tgt := 107) dX1_readClause_99 (by decide) ?_
                exact mt_zret rfl (Or.inl rfl) dX1_readClause_107 (Nat.le_of_ble_eq_true rfl) (Nat.le_of_ble_eq_true rfl) ⟨rfl, FRc_1, Or.inl ⟨3, sk b e p, hS0, rfl, ⟨_, _, hset_eq _ _ _⟩, k, CR_set1 hC⟩⟩
          · skip
            rw [if_pos (Classical.not_not.mp fun z => c51 (wdi0.mpr z))] at hS0
            refine mt_iload_n (pc := 54) dX1_readClause_54 rfl ?_
            refine mt_if_ne (pc := 55) (tgt := 67) dX1_readClause_55 (by decide) (fun c55 => ?_) (fun c55 => ?_)
            · skip
              rw [if_pos (Or.inl c55)] at hS0
              refine mt_aload_n (pc := 67) dX1_readClause_67 rfl ?_
              refine mt_iconst (pc := 68) (v := 3) dX1_readClause_68 (by decide) ?_
              refine mt_cV (pc := 69) (c_failAtStart (d := 0) (by omega) (hset_eq _ _ _)) cal_X7_failAtStart vir_X7_failAtStart ml_X1_66 dX1_readClause_69 (by first | assumption | omega) (by repeat (first | exact hset_eq _ _ _ | assumption | rw [hset_ne (by first | assumption | decide | omega)])) (by first | assumption | (show _ ≤ d; omega)) ⟨(Nat.le_of_ble_eq_true rfl), (Nat.le_of_ble_eq_true rfl)⟩ rfl rfl (Nat.le_of_ble_eq_true rfl) ?_
              rw [hset_hset]
              refine mt_goto (tgt := 80) dX1_readClause_72 (by decide) ?_
              exact mt_zret rfl (Or.inl rfl) dX1_readClause_80 (Nat.le_of_ble_eq_true rfl) (Nat.le_of_ble_eq_true rfl) ⟨rfl, FRc_1, Or.inl ⟨3, sk b e p, hS0, rfl, ⟨_, _, hset_eq _ _ _⟩, k, CR_set1 hC⟩⟩
            · skip
              refine mt_aload_n (pc := 58) dX1_readClause_58 rfl ?_
              refine mt_get (pc := 59) gf_X1_31 dX1_readClause_59 (by first | assumption | omega) (by repeat (first | exact hset_eq _ _ _ | assumption | rw [hset_ne (by first | assumption | decide | omega)])) rfl ?_
              refine mt_bipush (pc := 62) (v := 6) dX1_readClause_62 (by decide) ?_
              refine mt_icmp_lt (pc := 64) (tgt := 75) dX1_readClause_64 (by decide) (fun c64 => ?_) (fun c64 => ?_)
              · skip
                have hk : k.2.1 < 6 := Nat.lt_of_not_le fun z => (nI_nlt (a := k.2.1) (b := 6) z (by omega)) c64
                rw [if_neg (fun z => z.elim (fun z => z c55) (fun z => absurd z (Nat.not_le.mpr hk)))] at hS0
                refine mt_aload_n (pc := 75) dX1_readClause_75 rfl ?_
                refine mt_aload_n (pc := 76) dX1_readClause_76 rfl ?_
                refine mt_aV (pc := 77) (c_readSoul (d := 2) (Nat.le_refl 2) hx (by rw [hset_ne (by decide)]; exact hB) (hset_eq _ _ _) hr.2 he (CR_set1 hC) hk) cal_X1_readSoul vir_X1_readSoul ml_X1_75 dX1_readClause_77 (by first | assumption | omega) (by repeat (first | exact hset_eq _ _ _ | assumption | rw [hset_ne (by first | assumption | decide | omega)])) (by first | assumption | (show _ ≤ d; omega)) ⟨(Nat.le_of_ble_eq_true rfl), (Nat.le_of_ble_eq_true rfl)⟩ rfl rfl (Nat.le_of_ble_eq_true rfl) ?_ ?_
                · rintro x9 n9 k9 h9
                  simp [P_rd] at h9
                · rintro v9 n9 k9 ⟨rfl, hF, ⟨kd, pl, hS, hv, hT2, hC2⟩ | ⟨r2, c2, hS, hv, hT2, hC2, hr2⟩⟩
                  · skip
                    cases hv
                    refine ⟨rfl, ?_⟩
                    exact mt_zret rfl (Or.inl rfl) dX1_readClause_80 (Nat.le_of_ble_eq_true rfl) (Nat.le_of_ble_eq_true rfl) ⟨rfl, FRc_set1 hF, Or.inl ⟨kd, pl, hS0.trans hS, rfl, hT2, hC2⟩⟩
                  · skip
                    cases hv
                    refine ⟨rfl, ?_⟩
                    exact mt_zret rfl (Or.inr rfl) dX1_readClause_80 (Nat.le_of_ble_eq_true rfl) (Nat.le_of_ble_eq_true rfl) ⟨rfl, FRc_set1 hF, Or.inr ⟨r2, c2, hS0.trans hS, rfl, hT2, hC2, hr2⟩⟩
              · skip
                rw [if_pos (Or.inr (Nat.le_of_not_lt fun z => c64 (nI_lt (b := 6) z (by decide))))] at hS0
                refine mt_aload_n (pc := 67) dX1_readClause_67 rfl ?_
                refine mt_iconst (pc := 68) (v := 3) dX1_readClause_68 (by decide) ?_
                refine mt_cV (pc := 69) (c_failAtStart (d := 0) (by omega) (hset_eq _ _ _)) cal_X7_failAtStart vir_X7_failAtStart ml_X1_66 dX1_readClause_69 (by first | assumption | omega) (by repeat (first | exact hset_eq _ _ _ | assumption | rw [hset_ne (by first | assumption | decide | omega)])) (by first | assumption | (show _ ≤ d; omega)) ⟨(Nat.le_of_ble_eq_true rfl), (Nat.le_of_ble_eq_true rfl)⟩ rfl rfl (Nat.le_of_ble_eq_true rfl) ?_
                rw [hset_hset]
                refine mt_goto (tgt := 80) dX1_readClause_72 (by decide) ?_
                exact mt_zret rfl (Or.inl rfl) dX1_readClause_80 (Nat.le_of_ble_eq_true rfl) (Nat.le_of_ble_eq_true rfl) ⟨rfl, FRc_1, Or.inl ⟨3, sk b e p, hS0, rfl, ⟨_, _, hset_eq _ _ _⟩, k, CR_set1 hC⟩⟩
        · skip
          rw [if_pos (Classical.not_not.mp fun z => c15 (wdi0.mpr z))] at hS0
          refine mt_iload_n (pc := 18) dX1_readClause_18 rfl ?_
          refine mt_if_ne (pc := 19) (tgt := 31) dX1_readClause_19 (by decide) (fun c19 => ?_) (fun c19 => ?_)
          · skip
            rw [if_pos (Or.inl c19)] at hS0
            refine mt_aload_n (pc := 31) dX1_readClause_31 rfl ?_
            refine mt_iconst (pc := 32) (v := 3) dX1_readClause_32 (by decide) ?_
            refine mt_cV (pc := 33) (c_failAtStart (d := 0) (by omega) (hset_eq _ _ _)) cal_X7_failAtStart vir_X7_failAtStart ml_X1_66 dX1_readClause_33 (by first | assumption | omega) (by repeat (first | exact hset_eq _ _ _ | assumption | rw [hset_ne (by first | assumption | decide | omega)])) (by first | assumption | (show _ ≤ d; omega)) ⟨(Nat.le_of_ble_eq_true rfl), (Nat.le_of_ble_eq_true rfl)⟩ rfl rfl (Nat.le_of_ble_eq_true rfl) ?_
            rw [hset_hset]
            refine mt_goto (tgt := 44) dX1_readClause_36 (by decide) ?_
            exact mt_zret rfl (Or.inl rfl) dX1_readClause_44 (Nat.le_of_ble_eq_true rfl) (Nat.le_of_ble_eq_true rfl) ⟨rfl, FRc_1, Or.inl ⟨3, sk b e p, hS0, rfl, ⟨_, _, hset_eq _ _ _⟩, k, CR_set1 hC⟩⟩
          · skip
            refine mt_aload_n (pc := 22) dX1_readClause_22 rfl ?_
            refine mt_get (pc := 23) gf_X1_27 dX1_readClause_23 (by first | assumption | omega) (by repeat (first | exact hset_eq _ _ _ | assumption | rw [hset_ne (by first | assumption | decide | omega)])) rfl ?_
            refine mt_bipush (pc := 26) (v := 8) dX1_readClause_26 (by decide) ?_
            refine mt_icmp_lt (pc := 28) (tgt := 39) dX1_readClause_28 (by decide) (fun c28 => ?_) (fun c28 => ?_)
            · skip
              have hk : k.1 < 8 := Nat.lt_of_not_le fun z => (nI_nlt (a := k.1) (b := 8) z (by omega)) c28
              rw [if_neg (fun z => z.elim (fun z => z c19) (fun z => absurd z (Nat.not_le.mpr hk)))] at hS0
              refine mt_aload_n (pc := 39) dX1_readClause_39 rfl ?_
              refine mt_aload_n (pc := 40) dX1_readClause_40 rfl ?_
              refine mt_aV (pc := 41) (c_readSlab (d := 2) (Nat.le_refl 2) hx (by rw [hset_ne (by decide)]; exact hB) (hset_eq _ _ _) hr.2 he (CR_set1 hC) hk) cal_X1_readSlab vir_X1_readSlab ml_X1_69 dX1_readClause_41 (by first | assumption | omega) (by repeat (first | exact hset_eq _ _ _ | assumption | rw [hset_ne (by first | assumption | decide | omega)])) (by first | assumption | (show _ ≤ d; omega)) ⟨(Nat.le_of_ble_eq_true rfl), (Nat.le_of_ble_eq_true rfl)⟩ rfl rfl (Nat.le_of_ble_eq_true rfl) ?_ ?_
              · rintro x9 n9 k9 h9
                simp [P_rd] at h9
              · rintro v9 n9 k9 ⟨rfl, hF, ⟨kd, pl, hS, hv, hT2, hC2⟩ | ⟨r2, c2, hS, hv, hT2, hC2, hr2⟩⟩
                · skip
                  cases hv
                  refine ⟨rfl, ?_⟩
                  exact mt_zret rfl (Or.inl rfl) dX1_readClause_44 (Nat.le_of_ble_eq_true rfl) (Nat.le_of_ble_eq_true rfl) ⟨rfl, FRc_set1 hF, Or.inl ⟨kd, pl, hS0.trans hS, rfl, hT2, hC2⟩⟩
                · skip
                  cases hv
                  refine ⟨rfl, ?_⟩
                  exact mt_zret rfl (Or.inr rfl) dX1_readClause_44 (Nat.le_of_ble_eq_true rfl) (Nat.le_of_ble_eq_true rfl) ⟨rfl, FRc_set1 hF, Or.inr ⟨r2, c2, hS0.trans hS, rfl, hT2, hC2, hr2⟩⟩
            · skip
              rw [if_pos (Or.inr (Nat.le_of_not_lt fun z => c28 (nI_lt (b := 8) z (by decide))))] at hS0
              refine mt_aload_n (pc := 31) dX1_readClause_31 rfl ?_
              refine mt_iconst (pc := 32) (v := 3) dX1_readClause_32 (by decide) ?_
              refine mt_cV (pc := 33) (c_failAtStart (d := 0) (by omega) (hset_eq _ _ _)) cal_X7_failAtStart vir_X7_failAtStart ml_X1_66 dX1_readClause_33 (by first | assumption | omega) (by repeat (first | exact hset_eq _ _ _ | assumption | rw [hset_ne (by first | assumption | decide | omega)])) (by first | assumption | (show _ ≤ d; omega)) ⟨(Nat.le_of_ble_eq_true rfl), (Nat.le_of_ble_eq_true rfl)⟩ rfl rfl (Nat.le_of_ble_eq_true rfl) ?_
              rw [hset_hset]
              refine mt_goto (tgt := 44) dX1_readClause_36 (by decide) ?_
              exact mt_zret rfl (Or.inl rfl) dX1_readClause_44 (Nat.le_of_ble_eq_true rfl) (Nat.le_of_ble_eq_true rfl) ⟨rfl, FRc_1, Or.inl ⟨3, sk b e p, hS0, rfl, ⟨_, _, hset_eq _ _ _⟩, k, CR_set1 hC⟩⟩
      · exact absurd c4 (by decide)
    · skip
      cases hv
      refine ⟨rfl, ?_⟩
      refine mt_if_ne (pc := 4) (tgt := 9) dX1_readClause_4 (by decide) (fun c4 => absurd rfl c4) (fun c4 => ?_)
      refine mt_iconst (pc := 7) (v := 0) dX1_readClause_7 (by decide) ?_
      exact mt_zret rfl (Or.inl rfl) dX1_readClause_8 (Nat.le_of_ble_eq_true rfl) (Nat.le_of_ble_eq_true rfl) ⟨rfl, FRc_1, Or.inl ⟨1, sk b e p, by rw [clauseS, if_pos hL], rfl, ⟨_, _, hset_eq _ _ _⟩, k, CR_set1 hC⟩⟩
/-- the CLAUSES from the c-th on, m at most -/
def cntS (b : Nat → Int32) (e : Nat) : Nat → Nat → Nat → CS → (Nat × Nat) ⊕ CS
  | 0, _, _, k => .inr k
  | m + 1, c, p, k => if sk b e p = e then .inr k else
    match clauseS b e p (if c < 60 then 0 else 1) k with
    | .inl x => .inl x
    | .inr (r, k') => if pk b e r = 59 then cntS b e m (c + 1) (sk b e r + 1) k' else .inl (1, sk b e r)
def P_rc (S : (Nat × Nat) ⊕ CS) (e : Nat) (sz fk fp : Int32) (nx : Nat) (h : Nat → mm_E) : mm_P := fun o n k => n = nx ∧ FRc h k ∧
  ((∃ kd pl, S = .inl (kd, pl) ∧ o = .inl (some (.int 0)) ∧ (∃ p' s', k 1 = tpE sz (nI e) p' s' (nI kd) (nI pl)) ∧ ∃ c, CR k c) ∨
  (∃ c, S = .inr c ∧ o = .inl (some (.int 1)) ∧ (∃ p' s', k 1 = tpE sz (nI e) p' s' fk fp) ∧ CR k c))
theorem skf_skf {b : Nat → Int32} {e : Nat} : ∀ k p, p + k = e → skf b e (e - skf b e k p) (skf b e k p) = skf b e k p
  | 0, p, h => by
    simp only [skf]
    rw [show e - p = 0 by omega]
    rfl
  | k + 1, p, h => by
    simp only [skf]
    by_cases hc : p < e ∧ b p = 32
    · rw [if_pos hc]
      exact skf_skf k (p + 1) (by omega)
    · rw [if_neg hc, show e - p = k + 1 by omega]
      simp only [skf]
      rw [if_neg hc]
theorem sk_sk {b : Nat → Int32} {e p : Nat} (hp : p ≤ e) : sk b e (sk b e p) = sk b e p := skf_skf _ _ (by omega)
theorem pk_sk {b : Nat → Int32} {e p : Nat} (hp : p ≤ e) : pk b e (sk b e p) = pk b e p := by simp only [pk, sk_sk hp]
theorem clauseS_sk {b : Nat → Int32} {e p : Nat} {tm : Int32} {k : CS} (hp : p ≤ e) : clauseS b e (sk b e p) tm k = clauseS b e p tm k := by simp only [clauseS, sk_sk hp, pk_sk hp]
theorem FRc_trans {h k m : Nat → mm_E} (h1 : FRc h k) (h2 : FRc k m) : FRc h m := fun j a c => (h2 j a c).trans (h1 j a c)
theorem pk59 {b : Nat → Int32} {e p : Nat} (hp : p ≤ e) (h : pk b e p = 59) : sk b e p < e := by
  have hq := sk_le (b := b) hp
  rcases Nat.lt_or_ge (sk b e p) e with z | z
  · exact z
  · rw [pk, if_neg (by omega)] at h
    exact absurd h (by decide)
theorem c_cread {e : Nat} {K0 : CS} {so0 sl0 : Int32} (hd : 6 ≤ d) (hx : 15 ≤ nx) (hB : h 2 = byE b) (hT : h 1 = tpE sz (nI e) (nI 0) st fk fp) (he : e ≤ 600) (hC : CR h K0) : mm_Con G l yX1_read cX1_read 3 (some .boolean) d 0 0 [.ref 9, .ref 1] nx h (P_rc (cntS b e 61 0 0 (0, 0, K0.2.2)) e sz fk fp nx h) := by
  have loop : ∀ (m c p : Nat) (k : CS) (h' : Nat → mm_E) (st' : Int32), c + m = 61 → p ≤ e → FRc h h' → h' 1 = tpE sz (nI e) (nI p) st' fk fp → CR h' k → cntS b e 61 0 0 (0, 0, K0.2.2) = cntS b e m c p k → mm_T (G, l, yX1_read, 3, some .boolean, d, 0, 0, P_rc (cntS b e 61 0 0 (0, 0, K0.2.2)) e sz fk fp nx h, nx) RX1 cX1_read nx h' 0 0 12 [some (.ref 9), some (.ref 1), some (.int (nI c))] [] := by
    intro m
    induction m with
    | zero =>
      intro c p k h' st' hc hp hF hT' hC' hS
      obtain rfl : c = 61 := by omega
      refine mt_iload_n (pc := 12) dX1_read_12 rfl ?_
      refine mt_bipush (pc := 13) (v := 60) dX1_read_13 (by decide) ?_
      refine mt_icmp_gt (pc := 15) (tgt := 62) dX1_read_15 (by decide) (fun c15 => ?_) (fun c15 => ?_)
      · skip
        refine mt_iconst (pc := 62) (v := 1) dX1_read_62 (by decide) ?_
        exact mt_zret rfl (by first | exact Or.inl rfl | exact Or.inr rfl) dX1_read_63 (Nat.le_of_ble_eq_true rfl) (Nat.le_of_ble_eq_true rfl) ⟨rfl, hF, Or.inr ⟨k, hS, rfl, ⟨_, _, hT'⟩, hC'⟩⟩
      · exact absurd (nI_lt (a := 60) (b := 61) (by decide) (by decide)) c15
    | succ m ih =>
      intro c p k h' st' hc hp hF hT' hC' hS
      have hB' : h' 2 = byE b := (hF 2 (by decide) (by decide)).trans hB
      have hq := sk_le (b := b) hp
      obtain ⟨h9', -⟩ := id hC'
      refine mt_iload_n (pc := 12) dX1_read_12 rfl ?_
      refine mt_bipush (pc := 13) (v := 60) dX1_read_13 (by decide) ?_
      refine mt_icmp_gt (pc := 15) (tgt := 62) dX1_read_15 (by decide) (fun c15 => ?_) (fun c15 => ?_)
      · exact absurd c15 (nI_nlt (a := 60) (by omega) (by omega))
      · skip
        refine mt_aload_n (pc := 18) dX1_read_18 rfl ?_
        refine mt_cV (pc := 19) (c_peek (d := 0) (by omega) hB' hT' hp he) cal_X7_peek vir_X7_peek ml_X1_42 dX1_read_19 (by first | assumption | omega) (by repeat (first | exact hset_eq _ _ _ | assumption | rw [hset_ne (by first | assumption | decide | omega)])) (by first | assumption | (show _ ≤ d; omega)) ⟨(Nat.le_of_ble_eq_true rfl), (Nat.le_of_ble_eq_true rfl)⟩ rfl rfl (Nat.le_of_ble_eq_true rfl) ?_
        refine mt_iconst (pc := 22) (v := (-1)) dX1_read_22 (by decide) ?_
        refine mt_icmp_eq (pc := 23) (tgt := 62) dX1_read_23 (by decide) (fun c23 => ?_) (fun c23 => ?_)
        · skip
          have hk := (pk_none hp).mp c23
          have hS1 : cntS b e (m + 1) c p k = .inr k := by rw [cntS, if_pos hk]
          refine mt_iconst (pc := 62) (v := 1) dX1_read_62 (by decide) ?_
          exact mt_zret rfl (by first | exact Or.inl rfl | exact Or.inr rfl) dX1_read_63 (Nat.le_of_ble_eq_true rfl) (Nat.le_of_ble_eq_true rfl) ⟨rfl, FRc_trans hF FRc_1, Or.inr ⟨k, hS.trans hS1, rfl, ⟨_, _, hset_eq _ _ _⟩, CR_set1 hC'⟩⟩
        · skip
          have hk : ¬ sk b e p = e := fun z => c23 ((pk_none hp).mpr z)
          have hS1 : cntS b e (m + 1) c p k = match clauseS b e p (if c < 60 then 0 else 1) k with
              | .inl x => .inl x
              | .inr (r, k') => if pk b e r = 59 then cntS b e m (c + 1) (sk b e r + 1) k' else .inl (1, sk b e r) := by rw [cntS, if_neg hk]
          have skk : sk b e (sk b e p) = sk b e p := sk_sk hp
          have pkk : pk b e (sk b e p) = pk b e p := by simp only [pk, skk]
          refine mt_aload_n (pc := 26) dX1_read_26 rfl ?_
          refine mt_aload_n (pc := 27) dX1_read_27 rfl ?_
          refine mt_iload_n (pc := 28) dX1_read_28 rfl ?_
          refine mt_bipush (pc := 29) (v := 60) dX1_read_29 (by decide) ?_
          refine mt_icmp_lt (pc := 31) (tgt := 38) dX1_read_31 (by decide) (fun c31 => ?_) (fun c31 => ?_)
          · skip
            have hct : c < 60 := (nI_ltI (by omega) (by decide)).mp c31
            rw [if_pos hct] at hS1
            refine mt_iconst (pc := 38) (v := 0) dX1_read_38 (by decide) ?_
            refine mt_aV (pc := 39) (c_readClause (d := 5) (p := sk b e p) (Nat.le_refl 5) hx (by rw [hset_ne (by decide)]; exact hB') (hset_eq _ _ _) hq.2 he (CR_set1 hC')) cal_X1_readClause vir_X1_readClause ml_X1_48 dX1_read_39 (by first | assumption | omega) (by rw [hset_ne (by decide)]; exact h9') (by first | assumption | (show _ ≤ d; omega)) ⟨(Nat.le_of_ble_eq_true rfl), (Nat.le_of_ble_eq_true rfl)⟩ rfl rfl (Nat.le_of_ble_eq_true rfl) ?_ ?_
            · rintro x9 n9 k9 h9
              simp [P_rd] at h9
            · rintro v9 n9 k9 ⟨rfl, hF2, ⟨kd, pl, hS2, hv, hT2, hC2⟩ | ⟨r2, k2, hS2, hv, ⟨s2, hT2⟩, hC2, hr2⟩⟩
              · skip
                cases hv
                refine ⟨rfl, ?_⟩
                refine mt_if_eq (pc := 42) (tgt := 54) dX1_read_42 (by decide) (fun c42 => ?_) (fun c42 => absurd rfl c42)
                refine mt_iconst (pc := 54) (v := 0) dX1_read_54 (by decide) ?_
                rw [clauseS_sk hp] at hS2
                rw [hS2] at hS1
                exact mt_zret rfl (Or.inl rfl) dX1_read_55 (Nat.le_of_ble_eq_true rfl) (Nat.le_of_ble_eq_true rfl) ⟨rfl, FRc_trans hF (FRc_set1 hF2), Or.inl ⟨kd, pl, hS.trans hS1, rfl, hT2, hC2⟩⟩
              · skip
                cases hv
                refine ⟨rfl, ?_⟩
                rw [clauseS_sk hp] at hS2
                rw [hS2] at hS1
                dsimp only at hS1
                have hB2 : k9 2 = byE b := (hF2 2 (by decide) (by decide)).trans (by rw [hset_ne (by decide)]; exact hB')
                have hF3 : FRc h k9 := FRc_trans hF (FRc_set1 hF2)
                refine mt_if_eq (pc := 42) (tgt := 54) dX1_read_42 (by decide) (fun c42 => ?_) (fun c42 => ?_)
                · exact absurd c42 (by decide)
                · skip
                  refine mt_aload_n (pc := 45) dX1_read_45 rfl ?_
                  refine mt_bipush (pc := 46) (v := 59) dX1_read_46 (by decide) ?_
                  refine mt_aV (pc := 48) (c_takeSign (d := 1) (Nat.le_refl 1) (by omega) hB2 hT2 hr2 he) cal_X7_takeSign vir_X7_takeSign ml_X1_52 dX1_read_48 (by first | assumption | omega) (by repeat (first | exact hset_eq _ _ _ | assumption | rw [hset_ne (by first | assumption | decide | omega)])) (by first | assumption | (show _ ≤ d; omega)) ⟨(Nat.le_of_ble_eq_true rfl), (Nat.le_of_ble_eq_true rfl)⟩ rfl rfl (Nat.le_of_ble_eq_true rfl) ?_ ?_
                  · rintro x9 n9 k9 h9
                    simp [P_sign] at h9
                  · rintro v9 n9 k9 ⟨rfl, ⟨hp9, hv, rfl⟩ | ⟨hp9, hv, rfl⟩⟩
                    · skip
                      cases hv
                      refine ⟨rfl, ?_⟩
                      refine mt_if_ne (pc := 51) (tgt := 56) dX1_read_51 (by decide) (fun c51 => ?_) (fun c51 => ?_)
                      · skip
                        refine mt_iinc (pc := 56) (c9 := 1) dX1_read_56 rfl (by decide) (Nat.le_of_ble_eq_true rfl) rfl ?_
                        refine mt_goto (tgt := 12) dX1_read_59 (by decide) ?_
                        rw [show (nI c + 1 : Int32) = nI (c + 1) from nI_1 c]
                        rw [if_pos hp9] at hS1
                        exact ih (c + 1) (sk b e r2 + 1) k2 _ s2 (by omega) (pk59 hr2 hp9) (FRc_trans hF3 FRc_1) (hset_eq _ _ _) (CR_set1 hC2) (hS.trans hS1)
                      · exact absurd c51 (by decide)
                    · skip
                      cases hv
                      refine ⟨rfl, ?_⟩
                      refine mt_if_ne (pc := 51) (tgt := 56) dX1_read_51 (by decide) (fun c51 => absurd rfl c51) (fun c51 => ?_)
                      refine mt_iconst (pc := 54) (v := 0) dX1_read_54 (by decide) ?_
                      rw [if_neg hp9] at hS1
                      exact mt_zret rfl (Or.inl rfl) dX1_read_55 (Nat.le_of_ble_eq_true rfl) (Nat.le_of_ble_eq_true rfl) ⟨rfl, FRc_trans hF3 FRc_1, Or.inl ⟨1, sk b e r2, hS.trans hS1, rfl, ⟨_, _, hset_eq _ _ _⟩, k2, CR_set1 hC2⟩⟩
          · skip
            have hct : ¬ c < 60 := fun z => c31 (nI_lt (b := 60) z (by decide))
            rw [if_neg hct] at hS1
            refine mt_iconst (pc := 34) (v := 1) dX1_read_34 (by decide) ?_
            refine mt_goto (pc := 35) (tgt := 39) dX1_read_35 (by decide) ?_
            refine mt_aV (pc := 39) (c_readClause (d := 5) (p := sk b e p) (Nat.le_refl 5) hx (by rw [hset_ne (by decide)]; exact hB') (hset_eq _ _ _) hq.2 he (CR_set1 hC')) cal_X1_readClause vir_X1_readClause ml_X1_48 dX1_read_39 (by first | assumption | omega) (by rw [hset_ne (by decide)]; exact h9') (by first | assumption | (show _ ≤ d; omega)) ⟨(Nat.le_of_ble_eq_true rfl), (Nat.le_of_ble_eq_true rfl)⟩ rfl rfl (Nat.le_of_ble_eq_true rfl) ?_ ?_
            · rintro x9 n9 k9 h9
              simp [P_rd] at h9
            · rintro v9 n9 k9 ⟨rfl, hF2, ⟨kd, pl, hS2, hv, hT2, hC2⟩ | ⟨r2, k2, hS2, hv, ⟨s2, hT2⟩, hC2, hr2⟩⟩
              · skip
                cases hv
                refine ⟨rfl, ?_⟩
                refine mt_if_eq (pc := 42) (tgt := 54) dX1_read_42 (by decide) (fun c42 => ?_) (fun c42 => absurd rfl c42)
                refine mt_iconst (pc := 54) (v := 0) dX1_read_54 (by decide) ?_
                rw [clauseS_sk hp] at hS2
                rw [hS2] at hS1
                exact mt_zret rfl (Or.inl rfl) dX1_read_55 (Nat.le_of_ble_eq_true rfl) (Nat.le_of_ble_eq_true rfl) ⟨rfl, FRc_trans hF (FRc_set1 hF2), Or.inl ⟨kd, pl, hS.trans hS1, rfl, hT2, hC2⟩⟩
              · skip
                cases hv
                refine ⟨rfl, ?_⟩
                rw [clauseS_sk hp] at hS2
                rw [hS2] at hS1
                dsimp only at hS1
                have hB2 : k9 2 = byE b := (hF2 2 (by decide) (by decide)).trans (by rw [hset_ne (by decide)]; exact hB')
                have hF3 : FRc h k9 := FRc_trans hF (FRc_set1 hF2)
                refine mt_if_eq (pc := 42) (tgt := 54) dX1_read_42 (by decide) (fun c42 => ?_) (fun c42 => ?_)
                · exact absurd c42 (by decide)
                · skip
                  refine mt_aload_n (pc := 45) dX1_read_45 rfl ?_
                  refine mt_bipush (pc := 46) (v := 59) dX1_read_46 (by decide) ?_
                  refine mt_aV (pc := 48) (c_takeSign (d := 1) (Nat.le_refl 1) (by omega) hB2 hT2 hr2 he) cal_X7_takeSign vir_X7_takeSign ml_X1_52 dX1_read_48 (by first | assumption | omega) (by repeat (first | exact hset_eq _ _ _ | assumption | rw [hset_ne (by first | assumption | decide | omega)])) (by first | assumption | (show _ ≤ d; omega)) ⟨(Nat.le_of_ble_eq_true rfl), (Nat.le_of_ble_eq_true rfl)⟩ rfl rfl (Nat.le_of_ble_eq_true rfl) ?_ ?_
                  · rintro x9 n9 k9 h9
                    simp [P_sign] at h9
                  · rintro v9 n9 k9 ⟨rfl, ⟨hp9, hv, rfl⟩ | ⟨hp9, hv, rfl⟩⟩
                    · skip
                      cases hv
                      refine ⟨rfl, ?_⟩
                      refine mt_if_ne (pc := 51) (tgt := 56) dX1_read_51 (by decide) (fun c51 => ?_) (fun c51 => ?_)
                      · skip
                        refine mt_iinc (pc := 56) (c9 := 1) dX1_read_56 rfl (by decide) (Nat.le_of_ble_eq_true rfl) rfl ?_
                        refine mt_goto (tgt := 12) dX1_read_59 (by decide) ?_
                        rw [show (nI c + 1 : Int32) = nI (c + 1) from nI_1 c]
                        rw [if_pos hp9] at hS1
                        exact ih (c + 1) (sk b e r2 + 1) k2 _ s2 (by omega) (pk59 hr2 hp9) (FRc_trans hF3 FRc_1) (hset_eq _ _ _) (CR_set1 hC2) (hS.trans hS1)
                      · exact absurd c51 (by decide)
                    · skip
                      cases hv
                      refine ⟨rfl, ?_⟩
                      refine mt_if_ne (pc := 51) (tgt := 56) dX1_read_51 (by decide) (fun c51 => absurd rfl c51) (fun c51 => ?_)
                      refine mt_iconst (pc := 54) (v := 0) dX1_read_54 (by decide) ?_
                      rw [if_neg hp9] at hS1
                      exact mt_zret rfl (Or.inl rfl) dX1_read_55 (Nat.le_of_ble_eq_true rfl) (Nat.le_of_ble_eq_true rfl) ⟨rfl, FRc_trans hF3 FRc_1, Or.inl ⟨1, sk b e r2, hS.trans hS1, rfl, ⟨_, _, hset_eq _ _ _⟩, k2, CR_set1 hC2⟩⟩
  obtain ⟨a1, a2, K, U, Q, S, P⟩ := K0
  obtain ⟨h9, h10, h11, h12, h13, h14, hsl, hso⟩ := id hC
  dsimp only at h9 h10 h11 h12 h13 h14 hsl hso
  refine mm_start (lo := [some (.ref 9), some (.ref 1), none]) pn_X1 rfl rfl (Nat.le_of_ble_eq_true rfl) ?_
  refine mt_aload_n (pc := 0) dX1_read_0 rfl ?_
  refine mt_iconst (pc := 1) (v := 0) dX1_read_1 (by decide) ?_
  first
    | refine mt_puti2 (pc := 2) pf_X1_27 dX1_read_2 (by first | assumption | omega) (Nat.le_of_ble_eq_true rfl) ?_
    | refine mt_puti (pc := 2) pf_X1_27 dX1_read_2 (by first | assumption | omega) (by repeat (first | exact hset_eq _ _ _ | assumption | rw [hset_ne (by first | assumption | decide | omega)])) (Nat.le_of_ble_eq_true rfl) ?_
  refine mt_aload_n (pc := 5) dX1_read_5 rfl ?_
  refine mt_iconst (pc := 6) (v := 0) dX1_read_6 (by decide) ?_
  first
    | refine mt_puti2 (pc := 7) pf_X1_31 dX1_read_7 (by first | assumption | omega) (Nat.le_of_ble_eq_true rfl) ?_
    | refine mt_puti (pc := 7) pf_X1_31 dX1_read_7 (by first | assumption | omega) (by repeat (first | exact hset_eq _ _ _ | assumption | rw [hset_ne (by first | assumption | decide | omega)])) (Nat.le_of_ble_eq_true rfl) ?_
  refine mt_iconst (pc := 10) (v := 0) dX1_read_10 (by decide) ?_
  refine mt_istore_n (pc := 11) dX1_read_11 (Nat.le_of_ble_eq_true rfl) rfl ?_
  refine loop 61 0 0 (0, 0, K, U, Q, S, P) _ st (by decide) (Nat.zero_le e) (fun j h1 h2 => hset_ne (by omega)) (by rw [hset_ne (by decide)]; exact hT) ⟨hset_eq _ _ _, ?_, ?_, ?_, ?_, ?_, Nat.zero_le _, Nat.zero_le _⟩ rfl
  · rw [hset_ne (by decide)]; exact h10
  · rw [hset_ne (by decide)]; exact h11
  · rw [hset_ne (by decide)]; exact h12
  · rw [hset_ne (by decide)]; exact h13
  · rw [hset_ne (by decide)]; exact h14
end COUNTY
