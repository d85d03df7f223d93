/-! Book: the one that stands (cells 23..26), the one that is read (cells 27..30). -/
abbrev boE (a : Int32) : mm_E := .inr (0, [.int a, .ref 24, .ref 25, .ref 26])
abbrev brE (a : Int32) : mm_E := .inr (0, [.int a, .ref 28, .ref 29, .ref 30])
/-- a book: lines; of each its soul, kind, amount -/
abbrev BS : Type := Nat × (Nat → Int32) × (Nat → Int32) × (Nat → Int32)
def BR (h : Nat → mm_E) (k : BS) : Prop := h 27 = brE (nI k.1) ∧ h 28 = iaE 6 k.2.1 ∧ h 29 = iaE 6 k.2.2.1 ∧ h 30 = iaE 6 k.2.2.2 ∧ k.1 ≤ 6
def BO (h : Nat → mm_E) (k : BS) : Prop := h 23 = boE (nI k.1) ∧ h 24 = iaE 6 k.2.1 ∧ h 25 = iaE 6 k.2.2.1 ∧ h 26 = iaE 6 k.2.2.2 ∧ k.1 ≤ 6
def FRb (h k : Nat → mm_E) : Prop := ∀ j, j ≠ 1 → j < 27 ∨ 30 < j → k j = h j
def lineS (b : Nat → Int32) (e p : Nat) (so : Int32) (k : BS) : (Nat × Nat) ⊕ (Nat × BS) := sbind (numS b e p 0 (so - 1)) fun x => if 6 ≤ k.1 then .inl (3, sk b e p) else sbind (numS b e x.2 0 5) fun y => sbind (numS b e y.2 1 60) fun z => .inr (z.2, k.1 + 1, upd k.2.1 k.1 (nI x.1), upd k.2.2.1 k.1 (nI y.1), upd k.2.2.2 k.1 (nI z.1))
def bokS (b : Nat → Int32) (e : Nat) (so : Int32) : Nat → Nat → BS → (Nat × Nat) ⊕ BS
  | 0, _, k => .inr k
  | m + 1, p, k => if sk b e p = e then .inr k else
    match lineS b e p so k with
    | .inl x => .inl x
    | .inr (r, k') => if pk b e r = 59 then bokS b e so m (sk b e r + 1) k' else .inl (1, sk b e r)
def P_bl (S : (Nat × Nat) ⊕ (Nat × BS)) (e : Nat) (sz fk fp : Int32) (nx : Nat) (h : Nat → mm_E) : mm_P := fun o n k => n = nx ∧ FRb h k ∧
  ((∃ kd pl, S = .inl (kd, pl) ∧ o = .inl (some (.int 0)) ∧ (∃ p' s', k 1 = tpE sz (nI e) p' s' (nI kd) (nI pl)) ∧ ∃ c, BR k c) ∨
  (∃ r c, S = .inr (r, c) ∧ o = .inl (some (.int 1)) ∧ (∃ s', k 1 = tpE sz (nI e) (nI r) s' fk fp) ∧ BR k c ∧ r ≤ e))
def P_bk (S : (Nat × Nat) ⊕ BS) (e : Nat) (sz fk fp : Int32) (nx : Nat) (h : Nat → mm_E) : mm_P := fun o n k => n = nx ∧ FRb h k ∧
  ((∃ kd pl, S = .inl (kd, pl) ∧ o = .inl (some (.int 0)) ∧ (∃ p' s', k 1 = tpE sz (nI e) p' s' (nI kd) (nI pl)) ∧ ∃ c, BR k c) ∨
  (∃ c, S = .inr c ∧ o = .inl (some (.int 1)) ∧ (∃ p' s', k 1 = tpE sz (nI e) p' s' fk fp) ∧ BR k c))
theorem BR_set1 {h : Nat → mm_E} {k : BS} {x : mm_E} (hC : BR h k) : BR (hset h 1 x) k := by
  simp only [BR, hset_ne, ne_eq, Nat.reduceEqDiff, not_false_eq_true]
  exact hC
theorem FRb_set1 {h k : Nat → mm_E} {x : mm_E} (hF : FRb (hset h 1 x) k) : FRb h k := fun j h1 h2 => by rw [hF j h1 h2, hset_ne h1]
theorem FRb_1 {h : Nat → mm_E} {x : mm_E} : FRb h (hset h 1 x) := fun j h1 _ => hset_ne h1
theorem FRb_trans {h k m : Nat → mm_E} (h1 : FRb h k) (h2 : FRb k m) : FRb h m := fun j a c => (h2 j a c).trans (h1 j a c)
theorem numS_sk {b : Nat → Int32} {e p : Nat} {lo hi : Int32} (hp : p ≤ e) : numS b e (sk b e p) lo hi = numS b e p lo hi := by simp only [numS, sk_sk hp, pk_sk hp]
theorem lineS_sk {b : Nat → Int32} {e p : Nat} {so : Int32} {k : BS} (hp : p ≤ e) : lineS b e (sk b e p) so k = lineS b e p so k := by simp only [lineS, sk_sk hp, numS_sk hp]
section BOOK
variable {G : mm_G} {l : Launch} {d nx : Nat} {h : Nat → mm_E} {b : Nat → Int32} {sz st fk fp : Int32}
theorem c_readLine {e p so : Nat} {k : BS} (hd : 2 ≤ d) (hx : 31 ≤ nx) (hso : so ≤ 6) (hB : h 2 = byE b) (hT : h 1 = tpE sz (nI e) (nI p) st fk fp) (hp : p ≤ e) (he : e ≤ 600) (hC : BR h k) : mm_Con G l yX0_readLine cX0_readLine 6 (some .boolean) d 0 0 [.ref 27, .ref 1, .int (nI so)] nx h (P_bl (lineS b e p (nI so) k) e sz fk fp nx h) := by
  obtain ⟨ln, S, K, A⟩ := k
  obtain ⟨h27, h28, h29, h30, hln⟩ := id hC
  dsimp only at h27 h28 h29 h30 hln
  have e1 := sub1_le (n := so) (by omega)
  refine mm_start (lo := [some (.ref 27), some (.ref 1), some (.int (nI so)), none, none, none]) pn_X0 rfl rfl (Nat.le_of_ble_eq_true rfl) ?_
  refine mt_aload_n (pc := 0) dX0_readLine_0 rfl ?_
  refine mt_iconst (pc := 1) (v := 0) dX0_readLine_1 (by decide) ?_
  refine mt_iload_n (pc := 2) dX0_readLine_2 rfl ?_
  refine mt_iconst (pc := 3) (v := 1) dX0_readLine_3 (by decide) ?_
  refine mt_isub (pc := 4) dX0_readLine_4 ?_
  refine mt_aV (pc := 5) (c_takeNumber (d := 1) (by decide) (by omega) (Nat.le_refl 1) (by omega) hB hT hp he) cal_X7_takeNumber vir_X7_takeNumber ml_X0_47 dX0_readLine_5 (by first | assumption | omega) (by repeat (first | exact hset_eq _ _ _ | assumption | rw [hset_ne (by first | assumption | decide | omega)])) (by first | assumption | (show _ ≤ d; omega)) ⟨(Nat.le_of_ble_eq_true rfl), (Nat.le_of_ble_eq_true rfl)⟩ rfl rfl (Nat.le_of_ble_eq_true rfl) ?_ ?_
  · rintro x9 n9 k9 h9
    simp [P_num] at h9
  · rintro v9 n9 k9 ⟨rfl, ⟨kd, pl, hN, hv, p', s', rfl⟩ | ⟨v, r, hN, hv, rfl⟩⟩
    · skip
      cases hv
      refine ⟨rfl, ?_⟩
      refine mt_istore_n (pc := 8) dX0_readLine_8 (Nat.le_of_ble_eq_true rfl) rfl ?_
      refine mt_iload_n (pc := 9) dX0_readLine_9 rfl ?_
      refine mt_iconst (pc := 10) (v := -1) dX0_readLine_10 (by decide) ?_
      refine mt_icmp_ne (pc := 11) (tgt := 16) dX0_readLine_11 (by decide) (fun c9 => absurd rfl c9) (fun c9 => ?_)
      refine mt_iconst (pc := 14) (v := 0) dX0_readLine_14 (by decide) ?_
      exact mt_zret rfl (Or.inl rfl) dX0_readLine_15 (Nat.le_of_ble_eq_true rfl) (Nat.le_of_ble_eq_true rfl) ⟨rfl, fun j h1 h2 => hset_ne h1, Or.inl ⟨kd, pl, by simp only [lineS, hN, sbind], rfl, ⟨_, _, hset_eq _ _ _⟩, (ln, S, K, A), BR_set1 hC⟩⟩
    · skip
      cases hv
      refine ⟨rfl, ?_⟩
      have hr := numS_le hp hN
      refine mt_istore_n (pc := 8) dX0_readLine_8 (Nat.le_of_ble_eq_true rfl) rfl ?_
      refine mt_iload_n (pc := 9) dX0_readLine_9 rfl ?_
      refine mt_iconst (pc := 10) (v := (-1)) dX0_readLine_10 (by decide) ?_
      refine mt_icmp_ne (pc := 11) (tgt := 16) dX0_readLine_11 (by decide) (fun c11 => ?_) (fun c11 => ?_)
      · skip
        refine mt_aload_n (pc := 16) dX0_readLine_16 rfl ?_
        refine mt_get (pc := 17) gf_X0_21 dX0_readLine_17 (by first | assumption | omega) (by repeat (first | exact hset_eq _ _ _ | assumption | rw [hset_ne (by first | assumption | decide | omega)])) rfl ?_
        refine mt_bipush (pc := 20) (v := 6) dX0_readLine_20 (by decide) ?_
        refine mt_icmp_lt (pc := 22) (tgt := 31) dX0_readLine_22 (by decide) (fun c22 => ?_) (fun c22 => ?_)
        · skip
          have hl6 : ¬ 6 ≤ ln := fun z => nI_nlt (b := 6) z (by omega) c22
          refine mt_aload_n (pc := 31) dX0_readLine_31 rfl ?_
          refine mt_iconst (pc := 32) (v := 0) dX0_readLine_32 (by decide) ?_
          refine mt_iconst (pc := 33) (v := 5) dX0_readLine_33 (by decide) ?_
          refine mt_aV (pc := 34) (c_takeNumber (d := 1) (by decide) (by decide) (Nat.le_refl 1) (by omega) (by rw [hset_ne (by decide)]; exact hB) (hset_eq _ _ _) hr.1 he) cal_X7_takeNumber vir_X7_takeNumber ml_X0_47 dX0_readLine_34 (by first | assumption | omega) (by repeat (first | exact hset_eq _ _ _ | assumption | rw [hset_ne (by first | assumption | decide | omega)])) (by first | assumption | (show _ ≤ d; omega)) ⟨(Nat.le_of_ble_eq_true rfl), (Nat.le_of_ble_eq_true rfl)⟩ rfl rfl (Nat.le_of_ble_eq_true rfl) ?_ ?_
          · rintro x9 n9 k9 h9
            simp [P_num] at h9
          · rintro v9 n9 k9 ⟨rfl, ⟨kd, pl, hN2, hv, p', s', rfl⟩ | ⟨v2, r2, hN2, hv, rfl⟩⟩
            · skip
              cases hv
              refine ⟨rfl, ?_⟩
              refine mt_istore (pc := 37) dX0_readLine_37 (Nat.le_of_ble_eq_true rfl) rfl ?_
              refine mt_iload (pc := 39) dX0_readLine_39 rfl ?_
              refine mt_iconst (pc := 41) (v := -1) dX0_readLine_41 (by decide) ?_
              refine mt_icmp_ne (pc := 42) (tgt := 47) dX0_readLine_42 (by decide) (fun c9 => absurd rfl c9) (fun c9 => ?_)
              refine mt_iconst (pc := 45) (v := 0) dX0_readLine_45 (by decide) ?_
              rw [hset_hset]
              exact mt_zret rfl (Or.inl rfl) dX0_readLine_46 (Nat.le_of_ble_eq_true rfl) (Nat.le_of_ble_eq_true rfl) ⟨rfl, fun j h1 h2 => hset_ne h1, Or.inl ⟨kd, pl, by simp only [lineS, hN, hN2, sbind, if_neg hl6], rfl, ⟨_, _, hset_eq _ _ _⟩, (ln, S, K, A), BR_set1 hC⟩⟩
            · skip
              cases hv
              refine ⟨rfl, ?_⟩
              have hr2 := numS_le hr.1 hN2
              rw [hset_hset]
              refine mt_istore (pc := 37) dX0_readLine_37 (Nat.le_of_ble_eq_true rfl) rfl ?_
              refine mt_iload (pc := 39) dX0_readLine_39 rfl ?_
              refine mt_iconst (pc := 41) (v := (-1)) dX0_readLine_41 (by decide) ?_
              refine mt_icmp_ne (pc := 42) (tgt := 47) dX0_readLine_42 (by decide) (fun c42 => ?_) (fun c42 => ?_)
              · skip
                refine mt_aload_n (pc := 47) dX0_readLine_47 rfl ?_
                refine mt_iconst (pc := 48) (v := 1) dX0_readLine_48 (by decide) ?_
                refine mt_bipush (pc := 49) (v := 60) dX0_readLine_49 (by decide) ?_
                refine mt_aV (pc := 51) (c_takeNumber (d := 1) (by decide) (by decide) (Nat.le_refl 1) (by omega) (by rw [hset_ne (by decide)]; exact hB) (hset_eq _ _ _) hr2.1 he) cal_X7_takeNumber vir_X7_takeNumber ml_X0_47 dX0_readLine_51 (by first | assumption | omega) (by repeat (first | exact hset_eq _ _ _ | assumption | rw [hset_ne (by first | assumption | decide | omega)])) (by first | assumption | (show _ ≤ d; omega)) ⟨(Nat.le_of_ble_eq_true rfl), (Nat.le_of_ble_eq_true rfl)⟩ rfl rfl (Nat.le_of_ble_eq_true rfl) ?_ ?_
                · rintro x9 n9 k9 h9
                  simp [P_num] at h9
                · rintro v9 n9 k9 ⟨rfl, ⟨kd, pl, hN3, hv, p', s', rfl⟩ | ⟨v3, r3, hN3, hv, rfl⟩⟩
                  · skip
                    cases hv
                    refine ⟨rfl, ?_⟩
                    refine mt_istore (pc := 54) dX0_readLine_54 (Nat.le_of_ble_eq_true rfl) rfl ?_
                    refine mt_iload (pc := 56) dX0_readLine_56 rfl ?_
                    refine mt_iconst (pc := 58) (v := -1) dX0_readLine_58 (by decide) ?_
                    refine mt_icmp_ne (pc := 59) (tgt := 64) dX0_readLine_59 (by decide) (fun c9 => absurd rfl c9) (fun c9 => ?_)
                    refine mt_iconst (pc := 62) (v := 0) dX0_readLine_62 (by decide) ?_
                    rw [hset_hset]
                    exact mt_zret rfl (Or.inl rfl) dX0_readLine_63 (Nat.le_of_ble_eq_true rfl) (Nat.le_of_ble_eq_true rfl) ⟨rfl, fun j h1 h2 => hset_ne h1, Or.inl ⟨kd, pl, by simp only [lineS, hN, hN2, hN3, sbind, if_neg hl6], rfl, ⟨_, _, hset_eq _ _ _⟩, (ln, S, K, A), BR_set1 hC⟩⟩
                  · skip
                    cases hv
                    refine ⟨rfl, ?_⟩
                    have hr3 := numS_le hr2.1 hN3
                    have hlt : ln < 6 := by omega
                    rw [hset_hset]
                    refine mt_istore (pc := 54) dX0_readLine_54 (Nat.le_of_ble_eq_true rfl) rfl ?_
                    refine mt_iload (pc := 56) dX0_readLine_56 rfl ?_
                    refine mt_iconst (pc := 58) (v := (-1)) dX0_readLine_58 (by decide) ?_
                    refine mt_icmp_ne (pc := 59) (tgt := 64) dX0_readLine_59 (by decide) (fun c59 => ?_) (fun c59 => ?_)
                    · skip
                      refine mt_aload_n (pc := 64) dX0_readLine_64 rfl ?_
                      refine mt_get (pc := 65) gf_X0_9 dX0_readLine_65 (by first | assumption | omega) (by repeat (first | exact hset_eq _ _ _ | assumption | rw [hset_ne (by first | assumption | decide | omega)])) rfl ?_
                      refine mt_aload_n (pc := 68) dX0_readLine_68 rfl ?_
                      refine mt_get (pc := 69) gf_X0_21 dX0_readLine_69 (by first | assumption | omega) (by repeat (first | exact hset_eq _ _ _ | assumption | rw [hset_ne (by first | assumption | decide | omega)])) rfl ?_
                      refine mt_iload_n (pc := 72) dX0_readLine_72 rfl ?_
                      refine mt_cN (pc := 73) (c_setEntry (d := 0) (r := 28) (n := 6) (i := nI ln) (f := S) (by omega) (by rw [hset_ne (by decide)]; exact h28) (by decide)) cal_X10_setEntry sta_X10_setEntry mn_X0_54 dX0_readLine_73 (by first | assumption | (show _ ≤ d; omega)) ⟨(Nat.le_of_ble_eq_true rfl), (Nat.le_of_ble_eq_true rfl)⟩ rfl rfl (Nat.le_of_ble_eq_true rfl) ?_
                      refine mt_aload_n (pc := 76) dX0_readLine_76 rfl ?_
                      refine mt_get (pc := 77) gf_X0_15 dX0_readLine_77 (by first | assumption | omega) (by repeat (first | exact hset_eq _ _ _ | assumption | rw [hset_ne (by first | assumption | decide | omega)])) rfl ?_
                      refine mt_aload_n (pc := 80) dX0_readLine_80 rfl ?_
                      refine mt_get (pc := 81) gf_X0_21 dX0_readLine_81 (by first | assumption | omega) (by repeat (first | exact hset_eq _ _ _ | assumption | rw [hset_ne (by first | assumption | decide | omega)])) rfl ?_
                      refine mt_iload (pc := 84) dX0_readLine_84 rfl ?_
                      refine mt_cN (pc := 86) (c_setEntry (d := 0) (r := 29) (n := 6) (i := nI ln) (f := K) (by omega) (by rw [hset_ne (by decide), hset_ne (by decide)]; exact h29) (by decide)) cal_X10_setEntry sta_X10_setEntry mn_X0_54 dX0_readLine_86 (by first | assumption | (show _ ≤ d; omega)) ⟨(Nat.le_of_ble_eq_true rfl), (Nat.le_of_ble_eq_true rfl)⟩ rfl rfl (Nat.le_of_ble_eq_true rfl) ?_
                      refine mt_aload_n (pc := 89) dX0_readLine_89 rfl ?_
                      refine mt_get (pc := 90) gf_X0_18 dX0_readLine_90 (by first | assumption | omega) (by repeat (first | exact hset_eq _ _ _ | assumption | rw [hset_ne (by first | assumption | decide | omega)])) rfl ?_
                      refine mt_aload_n (pc := 93) dX0_readLine_93 rfl ?_
                      refine mt_get (pc := 94) gf_X0_21 dX0_readLine_94 (by first | assumption | omega) (by repeat (first | exact hset_eq _ _ _ | assumption | rw [hset_ne (by first | assumption | decide | omega)])) rfl ?_
                      refine mt_iload (pc := 97) dX0_readLine_97 rfl ?_
                      refine mt_cN (pc := 99) (c_setEntry (d := 0) (r := 30) (n := 6) (i := nI ln) (f := A) (by omega) (by rw [hset_ne (by decide), hset_ne (by decide), hset_ne (by decide)]; exact h30) (by decide)) cal_X10_setEntry sta_X10_setEntry mn_X0_54 dX0_readLine_99 (by first | assumption | (show _ ≤ d; omega)) ⟨(Nat.le_of_ble_eq_true rfl), (Nat.le_of_ble_eq_true rfl)⟩ rfl rfl (Nat.le_of_ble_eq_true rfl) ?_
                      refine mt_aload_n (pc := 102) dX0_readLine_102 rfl ?_
                      refine mt_dup (pc := 103) dX0_readLine_103 rfl ?_
                      refine mt_get (pc := 104) gf_X0_21 dX0_readLine_104 (by first | assumption | omega) (by repeat (first | exact hset_eq _ _ _ | assumption | rw [hset_ne (by first | assumption | decide | omega)])) rfl ?_
                      refine mt_iconst (pc := 107) (v := 1) dX0_readLine_107 (by decide) ?_
                      refine mt_iadd (pc := 108) dX0_readLine_108 ?_
                      first
                        | refine mt_puti2 (pc := 109) pf_X0_21 dX0_readLine_109 (by first | assumption | omega) (Nat.le_of_ble_eq_true rfl) ?_
                        | refine mt_puti (pc := 109) pf_X0_21 dX0_readLine_109 (by first | assumption | omega) (by repeat (first | exact hset_eq _ _ _ | assumption | rw [hset_ne (by first | assumption | decide | omega)])) (Nat.le_of_ble_eq_true rfl) ?_
                      refine mt_iconst (pc := 112) (v := 1) dX0_readLine_112 (by decide) ?_
                      refine mt_zret rfl (Or.inr rfl) dX0_readLine_113 (Nat.le_of_ble_eq_true rfl) (Nat.le_of_ble_eq_true rfl) ⟨rfl, fun j h1 h2 => ?_, Or.inr ⟨r3, (ln + 1, upd S ln (nI v), upd K ln (nI v2), upd A ln (nI v3)), by simp only [lineS, hN, hN2, hN3, sbind, if_neg hl6], rfl, ⟨nI (sk b e r2), ?_⟩, ?_, hr3.1⟩⟩
                      · rw [hset_ne (by omega), hset_ne (by omega), hset_ne (by omega), hset_ne (by omega), hset_ne h1]
                      · rw [hset_ne (by decide), hset_ne (by decide), hset_ne (by decide), hset_ne (by decide), hset_eq]
                      · refine ⟨?_, ?_, ?_, ?_, by show ln + 1 ≤ 6; omega⟩
                        · rw [hset_eq, ← nI_1]; rfl
                        · rw [hset_ne (by decide), hset_ne (by decide), hset_ne (by decide), hset_eq, mm_wr_nI hlt (by decide)]
                        · rw [hset_ne (by decide), hset_ne (by decide), hset_eq, mm_wr_nI hlt (by decide)]
                        · rw [hset_ne (by decide), hset_eq, mm_wr_nI hlt (by decide)]
                    · exact absurd c59 (nI_m1 hr3.2.2)
              · exact absurd c42 (nI_m1 hr2.2.2)
        · skip
          have hl6 : 6 ≤ ln := Nat.le_of_not_lt fun z => c22 (nI_lt (b := 6) z (by decide))
          refine mt_aload_n (pc := 25) dX0_readLine_25 rfl ?_
          refine mt_iconst (pc := 26) (v := 3) dX0_readLine_26 (by decide) ?_
          refine mt_cV (pc := 27) (c_failAtStart (d := 0) (by omega) (hset_eq _ _ _)) cal_X7_failAtStart vir_X7_failAtStart ml_X0_51 dX0_readLine_27 (by first | assumption | omega) (by repeat (first | exact hset_eq _ _ _ | assumption | rw [hset_ne (by first | assumption | decide | omega)])) (by first | assumption | (show _ ≤ d; omega)) ⟨(Nat.le_of_ble_eq_true rfl), (Nat.le_of_ble_eq_true rfl)⟩ rfl rfl (Nat.le_of_ble_eq_true rfl) ?_
          rw [hset_hset]
          exact mt_zret rfl (by first | exact Or.inl rfl | exact Or.inr rfl) dX0_readLine_30 (Nat.le_of_ble_eq_true rfl) (Nat.le_of_ble_eq_true rfl) ⟨rfl, FRb_1, Or.inl ⟨3, sk b e p, by simp only [lineS, hN, sbind, if_pos hl6], rfl, ⟨_, _, hset_eq _ _ _⟩, _, BR_set1 hC⟩⟩
      · exact absurd c11 (nI_m1 hr.2.2)
theorem c_bread {e so : Nat} {K0 : BS} (hd : 3 ≤ d) (hx : 31 ≤ nx) (hso : so ≤ 6) (hB : h 2 = byE b) (hT : h 1 = tpE sz (nI e) (nI 0) st fk fp) (he : e ≤ 600) (hC : BR h K0) : mm_Con G l yX0_read cX0_read 4 (some .boolean) d 0 0 [.ref 27, .ref 1, .int (nI so)] nx h (P_bk (bokS b e (nI so) 7 0 (0, K0.2)) e sz fk fp nx h) := by
  have loop : ∀ (m c p : Nat) (k : BS) (h' : Nat → mm_E) (st' : Int32), c + m = 7 → p ≤ e → FRb h h' → h' 1 = tpE sz (nI e) (nI p) st' fk fp → BR h' k → bokS b e (nI so) 7 0 (0, K0.2) = bokS b e (nI so) m p k → mm_T (G, l, yX0_read, 4, some .boolean, d, 0, 0, P_bk (bokS b e (nI so) 7 0 (0, K0.2)) e sz fk fp nx h, nx) RX0 cX0_read nx h' 0 0 7 [some (.ref 27), some (.ref 1), some (.int (nI so)), some (.int (nI c))] [] := by
    intro m
    induction m with
    | zero =>
      intro c p k h' st' hc hp hF hT' hC' hS
      obtain rfl : c = 7 := by omega
      refine mt_iload_n (pc := 7) dX0_read_7 rfl ?_
      refine mt_bipush (pc := 8) (v := 6) dX0_read_8 (by decide) ?_
      refine mt_icmp_gt (pc := 10) (tgt := 47) dX0_read_10 (by decide) (fun c10 => ?_) (fun c10 => ?_)
      · skip
        refine mt_iconst (pc := 47) (v := 1) dX0_read_47 (by decide) ?_
        exact mt_zret rfl (by first | exact Or.inl rfl | exact Or.inr rfl) dX0_read_48 (Nat.le_of_ble_eq_true rfl) (Nat.le_of_ble_eq_true rfl) ⟨rfl, hF, Or.inr ⟨k, hS, rfl, ⟨_, _, hT'⟩, hC'⟩⟩
      · exact absurd (nI_lt (a := 6) (b := 7) (by decide) (by decide)) c10
    | succ m ih =>
      intro c p k h' st' hc hp hF hT' hC' hS
      have hB' : h' 2 = byE b := (hF 2 (by decide) (by decide)).trans hB
      have hq := sk_le (b := b) hp
      obtain ⟨h9', -⟩ := id hC'
      refine mt_iload_n (pc := 7) dX0_read_7 rfl ?_
      refine mt_bipush (pc := 8) (v := 6) dX0_read_8 (by decide) ?_
      refine mt_icmp_gt (pc := 10) (tgt := 47) dX0_read_10 (by decide) (fun c10 => ?_) (fun c10 => ?_)
      · exact absurd c10 (nI_nlt (a := 6) (by omega) (by omega))
      · skip
        refine mt_aload_n (pc := 13) dX0_read_13 rfl ?_
        refine mt_cV (pc := 14) (c_peek (d := 0) (by omega) hB' hT' hp he) cal_X7_peek vir_X7_peek ml_X0_33 dX0_read_14 (by first | assumption | omega) (by repeat (first | exact hset_eq _ _ _ | assumption | rw [hset_ne (by first | assumption | decide | omega)])) (by first | assumption | (show _ ≤ d; omega)) ⟨(Nat.le_of_ble_eq_true rfl), (Nat.le_of_ble_eq_true rfl)⟩ rfl rfl (Nat.le_of_ble_eq_true rfl) ?_
        refine mt_iconst (pc := 17) (v := (-1)) dX0_read_17 (by decide) ?_
        refine mt_icmp_eq (pc := 18) (tgt := 47) dX0_read_18 (by decide) (fun c18 => ?_) (fun c18 => ?_)
        · skip
          have hk := (pk_none hp).mp c18
          have hS1 : bokS b e (nI so) (m + 1) p k = .inr k := by rw [bokS, if_pos hk]
          refine mt_iconst (pc := 47) (v := 1) dX0_read_47 (by decide) ?_
          exact mt_zret rfl (by first | exact Or.inl rfl | exact Or.inr rfl) dX0_read_48 (Nat.le_of_ble_eq_true rfl) (Nat.le_of_ble_eq_true rfl) ⟨rfl, FRb_trans hF FRb_1, Or.inr ⟨k, hS.trans hS1, rfl, ⟨_, _, hset_eq _ _ _⟩, BR_set1 hC'⟩⟩
        · skip
          have hk : ¬ sk b e p = e := fun z => c18 ((pk_none hp).mpr z)
          have hS1 : bokS b e (nI so) (m + 1) p k = match lineS b e p (nI so) k with
              | .inl x => .inl x
              | .inr (r, k') => if pk b e r = 59 then bokS b e (nI so) m (sk b e r + 1) k' else .inl (1, sk b e r) := by rw [bokS, if_neg hk]
          refine mt_aload_n (pc := 21) dX0_read_21 rfl ?_
          refine mt_aload_n (pc := 22) dX0_read_22 rfl ?_
          refine mt_iload_n (pc := 23) dX0_read_23 rfl ?_
          refine mt_aV (pc := 24) (c_readLine (d := 2) (p := sk b e p) (Nat.le_refl 2) hx hso (by rw [hset_ne (by decide)]; exact hB') (hset_eq _ _ _) hq.2 he (BR_set1 hC')) cal_X0_readLine vir_X0_readLine ml_X0_39 dX0_read_24 (by first | assumption | omega) (by rw [hset_ne (by decide)]; exact h9') (by first | assumption | (show _ ≤ d; omega)) ⟨(Nat.le_of_ble_eq_true rfl), (Nat.le_of_ble_eq_true rfl)⟩ rfl rfl (Nat.le_of_ble_eq_true rfl) ?_ ?_
          · rintro x9 n9 k9 h9
            simp [P_bl] at h9
          · rintro v9 n9 k9 ⟨rfl, hF2, ⟨kd, pl, hS2, hv, hT2, hC2⟩ | ⟨r2, k2, hS2, hv, ⟨s2, hT2⟩, hC2, hr2⟩⟩
            · skip
              cases hv
              refine ⟨rfl, ?_⟩
              refine mt_if_eq (pc := 27) (tgt := 39) dX0_read_27 (by decide) (fun c27 => ?_) (fun c27 => absurd rfl c27)
              refine mt_iconst (pc := 39) (v := 0) dX0_read_39 (by decide) ?_
              rw [lineS_sk hp] at hS2
              rw [hS2] at hS1
              exact mt_zret rfl (Or.inl rfl) dX0_read_40 (Nat.le_of_ble_eq_true rfl) (Nat.le_of_ble_eq_true rfl) ⟨rfl, FRb_trans hF (FRb_set1 hF2), Or.inl ⟨kd, pl, hS.trans hS1, rfl, hT2, hC2⟩⟩
            · skip
              cases hv
              refine ⟨rfl, ?_⟩
              rw [lineS_sk hp] at hS2
              rw [hS2] at hS1
              dsimp only at hS1
              have hB2 : k9 2 = byE b := (hF2 2 (by decide) (by decide)).trans (by rw [hset_ne (by decide)]; exact hB')
              have hF3 : FRb h k9 := FRb_trans hF (FRb_set1 hF2)
              refine mt_if_eq (pc := 27) (tgt := 39) dX0_read_27 (by decide) (fun c27 => ?_) (fun c27 => ?_)
              · exact absurd c27 (by decide)
              · skip
                refine mt_aload_n (pc := 30) dX0_read_30 rfl ?_
                refine mt_bipush (pc := 31) (v := 59) dX0_read_31 (by decide) ?_
                refine mt_aV (pc := 33) (c_takeSign (d := 1) (Nat.le_refl 1) (by omega) hB2 hT2 hr2 he) cal_X7_takeSign vir_X7_takeSign ml_X0_43 dX0_read_33 (by first | assumption | omega) (by repeat (first | exact hset_eq _ _ _ | assumption | rw [hset_ne (by first | assumption | decide | omega)])) (by first | assumption | (show _ ≤ d; omega)) ⟨(Nat.le_of_ble_eq_true rfl), (Nat.le_of_ble_eq_true rfl)⟩ rfl rfl (Nat.le_of_ble_eq_true rfl) ?_ ?_
                · rintro x9 n9 k9 h9
                  simp [P_sign] at h9
                · rintro v9 n9 k9 ⟨rfl, ⟨hp9, hv, rfl⟩ | ⟨hp9, hv, rfl⟩⟩
                  · skip
                    cases hv
                    refine ⟨rfl, ?_⟩
                    refine mt_if_ne (pc := 36) (tgt := 41) dX0_read_36 (by decide) (fun c36 => ?_) (fun c36 => ?_)
                    · skip
                      refine mt_iinc (pc := 41) (c9 := 1) dX0_read_41 rfl (by decide) (Nat.le_of_ble_eq_true rfl) rfl ?_
                      refine mt_goto (tgt := 7) dX0_read_44 (by decide) ?_
                      rw [show (nI c + 1 : Int32) = nI (c + 1) from nI_1 c]
                      rw [if_pos hp9] at hS1
                      exact ih (c + 1) (sk b e r2 + 1) k2 _ s2 (by omega) (pk59 hr2 hp9) (FRb_trans hF3 FRb_1) (hset_eq _ _ _) (BR_set1 hC2) (hS.trans hS1)
                    · exact absurd c36 (by decide)
                  · skip
                    cases hv
                    refine ⟨rfl, ?_⟩
                    refine mt_if_ne (pc := 36) (tgt := 41) dX0_read_36 (by decide) (fun c36 => absurd rfl c36) (fun c36 => ?_)
                    refine mt_iconst (pc := 39) (v := 0) dX0_read_39 (by decide) ?_
                    rw [if_neg hp9] at hS1
                    exact mt_zret rfl (Or.inl rfl) dX0_read_40 (Nat.le_of_ble_eq_true rfl) (Nat.le_of_ble_eq_true rfl) ⟨rfl, FRb_trans hF3 FRb_1, Or.inl ⟨1, sk b e r2, hS.trans hS1, rfl, ⟨_, _, hset_eq _ _ _⟩, k2, BR_set1 hC2⟩⟩
  obtain ⟨ln, S, K, A⟩ := K0
  obtain ⟨h27, h28, h29, h30, hln⟩ := id hC
  dsimp only at h27 h28 h29 h30 hln
  refine mm_start (lo := [some (.ref 27), some (.ref 1), some (.int (nI so)), none]) pn_X0 rfl rfl (Nat.le_of_ble_eq_true rfl) ?_
  refine mt_aload_n (pc := 0) dX0_read_0 rfl ?_
  refine mt_iconst (pc := 1) (v := 0) dX0_read_1 (by decide) ?_
  first
    | refine mt_puti2 (pc := 2) pf_X0_21 dX0_read_2 (by first | assumption | omega) (Nat.le_of_ble_eq_true rfl) ?_
    | refine mt_puti (pc := 2) pf_X0_21 dX0_read_2 (by first | assumption | omega) (by repeat (first | exact hset_eq _ _ _ | assumption | rw [hset_ne (by first | assumption | decide | omega)])) (Nat.le_of_ble_eq_true rfl) ?_
  refine mt_iconst (pc := 5) (v := 0) dX0_read_5 (by decide) ?_
  refine mt_istore_n (pc := 6) dX0_read_6 (Nat.le_of_ble_eq_true rfl) rfl ?_
  refine loop 7 0 0 (0, S, K, A) _ st (by decide) (Nat.zero_le e) (fun j h1 h2 => hset_ne (by omega)) (by rw [hset_ne (by decide)]; exact hT) ⟨hset_eq _ _ _, ?_, ?_, ?_, Nat.zero_le _⟩ rfl
  · rw [hset_ne (by decide)]; exact h28
  · rw [hset_ne (by decide)]; exact h29
  · rw [hset_ne (by decide)]; exact h30
theorem cpy_all {f g : Nat → Int32} {n j : Nat} (hj : j < n) : va_cpy f g 0 0 n j = f j := by
  rw [pk_cpy_in (Nat.zero_le j) (by omega)]
  simp
theorem c_bclear {x : Int32} (hx : 31 ≤ nx) (hO : h 23 = boE x) : mm_Con G l yX0_clear cX0_clear 1 none d 0 0 [.ref 23] nx h (mm_ret none nx (hset h 23 (boE 0))) := by
  refine mm_start (lo := [some (.ref 23)]) pn_X0 rfl rfl (Nat.le_of_ble_eq_true rfl) ?_
  refine mt_aload_n (pc := 0) dX0_clear_0 rfl ?_
  refine mt_iconst (pc := 1) (v := 0) dX0_clear_1 (by decide) ?_
  first
    | refine mt_puti2 (pc := 2) pf_X0_21 dX0_clear_2 (by first | assumption | omega) (Nat.le_of_ble_eq_true rfl) ?_
    | refine mt_puti (pc := 2) pf_X0_21 dX0_clear_2 (by first | assumption | omega) (by repeat (first | exact hset_eq _ _ _ | assumption | rw [hset_ne (by first | assumption | decide | omega)])) (Nat.le_of_ble_eq_true rfl) ?_
  exact mt_vret rfl dX0_clear_5 (Nat.le_of_ble_eq_true rfl) (Nat.le_of_ble_eq_true rfl) ⟨rfl, rfl, rfl⟩
/-- the book that was read becomes the book -/
theorem c_bcopy {k k0 : BS} (hd : 2 ≤ d) (hx : 31 ≤ nx) (hO : BO h k0) (hR : BR h k) : mm_Con G l yX0_copyFrom cX0_copyFrom 2 none d 0 0 [.ref 23, .ref 27] nx h (fun o n m => o = .inl none ∧ n = nx ∧ (∀ j, j < 23 ∨ 26 < j → m j = h j) ∧ BO m (k.1, va_cpy k.2.1 k0.2.1 0 0 6, va_cpy k.2.2.1 k0.2.2.1 0 0 6, va_cpy k.2.2.2 k0.2.2.2 0 0 6)) := by
  obtain ⟨ln, S, K, A⟩ := k
  obtain ⟨ln0, S0, K0, A0⟩ := k0
  obtain ⟨r1, r2, r3, r4, r5⟩ := hR
  obtain ⟨o1, o2, o3, o4, o5⟩ := hO
  dsimp only at r1 r2 r3 r4 r5 o1 o2 o3 o4 o5
  refine mm_start (lo := [some (.ref 23), some (.ref 27)]) pn_X0 rfl rfl (Nat.le_of_ble_eq_true rfl) ?_
  refine mt_aload_n (pc := 0) dX0_copyFrom_0 rfl ?_
  refine mt_aload_n (pc := 1) dX0_copyFrom_1 rfl ?_
  refine mt_get (pc := 2) gf_X0_21 dX0_copyFrom_2 (by first | assumption | omega) (by repeat (first | exact hset_eq _ _ _ | assumption | rw [hset_ne (by first | assumption | decide | omega)])) rfl ?_
  first
    | refine mt_puti2 (pc := 5) pf_X0_21 dX0_copyFrom_5 (by first | assumption | omega) (Nat.le_of_ble_eq_true rfl) ?_
    | refine mt_puti (pc := 5) pf_X0_21 dX0_copyFrom_5 (by first | assumption | omega) (by repeat (first | exact hset_eq _ _ _ | assumption | rw [hset_ne (by first | assumption | decide | omega)])) (Nat.le_of_ble_eq_true rfl) ?_
  refine mt_aload_n (pc := 8) dX0_copyFrom_8 rfl ?_
  refine mt_get (pc := 9) gf_X0_9 dX0_copyFrom_9 (by first | assumption | omega) (by repeat (first | exact hset_eq _ _ _ | assumption | rw [hset_ne (by first | assumption | decide | omega)])) rfl ?_
  refine mt_aload_n (pc := 12) dX0_copyFrom_12 rfl ?_
  refine mt_get (pc := 13) gf_X0_9 dX0_copyFrom_13 (by first | assumption | omega) (by repeat (first | exact hset_eq _ _ _ | assumption | rw [hset_ne (by first | assumption | decide | omega)])) rfl ?_
  refine mt_cN (pc := 16) (c_copyRow (d := 1) (n := 6) (Nat.le_refl 1) (by decide) (by omega) (by omega) (by rw [hset_ne (by decide)]; exact r2) (by rw [hset_ne (by decide)]; exact o2)) cal_X10_copyRow sta_X10_copyRow mn_X0_25 dX0_copyFrom_16 (by first | assumption | (show _ ≤ d; omega)) ⟨(Nat.le_of_ble_eq_true rfl), (Nat.le_of_ble_eq_true rfl)⟩ rfl rfl (Nat.le_of_ble_eq_true rfl) ?_
  refine mt_aload_n (pc := 19) dX0_copyFrom_19 rfl ?_
  refine mt_get (pc := 20) gf_X0_15 dX0_copyFrom_20 (by first | assumption | omega) (by repeat (first | exact hset_eq _ _ _ | assumption | rw [hset_ne (by first | assumption | decide | omega)])) rfl ?_
  refine mt_aload_n (pc := 23) dX0_copyFrom_23 rfl ?_
  refine mt_get (pc := 24) gf_X0_15 dX0_copyFrom_24 (by first | assumption | omega) (by repeat (first | exact hset_eq _ _ _ | assumption | rw [hset_ne (by first | assumption | decide | omega)])) rfl ?_
  refine mt_cN (pc := 27) (c_copyRow (d := 1) (n := 6) (Nat.le_refl 1) (by decide) (by omega) (by omega) (by rw [hset_ne (by decide), hset_ne (by decide)]; exact r3) (by rw [hset_ne (by decide), hset_ne (by decide)]; exact o3)) cal_X10_copyRow sta_X10_copyRow mn_X0_25 dX0_copyFrom_27 (by first | assumption | (show _ ≤ d; omega)) ⟨(Nat.le_of_ble_eq_true rfl), (Nat.le_of_ble_eq_true rfl)⟩ rfl rfl (Nat.le_of_ble_eq_true rfl) ?_
  refine mt_aload_n (pc := 30) dX0_copyFrom_30 rfl ?_
  refine mt_get (pc := 31) gf_X0_18 dX0_copyFrom_31 (by first | assumption | omega) (by repeat (first | exact hset_eq _ _ _ | assumption | rw [hset_ne (by first | assumption | decide | omega)])) rfl ?_
  refine mt_aload_n (pc := 34) dX0_copyFrom_34 rfl ?_
  refine mt_get (pc := 35) gf_X0_18 dX0_copyFrom_35 (by first | assumption | omega) (by repeat (first | exact hset_eq _ _ _ | assumption | rw [hset_ne (by first | assumption | decide | omega)])) rfl ?_
  refine mt_cN (pc := 38) (c_copyRow (d := 1) (n := 6) (Nat.le_refl 1) (by decide) (by omega) (by omega) (by rw [hset_ne (by decide), hset_ne (by decide), hset_ne (by decide)]; exact r4) (by rw [hset_ne (by decide), hset_ne (by decide), hset_ne (by decide)]; exact o4)) cal_X10_copyRow sta_X10_copyRow mn_X0_25 dX0_copyFrom_38 (by first | assumption | (show _ ≤ d; omega)) ⟨(Nat.le_of_ble_eq_true rfl), (Nat.le_of_ble_eq_true rfl)⟩ rfl rfl (Nat.le_of_ble_eq_true rfl) ?_
  refine mt_vret rfl dX0_copyFrom_41 (Nat.le_of_ble_eq_true rfl) (Nat.le_of_ble_eq_true rfl) ⟨rfl, rfl, fun j hj => ?_, ?_, ?_, ?_, ?_, r5⟩
  · rw [hset_ne (by omega), hset_ne (by omega), hset_ne (by omega), hset_ne (by omega)]
  · rw [hset_ne (by decide), hset_ne (by decide), hset_ne (by decide), hset_eq]; rfl
  · rw [hset_ne (by decide), hset_ne (by decide), hset_eq]
  · rw [hset_ne (by decide), hset_eq]
  · rw [hset_eq]
end BOOK
