/-! The reference's questions: told, slab, soul, loan, would, lends. -/
theorem w_0 {x lw hi : Int32} (h : (if x < lw then (0 : Int32) else if hi < x then 0 else 1) = 0) : ¬ (¬ x < lw ∧ ¬ hi < x) := fun z => by rw [in_w z] at h; exact absurd h (by decide)
theorem w_1 {x lw hi : Int32} (h : ¬ (if x < lw then (0 : Int32) else if hi < x then 0 else 1) = 0) : ¬ x < lw ∧ ¬ hi < x := Classical.not_not.mp fun z => h (in_nw z)
theorem no_in {x : Int32} {hi : Nat} (hh : hi < 2 ^ 31) (hok : ¬ (¬ x < 0 ∧ ¬ nI hi < x)) : ∀ c, c ≤ hi → ¬ x = nI c := fun c hc z => hok ⟨by rw [z]; exact nI_pos (by omega), by rw [z]; exact nI_nlt hc hh⟩
theorem lwG_n {f : Nat → Int32} {j : Nat} {v : Int32} : ∀ n, n ≤ 10 → ∃ m, lwG f j v n = nI m ∧ m < 2 ^ n ∧ ∀ i, i < n → (m / 2 ^ i % 2 = if f (24 + 6 * i + j) = v then 1 else 0)
  | 0, _ => ⟨0, rfl, by decide, fun i hi => absurd hi (Nat.not_lt_zero i)⟩
  | n + 1, hn => by
    obtain ⟨m, h1, h2, h3⟩ := lwG_n (f := f) (j := j) (v := v) n (by omega)
    rw [lwG_s, h1]
    have hp : 2 ^ (n + 1) = 2 ^ n + 2 ^ n := by rw [Nat.pow_succ]; omega
    by_cases hc : f (24 + 6 * n + j) = v
    · rw [if_pos hc]
      refine ⟨m ||| 2 ^ n, ?_, or_lt (by omega) (by omega), fun i hi => ?_⟩
      · rw [shl1 n (by omega), fa_or]
      · rw [or_bit2]
        by_cases hi2 : i = n
        · subst hi2
          rw [if_pos rfl, if_pos hc]
        · rw [if_neg hi2]
          exact h3 i (by omega)
    · rw [if_neg hc]
      refine ⟨m, rfl, by omega, fun i hi => ?_⟩
      by_cases hi2 : i = n
      · subst hi2
        rw [if_neg hc, bit_hi h2 (Nat.le_refl _)]
      · exact h3 i (by omega)
theorem lw_bit {f : Nat → Int32} {j i : Nat} {v : Int32} (hn : nlo f ≤ 10) (hi : i < nlo f) : (lwF f j v >>> (nI i &&& 31)) &&& 1 = if f (24 + 6 * i + j) = v then 1 else 0 := by
  obtain ⟨m, h1, h2, h3⟩ := lwG_n (f := f) (j := j) (v := v) (nlo f) hn
  have h4 : 2 ^ nlo f ≤ 2 ^ 10 := pow_mono hn
  rw [show lwF f j v = lwG f j v (nlo f) from rfl, h1, bit32 (by omega) (by omega), h3 i hi]
  split <;> rfl
theorem oa_own {k : CS} {cs : List Nat} {f : Nat → Int32} {a : Nat} (hn : nlo f ≤ 10) (ha : a < 6) : oaF k cs f (lwF f 0 (nI a)) (nlo f) = owA k cs f (nI a) (nlo f) := by
  unfold oaF owA
  refine fld_cg _ (fun i x hi => ?_)
  rw [lw_bit hn hi]
  have hne : ¬ nI a = -1 := nI_m1 (hi := 1000) (by show ((a : Nat) : Int) ≤ 1000; omega)
  by_cases hc : f (24 + 6 * i + 0) = nI a
  · rw [if_pos hc, if_pos (Or.inr hc), one_mul32]
  · rw [if_neg hc, if_neg (fun z => z.elim hne hc), zero_mul32, add_0]
def ltG (f : Nat → Int32) (j : Nat) (v : Int32) : Nat → Int32 := fld (fun i acc => if f (24 + 6 * i + j) = v then acc + f (24 + 6 * i + 2) else acc) 0
theorem lt_own {f : Nat → Int32} {a : Nat} (hn : nlo f ≤ 10) : fld (fun i acc => acc + ((lwF f 0 (nI a) >>> (nI i &&& 31)) &&& 1) * f (24 + 6 * i + 2)) 0 (nlo f) = ltF f 0 (nI a) := by
  unfold ltF
  refine fld_cg _ (fun i x hi => ?_)
  rw [lw_bit hn hi]
  by_cases hc : f (24 + 6 * i + 0) = nI a
  · rw [if_pos hc, if_pos hc, one_mul32]
  · rw [if_neg hc, if_neg hc, zero_mul32, add_0]
section MQB
variable {G : mm_G} {l : Launch} {d nx : Nat} {h : Nat → mm_E} {g : MG} {A : MA} {k : CS} {cs : List Nat} {f : Nat → Int32} {bk : BS}
theorem n_told {x : Int32} (hd : 7 ≤ d) (hx : 215 ≤ nx) (hQ : MQs k cs g A) (hR : RR (A 205) f) (hI : RI k f) (h41 : g 41 = nI bk.1) : mm_Con G l yX11_told cX11_told 2 (some .int) d 0 0 [.ref 188, .int x] nx (mos h g A) (P_mq 1 1 (toldR (g 32) k cs bk f x) nx h g A) := by
  obtain ⟨h18, h19, hM, hL⟩ := id hQ
  have hk1 := hM.1
  have hk2 := hM.2.1
  obtain ⟨hn10, e3, -⟩ := hI.nl
  by_cases hok : ¬ x < 0 ∧ ¬ 11 < x
  · obtain ⟨c, -, hc, rfl⟩ := okR_nI (lo := 0) (hi := 11) hok (by decide) (by decide)
    have go : ∀ S, RR S f → mm_T (G, l, yX11_told, 2, some .int, d, 0, 0, (P_mq 1 1 (toldR (g 32) k cs bk f (nI c)) nx h g A), nx) RX11 cX11_told nx (mos h (upd g 0 0) (updR A 206 S)) 0 0 27 [some (.ref 188), some (.int (nI c))] [] := by
      intro S hS
      have hS' : RR (updR A 206 S 206) f := by rw [updR_eq]; exact hS
      have hQ' : MQs k cs (upd g 0 0) (updR A 206 S) := ⟨h18, h19, hM, hL⟩
      rcases (show c = 0 ∨ c = 1 ∨ c = 2 ∨ c = 3 ∨ c = 4 ∨ c = 5 ∨ c = 6 ∨ c = 7 ∨ c = 8 ∨ c = 9 ∨ c = 10 ∨ c = 11 by omega) with rfl | rfl | rfl | rfl | rfl | rfl | rfl | rfl | rfl | rfl | rfl | rfl
      · skip
        refine mt_iload_n (pc := 27) dX11_told_27 rfl ?_
        refine mt_iconst (pc := 28) (v := 4) dX11_told_28 (by decide) ?_
        refine mt_icmp_ge (pc := 29) (tgt := 73) dX11_told_29 (by decide) (fun c29 => ?_) (fun c29 => ?_)
        · exact absurd c29 (by decide)
        · skip
          refine mt_iload_n (pc := 32) dX11_told_32 rfl ?_
          refine mt_if_ne (pc := 33) (tgt := 43) dX11_told_33 (by decide) (fun c33 => ?_) (fun c33 => ?_)
          · exact absurd (by decide) c33
          · skip
            refine mt_aload_n (pc := 36) dX11_told_36 rfl ?_
            refine mt_mgetI (pc := 37) (x := nI k.1) gf_X11_154 dX11_told_37 hx rfl h18 ?_
            refine mt_goto (pc := 40) (tgt := 72) dX11_told_40 (by decide) ?_
            exact mt_iret rfl dX11_told_72 (Nat.le_of_ble_eq_true rfl) (Nat.le_of_ble_eq_true rfl) (P_mqv (c0 := 1) (c1 := 1) (r := toldR (g 32) k cs bk f (nI 0)) (by first | rfl | exact congrArg Sum.inr hS.2.2.2.2.2.1.symm | exact congrArg Sum.inr hS.2.2.2.2.2.2.2.symm | exact congrArg Sum.inr hS.2.2.2.2.2.2.1.symm) GQ_0 SD_u.aq)
      · skip
        refine mt_iload_n (pc := 27) dX11_told_27 rfl ?_
        refine mt_iconst (pc := 28) (v := 4) dX11_told_28 (by decide) ?_
        refine mt_icmp_ge (pc := 29) (tgt := 73) dX11_told_29 (by decide) (fun c29 => ?_) (fun c29 => ?_)
        · exact absurd c29 (by decide)
        · skip
          refine mt_iload_n (pc := 32) dX11_told_32 rfl ?_
          refine mt_if_ne (pc := 33) (tgt := 43) dX11_told_33 (by decide) (fun c33 => ?_) (fun c33 => ?_)
          · skip
            refine mt_iload_n (pc := 43) dX11_told_43 rfl ?_
            refine mt_iconst (pc := 44) (v := 1) dX11_told_44 (by decide) ?_
            refine mt_icmp_ne (pc := 45) (tgt := 55) dX11_told_45 (by decide) (fun c45 => ?_) (fun c45 => ?_)
            · exact absurd (by decide) c45
            · skip
              refine mt_aload_n (pc := 48) dX11_told_48 rfl ?_
              refine mt_mgetI (pc := 49) (x := nI k.2.1) gf_X11_157 dX11_told_49 hx rfl h19 ?_
              refine mt_goto (pc := 52) (tgt := 72) dX11_told_52 (by decide) ?_
              exact mt_iret rfl dX11_told_72 (Nat.le_of_ble_eq_true rfl) (Nat.le_of_ble_eq_true rfl) (P_mqv (c0 := 1) (c1 := 1) (r := toldR (g 32) k cs bk f (nI 1)) (by first | rfl | exact congrArg Sum.inr hS.2.2.2.2.2.1.symm | exact congrArg Sum.inr hS.2.2.2.2.2.2.2.symm | exact congrArg Sum.inr hS.2.2.2.2.2.2.1.symm) GQ_0 SD_u.aq)
          · exact absurd c33 (by decide)
      · skip
        refine mt_iload_n (pc := 27) dX11_told_27 rfl ?_
        refine mt_iconst (pc := 28) (v := 4) dX11_told_28 (by decide) ?_
        refine mt_icmp_ge (pc := 29) (tgt := 73) dX11_told_29 (by decide) (fun c29 => ?_) (fun c29 => ?_)
        · exact absurd c29 (by decide)
        · skip
          refine mt_iload_n (pc := 32) dX11_told_32 rfl ?_
          refine mt_if_ne (pc := 33) (tgt := 43) dX11_told_33 (by decide) (fun c33 => ?_) (fun c33 => ?_)
          · skip
            refine mt_iload_n (pc := 43) dX11_told_43 rfl ?_
            refine mt_iconst (pc := 44) (v := 1) dX11_told_44 (by decide) ?_
            refine mt_icmp_ne (pc := 45) (tgt := 55) dX11_told_45 (by decide) (fun c45 => ?_) (fun c45 => ?_)
            · skip
              refine mt_aload_n (pc := 55) dX11_told_55 rfl ?_
              refine mt_mget (pc := 56) gf_X11_68 dX11_told_56 hx rfl ?_
              refine mt_iload_n (pc := 59) dX11_told_59 rfl ?_
              refine mt_iconst (pc := 60) (v := 2) dX11_told_60 (by decide) ?_
              refine mt_icmp_ne (pc := 61) (tgt := 69) dX11_told_61 (by decide) (fun c61 => ?_) (fun c61 => ?_)
              · exact absurd (by decide) c61
              · skip
                refine mt_bipush (pc := 64) (v := 88) dX11_told_64 (by decide) ?_
                refine mt_goto (pc := 66) (tgt := 71) dX11_told_66 (by decide) ?_
                refine mt_mald2 (pc := 71) (i := 206) (j := 88) dX11_told_71 hx rfl rfl (by show _ < 91; omega) rfl ?_
                exact mt_iret rfl dX11_told_72 (Nat.le_of_ble_eq_true rfl) (Nat.le_of_ble_eq_true rfl) (P_mqv (c0 := 1) (c1 := 1) (r := toldR (g 32) k cs bk f (nI 2)) (by first | rfl | exact congrArg Sum.inr hS.2.2.2.2.2.1.symm | exact congrArg Sum.inr hS.2.2.2.2.2.2.2.symm | exact congrArg Sum.inr hS.2.2.2.2.2.2.1.symm) GQ_0 SD_u.aq)
            · exact absurd c45 (by decide)
          · exact absurd c33 (by decide)
      · skip
        refine mt_iload_n (pc := 27) dX11_told_27 rfl ?_
        refine mt_iconst (pc := 28) (v := 4) dX11_told_28 (by decide) ?_
        refine mt_icmp_ge (pc := 29) (tgt := 73) dX11_told_29 (by decide) (fun c29 => ?_) (fun c29 => ?_)
        · exact absurd c29 (by decide)
        · skip
          refine mt_iload_n (pc := 32) dX11_told_32 rfl ?_
          refine mt_if_ne (pc := 33) (tgt := 43) dX11_told_33 (by decide) (fun c33 => ?_) (fun c33 => ?_)
          · skip
            refine mt_iload_n (pc := 43) dX11_told_43 rfl ?_
            refine mt_iconst (pc := 44) (v := 1) dX11_told_44 (by decide) ?_
            refine mt_icmp_ne (pc := 45) (tgt := 55) dX11_told_45 (by decide) (fun c45 => ?_) (fun c45 => ?_)
            · skip
              refine mt_aload_n (pc := 55) dX11_told_55 rfl ?_
              refine mt_mget (pc := 56) gf_X11_68 dX11_told_56 hx rfl ?_
              refine mt_iload_n (pc := 59) dX11_told_59 rfl ?_
              refine mt_iconst (pc := 60) (v := 2) dX11_told_60 (by decide) ?_
              refine mt_icmp_ne (pc := 61) (tgt := 69) dX11_told_61 (by decide) (fun c61 => ?_) (fun c61 => ?_)
              · skip
                refine mt_bipush (pc := 69) (v := 90) dX11_told_69 (by decide) ?_
                refine mt_mald2 (pc := 71) (i := 206) (j := 90) dX11_told_71 hx rfl rfl (by show _ < 91; omega) rfl ?_
                exact mt_iret rfl dX11_told_72 (Nat.le_of_ble_eq_true rfl) (Nat.le_of_ble_eq_true rfl) (P_mqv (c0 := 1) (c1 := 1) (r := toldR (g 32) k cs bk f (nI 3)) (by first | rfl | exact congrArg Sum.inr hS.2.2.2.2.2.1.symm | exact congrArg Sum.inr hS.2.2.2.2.2.2.2.symm | exact congrArg Sum.inr hS.2.2.2.2.2.2.1.symm) GQ_0 SD_u.aq)
              · exact absurd c61 (by decide)
            · exact absurd c45 (by decide)
          · exact absurd c33 (by decide)
      · skip
        refine mt_iload_n (pc := 27) dX11_told_27 rfl ?_
        refine mt_iconst (pc := 28) (v := 4) dX11_told_28 (by decide) ?_
        refine mt_icmp_ge (pc := 29) (tgt := 73) dX11_told_29 (by decide) (fun c29 => ?_) (fun c29 => ?_)
        · skip
          refine mt_iload_n (pc := 73) dX11_told_73 rfl ?_
          refine mt_bipush (pc := 74) (v := 8) dX11_told_74 (by decide) ?_
          refine mt_icmp_ge (pc := 76) (tgt := 132) dX11_told_76 (by decide) (fun c76 => ?_) (fun c76 => ?_)
          · exact absurd c76 (by decide)
          · skip
            refine mt_iload_n (pc := 79) dX11_told_79 rfl ?_
            refine mt_iconst (pc := 80) (v := 4) dX11_told_80 (by decide) ?_
            refine mt_icmp_ne (pc := 81) (tgt := 91) dX11_told_81 (by decide) (fun c81 => ?_) (fun c81 => ?_)
            · exact absurd (by decide) c81
            · skip
              refine mt_aload_n (pc := 84) dX11_told_84 rfl ?_
              refine mt_cV (pc := 85) (n_shutNow (d := 0) (k := k) (f := f) hx hk1 h18 hS' hI) cal_X11_shutNow vir_X11_shutNow ml_X11_351 dX11_told_85 (by omega) (mos_o _ _ _) (by first | assumption | (show _ ≤ d; omega)) ⟨(Nat.le_of_ble_eq_true rfl), (Nat.le_of_ble_eq_true rfl)⟩ rfl rfl (Nat.le_of_ble_eq_true rfl) ?_
              refine mt_goto (pc := 88) (tgt := 131) dX11_told_88 (by decide) ?_
              exact mt_iret rfl dX11_told_131 (Nat.le_of_ble_eq_true rfl) (Nat.le_of_ble_eq_true rfl) (P_mqv (c0 := 1) (c1 := 1) (r := toldR (g 32) k cs bk f (nI 4)) (by first | rfl | exact congrArg Sum.inr hS.2.2.2.2.2.1.symm | exact congrArg Sum.inr hS.2.2.2.2.2.2.2.symm | exact congrArg Sum.inr hS.2.2.2.2.2.2.1.symm) GQ_0 SD_u.aq)
        · exact absurd (by decide) c29
      · skip
        refine mt_iload_n (pc := 27) dX11_told_27 rfl ?_
        refine mt_iconst (pc := 28) (v := 4) dX11_told_28 (by decide) ?_
        refine mt_icmp_ge (pc := 29) (tgt := 73) dX11_told_29 (by decide) (fun c29 => ?_) (fun c29 => ?_)
        · skip
          refine mt_iload_n (pc := 73) dX11_told_73 rfl ?_
          refine mt_bipush (pc := 74) (v := 8) dX11_told_74 (by decide) ?_
          refine mt_icmp_ge (pc := 76) (tgt := 132) dX11_told_76 (by decide) (fun c76 => ?_) (fun c76 => ?_)
          · exact absurd c76 (by decide)
          · skip
            refine mt_iload_n (pc := 79) dX11_told_79 rfl ?_
            refine mt_iconst (pc := 80) (v := 4) dX11_told_80 (by decide) ?_
            refine mt_icmp_ne (pc := 81) (tgt := 91) dX11_told_81 (by decide) (fun c81 => ?_) (fun c81 => ?_)
            · skip
              refine mt_iload_n (pc := 91) dX11_told_91 rfl ?_
              refine mt_iconst (pc := 92) (v := 5) dX11_told_92 (by decide) ?_
              refine mt_icmp_ne (pc := 93) (tgt := 108) dX11_told_93 (by decide) (fun c93 => ?_) (fun c93 => ?_)
              · exact absurd (by decide) c93
              · skip
                refine mt_aload_n (pc := 96) dX11_told_96 rfl ?_
                refine mt_iconst (pc := 97) (v := 0) dX11_told_97 (by decide) ?_
                refine mt_aload_n (pc := 98) dX11_told_98 rfl ?_
                refine mt_mgetI (pc := 99) (x := nI k.1) gf_X11_154 dX11_told_99 hx rfl h18 ?_
                refine mt_cV (pc := 102) (n_sumOf (d := 0) (b := 0) (n := k.1) (F := fun p => f (4 + p)) hx (by omega) (fun i hi => by rw [updR_eq, Nat.zero_add]; exact hS.1 i (by omega))) cal_X11_sumOf vir_X11_sumOf ml_X11_354 dX11_told_102 (by omega) (mos_o _ _ _) (by first | assumption | (show _ ≤ d; omega)) ⟨(Nat.le_of_ble_eq_true rfl), (Nat.le_of_ble_eq_true rfl)⟩ rfl rfl (Nat.le_of_ble_eq_true rfl) ?_
                refine mt_goto (pc := 105) (tgt := 131) dX11_told_105 (by decide) ?_
                exact mt_iret rfl dX11_told_131 (Nat.le_of_ble_eq_true rfl) (Nat.le_of_ble_eq_true rfl) (P_mqv (c0 := 1) (c1 := 1) (r := toldR (g 32) k cs bk f (nI 5)) (by first | rfl | exact congrArg Sum.inr hS.2.2.2.2.2.1.symm | exact congrArg Sum.inr hS.2.2.2.2.2.2.2.symm | exact congrArg Sum.inr hS.2.2.2.2.2.2.1.symm) GQ_0 SD_u.aq)
            · exact absurd c81 (by decide)
        · exact absurd (by decide) c29
      · skip
        refine mt_iload_n (pc := 27) dX11_told_27 rfl ?_
        refine mt_iconst (pc := 28) (v := 4) dX11_told_28 (by decide) ?_
        refine mt_icmp_ge (pc := 29) (tgt := 73) dX11_told_29 (by decide) (fun c29 => ?_) (fun c29 => ?_)
        · skip
          refine mt_iload_n (pc := 73) dX11_told_73 rfl ?_
          refine mt_bipush (pc := 74) (v := 8) dX11_told_74 (by decide) ?_
          refine mt_icmp_ge (pc := 76) (tgt := 132) dX11_told_76 (by decide) (fun c76 => ?_) (fun c76 => ?_)
          · exact absurd c76 (by decide)
          · skip
            refine mt_iload_n (pc := 79) dX11_told_79 rfl ?_
            refine mt_iconst (pc := 80) (v := 4) dX11_told_80 (by decide) ?_
            refine mt_icmp_ne (pc := 81) (tgt := 91) dX11_told_81 (by decide) (fun c81 => ?_) (fun c81 => ?_)
            · skip
              refine mt_iload_n (pc := 91) dX11_told_91 rfl ?_
              refine mt_iconst (pc := 92) (v := 5) dX11_told_92 (by decide) ?_
              refine mt_icmp_ne (pc := 93) (tgt := 108) dX11_told_93 (by decide) (fun c93 => ?_) (fun c93 => ?_)
              · skip
                refine mt_iload_n (pc := 108) dX11_told_108 rfl ?_
                refine mt_bipush (pc := 109) (v := 6) dX11_told_109 (by decide) ?_
                refine mt_icmp_ne (pc := 111) (tgt := 125) dX11_told_111 (by decide) (fun c111 => ?_) (fun c111 => ?_)
                · exact absurd (by decide) c111
                · skip
                  refine mt_aload_n (pc := 114) dX11_told_114 rfl ?_
                  refine mt_aload_n (pc := 115) dX11_told_115 rfl ?_
                  refine mt_cV (pc := 116) (n_allLoans (d := 0) (k := k) (f := f) hx hS' hI) cal_X11_allLoans vir_X11_allLoans ml_X11_357 dX11_told_116 (by omega) (mos_o _ _ _) (by first | assumption | (show _ ≤ d; omega)) ⟨(Nat.le_of_ble_eq_true rfl), (Nat.le_of_ble_eq_true rfl)⟩ rfl rfl (Nat.le_of_ble_eq_true rfl) ?_
                  refine mt_aV (pc := 119) (n_owesAll (d := 5) (cs := cs) (k := k) (f := f) (Nat.le_refl 5) hx hQ' hS' hI) cal_X11_owesAll vir_X11_owesAll ml_X11_360 dX11_told_119 (by omega) (mos_o _ _ _) (by first | assumption | (show _ ≤ d; omega)) ⟨(Nat.le_of_ble_eq_true rfl), (Nat.le_of_ble_eq_true rfl)⟩ rfl rfl (Nat.le_of_ble_eq_true rfl) ?_ ?_
                  · rintro x9 n9 k9 h9
                    obtain ⟨⟨⟩, -⟩ := h9
                  · rintro v9 n9 k9 ⟨⟨⟩, rfl, A1, rfl, hSC⟩
                    refine ⟨rfl, ?_⟩
                    refine mt_goto (pc := 122) (tgt := 131) dX11_told_122 (by decide) ?_
                    exact mt_iret rfl dX11_told_131 (Nat.le_of_ble_eq_true rfl) (Nat.le_of_ble_eq_true rfl) (P_mqv (c0 := 1) (c1 := 1) (r := toldR (g 32) k cs bk f (nI 6)) (by rw [oa_all rfl hn10]; rfl) GQ_0 (SD_u.trans hSC.sd).aq)
              · exact absurd c93 (by decide)
            · exact absurd c81 (by decide)
        · exact absurd (by decide) c29
      · skip
        refine mt_iload_n (pc := 27) dX11_told_27 rfl ?_
        refine mt_iconst (pc := 28) (v := 4) dX11_told_28 (by decide) ?_
        refine mt_icmp_ge (pc := 29) (tgt := 73) dX11_told_29 (by decide) (fun c29 => ?_) (fun c29 => ?_)
        · skip
          refine mt_iload_n (pc := 73) dX11_told_73 rfl ?_
          refine mt_bipush (pc := 74) (v := 8) dX11_told_74 (by decide) ?_
          refine mt_icmp_ge (pc := 76) (tgt := 132) dX11_told_76 (by decide) (fun c76 => ?_) (fun c76 => ?_)
          · exact absurd c76 (by decide)
          · skip
            refine mt_iload_n (pc := 79) dX11_told_79 rfl ?_
            refine mt_iconst (pc := 80) (v := 4) dX11_told_80 (by decide) ?_
            refine mt_icmp_ne (pc := 81) (tgt := 91) dX11_told_81 (by decide) (fun c81 => ?_) (fun c81 => ?_)
            · skip
              refine mt_iload_n (pc := 91) dX11_told_91 rfl ?_
              refine mt_iconst (pc := 92) (v := 5) dX11_told_92 (by decide) ?_
              refine mt_icmp_ne (pc := 93) (tgt := 108) dX11_told_93 (by decide) (fun c93 => ?_) (fun c93 => ?_)
              · skip
                refine mt_iload_n (pc := 108) dX11_told_108 rfl ?_
                refine mt_bipush (pc := 109) (v := 6) dX11_told_109 (by decide) ?_
                refine mt_icmp_ne (pc := 111) (tgt := 125) dX11_told_111 (by decide) (fun c111 => ?_) (fun c111 => ?_)
                · skip
                  refine mt_aload_n (pc := 125) dX11_told_125 rfl ?_
                  refine mt_iconst (pc := 126) (v := 5) dX11_told_126 (by decide) ?_
                  refine mt_iconst (pc := 127) (v := 1) dX11_told_127 (by decide) ?_
                  refine mt_cV (pc := 128) (n_loansBy (d := 1) (k := k) (f := f) (j := 5) (v := 1) (Nat.le_refl 1) hx (by decide) hS' hI) cal_X11_loansBy vir_X11_loansBy ml_X11_363 dX11_told_128 (by omega) (mos_o _ _ _) (by first | assumption | (show _ ≤ d; omega)) ⟨(Nat.le_of_ble_eq_true rfl), (Nat.le_of_ble_eq_true rfl)⟩ rfl rfl (Nat.le_of_ble_eq_true rfl) ?_
                  exact mt_iret rfl dX11_told_131 (Nat.le_of_ble_eq_true rfl) (Nat.le_of_ble_eq_true rfl) (P_mqv (c0 := 1) (c1 := 1) (r := toldR (g 32) k cs bk f (nI 7)) (by first | rfl | exact congrArg Sum.inr hS.2.2.2.2.2.1.symm | exact congrArg Sum.inr hS.2.2.2.2.2.2.2.symm | exact congrArg Sum.inr hS.2.2.2.2.2.2.1.symm) GQ_0 SD_u.aq)
                · exact absurd c111 (by decide)
              · exact absurd c93 (by decide)
            · exact absurd c81 (by decide)
        · exact absurd (by decide) c29
      · skip
        refine mt_iload_n (pc := 27) dX11_told_27 rfl ?_
        refine mt_iconst (pc := 28) (v := 4) dX11_told_28 (by decide) ?_
        refine mt_icmp_ge (pc := 29) (tgt := 73) dX11_told_29 (by decide) (fun c29 => ?_) (fun c29 => ?_)
        · skip
          refine mt_iload_n (pc := 73) dX11_told_73 rfl ?_
          refine mt_bipush (pc := 74) (v := 8) dX11_told_74 (by decide) ?_
          refine mt_icmp_ge (pc := 76) (tgt := 132) dX11_told_76 (by decide) (fun c76 => ?_) (fun c76 => ?_)
          · skip
            refine mt_iload_n (pc := 132) dX11_told_132 rfl ?_
            refine mt_bipush (pc := 133) (v := 8) dX11_told_133 (by decide) ?_
            refine mt_icmp_ne (pc := 135) (tgt := 151) dX11_told_135 (by decide) (fun c135 => ?_) (fun c135 => ?_)
            · exact absurd (by decide) c135
            · skip
              refine mt_aload_n (pc := 138) dX11_told_138 rfl ?_
              refine mt_bipush (pc := 139) (v := 22) dX11_told_139 (by decide) ?_
              refine mt_aload_n (pc := 141) dX11_told_141 rfl ?_
              refine mt_mgetI (pc := 142) (x := nI k.2.1) gf_X11_157 dX11_told_142 hx rfl h19 ?_
              refine mt_cV (pc := 145) (n_sumOf (d := 0) (b := 22) (n := k.2.1) (F := fun p => f (18 + p)) hx (by omega) (fun i hi => by rw [updR_eq]; exact hS.2.2.2.1 i (by omega))) cal_X11_sumOf vir_X11_sumOf ml_X11_354 dX11_told_145 (by omega) (mos_o _ _ _) (by first | assumption | (show _ ≤ d; omega)) ⟨(Nat.le_of_ble_eq_true rfl), (Nat.le_of_ble_eq_true rfl)⟩ rfl rfl (Nat.le_of_ble_eq_true rfl) ?_
              refine mt_goto (pc := 148) (tgt := 184) dX11_told_148 (by decide) ?_
              exact mt_iret rfl dX11_told_184 (Nat.le_of_ble_eq_true rfl) (Nat.le_of_ble_eq_true rfl) (P_mqv (c0 := 1) (c1 := 1) (r := toldR (g 32) k cs bk f (nI 8)) (by first | rfl | exact congrArg Sum.inr hS.2.2.2.2.2.1.symm | exact congrArg Sum.inr hS.2.2.2.2.2.2.2.symm | exact congrArg Sum.inr hS.2.2.2.2.2.2.1.symm) GQ_0 SD_u.aq)
          · exact absurd (by decide) c76
        · exact absurd (by decide) c29
      · skip
        refine mt_iload_n (pc := 27) dX11_told_27 rfl ?_
        refine mt_iconst (pc := 28) (v := 4) dX11_told_28 (by decide) ?_
        refine mt_icmp_ge (pc := 29) (tgt := 73) dX11_told_29 (by decide) (fun c29 => ?_) (fun c29 => ?_)
        · skip
          refine mt_iload_n (pc := 73) dX11_told_73 rfl ?_
          refine mt_bipush (pc := 74) (v := 8) dX11_told_74 (by decide) ?_
          refine mt_icmp_ge (pc := 76) (tgt := 132) dX11_told_76 (by decide) (fun c76 => ?_) (fun c76 => ?_)
          · skip
            refine mt_iload_n (pc := 132) dX11_told_132 rfl ?_
            refine mt_bipush (pc := 133) (v := 8) dX11_told_133 (by decide) ?_
            refine mt_icmp_ne (pc := 135) (tgt := 151) dX11_told_135 (by decide) (fun c135 => ?_) (fun c135 => ?_)
            · skip
              refine mt_iload_n (pc := 151) dX11_told_151 rfl ?_
              refine mt_bipush (pc := 152) (v := 9) dX11_told_152 (by decide) ?_
              refine mt_icmp_ne (pc := 154) (tgt := 164) dX11_told_154 (by decide) (fun c154 => ?_) (fun c154 => ?_)
              · exact absurd (by decide) c154
              · skip
                refine mt_aload_n (pc := 157) dX11_told_157 rfl ?_
                refine mt_mgetI (pc := 158) (x := nI bk.1) gf_X11_167 dX11_told_158 hx rfl h41 ?_
                refine mt_goto (pc := 161) (tgt := 184) dX11_told_161 (by decide) ?_
                exact mt_iret rfl dX11_told_184 (Nat.le_of_ble_eq_true rfl) (Nat.le_of_ble_eq_true rfl) (P_mqv (c0 := 1) (c1 := 1) (r := toldR (g 32) k cs bk f (nI 9)) (by first | rfl | exact congrArg Sum.inr hS.2.2.2.2.2.1.symm | exact congrArg Sum.inr hS.2.2.2.2.2.2.2.symm | exact congrArg Sum.inr hS.2.2.2.2.2.2.1.symm) GQ_0 SD_u.aq)
            · exact absurd c135 (by decide)
          · exact absurd (by decide) c76
        · exact absurd (by decide) c29
      · skip
        refine mt_iload_n (pc := 27) dX11_told_27 rfl ?_
        refine mt_iconst (pc := 28) (v := 4) dX11_told_28 (by decide) ?_
        refine mt_icmp_ge (pc := 29) (tgt := 73) dX11_told_29 (by decide) (fun c29 => ?_) (fun c29 => ?_)
        · skip
          refine mt_iload_n (pc := 73) dX11_told_73 rfl ?_
          refine mt_bipush (pc := 74) (v := 8) dX11_told_74 (by decide) ?_
          refine mt_icmp_ge (pc := 76) (tgt := 132) dX11_told_76 (by decide) (fun c76 => ?_) (fun c76 => ?_)
          · skip
            refine mt_iload_n (pc := 132) dX11_told_132 rfl ?_
            refine mt_bipush (pc := 133) (v := 8) dX11_told_133 (by decide) ?_
            refine mt_icmp_ne (pc := 135) (tgt := 151) dX11_told_135 (by decide) (fun c135 => ?_) (fun c135 => ?_)
            · skip
              refine mt_iload_n (pc := 151) dX11_told_151 rfl ?_
              refine mt_bipush (pc := 152) (v := 9) dX11_told_152 (by decide) ?_
              refine mt_icmp_ne (pc := 154) (tgt := 164) dX11_told_154 (by decide) (fun c154 => ?_) (fun c154 => ?_)
              · skip
                refine mt_iload_n (pc := 164) dX11_told_164 rfl ?_
                refine mt_bipush (pc := 165) (v := 10) dX11_told_165 (by decide) ?_
                refine mt_icmp_ne (pc := 167) (tgt := 177) dX11_told_167 (by decide) (fun c167 => ?_) (fun c167 => ?_)
                · exact absurd (by decide) c167
                · skip
                  refine mt_aload_n (pc := 170) dX11_told_170 rfl ?_
                  refine mt_mget (pc := 171) gf_X11_176 dX11_told_171 hx rfl ?_
                  refine mt_goto (pc := 174) (tgt := 184) dX11_told_174 (by decide) ?_
                  exact mt_iret rfl dX11_told_184 (Nat.le_of_ble_eq_true rfl) (Nat.le_of_ble_eq_true rfl) (P_mqv (c0 := 1) (c1 := 1) (r := toldR (g 32) k cs bk f (nI 10)) (by first | rfl | exact congrArg Sum.inr hS.2.2.2.2.2.1.symm | exact congrArg Sum.inr hS.2.2.2.2.2.2.2.symm | exact congrArg Sum.inr hS.2.2.2.2.2.2.1.symm) GQ_0 SD_u.aq)
              · exact absurd c154 (by decide)
            · exact absurd c135 (by decide)
          · exact absurd (by decide) c76
        · exact absurd (by decide) c29
      · skip
        refine mt_iload_n (pc := 27) dX11_told_27 rfl ?_
        refine mt_iconst (pc := 28) (v := 4) dX11_told_28 (by decide) ?_
        refine mt_icmp_ge (pc := 29) (tgt := 73) dX11_told_29 (by decide) (fun c29 => ?_) (fun c29 => ?_)
        · skip
          refine mt_iload_n (pc := 73) dX11_told_73 rfl ?_
          refine mt_bipush (pc := 74) (v := 8) dX11_told_74 (by decide) ?_
          refine mt_icmp_ge (pc := 76) (tgt := 132) dX11_told_76 (by decide) (fun c76 => ?_) (fun c76 => ?_)
          · skip
            refine mt_iload_n (pc := 132) dX11_told_132 rfl ?_
            refine mt_bipush (pc := 133) (v := 8) dX11_told_133 (by decide) ?_
            refine mt_icmp_ne (pc := 135) (tgt := 151) dX11_told_135 (by decide) (fun c135 => ?_) (fun c135 => ?_)
            · skip
              refine mt_iload_n (pc := 151) dX11_told_151 rfl ?_
              refine mt_bipush (pc := 152) (v := 9) dX11_told_152 (by decide) ?_
              refine mt_icmp_ne (pc := 154) (tgt := 164) dX11_told_154 (by decide) (fun c154 => ?_) (fun c154 => ?_)
              · skip
                refine mt_iload_n (pc := 164) dX11_told_164 rfl ?_
                refine mt_bipush (pc := 165) (v := 10) dX11_told_165 (by decide) ?_
                refine mt_icmp_ne (pc := 167) (tgt := 177) dX11_told_167 (by decide) (fun c167 => ?_) (fun c167 => ?_)
                · skip
                  refine mt_aload_n (pc := 177) dX11_told_177 rfl ?_
                  refine mt_mget (pc := 178) gf_X11_68 dX11_told_178 hx rfl ?_
                  refine mt_bipush (pc := 181) (v := 89) dX11_told_181 (by decide) ?_
                  refine mt_mald2 (pc := 183) (i := 206) (j := 89) dX11_told_183 hx rfl rfl (by show _ < 91; omega) rfl ?_
                  exact mt_iret rfl dX11_told_184 (Nat.le_of_ble_eq_true rfl) (Nat.le_of_ble_eq_true rfl) (P_mqv (c0 := 1) (c1 := 1) (r := toldR (g 32) k cs bk f (nI 11)) (by first | rfl | exact congrArg Sum.inr hS.2.2.2.2.2.1.symm | exact congrArg Sum.inr hS.2.2.2.2.2.2.2.symm | exact congrArg Sum.inr hS.2.2.2.2.2.2.1.symm) GQ_0 SD_u.aq)
                · exact absurd c167 (by decide)
              · exact absurd c154 (by decide)
            · exact absurd c135 (by decide)
          · exact absurd (by decide) c76
        · exact absurd (by decide) c29
    refine mm_start (lo := [some (.ref 188), some (.int (nI c))]) pn_X11 rfl rfl (Nat.le_of_ble_eq_true rfl) ?_
    refine mt_aload_n (pc := 0) dX11_told_0 rfl ?_
    refine mt_iconst (pc := 1) (v := 0) dX11_told_1 (by decide) ?_
    refine mt_mput (pc := 2) pf_X11_3 dX11_told_2 hx rfl ?_
    refine mt_aload_n (pc := 5) dX11_told_5 rfl ?_
    refine mt_iload_n (pc := 6) dX11_told_6 rfl ?_
    refine mt_iconst (pc := 7) (v := 0) dX11_told_7 (by decide) ?_
    refine mt_bipush (pc := 8) (v := 11) dX11_told_8 (by decide) ?_
    refine mt_cS (pc := 10) (n_within) cal_X11_within sta_X11_within ml_X11_348 dX11_told_10 (by first | assumption | (show _ ≤ d; omega)) ⟨(Nat.le_of_ble_eq_true rfl), (Nat.le_of_ble_eq_true rfl)⟩ rfl rfl (Nat.le_of_ble_eq_true rfl) ?_
    rw [in_w hok]
    refine mt_iconst (pc := 13) (v := 1) dX11_told_13 (by decide) ?_
    refine mt_iconst (pc := 14) (v := 1) dX11_told_14 (by decide) ?_
    refine mt_cV (pc := 15) (n_mayY (d := 0) (q := 1) hx rfl (by decide)) cal_X11_may vir_X11_may ml_X11_190 dX11_told_15 (by omega) (mos_o _ _ _) (by first | assumption | (show _ ≤ d; omega)) ⟨(Nat.le_of_ble_eq_true rfl), (Nat.le_of_ble_eq_true rfl)⟩ rfl rfl (Nat.le_of_ble_eq_true rfl) ?_
    refine mt_if_ne (pc := 18) (tgt := 23) dX11_told_18 (by decide) (fun c18 => ?_) (fun c18 => ?_)
    · skip
      refine mt_aload_n (pc := 23) dX11_told_23 rfl ?_
      refine mt_aV (pc := 24) (n_takeR (d := 1) (f := f) (Nat.le_refl 1) hx hR hn10) cal_X11_take vir_X11_take ml_X11_293 dX11_told_24 (by omega) (mos_o _ _ _) (by first | assumption | (show _ ≤ d; omega)) ⟨(Nat.le_of_ble_eq_true rfl), (Nat.le_of_ble_eq_true rfl)⟩ rfl rfl (Nat.le_of_ble_eq_true rfl) ?_ ?_
      · rintro x9 n9 k9 h9
        obtain ⟨⟨⟩, -⟩ := h9
      · rintro v9 n9 k9 ⟨⟨⟩, rfl, S, rfl, hS⟩
        refine ⟨rfl, ?_⟩
        exact go S hS
    · exact absurd c18 (by decide)
  · have no := no_in (hi := 11) (by decide) hok
    refine mm_start (lo := [some (.ref 188), some (.int x)]) pn_X11 rfl rfl (Nat.le_of_ble_eq_true rfl) ?_
    refine mt_aload_n (pc := 0) dX11_told_0 rfl ?_
    refine mt_iconst (pc := 1) (v := 0) dX11_told_1 (by decide) ?_
    refine mt_mput (pc := 2) pf_X11_3 dX11_told_2 hx rfl ?_
    refine mt_aload_n (pc := 5) dX11_told_5 rfl ?_
    refine mt_iload_n (pc := 6) dX11_told_6 rfl ?_
    refine mt_iconst (pc := 7) (v := 0) dX11_told_7 (by decide) ?_
    refine mt_bipush (pc := 8) (v := 11) dX11_told_8 (by decide) ?_
    refine mt_cS (pc := 10) (n_within) cal_X11_within sta_X11_within ml_X11_348 dX11_told_10 (by first | assumption | (show _ ≤ d; omega)) ⟨(Nat.le_of_ble_eq_true rfl), (Nat.le_of_ble_eq_true rfl)⟩ rfl rfl (Nat.le_of_ble_eq_true rfl) ?_
    rw [in_nw hok]
    refine mt_iconst (pc := 13) (v := 1) dX11_told_13 (by decide) ?_
    refine mt_iconst (pc := 14) (v := 1) dX11_told_14 (by decide) ?_
    refine mt_cV (pc := 15) (n_mayN (d := 0) (q := 1) hx (by decide) rfl rfl (by decide)) cal_X11_may vir_X11_may ml_X11_190 dX11_told_15 (by omega) (mos_o _ _ _) (by first | assumption | (show _ ≤ d; omega)) ⟨(Nat.le_of_ble_eq_true rfl), (Nat.le_of_ble_eq_true rfl)⟩ rfl rfl (Nat.le_of_ble_eq_true rfl) ?_
    refine mt_if_ne (pc := 18) (tgt := 23) dX11_told_18 (by decide) (fun c18 => ?_) (fun c18 => ?_)
    · exact absurd rfl c18
    · skip
      refine mt_iconst (pc := 21) (v := 0) dX11_told_21 (by decide) ?_
      exact mt_iret rfl dX11_told_22 (Nat.le_of_ble_eq_true rfl) (Nat.le_of_ble_eq_true rfl) (P_mq1 (c0 := 1) (c1 := 1) (r := toldR (g 32) k cs bk f x) (by unfold toldR; rw [if_neg (no 0 (by decide)), if_neg (no 1 (by decide)), if_neg (no 2 (by decide)), if_neg (no 3 (by decide)), if_neg (no 4 (by decide)), if_neg (no 5 (by decide)), if_neg (no 6 (by decide)), if_neg (no 7 (by decide)), if_neg (no 8 (by decide)), if_neg (no 9 (by decide)), if_neg (no 10 (by decide)), if_neg (no 11 (by decide))]))
theorem n_slab {p x : Int32} (hd : 4 ≤ d) (hx : 215 ≤ nx) (hQ : MQs k cs g A) (hR : RR (A 205) f) (hI : RI k f) : mm_Con G l yX11_slab cX11_slab 5 (some .int) d 0 0 [.ref 188, .int p, .int x] nx (mos h g A) (P_mq 1 2 (slabR k f p x) nx h g A) := by
  obtain ⟨h18, h19, hM, hL⟩ := id hQ
  have hk1 := hM.1
  have hk2 := hM.2.1
  obtain ⟨hn10, e3, -⟩ := hI.nl
  by_cases hp : inR p k.1
  · obtain ⟨j, hj, rfl⟩ := inR_of hp (by omega)
    have er : slabR k f (nI j) x = slabV k f j x := by
      unfold slabR
      rw [if_pos hp, nI_clamp (by omega)]
    rw [er]
    by_cases hok : ¬ x < 0 ∧ ¬ 5 < x
    · obtain ⟨c, -, hc, rfl⟩ := okR_nI (lo := 0) (hi := 5) hok (by decide) (by decide)
      obtain ⟨m1, m2, -, jj, m3, m4⟩ := hM.2.2.1 j hj
      obtain ⟨z, z1, z2⟩ := hI.2.2.2.2.1
      have z3 := pow_mono hk1
      have z4 := pow_mono hk2
      have go : ∀ S, RR S f → mm_T (G, l, yX11_slab, 5, some .int, d, 0, 0, (P_mq 1 2 (slabV k f j (nI c)) nx h g A), nx) RX11 cX11_slab nx (mos h (upd g 0 0) (updR A 206 S)) 0 0 35 [some (.ref 188), some (.int (nI j)), some (.int (nI c)), none, none] [] := by
        intro S hS
        have hS' : RR (updR A 206 S 206) f := by rw [updR_eq]; exact hS
        have e4 : S (0 + j) = f (4 + j) := by rw [Nat.zero_add]; exact hS.1 j (by omega)
        have e8 : S (8 + j) = if (f 1 >>> (nI j &&& 31)) &&& 1 = 1 then 1 else 0 := by
          rw [hS.2.1 j (by omega), z1, bit32 (by omega) (by omega)]
          rcases Nat.mod_two_eq_zero_or_one (z / 2 ^ j) with y | y <;> rw [y] <;> rfl
        rcases (show c = 0 ∨ c = 1 ∨ c = 2 ∨ c = 3 ∨ c = 4 ∨ c = 5 by omega) with rfl | rfl | rfl | rfl | rfl | rfl
        · skip
          refine mt_iload_n (pc := 35) dX11_slab_35 rfl ?_
          refine mt_iconst (pc := 36) (v := 4) dX11_slab_36 (by decide) ?_
          refine mt_icmp_ge (pc := 37) (tgt := 92) dX11_slab_37 (by decide) (fun c37 => ?_) (fun c37 => ?_)
          · exact absurd c37 (by decide)
          · skip
            refine mt_iload_n (pc := 40) dX11_slab_40 rfl ?_
            refine mt_if_ne (pc := 41) (tgt := 55) dX11_slab_41 (by decide) (fun c41 => ?_) (fun c41 => ?_)
            · exact absurd (by decide) c41
            · skip
              refine mt_aload_n (pc := 44) dX11_slab_44 rfl ?_
              refine mt_mget (pc := 45) gf_X11_32 dX11_slab_45 hx rfl ?_
              refine mt_iconst (pc := 48) (v := 2) dX11_slab_48 (by decide) ?_
              refine mt_iload_n (pc := 49) dX11_slab_49 rfl ?_
              refine mt_imulN (pc := 50) (a := 2) (b := j) dX11_slab_50 rfl rfl ?_
              refine mt_mald (pc := 51) (i := 194) (j := 2 * j) (x := k.2.2.1 j) dX11_slab_51 hx rfl rfl (by show _ < 16; omega) m1 ?_
              refine mt_goto (pc := 52) (tgt := 91) dX11_slab_52 (by decide) ?_
              exact mt_iret rfl dX11_slab_91 (Nat.le_of_ble_eq_true rfl) (Nat.le_of_ble_eq_true rfl) (P_mqv (c0 := 1) (c1 := 2) (r := slabV k f j (nI 0)) (by first | rfl | exact congrArg Sum.inr e4.symm | exact congrArg Sum.inr e8.symm) GQ_0 SD_u.aq)
        · skip
          refine mt_iload_n (pc := 35) dX11_slab_35 rfl ?_
          refine mt_iconst (pc := 36) (v := 4) dX11_slab_36 (by decide) ?_
          refine mt_icmp_ge (pc := 37) (tgt := 92) dX11_slab_37 (by decide) (fun c37 => ?_) (fun c37 => ?_)
          · exact absurd c37 (by decide)
          · skip
            refine mt_iload_n (pc := 40) dX11_slab_40 rfl ?_
            refine mt_if_ne (pc := 41) (tgt := 55) dX11_slab_41 (by decide) (fun c41 => ?_) (fun c41 => ?_)
            · skip
              refine mt_iload_n (pc := 55) dX11_slab_55 rfl ?_
              refine mt_iconst (pc := 56) (v := 2) dX11_slab_56 (by decide) ?_
              refine mt_icmp_ne (pc := 57) (tgt := 73) dX11_slab_57 (by decide) (fun c57 => ?_) (fun c57 => ?_)
              · skip
                refine mt_aload_n (pc := 73) dX11_slab_73 rfl ?_
                refine mt_mget (pc := 74) gf_X11_68 dX11_slab_74 hx rfl ?_
                refine mt_iload_n (pc := 77) dX11_slab_77 rfl ?_
                refine mt_iconst (pc := 78) (v := 1) dX11_slab_78 (by decide) ?_
                refine mt_icmp_ne (pc := 79) (tgt := 86) dX11_slab_79 (by decide) (fun c79 => ?_) (fun c79 => ?_)
                · exact absurd (by decide) c79
                · skip
                  refine mt_iconst (pc := 82) (v := 0) dX11_slab_82 (by decide) ?_
                  refine mt_goto (pc := 83) (tgt := 88) dX11_slab_83 (by decide) ?_
                  refine mt_iload_n (pc := 88) dX11_slab_88 rfl ?_
                  refine mt_iaddN (pc := 89) (a := 0) (b := j) dX11_slab_89 rfl rfl ?_
                  refine mt_mald2 (pc := 90) (i := 206) (j := 0 + j) dX11_slab_90 hx rfl rfl (by show _ < 91; omega) rfl ?_
                  exact mt_iret rfl dX11_slab_91 (Nat.le_of_ble_eq_true rfl) (Nat.le_of_ble_eq_true rfl) (P_mqv (c0 := 1) (c1 := 2) (r := slabV k f j (nI 1)) (by first | rfl | exact congrArg Sum.inr e4.symm | exact congrArg Sum.inr e8.symm) GQ_0 SD_u.aq)
              · exact absurd c57 (by decide)
            · exact absurd c41 (by decide)
        · skip
          refine mt_iload_n (pc := 35) dX11_slab_35 rfl ?_
          refine mt_iconst (pc := 36) (v := 4) dX11_slab_36 (by decide) ?_
          refine mt_icmp_ge (pc := 37) (tgt := 92) dX11_slab_37 (by decide) (fun c37 => ?_) (fun c37 => ?_)
          · exact absurd c37 (by decide)
          · skip
            refine mt_iload_n (pc := 40) dX11_slab_40 rfl ?_
            refine mt_if_ne (pc := 41) (tgt := 55) dX11_slab_41 (by decide) (fun c41 => ?_) (fun c41 => ?_)
            · skip
              refine mt_iload_n (pc := 55) dX11_slab_55 rfl ?_
              refine mt_iconst (pc := 56) (v := 2) dX11_slab_56 (by decide) ?_
              refine mt_icmp_ne (pc := 57) (tgt := 73) dX11_slab_57 (by decide) (fun c57 => ?_) (fun c57 => ?_)
              · exact absurd (by decide) c57
              · skip
                refine mt_aload_n (pc := 60) dX11_slab_60 rfl ?_
                refine mt_mget (pc := 61) gf_X11_32 dX11_slab_61 hx rfl ?_
                refine mt_iconst (pc := 64) (v := 2) dX11_slab_64 (by decide) ?_
                refine mt_iload_n (pc := 65) dX11_slab_65 rfl ?_
                refine mt_imulN (pc := 66) (a := 2) (b := j) dX11_slab_66 rfl rfl ?_
                refine mt_iconst (pc := 67) (v := 1) dX11_slab_67 (by decide) ?_
                refine mt_iaddN (pc := 68) (a := 2 * j) (b := 1) dX11_slab_68 rfl rfl ?_
                refine mt_mald (pc := 69) (i := 194) (j := (2 * j) + 1) (x := k.2.2.2.1 j) dX11_slab_69 hx rfl rfl (by show _ < 16; omega) m2 ?_
                refine mt_goto (pc := 70) (tgt := 91) dX11_slab_70 (by decide) ?_
                exact mt_iret rfl dX11_slab_91 (Nat.le_of_ble_eq_true rfl) (Nat.le_of_ble_eq_true rfl) (P_mqv (c0 := 1) (c1 := 2) (r := slabV k f j (nI 2)) (by first | rfl | exact congrArg Sum.inr e4.symm | exact congrArg Sum.inr e8.symm) GQ_0 SD_u.aq)
            · exact absurd c41 (by decide)
        · skip
          refine mt_iload_n (pc := 35) dX11_slab_35 rfl ?_
          refine mt_iconst (pc := 36) (v := 4) dX11_slab_36 (by decide) ?_
          refine mt_icmp_ge (pc := 37) (tgt := 92) dX11_slab_37 (by decide) (fun c37 => ?_) (fun c37 => ?_)
          · exact absurd c37 (by decide)
          · skip
            refine mt_iload_n (pc := 40) dX11_slab_40 rfl ?_
            refine mt_if_ne (pc := 41) (tgt := 55) dX11_slab_41 (by decide) (fun c41 => ?_) (fun c41 => ?_)
            · skip
              refine mt_iload_n (pc := 55) dX11_slab_55 rfl ?_
              refine mt_iconst (pc := 56) (v := 2) dX11_slab_56 (by decide) ?_
              refine mt_icmp_ne (pc := 57) (tgt := 73) dX11_slab_57 (by decide) (fun c57 => ?_) (fun c57 => ?_)
              · skip
                refine mt_aload_n (pc := 73) dX11_slab_73 rfl ?_
                refine mt_mget (pc := 74) gf_X11_68 dX11_slab_74 hx rfl ?_
                refine mt_iload_n (pc := 77) dX11_slab_77 rfl ?_
                refine mt_iconst (pc := 78) (v := 1) dX11_slab_78 (by decide) ?_
                refine mt_icmp_ne (pc := 79) (tgt := 86) dX11_slab_79 (by decide) (fun c79 => ?_) (fun c79 => ?_)
                · skip
                  refine mt_bipush (pc := 86) (v := 8) dX11_slab_86 (by decide) ?_
                  refine mt_iload_n (pc := 88) dX11_slab_88 rfl ?_
                  refine mt_iaddN (pc := 89) (a := 8) (b := j) dX11_slab_89 rfl rfl ?_
                  refine mt_mald2 (pc := 90) (i := 206) (j := 8 + j) dX11_slab_90 hx rfl rfl (by show _ < 91; omega) rfl ?_
                  exact mt_iret rfl dX11_slab_91 (Nat.le_of_ble_eq_true rfl) (Nat.le_of_ble_eq_true rfl) (P_mqv (c0 := 1) (c1 := 2) (r := slabV k f j (nI 3)) (by first | rfl | exact congrArg Sum.inr e4.symm | exact congrArg Sum.inr e8.symm) GQ_0 SD_u.aq)
                · exact absurd c79 (by decide)
              · exact absurd c57 (by decide)
            · exact absurd c41 (by decide)
        · skip
          refine mt_iload_n (pc := 35) dX11_slab_35 rfl ?_
          refine mt_iconst (pc := 36) (v := 4) dX11_slab_36 (by decide) ?_
          refine mt_icmp_ge (pc := 37) (tgt := 92) dX11_slab_37 (by decide) (fun c37 => ?_) (fun c37 => ?_)
          · skip
            refine mt_iload_n (pc := 92) dX11_slab_92 rfl ?_
            refine mt_iconst (pc := 93) (v := 4) dX11_slab_93 (by decide) ?_
            refine mt_icmp_ne (pc := 94) (tgt := 104) dX11_slab_94 (by decide) (fun c94 => ?_) (fun c94 => ?_)
            · exact absurd (by decide) c94
            · skip
              refine mt_aload_n (pc := 97) dX11_slab_97 rfl ?_
              refine mt_iconst (pc := 98) (v := 1) dX11_slab_98 (by decide) ?_
              refine mt_iload_n (pc := 99) dX11_slab_99 rfl ?_
              refine mt_cV (pc := 100) (n_loansBy (d := 1) (k := k) (f := f) (j := 1) (v := nI j) (Nat.le_refl 1) hx (by decide) hS' hI) cal_X11_loansBy vir_X11_loansBy ml_X11_363 dX11_slab_100 (by omega) (mos_o _ _ _) (by first | assumption | (show _ ≤ d; omega)) ⟨(Nat.le_of_ble_eq_true rfl), (Nat.le_of_ble_eq_true rfl)⟩ rfl rfl (Nat.le_of_ble_eq_true rfl) ?_
              exact mt_iret rfl dX11_slab_103 (Nat.le_of_ble_eq_true rfl) (Nat.le_of_ble_eq_true rfl) (P_mqv (c0 := 1) (c1 := 2) (r := slabV k f j (nI 4)) (by first | rfl | exact congrArg Sum.inr e4.symm | exact congrArg Sum.inr e8.symm) GQ_0 SD_u.aq)
          · exact absurd (by decide) c37
        · have eb : k.2.2.2.2.1 j = fld (fun p acc => acc ||| (nI (jj / 2 ^ p % 2) <<< (nI p &&& 31))) 0 k.2.1 := by rw [fld_bits k.2.1 (by omega), m3, Nat.mod_eq_of_lt m4]
          have ev : slabV k f j (nI 5) = .inr (fld (fun p acc => acc ||| (nI (jj / 2 ^ p % 2) <<< (nI p &&& 31))) 0 k.2.1) := by rw [← eb]; rfl
          refine mt_iload_n (pc := 35) dX11_slab_35 rfl ?_
          refine mt_iconst (pc := 36) (v := 4) dX11_slab_36 (by decide) ?_
          refine mt_icmp_ge (pc := 37) (tgt := 92) dX11_slab_37 (by decide) (fun c37 => ?_) (fun c37 => ?_)
          · skip
            refine mt_iload_n (pc := 92) dX11_slab_92 rfl ?_
            refine mt_iconst (pc := 93) (v := 4) dX11_slab_93 (by decide) ?_
            refine mt_icmp_ne (pc := 94) (tgt := 104) dX11_slab_94 (by decide) (fun c94 => ?_) (fun c94 => ?_)
            · skip
              refine mt_iconst (pc := 104) (v := 0) dX11_slab_104 (by decide) ?_
              refine mt_istore_n (pc := 105) dX11_slab_105 (Nat.le_of_ble_eq_true rfl) rfl ?_
              refine mt_iconst (pc := 106) (v := 0) dX11_slab_106 (by decide) ?_
              refine mt_istore (pc := 107) dX11_slab_107 (Nat.le_of_ble_eq_true rfl) rfl ?_
              refine mt_for (pc := 109) (H := fun a => mos h (upd g 0 0) (updR A 206 S)) (L := fun a => [some (.ref 188), some (.int (nI j)), some (.int (nI 5)), some (.int (fld (fun p acc => acc ||| (nI (jj / 2 ^ p % 2) <<< (nI p &&& 31))) 0 a)), some (.int (nI a))]) (k.2.1) (fun a ha na => ?_) ?_
              · skip
                obtain ⟨K', k1, k2, k3⟩ := hM.2.2.2.2 a (by omega)
                have k4 := k3 j hj
                rw [m3, nI_clamp (by omega)] at k4
                refine mt_iload (pc := 109) dX11_slab_109 rfl ?_
                refine mt_aload_n (pc := 111) dX11_slab_111 rfl ?_
                refine mt_mgetI (pc := 112) (x := nI k.2.1) gf_X11_157 dX11_slab_112 hx rfl h19 ?_
                refine mt_icmp_ge (pc := 115) (tgt := 141) dX11_slab_115 (by decide) (fun c115 => ?_) (fun c115 => ?_)
                · exact absurd c115 (nI_ge ha (by first | omega | decide))
                · skip
                  refine mt_iload_n (pc := 118) dX11_slab_118 rfl ?_
                  refine mt_aload_n (pc := 119) dX11_slab_119 rfl ?_
                  refine mt_mget (pc := 120) gf_X11_38 dX11_slab_120 hx rfl ?_
                  refine mt_iload (pc := 123) dX11_slab_123 rfl ?_
                  refine mt_mald (pc := 125) (i := 196) (j := a) (x := nI K') dX11_slab_125 hx rfl rfl (by show _ < 6; omega) k1 ?_
                  refine mt_iload_n (pc := 126) dX11_slab_126 rfl ?_
                  refine mt_ishr (pc := 127) dX11_slab_127 ?_
                  refine mt_iconst (pc := 128) (v := 1) dX11_slab_128 (by decide) ?_
                  refine mt_iand (pc := 129) dX11_slab_129 ?_
                  rw [bit32 (by omega) (by omega), k4]
                  refine mt_iload (pc := 130) dX11_slab_130 rfl ?_
                  refine mt_ishl (pc := 132) dX11_slab_132 ?_
                  refine mt_ior (pc := 133) dX11_slab_133 ?_
                  refine mt_istore_n (pc := 134) dX11_slab_134 (Nat.le_of_ble_eq_true rfl) rfl ?_
                  refine mt_iinc (pc := 135) (c9 := 1) dX11_slab_135 rfl (by decide) (Nat.le_of_ble_eq_true rfl) rfl ?_
                  refine mt_goto (pc := 138) (tgt := 109) dX11_slab_138 (by decide) ?_
                  rw [show (nI a + 1 : Int32) = nI (a + 1) from nI_1 a]
                  first
                    | exact na
                    | exact mt_fg (by repeat (first | exact trivial | refine ⟨rfl, ?_⟩ | rfl)) na
              · skip
                refine mt_iload (pc := 109) dX11_slab_109 rfl ?_
                refine mt_aload_n (pc := 111) dX11_slab_111 rfl ?_
                refine mt_mgetI (pc := 112) (x := nI k.2.1) gf_X11_157 dX11_slab_112 hx rfl h19 ?_
                refine mt_icmp_ge (pc := 115) (tgt := 141) dX11_slab_115 (by decide) (fun c115 => ?_) (fun c115 => ?_)
                · skip
                  refine mt_iload_n (pc := 141) dX11_slab_141 rfl ?_
                  exact mt_iret rfl dX11_slab_142 (Nat.le_of_ble_eq_true rfl) (Nat.le_of_ble_eq_true rfl) (P_mqv (c0 := 1) (c1 := 2) (r := slabV k f j (nI 5)) ev GQ_0 SD_u.aq)
                · exact absurd (nI_le (Nat.le_refl _) (by first | omega | decide)) c115
            · exact absurd c94 (by decide)
          · exact absurd (by decide) c37
      refine mm_start (lo := [some (.ref 188), some (.int (nI j)), some (.int (nI c)), none, none]) pn_X11 rfl rfl (Nat.le_of_ble_eq_true rfl) ?_
      refine mt_aload_n (pc := 0) dX11_slab_0 rfl ?_
      refine mt_iconst (pc := 1) (v := 0) dX11_slab_1 (by decide) ?_
      refine mt_mput (pc := 2) pf_X11_3 dX11_slab_2 hx rfl ?_
      refine mt_aload_n (pc := 5) dX11_slab_5 rfl ?_
      refine mt_iload_n (pc := 6) dX11_slab_6 rfl ?_
      refine mt_iconst (pc := 7) (v := 1) dX11_slab_7 (by decide) ?_
      refine mt_cV (pc := 8) (n_isSlabY (d := 1) (k := k) (Nat.le_refl 1) hx rfl hk1 h18 hp) cal_X11_isSlab vir_X11_isSlab ml_X11_366 dX11_slab_8 (by omega) (mos_o _ _ _) (by first | assumption | (show _ ≤ d; omega)) ⟨(Nat.le_of_ble_eq_true rfl), (Nat.le_of_ble_eq_true rfl)⟩ rfl rfl (Nat.le_of_ble_eq_true rfl) ?_
      refine mt_if_eq (pc := 11) (tgt := 29) dX11_slab_11 (by decide) (fun c11 => ?_) (fun c11 => ?_)
      · exact absurd c11 (by decide)
      · skip
        refine mt_aload_n (pc := 14) dX11_slab_14 rfl ?_
        refine mt_iload_n (pc := 15) dX11_slab_15 rfl ?_
        refine mt_iconst (pc := 16) (v := 0) dX11_slab_16 (by decide) ?_
        refine mt_iconst (pc := 17) (v := 5) dX11_slab_17 (by decide) ?_
        refine mt_cS (pc := 18) (n_within) cal_X11_within sta_X11_within ml_X11_348 dX11_slab_18 (by first | assumption | (show _ ≤ d; omega)) ⟨(Nat.le_of_ble_eq_true rfl), (Nat.le_of_ble_eq_true rfl)⟩ rfl rfl (Nat.le_of_ble_eq_true rfl) ?_
        rw [in_w hok]
        refine mt_iconst (pc := 21) (v := 2) dX11_slab_21 (by decide) ?_
        refine mt_iconst (pc := 22) (v := 1) dX11_slab_22 (by decide) ?_
        refine mt_cV (pc := 23) (n_mayY (d := 0) (q := 1) hx rfl (by decide)) cal_X11_may vir_X11_may ml_X11_190 dX11_slab_23 (by omega) (mos_o _ _ _) (by first | assumption | (show _ ≤ d; omega)) ⟨(Nat.le_of_ble_eq_true rfl), (Nat.le_of_ble_eq_true rfl)⟩ rfl rfl (Nat.le_of_ble_eq_true rfl) ?_
        refine mt_if_ne (pc := 26) (tgt := 31) dX11_slab_26 (by decide) (fun c26 => ?_) (fun c26 => ?_)
        · skip
          refine mt_aload_n (pc := 31) dX11_slab_31 rfl ?_
          refine mt_aV (pc := 32) (n_takeR (d := 1) (f := f) (Nat.le_refl 1) hx hR hn10) cal_X11_take vir_X11_take ml_X11_293 dX11_slab_32 (by omega) (mos_o _ _ _) (by first | assumption | (show _ ≤ d; omega)) ⟨(Nat.le_of_ble_eq_true rfl), (Nat.le_of_ble_eq_true rfl)⟩ rfl rfl (Nat.le_of_ble_eq_true rfl) ?_ ?_
          · rintro x9 n9 k9 h9
            obtain ⟨⟨⟩, -⟩ := h9
          · rintro v9 n9 k9 ⟨⟨⟩, rfl, S, rfl, hS⟩
            refine ⟨rfl, ?_⟩
            exact go S hS
        · exact absurd c26 (by decide)
    · have no := no_in (hi := 5) (by decide) hok
      refine mm_start (lo := [some (.ref 188), some (.int (nI j)), some (.int x), none, none]) pn_X11 rfl rfl (Nat.le_of_ble_eq_true rfl) ?_
      refine mt_aload_n (pc := 0) dX11_slab_0 rfl ?_
      refine mt_iconst (pc := 1) (v := 0) dX11_slab_1 (by decide) ?_
      refine mt_mput (pc := 2) pf_X11_3 dX11_slab_2 hx rfl ?_
      refine mt_aload_n (pc := 5) dX11_slab_5 rfl ?_
      refine mt_iload_n (pc := 6) dX11_slab_6 rfl ?_
      refine mt_iconst (pc := 7) (v := 1) dX11_slab_7 (by decide) ?_
      refine mt_cV (pc := 8) (n_isSlabY (d := 1) (k := k) (Nat.le_refl 1) hx rfl hk1 h18 hp) cal_X11_isSlab vir_X11_isSlab ml_X11_366 dX11_slab_8 (by omega) (mos_o _ _ _) (by first | assumption | (show _ ≤ d; omega)) ⟨(Nat.le_of_ble_eq_true rfl), (Nat.le_of_ble_eq_true rfl)⟩ rfl rfl (Nat.le_of_ble_eq_true rfl) ?_
      refine mt_if_eq (pc := 11) (tgt := 29) dX11_slab_11 (by decide) (fun c11 => ?_) (fun c11 => ?_)
      · exact absurd c11 (by decide)
      · skip
        refine mt_aload_n (pc := 14) dX11_slab_14 rfl ?_
        refine mt_iload_n (pc := 15) dX11_slab_15 rfl ?_
        refine mt_iconst (pc := 16) (v := 0) dX11_slab_16 (by decide) ?_
        refine mt_iconst (pc := 17) (v := 5) dX11_slab_17 (by decide) ?_
        refine mt_cS (pc := 18) (n_within) cal_X11_within sta_X11_within ml_X11_348 dX11_slab_18 (by first | assumption | (show _ ≤ d; omega)) ⟨(Nat.le_of_ble_eq_true rfl), (Nat.le_of_ble_eq_true rfl)⟩ rfl rfl (Nat.le_of_ble_eq_true rfl) ?_
        rw [in_nw hok]
        refine mt_iconst (pc := 21) (v := 2) dX11_slab_21 (by decide) ?_
        refine mt_iconst (pc := 22) (v := 1) dX11_slab_22 (by decide) ?_
        refine mt_cV (pc := 23) (n_mayN (d := 0) (q := 1) hx (by decide) rfl rfl (by decide)) cal_X11_may vir_X11_may ml_X11_190 dX11_slab_23 (by omega) (mos_o _ _ _) (by first | assumption | (show _ ≤ d; omega)) ⟨(Nat.le_of_ble_eq_true rfl), (Nat.le_of_ble_eq_true rfl)⟩ rfl rfl (Nat.le_of_ble_eq_true rfl) ?_
        refine mt_if_ne (pc := 26) (tgt := 31) dX11_slab_26 (by decide) (fun c26 => ?_) (fun c26 => ?_)
        · exact absurd rfl c26
        · skip
          refine mt_iconst (pc := 29) (v := 0) dX11_slab_29 (by decide) ?_
          exact mt_iret rfl dX11_slab_30 (Nat.le_of_ble_eq_true rfl) (Nat.le_of_ble_eq_true rfl) (P_mq1 (c0 := 1) (c1 := 2) (r := slabV k f j x) (by unfold slabV; rw [if_neg (no 0 (by decide)), if_neg (no 1 (by decide)), if_neg (no 2 (by decide)), if_neg (no 3 (by decide)), if_neg (no 4 (by decide)), if_neg (no 5 (by decide))]))
  · refine mm_start (lo := [some (.ref 188), some (.int p), some (.int x), none, none]) pn_X11 rfl rfl (Nat.le_of_ble_eq_true rfl) ?_
    refine mt_aload_n (pc := 0) dX11_slab_0 rfl ?_
    refine mt_iconst (pc := 1) (v := 0) dX11_slab_1 (by decide) ?_
    refine mt_mput (pc := 2) pf_X11_3 dX11_slab_2 hx rfl ?_
    refine mt_aload_n (pc := 5) dX11_slab_5 rfl ?_
    refine mt_iload_n (pc := 6) dX11_slab_6 rfl ?_
    refine mt_iconst (pc := 7) (v := 1) dX11_slab_7 (by decide) ?_
    refine mt_cV (pc := 8) (n_isSlabN (d := 1) (k := k) (Nat.le_refl 1) hx rfl hk1 h18 (by decide) hp) cal_X11_isSlab vir_X11_isSlab ml_X11_366 dX11_slab_8 (by omega) (mos_o _ _ _) (by first | assumption | (show _ ≤ d; omega)) ⟨(Nat.le_of_ble_eq_true rfl), (Nat.le_of_ble_eq_true rfl)⟩ rfl rfl (Nat.le_of_ble_eq_true rfl) ?_
    refine mt_if_eq (pc := 11) (tgt := 29) dX11_slab_11 (by decide) (fun c11 => ?_) (fun c11 => ?_)
    · skip
      refine mt_iconst (pc := 29) (v := 0) dX11_slab_29 (by decide) ?_
      exact mt_iret rfl dX11_slab_30 (Nat.le_of_ble_eq_true rfl) (Nat.le_of_ble_eq_true rfl) (P_mq0 (c0 := 1) (c1 := 2) (r := slabR k f p x) (by unfold slabR; rw [if_neg hp]))
    · exact absurd rfl c11
theorem n_soul {p x : Int32} (hd : 7 ≤ d) (hx : 215 ≤ nx) (hQ : MQs k cs g A) (hR : RR (A 205) f) (hI : RI k f) : mm_Con G l yX11_soul cX11_soul 6 (some .int) d 0 0 [.ref 188, .int p, .int x] nx (mos h g A) (P_mq 1 2 (soulR k cs f p x) nx h g A) := by
  obtain ⟨h18, h19, hM, hL⟩ := id hQ
  have hk1 := hM.1
  have hk2 := hM.2.1
  obtain ⟨hn10, e3, -⟩ := hI.nl
  by_cases hp : inR p k.2.1
  · obtain ⟨j, hj, rfl⟩ := inR_of hp (by omega)
    have er : soulR k cs f (nI j) x = soulV k cs f j x := by
      unfold soulR
      rw [if_pos hp, nI_clamp (by omega)]
    rw [er]
    by_cases hok : ¬ x < 0 ∧ ¬ 5 < x
    · obtain ⟨c, -, hc, rfl⟩ := okR_nI (lo := 0) (hi := 5) hok (by decide) (by decide)
      obtain ⟨m1, m2, -⟩ := hM.2.2.2.1 j hj
      have go : ∀ S, RR S f → mm_T (G, l, yX11_soul, 6, some .int, d, 0, 0, (P_mq 1 2 (soulV k cs f j (nI c)) nx h g A), nx) RX11 cX11_soul nx (mos h (upd g 0 0) (updR A 206 S)) 0 0 42 [some (.ref 188), some (.int (nI j)), some (.int (nI c)), some (.int (lwF f 0 (nI j))), none, none] [] := by
        intro S hS
        have hS' : RR (updR A 206 S 206) f := by rw [updR_eq]; exact hS
        have hQ' : MQs k cs (upd g 0 0) (updR A 206 S) := ⟨h18, h19, hM, hL⟩
        have e16 : S (16 + j) = f (12 + j) := hS.2.2.1 j (by omega)
        have e22 : S (22 + j) = f (18 + j) := hS.2.2.2.1 j (by omega)
        rcases (show c = 0 ∨ c = 1 ∨ c = 2 ∨ c = 3 ∨ c = 4 ∨ c = 5 by omega) with rfl | rfl | rfl | rfl | rfl | rfl
        · skip
          refine mt_iload_n (pc := 42) dX11_soul_42 rfl ?_
          refine mt_iconst (pc := 43) (v := 4) dX11_soul_43 (by decide) ?_
          refine mt_icmp_ge (pc := 44) (tgt := 91) dX11_soul_44 (by decide) (fun c44 => ?_) (fun c44 => ?_)
          · exact absurd c44 (by decide)
          · skip
            refine mt_iload_n (pc := 47) dX11_soul_47 rfl ?_
            refine mt_iconst (pc := 48) (v := 1) dX11_soul_48 (by decide) ?_
            refine mt_icmp_ne (pc := 49) (tgt := 63) dX11_soul_49 (by decide) (fun c49 => ?_) (fun c49 => ?_)
            · skip
              refine mt_iload_n (pc := 63) dX11_soul_63 rfl ?_
              refine mt_iconst (pc := 64) (v := 3) dX11_soul_64 (by decide) ?_
              refine mt_icmp_ne (pc := 65) (tgt := 72) dX11_soul_65 (by decide) (fun c65 => ?_) (fun c65 => ?_)
              · skip
                refine mt_aload_n (pc := 72) dX11_soul_72 rfl ?_
                refine mt_mget (pc := 73) gf_X11_68 dX11_soul_73 hx rfl ?_
                refine mt_iload_n (pc := 76) dX11_soul_76 rfl ?_
                refine mt_if_ne (pc := 77) (tgt := 85) dX11_soul_77 (by decide) (fun c77 => ?_) (fun c77 => ?_)
                · exact absurd (by decide) c77
                · skip
                  refine mt_bipush (pc := 80) (v := 16) dX11_soul_80 (by decide) ?_
                  refine mt_goto (pc := 82) (tgt := 87) dX11_soul_82 (by decide) ?_
                  refine mt_iload_n (pc := 87) dX11_soul_87 rfl ?_
                  refine mt_iaddN (pc := 88) (a := 16) (b := j) dX11_soul_88 rfl rfl ?_
                  refine mt_mald2 (pc := 89) (i := 206) (j := 16 + j) dX11_soul_89 hx rfl rfl (by show _ < 91; omega) rfl ?_
                  exact mt_iret rfl dX11_soul_90 (Nat.le_of_ble_eq_true rfl) (Nat.le_of_ble_eq_true rfl) (P_mqv (c0 := 1) (c1 := 2) (r := soulV k cs f j (nI 0)) (by first | rfl | exact congrArg Sum.inr e16.symm | exact congrArg Sum.inr e22.symm) GQ_0 SD_u.aq)
              · exact absurd c65 (by decide)
            · exact absurd c49 (by decide)
        · skip
          refine mt_iload_n (pc := 42) dX11_soul_42 rfl ?_
          refine mt_iconst (pc := 43) (v := 4) dX11_soul_43 (by decide) ?_
          refine mt_icmp_ge (pc := 44) (tgt := 91) dX11_soul_44 (by decide) (fun c44 => ?_) (fun c44 => ?_)
          · exact absurd c44 (by decide)
          · skip
            refine mt_iload_n (pc := 47) dX11_soul_47 rfl ?_
            refine mt_iconst (pc := 48) (v := 1) dX11_soul_48 (by decide) ?_
            refine mt_icmp_ne (pc := 49) (tgt := 63) dX11_soul_49 (by decide) (fun c49 => ?_) (fun c49 => ?_)
            · exact absurd (by decide) c49
            · skip
              refine mt_aload_n (pc := 52) dX11_soul_52 rfl ?_
              refine mt_mget (pc := 53) gf_X11_35 dX11_soul_53 hx rfl ?_
              refine mt_iconst (pc := 56) (v := 2) dX11_soul_56 (by decide) ?_
              refine mt_iload_n (pc := 57) dX11_soul_57 rfl ?_
              refine mt_imulN (pc := 58) (a := 2) (b := j) dX11_soul_58 rfl rfl ?_
              refine mt_mald (pc := 59) (i := 195) (j := 2 * j) (x := k.2.2.2.2.2.1 j) dX11_soul_59 hx rfl rfl (by show _ < 12; omega) m1 ?_
              refine mt_goto (pc := 60) (tgt := 90) dX11_soul_60 (by decide) ?_
              exact mt_iret rfl dX11_soul_90 (Nat.le_of_ble_eq_true rfl) (Nat.le_of_ble_eq_true rfl) (P_mqv (c0 := 1) (c1 := 2) (r := soulV k cs f j (nI 1)) (by first | rfl | exact congrArg Sum.inr e16.symm | exact congrArg Sum.inr e22.symm) GQ_0 SD_u.aq)
        · skip
          refine mt_iload_n (pc := 42) dX11_soul_42 rfl ?_
          refine mt_iconst (pc := 43) (v := 4) dX11_soul_43 (by decide) ?_
          refine mt_icmp_ge (pc := 44) (tgt := 91) dX11_soul_44 (by decide) (fun c44 => ?_) (fun c44 => ?_)
          · exact absurd c44 (by decide)
          · skip
            refine mt_iload_n (pc := 47) dX11_soul_47 rfl ?_
            refine mt_iconst (pc := 48) (v := 1) dX11_soul_48 (by decide) ?_
            refine mt_icmp_ne (pc := 49) (tgt := 63) dX11_soul_49 (by decide) (fun c49 => ?_) (fun c49 => ?_)
            · skip
              refine mt_iload_n (pc := 63) dX11_soul_63 rfl ?_
              refine mt_iconst (pc := 64) (v := 3) dX11_soul_64 (by decide) ?_
              refine mt_icmp_ne (pc := 65) (tgt := 72) dX11_soul_65 (by decide) (fun c65 => ?_) (fun c65 => ?_)
              · skip
                refine mt_aload_n (pc := 72) dX11_soul_72 rfl ?_
                refine mt_mget (pc := 73) gf_X11_68 dX11_soul_73 hx rfl ?_
                refine mt_iload_n (pc := 76) dX11_soul_76 rfl ?_
                refine mt_if_ne (pc := 77) (tgt := 85) dX11_soul_77 (by decide) (fun c77 => ?_) (fun c77 => ?_)
                · skip
                  refine mt_bipush (pc := 85) (v := 22) dX11_soul_85 (by decide) ?_
                  refine mt_iload_n (pc := 87) dX11_soul_87 rfl ?_
                  refine mt_iaddN (pc := 88) (a := 22) (b := j) dX11_soul_88 rfl rfl ?_
                  refine mt_mald2 (pc := 89) (i := 206) (j := 22 + j) dX11_soul_89 hx rfl rfl (by show _ < 91; omega) rfl ?_
                  exact mt_iret rfl dX11_soul_90 (Nat.le_of_ble_eq_true rfl) (Nat.le_of_ble_eq_true rfl) (P_mqv (c0 := 1) (c1 := 2) (r := soulV k cs f j (nI 2)) (by first | rfl | exact congrArg Sum.inr e16.symm | exact congrArg Sum.inr e22.symm) GQ_0 SD_u.aq)
                · exact absurd c77 (by decide)
              · exact absurd c65 (by decide)
            · exact absurd c49 (by decide)
        · skip
          refine mt_iload_n (pc := 42) dX11_soul_42 rfl ?_
          refine mt_iconst (pc := 43) (v := 4) dX11_soul_43 (by decide) ?_
          refine mt_icmp_ge (pc := 44) (tgt := 91) dX11_soul_44 (by decide) (fun c44 => ?_) (fun c44 => ?_)
          · exact absurd c44 (by decide)
          · skip
            refine mt_iload_n (pc := 47) dX11_soul_47 rfl ?_
            refine mt_iconst (pc := 48) (v := 1) dX11_soul_48 (by decide) ?_
            refine mt_icmp_ne (pc := 49) (tgt := 63) dX11_soul_49 (by decide) (fun c49 => ?_) (fun c49 => ?_)
            · skip
              refine mt_iload_n (pc := 63) dX11_soul_63 rfl ?_
              refine mt_iconst (pc := 64) (v := 3) dX11_soul_64 (by decide) ?_
              refine mt_icmp_ne (pc := 65) (tgt := 72) dX11_soul_65 (by decide) (fun c65 => ?_) (fun c65 => ?_)
              · exact absurd (by decide) c65
              · skip
                refine mt_iload_n (pc := 68) dX11_soul_68 rfl ?_
                refine mt_goto (pc := 69) (tgt := 90) dX11_soul_69 (by decide) ?_
                exact mt_iret rfl dX11_soul_90 (Nat.le_of_ble_eq_true rfl) (Nat.le_of_ble_eq_true rfl) (P_mqv (c0 := 1) (c1 := 2) (r := soulV k cs f j (nI 3)) (by first | rfl | exact congrArg Sum.inr e16.symm | exact congrArg Sum.inr e22.symm) GQ_0 SD_u.aq)
            · exact absurd c49 (by decide)
        · skip
          refine mt_iload_n (pc := 42) dX11_soul_42 rfl ?_
          refine mt_iconst (pc := 43) (v := 4) dX11_soul_43 (by decide) ?_
          refine mt_icmp_ge (pc := 44) (tgt := 91) dX11_soul_44 (by decide) (fun c44 => ?_) (fun c44 => ?_)
          · skip
            refine mt_iload_n (pc := 91) dX11_soul_91 rfl ?_
            refine mt_iconst (pc := 92) (v := 4) dX11_soul_92 (by decide) ?_
            refine mt_icmp_ne (pc := 93) (tgt := 102) dX11_soul_93 (by decide) (fun c93 => ?_) (fun c93 => ?_)
            · exact absurd (by decide) c93
            · skip
              refine mt_aload_n (pc := 96) dX11_soul_96 rfl ?_
              refine mt_iload_n (pc := 97) dX11_soul_97 rfl ?_
              refine mt_aV (pc := 98) (n_owesAll (d := 5) (cs := cs) (k := k) (f := f) (Nat.le_refl 5) hx hQ' hS' hI) cal_X11_owesAll vir_X11_owesAll ml_X11_360 dX11_soul_98 (by omega) (mos_o _ _ _) (by first | assumption | (show _ ≤ d; omega)) ⟨(Nat.le_of_ble_eq_true rfl), (Nat.le_of_ble_eq_true rfl)⟩ rfl rfl (Nat.le_of_ble_eq_true rfl) ?_ ?_
              · rintro x9 n9 k9 h9
                obtain ⟨⟨⟩, -⟩ := h9
              · rintro v9 n9 k9 ⟨⟨⟩, rfl, A1, rfl, hSC⟩
                refine ⟨rfl, ?_⟩
                exact mt_iret rfl dX11_soul_101 (Nat.le_of_ble_eq_true rfl) (Nat.le_of_ble_eq_true rfl) (P_mqv (c0 := 1) (c1 := 2) (r := soulV k cs f j (nI 4)) (by rw [oa_own hn10 (by omega)]; rfl) GQ_0 (SD_u.trans hSC.sd).aq)
          · exact absurd (by decide) c44
        · skip
          refine mt_iload_n (pc := 42) dX11_soul_42 rfl ?_
          refine mt_iconst (pc := 43) (v := 4) dX11_soul_43 (by decide) ?_
          refine mt_icmp_ge (pc := 44) (tgt := 91) dX11_soul_44 (by decide) (fun c44 => ?_) (fun c44 => ?_)
          · skip
            refine mt_iload_n (pc := 91) dX11_soul_91 rfl ?_
            refine mt_iconst (pc := 92) (v := 4) dX11_soul_92 (by decide) ?_
            refine mt_icmp_ne (pc := 93) (tgt := 102) dX11_soul_93 (by decide) (fun c93 => ?_) (fun c93 => ?_)
            · skip
              refine mt_iconst (pc := 102) (v := 0) dX11_soul_102 (by decide) ?_
              refine mt_istore (pc := 103) dX11_soul_103 (Nat.le_of_ble_eq_true rfl) rfl ?_
              refine mt_iconst (pc := 105) (v := 0) dX11_soul_105 (by decide) ?_
              refine mt_istore (pc := 106) dX11_soul_106 (Nat.le_of_ble_eq_true rfl) rfl ?_
              refine mt_for (pc := 108) (H := fun i => mos h (upd g 0 0) (updR A 206 S)) (L := fun i => [some (.ref 188), some (.int (nI j)), some (.int (nI 5)), some (.int (lwF f 0 (nI j))), some (.int (fld (fun i acc => acc + ((lwF f 0 (nI j) >>> (nI i &&& 31)) &&& 1) * f (24 + 6 * i + 2)) 0 i)), some (.int (nI i))]) (nlo f) (fun i hi ni => ?_) ?_
              · skip
                refine mt_iload (pc := 108) dX11_soul_108 rfl ?_
                refine mt_aload_n (pc := 110) dX11_soul_110 rfl ?_
                refine mt_mget (pc := 111) gf_X11_68 dX11_soul_111 hx rfl ?_
                refine mt_bipush (pc := 114) (v := 88) dX11_soul_114 (by decide) ?_
                refine mt_mald2 (pc := 116) (i := 206) (j := 88) (x := nI (nlo f)) dX11_soul_116 hx rfl rfl (by show _ < 91; omega) (by rw [hS.2.2.2.2.2.1]; exact e3) ?_
                refine mt_icmp_ge (pc := 117) (tgt := 145) dX11_soul_117 (by decide) (fun c117 => ?_) (fun c117 => ?_)
                · exact absurd c117 (nI_ge hi (by first | omega | decide))
                · skip
                  refine mt_iload (pc := 120) dX11_soul_120 rfl ?_
                  refine mt_iload_n (pc := 122) dX11_soul_122 rfl ?_
                  refine mt_iload (pc := 123) dX11_soul_123 rfl ?_
                  refine mt_ishr (pc := 125) dX11_soul_125 ?_
                  refine mt_iconst (pc := 126) (v := 1) dX11_soul_126 (by decide) ?_
                  refine mt_iand (pc := 127) dX11_soul_127 ?_
                  refine mt_aload_n (pc := 128) dX11_soul_128 rfl ?_
                  refine mt_iload (pc := 129) dX11_soul_129 rfl ?_
                  refine mt_iconst (pc := 131) (v := 2) dX11_soul_131 (by decide) ?_
                  refine mt_cV (pc := 132) (n_loanOf (d := 0) (i := i) (k := 2) hx (by omega) (by decide)) cal_X11_loanOf vir_X11_loanOf ml_X11_314 dX11_soul_132 (by omega) (mos_o _ _ _) (by first | assumption | (show _ ≤ d; omega)) ⟨(Nat.le_of_ble_eq_true rfl), (Nat.le_of_ble_eq_true rfl)⟩ rfl rfl (Nat.le_of_ble_eq_true rfl) ?_
                  rw [hS'.ln hi (by decide)]
                  refine mt_imul (pc := 135) dX11_soul_135 ?_
                  refine mt_iadd (pc := 136) dX11_soul_136 ?_
                  refine mt_istore (pc := 137) dX11_soul_137 (Nat.le_of_ble_eq_true rfl) rfl ?_
                  refine mt_iinc (pc := 139) (c9 := 1) dX11_soul_139 rfl (by decide) (Nat.le_of_ble_eq_true rfl) rfl ?_
                  refine mt_goto (pc := 142) (tgt := 108) dX11_soul_142 (by decide) ?_
                  rw [show (nI i + 1 : Int32) = nI (i + 1) from nI_1 i]
                  first
                    | exact ni
                    | exact mt_fg (by repeat (first | exact trivial | refine ⟨rfl, ?_⟩ | rfl)) ni
              · skip
                refine mt_iload (pc := 108) dX11_soul_108 rfl ?_
                refine mt_aload_n (pc := 110) dX11_soul_110 rfl ?_
                refine mt_mget (pc := 111) gf_X11_68 dX11_soul_111 hx rfl ?_
                refine mt_bipush (pc := 114) (v := 88) dX11_soul_114 (by decide) ?_
                refine mt_mald2 (pc := 116) (i := 206) (j := 88) (x := nI (nlo f)) dX11_soul_116 hx rfl rfl (by show _ < 91; omega) (by rw [hS.2.2.2.2.2.1]; exact e3) ?_
                refine mt_icmp_ge (pc := 117) (tgt := 145) dX11_soul_117 (by decide) (fun c117 => ?_) (fun c117 => ?_)
                · skip
                  refine mt_iload (pc := 145) dX11_soul_145 rfl ?_
                  exact mt_iret rfl dX11_soul_147 (Nat.le_of_ble_eq_true rfl) (Nat.le_of_ble_eq_true rfl) (P_mqv (c0 := 1) (c1 := 2) (r := soulV k cs f j (nI 5)) (by rw [lt_own hn10]; rfl) GQ_0 SD_u.aq)
                · exact absurd (nI_le (Nat.le_refl _) (by first | omega | decide)) c117
            · exact absurd c93 (by decide)
          · exact absurd (by decide) c44
      refine mm_start (lo := [some (.ref 188), some (.int (nI j)), some (.int (nI c)), none, none, none]) pn_X11 rfl rfl (Nat.le_of_ble_eq_true rfl) ?_
      refine mt_aload_n (pc := 0) dX11_soul_0 rfl ?_
      refine mt_iconst (pc := 1) (v := 0) dX11_soul_1 (by decide) ?_
      refine mt_mput (pc := 2) pf_X11_3 dX11_soul_2 hx rfl ?_
      refine mt_aload_n (pc := 5) dX11_soul_5 rfl ?_
      refine mt_iload_n (pc := 6) dX11_soul_6 rfl ?_
      refine mt_iconst (pc := 7) (v := 1) dX11_soul_7 (by decide) ?_
      refine mt_cV (pc := 8) (n_isSoulY (d := 1) (k := k) (Nat.le_refl 1) hx rfl hk2 h19 hp) cal_X11_isSoul vir_X11_isSoul ml_X11_369 dX11_soul_8 (by omega) (mos_o _ _ _) (by first | assumption | (show _ ≤ d; omega)) ⟨(Nat.le_of_ble_eq_true rfl), (Nat.le_of_ble_eq_true rfl)⟩ rfl rfl (Nat.le_of_ble_eq_true rfl) ?_
      refine mt_if_eq (pc := 11) (tgt := 29) dX11_soul_11 (by decide) (fun c11 => ?_) (fun c11 => ?_)
      · exact absurd c11 (by decide)
      · skip
        refine mt_aload_n (pc := 14) dX11_soul_14 rfl ?_
        refine mt_iload_n (pc := 15) dX11_soul_15 rfl ?_
        refine mt_iconst (pc := 16) (v := 0) dX11_soul_16 (by decide) ?_
        refine mt_iconst (pc := 17) (v := 5) dX11_soul_17 (by decide) ?_
        refine mt_cS (pc := 18) (n_within) cal_X11_within sta_X11_within ml_X11_348 dX11_soul_18 (by first | assumption | (show _ ≤ d; omega)) ⟨(Nat.le_of_ble_eq_true rfl), (Nat.le_of_ble_eq_true rfl)⟩ rfl rfl (Nat.le_of_ble_eq_true rfl) ?_
        rw [in_w hok]
        refine mt_iconst (pc := 21) (v := 2) dX11_soul_21 (by decide) ?_
        refine mt_iconst (pc := 22) (v := 1) dX11_soul_22 (by decide) ?_
        refine mt_cV (pc := 23) (n_mayY (d := 0) (q := 1) hx rfl (by decide)) cal_X11_may vir_X11_may ml_X11_190 dX11_soul_23 (by omega) (mos_o _ _ _) (by first | assumption | (show _ ≤ d; omega)) ⟨(Nat.le_of_ble_eq_true rfl), (Nat.le_of_ble_eq_true rfl)⟩ rfl rfl (Nat.le_of_ble_eq_true rfl) ?_
        refine mt_if_ne (pc := 26) (tgt := 31) dX11_soul_26 (by decide) (fun c26 => ?_) (fun c26 => ?_)
        · skip
          refine mt_aload_n (pc := 31) dX11_soul_31 rfl ?_
          refine mt_aV (pc := 32) (n_takeR (d := 1) (f := f) (Nat.le_refl 1) hx hR hn10) cal_X11_take vir_X11_take ml_X11_293 dX11_soul_32 (by omega) (mos_o _ _ _) (by first | assumption | (show _ ≤ d; omega)) ⟨(Nat.le_of_ble_eq_true rfl), (Nat.le_of_ble_eq_true rfl)⟩ rfl rfl (Nat.le_of_ble_eq_true rfl) ?_ ?_
          · rintro x9 n9 k9 h9
            obtain ⟨⟨⟩, -⟩ := h9
          · rintro v9 n9 k9 ⟨⟨⟩, rfl, S, rfl, hS⟩
            refine ⟨rfl, ?_⟩
            refine mt_aload_n (pc := 35) dX11_soul_35 rfl ?_
            refine mt_iconst (pc := 36) (v := 0) dX11_soul_36 (by decide) ?_
            refine mt_iload_n (pc := 37) dX11_soul_37 rfl ?_
            refine mt_cV (pc := 38) (n_loansBy (d := 1) (k := k) (f := f) (j := 0) (v := nI j) (Nat.le_refl 1) hx (by decide) (by rw [updR_eq]; exact hS) hI) cal_X11_loansBy vir_X11_loansBy ml_X11_363 dX11_soul_38 (by omega) (mos_o _ _ _) (by first | assumption | (show _ ≤ d; omega)) ⟨(Nat.le_of_ble_eq_true rfl), (Nat.le_of_ble_eq_true rfl)⟩ rfl rfl (Nat.le_of_ble_eq_true rfl) ?_
            refine mt_istore_n (pc := 41) dX11_soul_41 (Nat.le_of_ble_eq_true rfl) rfl ?_
            exact go S hS
        · exact absurd c26 (by decide)
    · have no := no_in (hi := 5) (by decide) hok
      refine mm_start (lo := [some (.ref 188), some (.int (nI j)), some (.int x), none, none, none]) pn_X11 rfl rfl (Nat.le_of_ble_eq_true rfl) ?_
      refine mt_aload_n (pc := 0) dX11_soul_0 rfl ?_
      refine mt_iconst (pc := 1) (v := 0) dX11_soul_1 (by decide) ?_
      refine mt_mput (pc := 2) pf_X11_3 dX11_soul_2 hx rfl ?_
      refine mt_aload_n (pc := 5) dX11_soul_5 rfl ?_
      refine mt_iload_n (pc := 6) dX11_soul_6 rfl ?_
      refine mt_iconst (pc := 7) (v := 1) dX11_soul_7 (by decide) ?_
      refine mt_cV (pc := 8) (n_isSoulY (d := 1) (k := k) (Nat.le_refl 1) hx rfl hk2 h19 hp) cal_X11_isSoul vir_X11_isSoul ml_X11_369 dX11_soul_8 (by omega) (mos_o _ _ _) (by first | assumption | (show _ ≤ d; omega)) ⟨(Nat.le_of_ble_eq_true rfl), (Nat.le_of_ble_eq_true rfl)⟩ rfl rfl (Nat.le_of_ble_eq_true rfl) ?_
      refine mt_if_eq (pc := 11) (tgt := 29) dX11_soul_11 (by decide) (fun c11 => ?_) (fun c11 => ?_)
      · exact absurd c11 (by decide)
      · skip
        refine mt_aload_n (pc := 14) dX11_soul_14 rfl ?_
        refine mt_iload_n (pc := 15) dX11_soul_15 rfl ?_
        refine mt_iconst (pc := 16) (v := 0) dX11_soul_16 (by decide) ?_
        refine mt_iconst (pc := 17) (v := 5) dX11_soul_17 (by decide) ?_
        refine mt_cS (pc := 18) (n_within) cal_X11_within sta_X11_within ml_X11_348 dX11_soul_18 (by first | assumption | (show _ ≤ d; omega)) ⟨(Nat.le_of_ble_eq_true rfl), (Nat.le_of_ble_eq_true rfl)⟩ rfl rfl (Nat.le_of_ble_eq_true rfl) ?_
        rw [in_nw hok]
        refine mt_iconst (pc := 21) (v := 2) dX11_soul_21 (by decide) ?_
        refine mt_iconst (pc := 22) (v := 1) dX11_soul_22 (by decide) ?_
        refine mt_cV (pc := 23) (n_mayN (d := 0) (q := 1) hx (by decide) rfl rfl (by decide)) cal_X11_may vir_X11_may ml_X11_190 dX11_soul_23 (by omega) (mos_o _ _ _) (by first | assumption | (show _ ≤ d; omega)) ⟨(Nat.le_of_ble_eq_true rfl), (Nat.le_of_ble_eq_true rfl)⟩ rfl rfl (Nat.le_of_ble_eq_true rfl) ?_
        refine mt_if_ne (pc := 26) (tgt := 31) dX11_soul_26 (by decide) (fun c26 => ?_) (fun c26 => ?_)
        · exact absurd rfl c26
        · skip
          refine mt_iconst (pc := 29) (v := 0) dX11_soul_29 (by decide) ?_
          exact mt_iret rfl dX11_soul_30 (Nat.le_of_ble_eq_true rfl) (Nat.le_of_ble_eq_true rfl) (P_mq1 (c0 := 1) (c1 := 2) (r := soulV k cs f j x) (by unfold soulV; rw [if_neg (no 0 (by decide)), if_neg (no 1 (by decide)), if_neg (no 2 (by decide)), if_neg (no 3 (by decide)), if_neg (no 4 (by decide)), if_neg (no 5 (by decide))]))
  · refine mm_start (lo := [some (.ref 188), some (.int p), some (.int x), none, none, none]) pn_X11 rfl rfl (Nat.le_of_ble_eq_true rfl) ?_
    refine mt_aload_n (pc := 0) dX11_soul_0 rfl ?_
    refine mt_iconst (pc := 1) (v := 0) dX11_soul_1 (by decide) ?_
    refine mt_mput (pc := 2) pf_X11_3 dX11_soul_2 hx rfl ?_
    refine mt_aload_n (pc := 5) dX11_soul_5 rfl ?_
    refine mt_iload_n (pc := 6) dX11_soul_6 rfl ?_
    refine mt_iconst (pc := 7) (v := 1) dX11_soul_7 (by decide) ?_
    refine mt_cV (pc := 8) (n_isSoulN (d := 1) (k := k) (Nat.le_refl 1) hx rfl hk2 h19 (by decide) hp) cal_X11_isSoul vir_X11_isSoul ml_X11_369 dX11_soul_8 (by omega) (mos_o _ _ _) (by first | assumption | (show _ ≤ d; omega)) ⟨(Nat.le_of_ble_eq_true rfl), (Nat.le_of_ble_eq_true rfl)⟩ rfl rfl (Nat.le_of_ble_eq_true rfl) ?_
    refine mt_if_eq (pc := 11) (tgt := 29) dX11_soul_11 (by decide) (fun c11 => ?_) (fun c11 => ?_)
    · skip
      refine mt_iconst (pc := 29) (v := 0) dX11_soul_29 (by decide) ?_
      exact mt_iret rfl dX11_soul_30 (Nat.le_of_ble_eq_true rfl) (Nat.le_of_ble_eq_true rfl) (P_mq0 (c0 := 1) (c1 := 2) (r := soulR k cs f p x) (by unfold soulR; rw [if_neg hp]))
    · exact absurd rfl c11
theorem n_loan {p x : Int32} (hd : 6 ≤ d) (hx : 215 ≤ nx) (hQ : MQs k cs g A) (hR : RR (A 205) f) (hI : RI k f) : mm_Con G l yX11_loan cX11_loan 3 (some .int) d 0 0 [.ref 188, .int p, .int x] nx (mos h g A) (P_mq 1 2 (loanR k cs f p x) nx h g A) := by
  obtain ⟨h18, h19, hM, hL⟩ := id hQ
  obtain ⟨hn10, e3, -⟩ := hI.nl
  have e88 : A 205 88 = nI (nlo f) := hR.2.2.2.2.2.1.trans e3
  by_cases hp : inR p (nlo f)
  · obtain ⟨j, hj, rfl⟩ := inR_of hp (by omega)
    by_cases hok : ¬ x < 0 ∧ ¬ 6 < x
    · obtain ⟨c, -, hc, rfl⟩ := okR_nI (lo := 0) (hi := 6) hok (by decide) (by decide)
      have er : loanR k cs f (nI j) (nI c) = .inr (if nI c = 6 then owI k cs f j else f (24 + 6 * j + c)) := by
        unfold loanR
        rw [if_pos hp, if_pos hok, nI_clamp (by omega), nI_clamp (by omega)]
      refine mm_start (lo := [some (.ref 188), some (.int (nI j)), some (.int (nI c))]) pn_X11 rfl rfl (Nat.le_of_ble_eq_true rfl) ?_
      refine mt_aload_n (pc := 0) dX11_loan_0 rfl ?_
      refine mt_iconst (pc := 1) (v := 0) dX11_loan_1 (by decide) ?_
      refine mt_mput (pc := 2) pf_X11_3 dX11_loan_2 hx rfl ?_
      refine mt_aload_n (pc := 5) dX11_loan_5 rfl ?_
      refine mt_iload_n (pc := 6) dX11_loan_6 rfl ?_
      refine mt_iconst (pc := 7) (v := 0) dX11_loan_7 (by decide) ?_
      refine mt_aload_n (pc := 8) dX11_loan_8 rfl ?_
      refine mt_mget (pc := 9) gf_X11_65 dX11_loan_9 hx rfl ?_
      refine mt_bipush (pc := 12) (v := 88) dX11_loan_12 (by decide) ?_
      refine mt_mald (pc := 14) (i := 205) (j := 88) (x := nI (nlo f)) dX11_loan_14 hx rfl rfl (by show _ < 91; omega) e88 ?_
      refine mt_iconst (pc := 15) (v := 1) dX11_loan_15 (by decide) ?_
      refine mt_isub (pc := 16) dX11_loan_16 ?_
      refine mt_cS (pc := 17) (n_within) cal_X11_within sta_X11_within ml_X11_348 dX11_loan_17 (by first | assumption | (show _ ≤ d; omega)) ⟨(Nat.le_of_ble_eq_true rfl), (Nat.le_of_ble_eq_true rfl)⟩ rfl rfl (Nat.le_of_ble_eq_true rfl) ?_
      rw [in_wR hn10 hp]
      refine mt_iconst (pc := 20) (v := 1) dX11_loan_20 (by decide) ?_
      refine mt_iconst (pc := 21) (v := 0) dX11_loan_21 (by decide) ?_
      refine mt_cV (pc := 22) (n_mayY (d := 0) (q := 0) hx rfl (by decide)) cal_X11_may vir_X11_may ml_X11_190 dX11_loan_22 (by omega) (mos_o _ _ _) (by first | assumption | (show _ ≤ d; omega)) ⟨(Nat.le_of_ble_eq_true rfl), (Nat.le_of_ble_eq_true rfl)⟩ rfl rfl (Nat.le_of_ble_eq_true rfl) ?_
      refine mt_if_eq (pc := 25) (tgt := 44) dX11_loan_25 (by decide) (fun c25 => ?_) (fun c25 => ?_)
      · exact absurd c25 (by decide)
      · skip
        refine mt_aload_n (pc := 28) dX11_loan_28 rfl ?_
        refine mt_iload_n (pc := 29) dX11_loan_29 rfl ?_
        refine mt_iconst (pc := 30) (v := 0) dX11_loan_30 (by decide) ?_
        refine mt_bipush (pc := 31) (v := 6) dX11_loan_31 (by decide) ?_
        refine mt_cS (pc := 33) (n_within) cal_X11_within sta_X11_within ml_X11_348 dX11_loan_33 (by first | assumption | (show _ ≤ d; omega)) ⟨(Nat.le_of_ble_eq_true rfl), (Nat.le_of_ble_eq_true rfl)⟩ rfl rfl (Nat.le_of_ble_eq_true rfl) ?_
        rw [in_w hok]
        refine mt_iconst (pc := 36) (v := 2) dX11_loan_36 (by decide) ?_
        refine mt_iconst (pc := 37) (v := 1) dX11_loan_37 (by decide) ?_
        refine mt_cV (pc := 38) (n_mayY (d := 0) (q := 1) hx rfl (by decide)) cal_X11_may vir_X11_may ml_X11_190 dX11_loan_38 (by omega) (mos_o _ _ _) (by first | assumption | (show _ ≤ d; omega)) ⟨(Nat.le_of_ble_eq_true rfl), (Nat.le_of_ble_eq_true rfl)⟩ rfl rfl (Nat.le_of_ble_eq_true rfl) ?_
        refine mt_if_ne (pc := 41) (tgt := 46) dX11_loan_41 (by decide) (fun c41 => ?_) (fun c41 => ?_)
        · skip
          refine mt_aload_n (pc := 46) dX11_loan_46 rfl ?_
          refine mt_aV (pc := 47) (n_takeR (d := 1) (f := f) (Nat.le_refl 1) hx hR hn10) cal_X11_take vir_X11_take ml_X11_293 dX11_loan_47 (by omega) (mos_o _ _ _) (by first | assumption | (show _ ≤ d; omega)) ⟨(Nat.le_of_ble_eq_true rfl), (Nat.le_of_ble_eq_true rfl)⟩ rfl rfl (Nat.le_of_ble_eq_true rfl) ?_ ?_
          · rintro x9 n9 k9 h9
            obtain ⟨⟨⟩, -⟩ := h9
          · rintro v9 n9 k9 ⟨⟨⟩, rfl, S, rfl, hS⟩
            refine ⟨rfl, ?_⟩
            have hS' : RR (updR A 206 S 206) f := by rw [updR_eq]; exact hS
            have hQ' : MQs k cs (upd g 0 0) (updR A 206 S) := ⟨h18, h19, hM, hL⟩
            refine mt_iload_n (pc := 50) dX11_loan_50 rfl ?_
            refine mt_bipush (pc := 51) (v := 6) dX11_loan_51 (by decide) ?_
            refine mt_icmp_ne (pc := 53) (tgt := 64) dX11_loan_53 (by decide) (fun c53 => ?_) (fun c53 => ?_)
            · skip
              refine mt_aload_n (pc := 64) dX11_loan_64 rfl ?_
              refine mt_iload_n (pc := 65) dX11_loan_65 rfl ?_
              refine mt_iload_n (pc := 66) dX11_loan_66 rfl ?_
              refine mt_cV (pc := 67) (n_loanOf (d := 0) (i := j) (k := c) hx (by omega) (by
                rcases (show c < 6 ∨ c = 6 by omega) with z | rfl
                · exact z
                · exact absurd rfl c53)) cal_X11_loanOf vir_X11_loanOf ml_X11_314 dX11_loan_67 (by omega) (mos_o _ _ _) (by first | assumption | (show _ ≤ d; omega)) ⟨(Nat.le_of_ble_eq_true rfl), (Nat.le_of_ble_eq_true rfl)⟩ rfl rfl (Nat.le_of_ble_eq_true rfl) ?_
              rw [hS'.ln hj (by
                rcases (show c < 6 ∨ c = 6 by omega) with z | rfl
                · exact z
                · exact absurd rfl c53)]
              exact mt_iret rfl dX11_loan_70 (Nat.le_of_ble_eq_true rfl) (Nat.le_of_ble_eq_true rfl) (P_mqv (c0 := 1) (c1 := 2) (r := loanR k cs f (nI j) (nI c)) (by rw [er, if_neg c53]) GQ_0 SD_u.aq)
            · skip
              refine mt_aload_n (pc := 56) dX11_loan_56 rfl ?_
              refine mt_iload_n (pc := 57) dX11_loan_57 rfl ?_
              refine mt_aV (pc := 58) (n_owes (d := 4) (cs := cs) (Nat.le_refl 4) hx hQ' hS' hI hj) cal_X11_owes vir_X11_owes ml_X11_328 dX11_loan_58 (by omega) (mos_o _ _ _) (by first | assumption | (show _ ≤ d; omega)) ⟨(Nat.le_of_ble_eq_true rfl), (Nat.le_of_ble_eq_true rfl)⟩ rfl rfl (Nat.le_of_ble_eq_true rfl) ?_ ?_
              · rintro x9 n9 k9 h9
                obtain ⟨⟨⟩, -⟩ := h9
              · rintro v9 n9 k9 ⟨⟨⟩, rfl, A1, rfl, hSC⟩
                refine ⟨rfl, ?_⟩
                refine mt_goto (pc := 61) (tgt := 70) dX11_loan_61 (by decide) ?_
                exact mt_iret rfl dX11_loan_70 (Nat.le_of_ble_eq_true rfl) (Nat.le_of_ble_eq_true rfl) (P_mqv (c0 := 1) (c1 := 2) (r := loanR k cs f (nI j) (nI c)) (by rw [er, if_pos c53]) GQ_0 (SD_u.trans hSC.sd).aq)
        · exact absurd c41 (by decide)
    · refine mm_start (lo := [some (.ref 188), some (.int (nI j)), some (.int x)]) pn_X11 rfl rfl (Nat.le_of_ble_eq_true rfl) ?_
      refine mt_aload_n (pc := 0) dX11_loan_0 rfl ?_
      refine mt_iconst (pc := 1) (v := 0) dX11_loan_1 (by decide) ?_
      refine mt_mput (pc := 2) pf_X11_3 dX11_loan_2 hx rfl ?_
      refine mt_aload_n (pc := 5) dX11_loan_5 rfl ?_
      refine mt_iload_n (pc := 6) dX11_loan_6 rfl ?_
      refine mt_iconst (pc := 7) (v := 0) dX11_loan_7 (by decide) ?_
      refine mt_aload_n (pc := 8) dX11_loan_8 rfl ?_
      refine mt_mget (pc := 9) gf_X11_65 dX11_loan_9 hx rfl ?_
      refine mt_bipush (pc := 12) (v := 88) dX11_loan_12 (by decide) ?_
      refine mt_mald (pc := 14) (i := 205) (j := 88) (x := nI (nlo f)) dX11_loan_14 hx rfl rfl (by show _ < 91; omega) e88 ?_
      refine mt_iconst (pc := 15) (v := 1) dX11_loan_15 (by decide) ?_
      refine mt_isub (pc := 16) dX11_loan_16 ?_
      refine mt_cS (pc := 17) (n_within) cal_X11_within sta_X11_within ml_X11_348 dX11_loan_17 (by first | assumption | (show _ ≤ d; omega)) ⟨(Nat.le_of_ble_eq_true rfl), (Nat.le_of_ble_eq_true rfl)⟩ rfl rfl (Nat.le_of_ble_eq_true rfl) ?_
      rw [in_wR hn10 hp]
      refine mt_iconst (pc := 20) (v := 1) dX11_loan_20 (by decide) ?_
      refine mt_iconst (pc := 21) (v := 0) dX11_loan_21 (by decide) ?_
      refine mt_cV (pc := 22) (n_mayY (d := 0) (q := 0) hx rfl (by decide)) cal_X11_may vir_X11_may ml_X11_190 dX11_loan_22 (by omega) (mos_o _ _ _) (by first | assumption | (show _ ≤ d; omega)) ⟨(Nat.le_of_ble_eq_true rfl), (Nat.le_of_ble_eq_true rfl)⟩ rfl rfl (Nat.le_of_ble_eq_true rfl) ?_
      refine mt_if_eq (pc := 25) (tgt := 44) dX11_loan_25 (by decide) (fun c25 => ?_) (fun c25 => ?_)
      · exact absurd c25 (by decide)
      · skip
        refine mt_aload_n (pc := 28) dX11_loan_28 rfl ?_
        refine mt_iload_n (pc := 29) dX11_loan_29 rfl ?_
        refine mt_iconst (pc := 30) (v := 0) dX11_loan_30 (by decide) ?_
        refine mt_bipush (pc := 31) (v := 6) dX11_loan_31 (by decide) ?_
        refine mt_cS (pc := 33) (n_within) cal_X11_within sta_X11_within ml_X11_348 dX11_loan_33 (by first | assumption | (show _ ≤ d; omega)) ⟨(Nat.le_of_ble_eq_true rfl), (Nat.le_of_ble_eq_true rfl)⟩ rfl rfl (Nat.le_of_ble_eq_true rfl) ?_
        rw [in_nw hok]
        refine mt_iconst (pc := 36) (v := 2) dX11_loan_36 (by decide) ?_
        refine mt_iconst (pc := 37) (v := 1) dX11_loan_37 (by decide) ?_
        refine mt_cV (pc := 38) (n_mayN (d := 0) (q := 1) hx (by decide) rfl rfl (by decide)) cal_X11_may vir_X11_may ml_X11_190 dX11_loan_38 (by omega) (mos_o _ _ _) (by first | assumption | (show _ ≤ d; omega)) ⟨(Nat.le_of_ble_eq_true rfl), (Nat.le_of_ble_eq_true rfl)⟩ rfl rfl (Nat.le_of_ble_eq_true rfl) ?_
        refine mt_if_ne (pc := 41) (tgt := 46) dX11_loan_41 (by decide) (fun c41 => ?_) (fun c41 => ?_)
        · exact absurd rfl c41
        · skip
          refine mt_iconst (pc := 44) (v := 0) dX11_loan_44 (by decide) ?_
          exact mt_iret rfl dX11_loan_45 (Nat.le_of_ble_eq_true rfl) (Nat.le_of_ble_eq_true rfl) (P_mq1 (c0 := 1) (c1 := 2) (r := loanR k cs f (nI j) x) (by unfold loanR; rw [if_pos hp, if_neg hok]))
  · refine mm_start (lo := [some (.ref 188), some (.int p), some (.int x)]) pn_X11 rfl rfl (Nat.le_of_ble_eq_true rfl) ?_
    refine mt_aload_n (pc := 0) dX11_loan_0 rfl ?_
    refine mt_iconst (pc := 1) (v := 0) dX11_loan_1 (by decide) ?_
    refine mt_mput (pc := 2) pf_X11_3 dX11_loan_2 hx rfl ?_
    refine mt_aload_n (pc := 5) dX11_loan_5 rfl ?_
    refine mt_iload_n (pc := 6) dX11_loan_6 rfl ?_
    refine mt_iconst (pc := 7) (v := 0) dX11_loan_7 (by decide) ?_
    refine mt_aload_n (pc := 8) dX11_loan_8 rfl ?_
    refine mt_mget (pc := 9) gf_X11_65 dX11_loan_9 hx rfl ?_
    refine mt_bipush (pc := 12) (v := 88) dX11_loan_12 (by decide) ?_
    refine mt_mald (pc := 14) (i := 205) (j := 88) (x := nI (nlo f)) dX11_loan_14 hx rfl rfl (by show _ < 91; omega) e88 ?_
    refine mt_iconst (pc := 15) (v := 1) dX11_loan_15 (by decide) ?_
    refine mt_isub (pc := 16) dX11_loan_16 ?_
    refine mt_cS (pc := 17) (n_within) cal_X11_within sta_X11_within ml_X11_348 dX11_loan_17 (by first | assumption | (show _ ≤ d; omega)) ⟨(Nat.le_of_ble_eq_true rfl), (Nat.le_of_ble_eq_true rfl)⟩ rfl rfl (Nat.le_of_ble_eq_true rfl) ?_
    rw [in_nwR hn10 hp]
    refine mt_iconst (pc := 20) (v := 1) dX11_loan_20 (by decide) ?_
    refine mt_iconst (pc := 21) (v := 0) dX11_loan_21 (by decide) ?_
    refine mt_cV (pc := 22) (n_mayN (d := 0) (q := 0) hx (by decide) rfl rfl (by decide)) cal_X11_may vir_X11_may ml_X11_190 dX11_loan_22 (by omega) (mos_o _ _ _) (by first | assumption | (show _ ≤ d; omega)) ⟨(Nat.le_of_ble_eq_true rfl), (Nat.le_of_ble_eq_true rfl)⟩ rfl rfl (Nat.le_of_ble_eq_true rfl) ?_
    refine mt_if_eq (pc := 25) (tgt := 44) dX11_loan_25 (by decide) (fun c25 => ?_) (fun c25 => ?_)
    · skip
      refine mt_iconst (pc := 44) (v := 0) dX11_loan_44 (by decide) ?_
      exact mt_iret rfl dX11_loan_45 (Nat.le_of_ble_eq_true rfl) (Nat.le_of_ble_eq_true rfl) (P_mq0 (c0 := 1) (c1 := 2) (r := loanR k cs f p x) (by unfold loanR; rw [if_neg hp]))
    · exact absurd rfl c25
theorem n_lends {a p x : Int32} (hd : 3 ≤ d) (hx : 215 ≤ nx) (hQ : MQs k cs g A) (hR : RR (A 205) f) (hI : RI k f) : mm_Con G l yX11_lends cX11_lends 4 (some .boolean) d 0 0 [.ref 188, .int a, .int p, .int x] nx (mos h g A) (P_mq 1 2 (if inR a k.2.1 ∧ inR p k.1 then (if ¬ x < 1 ∧ ¬ 60 < x then .inr (if ¬ 10 ≤ f 3 ∧ openC k f a.toNatClampNeg p.toNatClampNeg x then 1 else 0) else .inl 1) else .inl 0) nx h g A) := by
  obtain ⟨h18, h19, hM, hL⟩ := id hQ
  have hk1 := hM.1
  have hk2 := hM.2.1
  obtain ⟨hn10, e3, -⟩ := hI.nl
  by_cases ha : inR a k.2.1
  · by_cases hp : inR p k.1
    · rw [if_pos ⟨ha, hp⟩]
      obtain ⟨i, hi, rfl⟩ := inR_of ha (by omega)
      obtain ⟨j, hj, rfl⟩ := inR_of hp (by omega)
      rw [nI_clamp (by omega), nI_clamp (by omega)]
      by_cases hok : ¬ x < 1 ∧ ¬ 60 < x
      · rw [if_pos hok]
        refine mm_start (lo := [some (.ref 188), some (.int (nI i)), some (.int (nI j)), some (.int x)]) pn_X11 rfl rfl (Nat.le_of_ble_eq_true rfl) ?_
        refine mt_aload_n (pc := 0) dX11_lends_0 rfl ?_
        refine mt_iconst (pc := 1) (v := 0) dX11_lends_1 (by decide) ?_
        refine mt_mput (pc := 2) pf_X11_3 dX11_lends_2 hx rfl ?_
        refine mt_aload_n (pc := 5) dX11_lends_5 rfl ?_
        refine mt_iload_n (pc := 6) dX11_lends_6 rfl ?_
        refine mt_iconst (pc := 7) (v := 1) dX11_lends_7 (by decide) ?_
        refine mt_cV (pc := 8) (n_isSoulY (d := 1) (k := k) (Nat.le_refl 1) hx rfl hk2 h19 ha) cal_X11_isSoul vir_X11_isSoul ml_X11_369 dX11_lends_8 (by omega) (mos_o _ _ _) (by first | assumption | (show _ ≤ d; omega)) ⟨(Nat.le_of_ble_eq_true rfl), (Nat.le_of_ble_eq_true rfl)⟩ rfl rfl (Nat.le_of_ble_eq_true rfl) ?_
        refine mt_if_eq (pc := 11) (tgt := 39) dX11_lends_11 (by decide) (fun c11 => ?_) (fun c11 => ?_)
        · exact absurd c11 (by decide)
        · skip
          refine mt_aload_n (pc := 14) dX11_lends_14 rfl ?_
          refine mt_iload_n (pc := 15) dX11_lends_15 rfl ?_
          refine mt_iconst (pc := 16) (v := 1) dX11_lends_16 (by decide) ?_
          refine mt_cV (pc := 17) (n_isSlabY (d := 1) (k := k) (Nat.le_refl 1) hx rfl hk1 h18 hp) cal_X11_isSlab vir_X11_isSlab ml_X11_366 dX11_lends_17 (by omega) (mos_o _ _ _) (by first | assumption | (show _ ≤ d; omega)) ⟨(Nat.le_of_ble_eq_true rfl), (Nat.le_of_ble_eq_true rfl)⟩ rfl rfl (Nat.le_of_ble_eq_true rfl) ?_
          refine mt_if_eq (pc := 20) (tgt := 39) dX11_lends_20 (by decide) (fun c20 => ?_) (fun c20 => ?_)
          · exact absurd c20 (by decide)
          · skip
            refine mt_aload_n (pc := 23) dX11_lends_23 rfl ?_
            refine mt_iload_n (pc := 24) dX11_lends_24 rfl ?_
            refine mt_iconst (pc := 25) (v := 1) dX11_lends_25 (by decide) ?_
            refine mt_bipush (pc := 26) (v := 60) dX11_lends_26 (by decide) ?_
            refine mt_cS (pc := 28) (n_within) cal_X11_within sta_X11_within ml_X11_348 dX11_lends_28 (by first | assumption | (show _ ≤ d; omega)) ⟨(Nat.le_of_ble_eq_true rfl), (Nat.le_of_ble_eq_true rfl)⟩ rfl rfl (Nat.le_of_ble_eq_true rfl) ?_
            rw [in_w hok]
            refine mt_iconst (pc := 31) (v := 2) dX11_lends_31 (by decide) ?_
            refine mt_iconst (pc := 32) (v := 1) dX11_lends_32 (by decide) ?_
            refine mt_cV (pc := 33) (n_mayY (d := 0) (q := 1) hx rfl (by decide)) cal_X11_may vir_X11_may ml_X11_190 dX11_lends_33 (by omega) (mos_o _ _ _) (by first | assumption | (show _ ≤ d; omega)) ⟨(Nat.le_of_ble_eq_true rfl), (Nat.le_of_ble_eq_true rfl)⟩ rfl rfl (Nat.le_of_ble_eq_true rfl) ?_
            refine mt_if_ne (pc := 36) (tgt := 41) dX11_lends_36 (by decide) (fun c36 => ?_) (fun c36 => ?_)
            · skip
              refine mt_aload_n (pc := 41) dX11_lends_41 rfl ?_
              refine mt_aV (pc := 42) (n_takeR (d := 1) (f := f) (Nat.le_refl 1) hx hR hn10) cal_X11_take vir_X11_take ml_X11_293 dX11_lends_42 (by omega) (mos_o _ _ _) (by first | assumption | (show _ ≤ d; omega)) ⟨(Nat.le_of_ble_eq_true rfl), (Nat.le_of_ble_eq_true rfl)⟩ rfl rfl (Nat.le_of_ble_eq_true rfl) ?_ ?_
              · rintro x9 n9 k9 h9
                obtain ⟨⟨⟩, -⟩ := h9
              · rintro v9 n9 k9 ⟨⟨⟩, rfl, S, rfl, hS⟩
                refine ⟨rfl, ?_⟩
                refine mt_aload_n (pc := 45) dX11_lends_45 rfl ?_
                refine mt_iload_n (pc := 46) dX11_lends_46 rfl ?_
                refine mt_iload_n (pc := 47) dX11_lends_47 rfl ?_
                refine mt_iload_n (pc := 48) dX11_lends_48 rfl ?_
                refine mt_cV (pc := 49) (n_canLend (d := 1) (k := k) (f := f) (Nat.le_refl 1) hx hM (by rw [updR_eq]; exact hS) (by omega) hj) cal_X11_canLend vir_X11_canLend ml_X11_325 dX11_lends_49 (by omega) (mos_o _ _ _) (by first | assumption | (show _ ≤ d; omega)) ⟨(Nat.le_of_ble_eq_true rfl), (Nat.le_of_ble_eq_true rfl)⟩ rfl rfl (Nat.le_of_ble_eq_true rfl) ?_
                exact mt_zret rfl (by split <;> simp) dX11_lends_52 (Nat.le_of_ble_eq_true rfl) (Nat.le_of_ble_eq_true rfl) (P_mqv (c0 := 1) (c1 := 2) (r := .inr (if ¬ 10 ≤ f 3 ∧ openC k f i j x then 1 else 0)) rfl GQ_0 SD_u.aq)
            · exact absurd c36 (by decide)
      · rw [if_neg hok]
        refine mm_start (lo := [some (.ref 188), some (.int (nI i)), some (.int (nI j)), some (.int x)]) pn_X11 rfl rfl (Nat.le_of_ble_eq_true rfl) ?_
        refine mt_aload_n (pc := 0) dX11_lends_0 rfl ?_
        refine mt_iconst (pc := 1) (v := 0) dX11_lends_1 (by decide) ?_
        refine mt_mput (pc := 2) pf_X11_3 dX11_lends_2 hx rfl ?_
        refine mt_aload_n (pc := 5) dX11_lends_5 rfl ?_
        refine mt_iload_n (pc := 6) dX11_lends_6 rfl ?_
        refine mt_iconst (pc := 7) (v := 1) dX11_lends_7 (by decide) ?_
        refine mt_cV (pc := 8) (n_isSoulY (d := 1) (k := k) (Nat.le_refl 1) hx rfl hk2 h19 ha) cal_X11_isSoul vir_X11_isSoul ml_X11_369 dX11_lends_8 (by omega) (mos_o _ _ _) (by first | assumption | (show _ ≤ d; omega)) ⟨(Nat.le_of_ble_eq_true rfl), (Nat.le_of_ble_eq_true rfl)⟩ rfl rfl (Nat.le_of_ble_eq_true rfl) ?_
        refine mt_if_eq (pc := 11) (tgt := 39) dX11_lends_11 (by decide) (fun c11 => ?_) (fun c11 => ?_)
        · exact absurd c11 (by decide)
        · skip
          refine mt_aload_n (pc := 14) dX11_lends_14 rfl ?_
          refine mt_iload_n (pc := 15) dX11_lends_15 rfl ?_
          refine mt_iconst (pc := 16) (v := 1) dX11_lends_16 (by decide) ?_
          refine mt_cV (pc := 17) (n_isSlabY (d := 1) (k := k) (Nat.le_refl 1) hx rfl hk1 h18 hp) cal_X11_isSlab vir_X11_isSlab ml_X11_366 dX11_lends_17 (by omega) (mos_o _ _ _) (by first | assumption | (show _ ≤ d; omega)) ⟨(Nat.le_of_ble_eq_true rfl), (Nat.le_of_ble_eq_true rfl)⟩ rfl rfl (Nat.le_of_ble_eq_true rfl) ?_
          refine mt_if_eq (pc := 20) (tgt := 39) dX11_lends_20 (by decide) (fun c20 => ?_) (fun c20 => ?_)
          · exact absurd c20 (by decide)
          · skip
            refine mt_aload_n (pc := 23) dX11_lends_23 rfl ?_
            refine mt_iload_n (pc := 24) dX11_lends_24 rfl ?_
            refine mt_iconst (pc := 25) (v := 1) dX11_lends_25 (by decide) ?_
            refine mt_bipush (pc := 26) (v := 60) dX11_lends_26 (by decide) ?_
            refine mt_cS (pc := 28) (n_within) cal_X11_within sta_X11_within ml_X11_348 dX11_lends_28 (by first | assumption | (show _ ≤ d; omega)) ⟨(Nat.le_of_ble_eq_true rfl), (Nat.le_of_ble_eq_true rfl)⟩ rfl rfl (Nat.le_of_ble_eq_true rfl) ?_
            rw [in_nw hok]
            refine mt_iconst (pc := 31) (v := 2) dX11_lends_31 (by decide) ?_
            refine mt_iconst (pc := 32) (v := 1) dX11_lends_32 (by decide) ?_
            refine mt_cV (pc := 33) (n_mayN (d := 0) (q := 1) hx (by decide) rfl rfl (by decide)) cal_X11_may vir_X11_may ml_X11_190 dX11_lends_33 (by omega) (mos_o _ _ _) (by first | assumption | (show _ ≤ d; omega)) ⟨(Nat.le_of_ble_eq_true rfl), (Nat.le_of_ble_eq_true rfl)⟩ rfl rfl (Nat.le_of_ble_eq_true rfl) ?_
            refine mt_if_ne (pc := 36) (tgt := 41) dX11_lends_36 (by decide) (fun c36 => ?_) (fun c36 => ?_)
            · exact absurd rfl c36
            · skip
              refine mt_iconst (pc := 39) (v := 0) dX11_lends_39 (by decide) ?_
              exact mt_zret rfl (by first | exact Or.inl rfl | exact Or.inr rfl) dX11_lends_40 (Nat.le_of_ble_eq_true rfl) (Nat.le_of_ble_eq_true rfl) (P_mq1 (c0 := 1) (c1 := 2) (r := .inl 1) rfl)
    · rw [if_neg (fun z => hp z.2)]
      refine mm_start (lo := [some (.ref 188), some (.int a), some (.int p), some (.int x)]) pn_X11 rfl rfl (Nat.le_of_ble_eq_true rfl) ?_
      refine mt_aload_n (pc := 0) dX11_lends_0 rfl ?_
      refine mt_iconst (pc := 1) (v := 0) dX11_lends_1 (by decide) ?_
      refine mt_mput (pc := 2) pf_X11_3 dX11_lends_2 hx rfl ?_
      refine mt_aload_n (pc := 5) dX11_lends_5 rfl ?_
      refine mt_iload_n (pc := 6) dX11_lends_6 rfl ?_
      refine mt_iconst (pc := 7) (v := 1) dX11_lends_7 (by decide) ?_
      refine mt_cV (pc := 8) (n_isSoulY (d := 1) (k := k) (Nat.le_refl 1) hx rfl hk2 h19 ha) cal_X11_isSoul vir_X11_isSoul ml_X11_369 dX11_lends_8 (by omega) (mos_o _ _ _) (by first | assumption | (show _ ≤ d; omega)) ⟨(Nat.le_of_ble_eq_true rfl), (Nat.le_of_ble_eq_true rfl)⟩ rfl rfl (Nat.le_of_ble_eq_true rfl) ?_
      refine mt_if_eq (pc := 11) (tgt := 39) dX11_lends_11 (by decide) (fun c11 => ?_) (fun c11 => ?_)
      · exact absurd c11 (by decide)
      · skip
        refine mt_aload_n (pc := 14) dX11_lends_14 rfl ?_
        refine mt_iload_n (pc := 15) dX11_lends_15 rfl ?_
        refine mt_iconst (pc := 16) (v := 1) dX11_lends_16 (by decide) ?_
        refine mt_cV (pc := 17) (n_isSlabN (d := 1) (k := k) (Nat.le_refl 1) hx rfl hk1 h18 (by decide) hp) cal_X11_isSlab vir_X11_isSlab ml_X11_366 dX11_lends_17 (by omega) (mos_o _ _ _) (by first | assumption | (show _ ≤ d; omega)) ⟨(Nat.le_of_ble_eq_true rfl), (Nat.le_of_ble_eq_true rfl)⟩ rfl rfl (Nat.le_of_ble_eq_true rfl) ?_
        refine mt_if_eq (pc := 20) (tgt := 39) dX11_lends_20 (by decide) (fun c20 => ?_) (fun c20 => ?_)
        · skip
          refine mt_iconst (pc := 39) (v := 0) dX11_lends_39 (by decide) ?_
          exact mt_zret rfl (by first | exact Or.inl rfl | exact Or.inr rfl) dX11_lends_40 (Nat.le_of_ble_eq_true rfl) (Nat.le_of_ble_eq_true rfl) (P_mq0 (c0 := 1) (c1 := 2) (r := .inl 0) rfl)
        · exact absurd rfl c20
  · rw [if_neg (fun z => ha z.1)]
    refine mm_start (lo := [some (.ref 188), some (.int a), some (.int p), some (.int x)]) pn_X11 rfl rfl (Nat.le_of_ble_eq_true rfl) ?_
    refine mt_aload_n (pc := 0) dX11_lends_0 rfl ?_
    refine mt_iconst (pc := 1) (v := 0) dX11_lends_1 (by decide) ?_
    refine mt_mput (pc := 2) pf_X11_3 dX11_lends_2 hx rfl ?_
    refine mt_aload_n (pc := 5) dX11_lends_5 rfl ?_
    refine mt_iload_n (pc := 6) dX11_lends_6 rfl ?_
    refine mt_iconst (pc := 7) (v := 1) dX11_lends_7 (by decide) ?_
    refine mt_cV (pc := 8) (n_isSoulN (d := 1) (k := k) (Nat.le_refl 1) hx rfl hk2 h19 (by decide) ha) cal_X11_isSoul vir_X11_isSoul ml_X11_369 dX11_lends_8 (by omega) (mos_o _ _ _) (by first | assumption | (show _ ≤ d; omega)) ⟨(Nat.le_of_ble_eq_true rfl), (Nat.le_of_ble_eq_true rfl)⟩ rfl rfl (Nat.le_of_ble_eq_true rfl) ?_
    refine mt_if_eq (pc := 11) (tgt := 39) dX11_lends_11 (by decide) (fun c11 => ?_) (fun c11 => ?_)
    · skip
      refine mt_iconst (pc := 39) (v := 0) dX11_lends_39 (by decide) ?_
      exact mt_zret rfl (by first | exact Or.inl rfl | exact Or.inr rfl) dX11_lends_40 (Nat.le_of_ble_eq_true rfl) (Nat.le_of_ble_eq_true rfl) (P_mq0 (c0 := 1) (c1 := 2) (r := .inl 0) rfl)
    · exact absurd rfl c11
theorem n_would {a0 a1 a2 a3 a4 a5 a6 a7 : Int32} (hd : 4 ≤ d) (hx : 215 ≤ nx) (hQ : MQs k cs g A) : mm_Con G l yX11_would cX11_would 9 (some .int) d 0 0 [.ref 188, .int a0, .int a1, .int a2, .int a3, .int a4, .int a5, .int a6, .int a7] nx (mos h g A) (P_mq 1 1 (wouR cs a0 a1 a2 a3 a4 a5 a6 a7) nx h g A) := by
  obtain ⟨h18, h19, hM, hL⟩ := id hQ
  refine mm_start (lo := [some (.ref 188), some (.int a0), some (.int a1), some (.int a2), some (.int a3), some (.int a4), some (.int a5), some (.int a6), some (.int a7)]) pn_X11 rfl rfl (Nat.le_of_ble_eq_true rfl) ?_
  refine mt_aload_n (pc := 0) dX11_would_0 rfl ?_
  refine mt_iconst (pc := 1) (v := 0) dX11_would_1 (by decide) ?_
  refine mt_mput (pc := 2) pf_X11_3 dX11_would_2 hx rfl ?_
  refine mt_aload_n (pc := 5) dX11_would_5 rfl ?_
  refine mt_iload_n (pc := 6) dX11_would_6 rfl ?_
  refine mt_iconst (pc := 7) (v := 1) dX11_would_7 (by decide) ?_
  refine mt_bipush (pc := 8) (v := 60) dX11_would_8 (by decide) ?_
  refine mt_cS (pc := 10) (n_within) cal_X11_within sta_X11_within ml_X11_348 dX11_would_10 (by first | assumption | (show _ ≤ d; omega)) ⟨(Nat.le_of_ble_eq_true rfl), (Nat.le_of_ble_eq_true rfl)⟩ rfl rfl (Nat.le_of_ble_eq_true rfl) ?_
  refine mt_if_eq (pc := 13) (tgt := 94) dX11_would_13 (by decide) (fun c13 => ?_) (fun c13 => ?_)
  · skip
    have r0 := w_0 c13
    refine mt_iconst (pc := 94) (v := 0) dX11_would_94 (by decide) ?_
    refine mt_iconst (pc := 95) (v := 1) dX11_would_95 (by decide) ?_
    refine mt_iconst (pc := 96) (v := 1) dX11_would_96 (by decide) ?_
    refine mt_cV (pc := 97) (n_mayN (d := 0) (q := 1) hx (by decide) rfl rfl (by decide)) cal_X11_may vir_X11_may ml_X11_190 dX11_would_97 (by omega) (mos_o _ _ _) (by first | assumption | (show _ ≤ d; omega)) ⟨(Nat.le_of_ble_eq_true rfl), (Nat.le_of_ble_eq_true rfl)⟩ rfl rfl (Nat.le_of_ble_eq_true rfl) ?_
    refine mt_if_ne (pc := 100) (tgt := 105) dX11_would_100 (by decide) (fun c100 => ?_) (fun c100 => ?_)
    · exact absurd rfl c100
    · skip
      refine mt_iconst (pc := 103) (v := 0) dX11_would_103 (by decide) ?_
      exact mt_iret rfl dX11_would_104 (Nat.le_of_ble_eq_true rfl) (Nat.le_of_ble_eq_true rfl) (P_mq1 (c0 := 1) (c1 := 1) (r := wouR cs a0 a1 a2 a3 a4 a5 a6 a7) (by unfold wouR; rw [ifR_n r0]))
  · skip
    have r0 := w_1 c13
    refine mt_iload_n (pc := 16) dX11_would_16 rfl ?_
    refine mt_iconst (pc := 17) (v := 0) dX11_would_17 (by decide) ?_
    refine mt_sipush (pc := 18) (v := 999) dX11_would_18 (by decide) ?_
    refine mt_cS (pc := 21) (n_within) cal_X11_within sta_X11_within ml_X11_348 dX11_would_21 (by first | assumption | (show _ ≤ d; omega)) ⟨(Nat.le_of_ble_eq_true rfl), (Nat.le_of_ble_eq_true rfl)⟩ rfl rfl (Nat.le_of_ble_eq_true rfl) ?_
    refine mt_if_eq (pc := 24) (tgt := 94) dX11_would_24 (by decide) (fun c24 => ?_) (fun c24 => ?_)
    · skip
      have r1 := w_0 c24
      refine mt_iconst (pc := 94) (v := 0) dX11_would_94 (by decide) ?_
      refine mt_iconst (pc := 95) (v := 1) dX11_would_95 (by decide) ?_
      refine mt_iconst (pc := 96) (v := 1) dX11_would_96 (by decide) ?_
      refine mt_cV (pc := 97) (n_mayN (d := 0) (q := 1) hx (by decide) rfl rfl (by decide)) cal_X11_may vir_X11_may ml_X11_190 dX11_would_97 (by omega) (mos_o _ _ _) (by first | assumption | (show _ ≤ d; omega)) ⟨(Nat.le_of_ble_eq_true rfl), (Nat.le_of_ble_eq_true rfl)⟩ rfl rfl (Nat.le_of_ble_eq_true rfl) ?_
      refine mt_if_ne (pc := 100) (tgt := 105) dX11_would_100 (by decide) (fun c100 => ?_) (fun c100 => ?_)
      · exact absurd rfl c100
      · skip
        refine mt_iconst (pc := 103) (v := 0) dX11_would_103 (by decide) ?_
        exact mt_iret rfl dX11_would_104 (Nat.le_of_ble_eq_true rfl) (Nat.le_of_ble_eq_true rfl) (P_mq1 (c0 := 1) (c1 := 1) (r := wouR cs a0 a1 a2 a3 a4 a5 a6 a7) (by unfold wouR; rw [ifR_p r0, ifR_n r1]))
    · skip
      have r1 := w_1 c24
      refine mt_iload_n (pc := 27) dX11_would_27 rfl ?_
      refine mt_iconst (pc := 28) (v := 0) dX11_would_28 (by decide) ?_
      refine mt_iconst (pc := 29) (v := 5) dX11_would_29 (by decide) ?_
      refine mt_cS (pc := 30) (n_within) cal_X11_within sta_X11_within ml_X11_348 dX11_would_30 (by first | assumption | (show _ ≤ d; omega)) ⟨(Nat.le_of_ble_eq_true rfl), (Nat.le_of_ble_eq_true rfl)⟩ rfl rfl (Nat.le_of_ble_eq_true rfl) ?_
      refine mt_if_eq (pc := 33) (tgt := 94) dX11_would_33 (by decide) (fun c33 => ?_) (fun c33 => ?_)
      · skip
        have r2 := w_0 c33
        refine mt_iconst (pc := 94) (v := 0) dX11_would_94 (by decide) ?_
        refine mt_iconst (pc := 95) (v := 1) dX11_would_95 (by decide) ?_
        refine mt_iconst (pc := 96) (v := 1) dX11_would_96 (by decide) ?_
        refine mt_cV (pc := 97) (n_mayN (d := 0) (q := 1) hx (by decide) rfl rfl (by decide)) cal_X11_may vir_X11_may ml_X11_190 dX11_would_97 (by omega) (mos_o _ _ _) (by first | assumption | (show _ ≤ d; omega)) ⟨(Nat.le_of_ble_eq_true rfl), (Nat.le_of_ble_eq_true rfl)⟩ rfl rfl (Nat.le_of_ble_eq_true rfl) ?_
        refine mt_if_ne (pc := 100) (tgt := 105) dX11_would_100 (by decide) (fun c100 => ?_) (fun c100 => ?_)
        · exact absurd rfl c100
        · skip
          refine mt_iconst (pc := 103) (v := 0) dX11_would_103 (by decide) ?_
          exact mt_iret rfl dX11_would_104 (Nat.le_of_ble_eq_true rfl) (Nat.le_of_ble_eq_true rfl) (P_mq1 (c0 := 1) (c1 := 1) (r := wouR cs a0 a1 a2 a3 a4 a5 a6 a7) (by unfold wouR; rw [ifR_p r0, ifR_p r1, ifR_n r2]))
      · skip
        have r2 := w_1 c33
        refine mt_iload (pc := 36) dX11_would_36 rfl ?_
        refine mt_iconst (pc := 38) (v := 0) dX11_would_38 (by decide) ?_
        refine mt_iconst (pc := 39) (v := 1) dX11_would_39 (by decide) ?_
        refine mt_cS (pc := 40) (n_within) cal_X11_within sta_X11_within ml_X11_348 dX11_would_40 (by first | assumption | (show _ ≤ d; omega)) ⟨(Nat.le_of_ble_eq_true rfl), (Nat.le_of_ble_eq_true rfl)⟩ rfl rfl (Nat.le_of_ble_eq_true rfl) ?_
        refine mt_if_eq (pc := 43) (tgt := 94) dX11_would_43 (by decide) (fun c43 => ?_) (fun c43 => ?_)
        · skip
          have r3 := w_0 c43
          refine mt_iconst (pc := 94) (v := 0) dX11_would_94 (by decide) ?_
          refine mt_iconst (pc := 95) (v := 1) dX11_would_95 (by decide) ?_
          refine mt_iconst (pc := 96) (v := 1) dX11_would_96 (by decide) ?_
          refine mt_cV (pc := 97) (n_mayN (d := 0) (q := 1) hx (by decide) rfl rfl (by decide)) cal_X11_may vir_X11_may ml_X11_190 dX11_would_97 (by omega) (mos_o _ _ _) (by first | assumption | (show _ ≤ d; omega)) ⟨(Nat.le_of_ble_eq_true rfl), (Nat.le_of_ble_eq_true rfl)⟩ rfl rfl (Nat.le_of_ble_eq_true rfl) ?_
          refine mt_if_ne (pc := 100) (tgt := 105) dX11_would_100 (by decide) (fun c100 => ?_) (fun c100 => ?_)
          · exact absurd rfl c100
          · skip
            refine mt_iconst (pc := 103) (v := 0) dX11_would_103 (by decide) ?_
            exact mt_iret rfl dX11_would_104 (Nat.le_of_ble_eq_true rfl) (Nat.le_of_ble_eq_true rfl) (P_mq1 (c0 := 1) (c1 := 1) (r := wouR cs a0 a1 a2 a3 a4 a5 a6 a7) (by unfold wouR; rw [ifR_p r0, ifR_p r1, ifR_p r2, ifR_n r3]))
        · skip
          have r3 := w_1 c43
          refine mt_iload (pc := 46) dX11_would_46 rfl ?_
          refine mt_iconst (pc := 48) (v := 0) dX11_would_48 (by decide) ?_
          refine mt_bipush (pc := 49) (v := 9) dX11_would_49 (by decide) ?_
          refine mt_cS (pc := 51) (n_within) cal_X11_within sta_X11_within ml_X11_348 dX11_would_51 (by first | assumption | (show _ ≤ d; omega)) ⟨(Nat.le_of_ble_eq_true rfl), (Nat.le_of_ble_eq_true rfl)⟩ rfl rfl (Nat.le_of_ble_eq_true rfl) ?_
          refine mt_if_eq (pc := 54) (tgt := 94) dX11_would_54 (by decide) (fun c54 => ?_) (fun c54 => ?_)
          · skip
            have r4 := w_0 c54
            refine mt_iconst (pc := 94) (v := 0) dX11_would_94 (by decide) ?_
            refine mt_iconst (pc := 95) (v := 1) dX11_would_95 (by decide) ?_
            refine mt_iconst (pc := 96) (v := 1) dX11_would_96 (by decide) ?_
            refine mt_cV (pc := 97) (n_mayN (d := 0) (q := 1) hx (by decide) rfl rfl (by decide)) cal_X11_may vir_X11_may ml_X11_190 dX11_would_97 (by omega) (mos_o _ _ _) (by first | assumption | (show _ ≤ d; omega)) ⟨(Nat.le_of_ble_eq_true rfl), (Nat.le_of_ble_eq_true rfl)⟩ rfl rfl (Nat.le_of_ble_eq_true rfl) ?_
            refine mt_if_ne (pc := 100) (tgt := 105) dX11_would_100 (by decide) (fun c100 => ?_) (fun c100 => ?_)
            · exact absurd rfl c100
            · skip
              refine mt_iconst (pc := 103) (v := 0) dX11_would_103 (by decide) ?_
              exact mt_iret rfl dX11_would_104 (Nat.le_of_ble_eq_true rfl) (Nat.le_of_ble_eq_true rfl) (P_mq1 (c0 := 1) (c1 := 1) (r := wouR cs a0 a1 a2 a3 a4 a5 a6 a7) (by unfold wouR; rw [ifR_p r0, ifR_p r1, ifR_p r2, ifR_p r3, ifR_n r4]))
          · skip
            have r4 := w_1 c54
            refine mt_iload (pc := 57) dX11_would_57 rfl ?_
            refine mt_iconst (pc := 59) (v := 0) dX11_would_59 (by decide) ?_
            refine mt_bipush (pc := 60) (v := 99) dX11_would_60 (by decide) ?_
            refine mt_cS (pc := 62) (n_within) cal_X11_within sta_X11_within ml_X11_348 dX11_would_62 (by first | assumption | (show _ ≤ d; omega)) ⟨(Nat.le_of_ble_eq_true rfl), (Nat.le_of_ble_eq_true rfl)⟩ rfl rfl (Nat.le_of_ble_eq_true rfl) ?_
            refine mt_if_eq (pc := 65) (tgt := 94) dX11_would_65 (by decide) (fun c65 => ?_) (fun c65 => ?_)
            · skip
              have r5 := w_0 c65
              refine mt_iconst (pc := 94) (v := 0) dX11_would_94 (by decide) ?_
              refine mt_iconst (pc := 95) (v := 1) dX11_would_95 (by decide) ?_
              refine mt_iconst (pc := 96) (v := 1) dX11_would_96 (by decide) ?_
              refine mt_cV (pc := 97) (n_mayN (d := 0) (q := 1) hx (by decide) rfl rfl (by decide)) cal_X11_may vir_X11_may ml_X11_190 dX11_would_97 (by omega) (mos_o _ _ _) (by first | assumption | (show _ ≤ d; omega)) ⟨(Nat.le_of_ble_eq_true rfl), (Nat.le_of_ble_eq_true rfl)⟩ rfl rfl (Nat.le_of_ble_eq_true rfl) ?_
              refine mt_if_ne (pc := 100) (tgt := 105) dX11_would_100 (by decide) (fun c100 => ?_) (fun c100 => ?_)
              · exact absurd rfl c100
              · skip
                refine mt_iconst (pc := 103) (v := 0) dX11_would_103 (by decide) ?_
                exact mt_iret rfl dX11_would_104 (Nat.le_of_ble_eq_true rfl) (Nat.le_of_ble_eq_true rfl) (P_mq1 (c0 := 1) (c1 := 1) (r := wouR cs a0 a1 a2 a3 a4 a5 a6 a7) (by unfold wouR; rw [ifR_p r0, ifR_p r1, ifR_p r2, ifR_p r3, ifR_p r4, ifR_n r5]))
            · skip
              have r5 := w_1 c65
              refine mt_iload (pc := 68) dX11_would_68 rfl ?_
              refine mt_iconst (pc := 70) (v := 0) dX11_would_70 (by decide) ?_
              refine mt_sipush (pc := 71) (v := 999) dX11_would_71 (by decide) ?_
              refine mt_cS (pc := 74) (n_within) cal_X11_within sta_X11_within ml_X11_348 dX11_would_74 (by first | assumption | (show _ ≤ d; omega)) ⟨(Nat.le_of_ble_eq_true rfl), (Nat.le_of_ble_eq_true rfl)⟩ rfl rfl (Nat.le_of_ble_eq_true rfl) ?_
              refine mt_if_eq (pc := 77) (tgt := 94) dX11_would_77 (by decide) (fun c77 => ?_) (fun c77 => ?_)
              · skip
                have r6 := w_0 c77
                refine mt_iconst (pc := 94) (v := 0) dX11_would_94 (by decide) ?_
                refine mt_iconst (pc := 95) (v := 1) dX11_would_95 (by decide) ?_
                refine mt_iconst (pc := 96) (v := 1) dX11_would_96 (by decide) ?_
                refine mt_cV (pc := 97) (n_mayN (d := 0) (q := 1) hx (by decide) rfl rfl (by decide)) cal_X11_may vir_X11_may ml_X11_190 dX11_would_97 (by omega) (mos_o _ _ _) (by first | assumption | (show _ ≤ d; omega)) ⟨(Nat.le_of_ble_eq_true rfl), (Nat.le_of_ble_eq_true rfl)⟩ rfl rfl (Nat.le_of_ble_eq_true rfl) ?_
                refine mt_if_ne (pc := 100) (tgt := 105) dX11_would_100 (by decide) (fun c100 => ?_) (fun c100 => ?_)
                · exact absurd rfl c100
                · skip
                  refine mt_iconst (pc := 103) (v := 0) dX11_would_103 (by decide) ?_
                  exact mt_iret rfl dX11_would_104 (Nat.le_of_ble_eq_true rfl) (Nat.le_of_ble_eq_true rfl) (P_mq1 (c0 := 1) (c1 := 1) (r := wouR cs a0 a1 a2 a3 a4 a5 a6 a7) (by unfold wouR; rw [ifR_p r0, ifR_p r1, ifR_p r2, ifR_p r3, ifR_p r4, ifR_p r5, ifR_n r6]))
              · skip
                have r6 := w_1 c77
                refine mt_iload (pc := 80) dX11_would_80 rfl ?_
                refine mt_iconst (pc := 82) (v := 0) dX11_would_82 (by decide) ?_
                refine mt_iconst (pc := 83) (v := 5) dX11_would_83 (by decide) ?_
                refine mt_cS (pc := 84) (n_within) cal_X11_within sta_X11_within ml_X11_348 dX11_would_84 (by first | assumption | (show _ ≤ d; omega)) ⟨(Nat.le_of_ble_eq_true rfl), (Nat.le_of_ble_eq_true rfl)⟩ rfl rfl (Nat.le_of_ble_eq_true rfl) ?_
                refine mt_if_eq (pc := 87) (tgt := 94) dX11_would_87 (by decide) (fun c87 => ?_) (fun c87 => ?_)
                · skip
                  have r7 := w_0 c87
                  refine mt_iconst (pc := 94) (v := 0) dX11_would_94 (by decide) ?_
                  refine mt_iconst (pc := 95) (v := 1) dX11_would_95 (by decide) ?_
                  refine mt_iconst (pc := 96) (v := 1) dX11_would_96 (by decide) ?_
                  refine mt_cV (pc := 97) (n_mayN (d := 0) (q := 1) hx (by decide) rfl rfl (by decide)) cal_X11_may vir_X11_may ml_X11_190 dX11_would_97 (by omega) (mos_o _ _ _) (by first | assumption | (show _ ≤ d; omega)) ⟨(Nat.le_of_ble_eq_true rfl), (Nat.le_of_ble_eq_true rfl)⟩ rfl rfl (Nat.le_of_ble_eq_true rfl) ?_
                  refine mt_if_ne (pc := 100) (tgt := 105) dX11_would_100 (by decide) (fun c100 => ?_) (fun c100 => ?_)
                  · exact absurd rfl c100
                  · skip
                    refine mt_iconst (pc := 103) (v := 0) dX11_would_103 (by decide) ?_
                    exact mt_iret rfl dX11_would_104 (Nat.le_of_ble_eq_true rfl) (Nat.le_of_ble_eq_true rfl) (P_mq1 (c0 := 1) (c1 := 1) (r := wouR cs a0 a1 a2 a3 a4 a5 a6 a7) (by unfold wouR; rw [ifR_p r0, ifR_p r1, ifR_p r2, ifR_p r3, ifR_p r4, ifR_p r5, ifR_p r6, ifR_n r7]))
                · skip
                  have r7 := w_1 c87
                  refine mt_iconst (pc := 90) (v := 1) dX11_would_90 (by decide) ?_
                  refine mt_goto (pc := 91) (tgt := 95) dX11_would_91 (by decide) ?_
                  refine mt_iconst (pc := 95) (v := 1) dX11_would_95 (by decide) ?_
                  refine mt_iconst (pc := 96) (v := 1) dX11_would_96 (by decide) ?_
                  refine mt_cV (pc := 97) (n_mayY (d := 0) (q := 1) hx rfl (by decide)) cal_X11_may vir_X11_may ml_X11_190 dX11_would_97 (by omega) (mos_o _ _ _) (by first | assumption | (show _ ≤ d; omega)) ⟨(Nat.le_of_ble_eq_true rfl), (Nat.le_of_ble_eq_true rfl)⟩ rfl rfl (Nat.le_of_ble_eq_true rfl) ?_
                  refine mt_if_ne (pc := 100) (tgt := 105) dX11_would_100 (by decide) (fun c100 => ?_) (fun c100 => ?_)
                  · skip
                    refine mt_aload_n (pc := 105) dX11_would_105 rfl ?_
                    refine mt_iload_n (pc := 106) dX11_would_106 rfl ?_
                    refine mt_iload_n (pc := 107) dX11_would_107 rfl ?_
                    refine mt_iload_n (pc := 108) dX11_would_108 rfl ?_
                    refine mt_iload (pc := 109) dX11_would_109 rfl ?_
                    refine mt_iload (pc := 111) dX11_would_111 rfl ?_
                    refine mt_iload (pc := 113) dX11_would_113 rfl ?_
                    refine mt_iload (pc := 115) dX11_would_115 rfl ?_
                    refine mt_iload (pc := 117) dX11_would_117 rfl ?_
                    refine mt_aV (pc := 119) (n_owesOf (d := 3) (cs := cs) (Nat.le_refl 3) hx hL) cal_X11_owesOf vir_X11_owesOf ml_X11_317 dX11_would_119 (by omega) (mos_o _ _ _) (by first | assumption | (show _ ≤ d; omega)) ⟨(Nat.le_of_ble_eq_true rfl), (Nat.le_of_ble_eq_true rfl)⟩ rfl rfl (Nat.le_of_ble_eq_true rfl) ?_ ?_
                    · rintro x9 n9 k9 h9
                      obtain ⟨⟨⟩, -⟩ := h9
                    · rintro v9 n9 k9 ⟨⟨⟩, rfl, A1, rfl, hSC⟩
                      refine ⟨rfl, ?_⟩
                      exact mt_iret rfl dX11_would_122 (Nat.le_of_ble_eq_true rfl) (Nat.le_of_ble_eq_true rfl) (P_mqv (c0 := 1) (c1 := 1) (r := wouR cs a0 a1 a2 a3 a4 a5 a6 a7) (by unfold wouR; rw [ifR_p r0, ifR_p r1, ifR_p r2, ifR_p r3, ifR_p r4, ifR_p r5, ifR_p r6, ifR_p r7]) GQ_0 hSC.sd.aq)
                  · exact absurd c100 (by decide)
theorem n_fault (hx : 215 ≤ nx) : mm_Con G l yX11_fault cX11_fault 1 (some .int) d 0 0 [.ref 188] nx (mos h g A) (mm_ret (some (.int (g 8))) nx (mos h (upd g 0 0) A)) := by
  refine mm_start (lo := [some (.ref 188)]) pn_X11 rfl rfl (Nat.le_of_ble_eq_true rfl) ?_
  refine mt_aload_n (pc := 0) dX11_fault_0 rfl ?_
  refine mt_iconst (pc := 1) (v := 0) dX11_fault_1 (by decide) ?_
  refine mt_mput (pc := 2) pf_X11_3 dX11_fault_2 hx rfl ?_
  refine mt_aload_n (pc := 5) dX11_fault_5 rfl ?_
  refine mt_mget (pc := 6) gf_X11_17 dX11_fault_6 hx rfl ?_
  exact mt_iret rfl dX11_fault_9 (Nat.le_of_ble_eq_true rfl) (Nat.le_of_ble_eq_true rfl) ⟨rfl, rfl, rfl⟩
theorem n_status {x : Int32} (hd : 1 ≤ d) (hx : 215 ≤ nx) : mm_Con G l yX11_status cX11_status 2 (some .int) d 0 0 [.ref 188, .int x] nx (mos h g A) (mm_ret (some (.int (if x = 0 then A 189 0 else if x = 1 then A 189 1 else -1))) nx (mos h (upd g 0 0) A)) := by
  by_cases hok : ¬ x < 0 ∧ ¬ 1 < x
  · obtain ⟨c, -, hc, rfl⟩ := okR_nI (lo := 0) (hi := 1) hok (by decide) (by decide)
    refine mm_start (lo := [some (.ref 188), some (.int (nI c))]) pn_X11 rfl rfl (Nat.le_of_ble_eq_true rfl) ?_
    refine mt_aload_n (pc := 0) dX11_status_0 rfl ?_
    refine mt_iconst (pc := 1) (v := 0) dX11_status_1 (by decide) ?_
    refine mt_mput (pc := 2) pf_X11_3 dX11_status_2 hx rfl ?_
    refine mt_iload_n (pc := 5) dX11_status_5 rfl ?_
    refine mt_iconst (pc := 6) (v := 0) dX11_status_6 (by decide) ?_
    refine mt_iconst (pc := 7) (v := 1) dX11_status_7 (by decide) ?_
    refine mt_cS (pc := 8) (n_within (d := 0)) cal_X11_within sta_X11_within ml_X11_348 dX11_status_8 (by first | assumption | (show _ ≤ d; omega)) ⟨(Nat.le_of_ble_eq_true rfl), (Nat.le_of_ble_eq_true rfl)⟩ rfl rfl (Nat.le_of_ble_eq_true rfl) ?_
    rw [in_w hok]
    refine mt_if_eq (pc := 11) (tgt := 23) dX11_status_11 (by decide) (fun c11 => ?_) (fun c11 => ?_)
    · exact absurd c11 (by decide)
    · skip
      refine mt_aload_n (pc := 14) dX11_status_14 rfl ?_
      refine mt_mget (pc := 15) gf_X11_7 dX11_status_15 hx rfl ?_
      refine mt_iload_n (pc := 18) dX11_status_18 rfl ?_
      refine mt_mald (pc := 19) (i := 189) (j := c) dX11_status_19 hx rfl rfl (by show _ < 2; omega) rfl ?_
      refine mt_goto (pc := 20) (tgt := 24) dX11_status_20 (by decide) ?_
      exact mt_iret rfl dX11_status_24 (Nat.le_of_ble_eq_true rfl) (Nat.le_of_ble_eq_true rfl) ⟨by rcases (show c = 0 ∨ c = 1 by omega) with rfl | rfl <;> rfl, rfl, rfl⟩
  · have no := no_in (hi := 1) (by decide) hok
    refine mm_start (lo := [some (.ref 188), some (.int x)]) pn_X11 rfl rfl (Nat.le_of_ble_eq_true rfl) ?_
    refine mt_aload_n (pc := 0) dX11_status_0 rfl ?_
    refine mt_iconst (pc := 1) (v := 0) dX11_status_1 (by decide) ?_
    refine mt_mput (pc := 2) pf_X11_3 dX11_status_2 hx rfl ?_
    refine mt_iload_n (pc := 5) dX11_status_5 rfl ?_
    refine mt_iconst (pc := 6) (v := 0) dX11_status_6 (by decide) ?_
    refine mt_iconst (pc := 7) (v := 1) dX11_status_7 (by decide) ?_
    refine mt_cS (pc := 8) (n_within (d := 0)) cal_X11_within sta_X11_within ml_X11_348 dX11_status_8 (by first | assumption | (show _ ≤ d; omega)) ⟨(Nat.le_of_ble_eq_true rfl), (Nat.le_of_ble_eq_true rfl)⟩ rfl rfl (Nat.le_of_ble_eq_true rfl) ?_
    rw [in_nw hok]
    refine mt_if_eq (pc := 11) (tgt := 23) dX11_status_11 (by decide) (fun c11 => ?_) (fun c11 => ?_)
    · skip
      refine mt_iconst (pc := 23) (v := (-1)) dX11_status_23 (by decide) ?_
      exact mt_iret rfl dX11_status_24 (Nat.le_of_ble_eq_true rfl) (Nat.le_of_ble_eq_true rfl) ⟨by rw [if_neg (show ¬ x = 0 from no 0 (by decide)), if_neg (show ¬ x = 1 from no 1 (by decide))], rfl, rfl⟩
    · exact absurd rfl c11
theorem n_count {x : Int32} (hx : 215 ≤ nx) : mm_Con G l yX11_count cX11_count 2 (some .int) d 0 0 [.ref 188, .int x] nx (mos h g A) (mm_ret (some (.int (couV (g 50) (g 2) (g 31) x))) nx (mos h (upd g 0 0) A)) := by
  refine mm_start (lo := [some (.ref 188), some (.int x)]) pn_X11 rfl rfl (Nat.le_of_ble_eq_true rfl) ?_
  refine mt_aload_n (pc := 0) dX11_count_0 rfl ?_
  refine mt_iconst (pc := 1) (v := 0) dX11_count_1 (by decide) ?_
  refine mt_mput (pc := 2) pf_X11_3 dX11_count_2 hx rfl ?_
  refine mt_iload_n (pc := 5) dX11_count_5 rfl ?_
  refine mt_if_ne (pc := 6) (tgt := 16) dX11_count_6 (by decide) (fun c6 => ?_) (fun c6 => ?_)
  · skip
    refine mt_iload_n (pc := 16) dX11_count_16 rfl ?_
    refine mt_iconst (pc := 17) (v := 1) dX11_count_17 (by decide) ?_
    refine mt_icmp_ne (pc := 18) (tgt := 28) dX11_count_18 (by decide) (fun c18 => ?_) (fun c18 => ?_)
    · skip
      refine mt_iload_n (pc := 28) dX11_count_28 rfl ?_
      refine mt_iconst (pc := 29) (v := 2) dX11_count_29 (by decide) ?_
      refine mt_icmp_ne (pc := 30) (tgt := 40) dX11_count_30 (by decide) (fun c30 => ?_) (fun c30 => ?_)
      · skip
        refine mt_iconst (pc := 40) (v := (-1)) dX11_count_40 (by decide) ?_
        exact mt_iret rfl dX11_count_41 (Nat.le_of_ble_eq_true rfl) (Nat.le_of_ble_eq_true rfl) ⟨by unfold couV; rw [if_neg (show ¬ x = nI 0 from c6), if_neg (show ¬ x = nI 1 from c18), if_neg (show ¬ x = nI 2 from c30)], rfl, rfl⟩
      · skip
        refine mt_aload_n (pc := 33) dX11_count_33 rfl ?_
        refine mt_mget (pc := 34) gf_X11_170 dX11_count_34 hx rfl ?_
        refine mt_goto (pc := 37) (tgt := 41) dX11_count_37 (by decide) ?_
        exact mt_iret rfl dX11_count_41 (Nat.le_of_ble_eq_true rfl) (Nat.le_of_ble_eq_true rfl) ⟨by rw [c30]; rfl, rfl, rfl⟩
    · skip
      refine mt_aload_n (pc := 21) dX11_count_21 rfl ?_
      refine mt_mget (pc := 22) gf_X11_102 dX11_count_22 hx rfl ?_
      refine mt_goto (pc := 25) (tgt := 41) dX11_count_25 (by decide) ?_
      exact mt_iret rfl dX11_count_41 (Nat.le_of_ble_eq_true rfl) (Nat.le_of_ble_eq_true rfl) ⟨by rw [c18]; rfl, rfl, rfl⟩
  · skip
    refine mt_aload_n (pc := 9) dX11_count_9 rfl ?_
    refine mt_mget (pc := 10) gf_X11_173 dX11_count_10 hx rfl ?_
    refine mt_goto (pc := 13) (tgt := 41) dX11_count_13 (by decide) ?_
    exact mt_iret rfl dX11_count_41 (Nat.le_of_ble_eq_true rfl) (Nat.le_of_ble_eq_true rfl) ⟨by rw [c6]; rfl, rfl, rfl⟩
end MQB
