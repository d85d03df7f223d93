/-! CryptBank: questions, on. -/
def loanR (k : CS) (cs : List Nat) (f : Nat → Int32) (i x : Int32) : Nat ⊕ Int32 := if inR i (nlo f) then (if ¬ x < 0 ∧ ¬ 6 < x then .inr (if x = 6 then owI k cs f i.toNatClampNeg else f (24 + 6 * i.toNatClampNeg + x.toNatClampNeg)) else .inl 1) else .inl 0
def okR (x lo hi : Int32) : Prop := ¬ x < lo ∧ ¬ hi < x
theorem okR_nI {x : Int32} {lo hi : Nat} (h : ¬ x < nI lo ∧ ¬ nI hi < x) (hh : hi < 2 ^ 31) (hl : lo < 2 ^ 31) : ∃ j, lo ≤ j ∧ j ≤ hi ∧ x = nI j := by
  have h0 : ¬ x < 0 := fun z => h.1 (by
    have a := Int32.lt_iff_toInt_lt.mp z
    apply Int32.lt_iff_toInt_lt.mpr
    rw [show (0 : Int32).toInt = 0 from rfl] at a
    rw [nI_toInt hl]
    omega)
  obtain ⟨j, hj, rfl⟩ := nI_of h0
  exact ⟨j, Nat.le_of_not_lt fun z => h.1 (nI_lt z (by omega)), Nat.le_of_not_lt fun z => h.2 (nI_lt z hj), rfl⟩
section BANKR
variable {G : mm_G} {l : Launch} {d nx : Nat} {h : Nat → mm_E} {ic rs ne ia : Int32} {k : CS} {cs : List Nat} {bk : BS} {pg : PGS}
theorem c_slab {p x : Int32} (hl : l.stackTraces = false) (hd : 10 ≤ d) (hx : 188 ≤ nx) (hQ : QW h ic rs ne ia k cs bk pg) : mm_Con G l yX10_slab cX10_slab 4 (some .int) d 8 48 [.ref 0, .int p, .int x] nx h (P_q (slabR k pg.2.1 p x) ic rs ne ia nx h) := by
  obtain ⟨h0, hC, hA, hLW, hB, h33, hP, ⟨⟨n, hw⟩, hcn⟩, -⟩ := id hQ
  obtain rfl : n = nlo pg.2.1 := (nlo_eq hw).symm
  have c0 := hC.1
  have hk1 : k.1 ≤ 8 := hC.2.2.2.2.2.2.1
  obtain ⟨p1, p2, p3, -⟩ := id hP
  have hn := hw.2.1
  refine mm_start (lo := [some (.ref 0), some (.int p), some (.int x), none]) pn_X10 rfl rfl (Nat.le_of_ble_eq_true rfl) ?_
  refine mt_aload_n (pc := 0) dX10_slab_0 rfl ?_
  refine mt_iload_n (pc := 1) dX10_slab_1 rfl ?_
  refine mt_aV (pc := 2) (c_needSlab (d := 7) hl (Nat.le_refl 7) (by omega) h0 hC) cal_X10_needSlab vir_X10_needSlab ml_X10_222 dX10_slab_2 (by first | assumption | omega) (by repeat (first | exact hset_eq _ _ _ | assumption | rw [hset_ne (by first | assumption | decide | omega)])) (by first | assumption | (show _ ≤ d; omega)) ⟨(Nat.le_of_ble_eq_true rfl), (Nat.le_of_ble_eq_true rfl)⟩ rfl rfl (Nat.le_of_ble_eq_true rfl) ?_ ?_
  · rintro x9 n9 k9 h9
    obtain ⟨rfl, rfl, hno, rfl⟩ := h9
    exact P_qx (if_neg hno)
  · rintro v9 n9 k9 ⟨rfl, rfl, hok, rfl⟩
    obtain ⟨j, hj, rfl⟩ := inR_of hok (by omega)
    have er : slabR k pg.2.1 (nI j) x = slabV k pg.2.1 j x := by rw [slabR, if_pos hok, nI_clamp (by omega)]
    refine ⟨rfl, ?_⟩
    refine mt_aload_n (pc := 5) dX10_slab_5 rfl ?_
    refine mt_get (pc := 6) gf_X10_65 dX10_slab_6 (by first | assumption | omega) (by repeat (first | exact hset_eq _ _ _ | assumption | rw [hset_ne (by first | assumption | decide | omega)])) rfl ?_
    refine mt_get (pc := 9) gf_X10_157 dX10_slab_9 (by first | assumption | omega) (by repeat (first | exact hset_eq _ _ _ | assumption | rw [hset_ne (by first | assumption | decide | omega)])) rfl ?_
    refine mt_astore_n (pc := 12) dX10_slab_12 (Nat.le_of_ble_eq_true rfl) rfl ?_
    refine mt_iload_n (pc := 13) dX10_slab_13 rfl ?_
    rcases sw_cases x 5 with ⟨c14, h14, rfl⟩ | h14
    · rcases (show c14 = 0 ∨ c14 = 1 ∨ c14 = 2 ∨ c14 = 3 ∨ c14 = 4 ∨ c14 = 5 by omega) with rfl | rfl | rfl | rfl | rfl | rfl
      · refine mt_tableIn (pc := 14) (tgt := 52) dX10_slab_14 (by decide) (by decide) (off := 38) (by decide +kernel) (by decide) ?_
        refine mt_aload_n (pc := 52) dX10_slab_52 rfl ?_
        refine mt_get (pc := 53) gf_X10_19 dX10_slab_53 (by first | assumption | omega) (by repeat (first | exact hset_eq _ _ _ | assumption | rw [hset_ne (by first | assumption | decide | omega)])) rfl ?_
        refine mt_iload_n (pc := 56) dX10_slab_56 rfl ?_
        refine mt_cV (pc := 57) (c_kindOf (d := 1) (p := j) (Nat.le_refl 1) (by omega) (by omega) hC) cal_X1_kindOf vir_X1_kindOf ml_X10_225 dX10_slab_57 (by first | assumption | omega) (by repeat (first | exact hset_eq _ _ _ | assumption | rw [hset_ne (by first | assumption | decide | omega)])) (by first | assumption | (show _ ≤ d; omega)) ⟨(Nat.le_of_ble_eq_true rfl), (Nat.le_of_ble_eq_true rfl)⟩ rfl rfl (Nat.le_of_ble_eq_true rfl) ?_
        exact mt_iret rfl dX10_slab_60 (Nat.le_of_ble_eq_true rfl) (Nat.le_of_ble_eq_true rfl) (P_qv (ic := ic) (rs := rs) (ne := ne) (ia := ia) (er.trans rfl) hQ.fq)
      · refine mt_tableIn (pc := 14) (tgt := 61) dX10_slab_14 (by decide) (by decide) (off := 47) (by decide +kernel) (by decide) ?_
        refine mt_aload_n (pc := 61) dX10_slab_61 rfl ?_
        refine mt_iload_n (pc := 62) dX10_slab_62 rfl ?_
        refine mt_cV (pc := 63) (c_under (d := 1) (p := j) (Nat.le_refl 1) (by omega) (by omega) (by omega) p2 p3) cal_X6_under vir_X6_under ml_X10_229 dX10_slab_63 (by first | assumption | omega) (by repeat (first | exact hset_eq _ _ _ | assumption | rw [hset_ne (by first | assumption | decide | omega)])) (by first | assumption | (show _ ≤ d; omega)) ⟨(Nat.le_of_ble_eq_true rfl), (Nat.le_of_ble_eq_true rfl)⟩ rfl rfl (Nat.le_of_ble_eq_true rfl) ?_
        exact mt_iret rfl dX10_slab_66 (Nat.le_of_ble_eq_true rfl) (Nat.le_of_ble_eq_true rfl) (P_qv (ic := ic) (rs := rs) (ne := ne) (ia := ia) (er.trans rfl) hQ.fq)
      · refine mt_tableIn (pc := 14) (tgt := 67) dX10_slab_14 (by decide) (by decide) (off := 53) (by decide +kernel) (by decide) ?_
        refine mt_aload_n (pc := 67) dX10_slab_67 rfl ?_
        refine mt_get (pc := 68) gf_X10_19 dX10_slab_68 (by first | assumption | omega) (by repeat (first | exact hset_eq _ _ _ | assumption | rw [hset_ne (by first | assumption | decide | omega)])) rfl ?_
        refine mt_iload_n (pc := 71) dX10_slab_71 rfl ?_
        refine mt_cV (pc := 72) (c_toldUnder (d := 1) (p := j) (Nat.le_refl 1) (by omega) (by omega) hC) cal_X1_toldUnder vir_X1_toldUnder ml_X10_232 dX10_slab_72 (by first | assumption | omega) (by repeat (first | exact hset_eq _ _ _ | assumption | rw [hset_ne (by first | assumption | decide | omega)])) (by first | assumption | (show _ ≤ d; omega)) ⟨(Nat.le_of_ble_eq_true rfl), (Nat.le_of_ble_eq_true rfl)⟩ rfl rfl (Nat.le_of_ble_eq_true rfl) ?_
        exact mt_iret rfl dX10_slab_75 (Nat.le_of_ble_eq_true rfl) (Nat.le_of_ble_eq_true rfl) (P_qv (ic := ic) (rs := rs) (ne := ne) (ia := ia) (er.trans rfl) hQ.fq)
      · refine mt_tableIn (pc := 14) (tgt := 76) dX10_slab_14 (by decide) (by decide) (off := 62) (by decide +kernel) (by decide) ?_
        refine mt_aload_n (pc := 76) dX10_slab_76 rfl ?_
        refine mt_iload_n (pc := 77) dX10_slab_77 rfl ?_
        refine mt_cV (pc := 78) (c_isSealed (d := 1) (by omega) (by omega) p2 p3) cal_X6_isSealed vir_X6_isSealed ml_X10_235 dX10_slab_78 (by first | assumption | omega) (by repeat (first | exact hset_eq _ _ _ | assumption | rw [hset_ne (by first | assumption | decide | omega)])) (by first | assumption | (show _ ≤ d; omega)) ⟨(Nat.le_of_ble_eq_true rfl), (Nat.le_of_ble_eq_true rfl)⟩ rfl rfl (Nat.le_of_ble_eq_true rfl) ?_
        refine mt_if_eq (pc := 81) (tgt := 88) dX10_slab_81 (by decide) (fun c81 => ?_) (fun c81 => ?_)
        · skip
          have er3 : slabV k pg.2.1 j (nI 3) = .inr 0 := by show (Sum.inr (if (pg.2.1 1 >>> (nI j &&& 31)) &&& 1 = 1 then (1 : Int32) else 0) : Nat ⊕ Int32) = _; rw [c81]
          refine mt_iconst (pc := 88) (v := 0) dX10_slab_88 (by decide) ?_
          exact mt_iret rfl dX10_slab_89 (Nat.le_of_ble_eq_true rfl) (Nat.le_of_ble_eq_true rfl) (P_qv (ic := ic) (rs := rs) (ne := ne) (ia := ia) (er.trans er3) hQ.fq)
        · skip
          have er3 : slabV k pg.2.1 j (nI 3) = .inr 1 := by show (Sum.inr (if (pg.2.1 1 >>> (nI j &&& 31)) &&& 1 = 1 then (1 : Int32) else 0) : Nat ⊕ Int32) = _; rw [if_pos (Classical.not_not.mp fun z => c81 (if_neg z))]
          refine mt_iconst (pc := 84) (v := 1) dX10_slab_84 (by decide) ?_
          refine mt_goto (pc := 85) (tgt := 89) dX10_slab_85 (by decide) ?_
          exact mt_iret rfl dX10_slab_89 (Nat.le_of_ble_eq_true rfl) (Nat.le_of_ble_eq_true rfl) (P_qv (ic := ic) (rs := rs) (ne := ne) (ia := ia) (er.trans er3) hQ.fq)
      · refine mt_tableIn (pc := 14) (tgt := 90) dX10_slab_14 (by decide) (by decide) (off := 76) (by decide +kernel) (by decide) ?_
        refine mt_aload_n (pc := 90) dX10_slab_90 rfl ?_
        refine mt_iconst (pc := 91) (v := 1) dX10_slab_91 (by decide) ?_
        refine mt_iload_n (pc := 92) dX10_slab_92 rfl ?_
        refine mt_cV (pc := 93) (c_loansWhere (d := 2) (k := 1) (v := nI j) (Nat.le_refl 2) (by decide) hn hw.1 (by omega) (by omega) p2 p3) cal_X6_loansWhere vir_X6_loansWhere ml_X10_238 dX10_slab_93 (by first | assumption | omega) (by repeat (first | exact hset_eq _ _ _ | assumption | rw [hset_ne (by first | assumption | decide | omega)])) (by first | assumption | (show _ ≤ d; omega)) ⟨(Nat.le_of_ble_eq_true rfl), (Nat.le_of_ble_eq_true rfl)⟩ rfl rfl (Nat.le_of_ble_eq_true rfl) ?_
        exact mt_iret rfl dX10_slab_96 (Nat.le_of_ble_eq_true rfl) (Nat.le_of_ble_eq_true rfl) (P_qv (ic := ic) (rs := rs) (ne := ne) (ia := ia) (er.trans rfl) hQ.fq)
      · refine mt_tableIn (pc := 14) (tgt := 97) dX10_slab_14 (by decide) (by decide) (off := 83) (by decide +kernel) (by decide) ?_
        refine mt_aload_n (pc := 97) dX10_slab_97 rfl ?_
        refine mt_get (pc := 98) gf_X10_19 dX10_slab_98 (by first | assumption | omega) (by repeat (first | exact hset_eq _ _ _ | assumption | rw [hset_ne (by first | assumption | decide | omega)])) rfl ?_
        refine mt_iload_n (pc := 101) dX10_slab_101 rfl ?_
        refine mt_cV (pc := 102) (c_kinOf (d := 1) (p := j) (Nat.le_refl 1) (by omega) (by omega) hC) cal_X1_kinOf vir_X1_kinOf ml_X10_242 dX10_slab_102 (by first | assumption | omega) (by repeat (first | exact hset_eq _ _ _ | assumption | rw [hset_ne (by first | assumption | decide | omega)])) (by first | assumption | (show _ ≤ d; omega)) ⟨(Nat.le_of_ble_eq_true rfl), (Nat.le_of_ble_eq_true rfl)⟩ rfl rfl (Nat.le_of_ble_eq_true rfl) ?_
        exact mt_iret rfl dX10_slab_105 (Nat.le_of_ble_eq_true rfl) (Nat.le_of_ble_eq_true rfl) (P_qv (ic := ic) (rs := rs) (ne := ne) (ia := ia) (er.trans rfl) hQ.fq)
    · refine mt_tableOut (pc := 14) (tgt := 106) dX10_slab_14 h14 (by decide) ?_
      have er2 : slabV k pg.2.1 j x = .inl 1 := by unfold slabV; rw [if_neg (sw_no h14 (by decide) (by decide)), if_neg (sw_no h14 (by decide) (by decide)), if_neg (sw_no h14 (by decide) (by decide)), if_neg (sw_no h14 (by decide) (by decide)), if_neg (sw_no h14 (by decide) (by decide)), if_neg (sw_no h14 (by decide) (by decide))]
      refine mt_aload_n (pc := 106) dX10_slab_106 rfl ?_
      refine mt_iconst (pc := 107) (v := 0) dX10_slab_107 (by decide) ?_
      refine mt_aV (pc := 108) (c_needArgument (d := 6) hl (Nat.le_refl 6) (by omega) h0) cal_X10_needArgument vir_X10_needArgument ml_X10_218 dX10_slab_108 (by first | assumption | omega) (by repeat (first | exact hset_eq _ _ _ | assumption | rw [hset_ne (by first | assumption | decide | omega)])) (by first | assumption | (show _ ≤ d; omega)) ⟨(Nat.le_of_ble_eq_true rfl), (Nat.le_of_ble_eq_true rfl)⟩ rfl rfl (Nat.le_of_ble_eq_true rfl) ?_ ?_
      · rintro x9 n9 k9 h9
        obtain ⟨rfl, rfl, hno, rfl⟩ := h9
        exact P_qx (er.trans er2)
      · rintro v9 n9 k9 ⟨rfl, rfl, hok2, rfl⟩
        refine ⟨rfl, ?_⟩
        refine mt_iconst (pc := 111) (v := (-1)) dX10_slab_111 (by decide) ?_
        exact mt_iret rfl dX10_slab_112 (Nat.le_of_ble_eq_true rfl) (Nat.le_of_ble_eq_true rfl) (absurd rfl hok2)
theorem c_soul {p x : Int32} (hl : l.stackTraces = false) (hd : 10 ≤ d) (hx : 188 ≤ nx) (hQ : QW h ic rs ne ia k cs bk pg) : mm_Con G l yX10_soul cX10_soul 4 (some .int) d 8 48 [.ref 0, .int p, .int x] nx h (P_q (soulR k cs pg.2.1 p x) ic rs ne ia nx h) := by
  obtain ⟨h0, hC, hA, hLW, hB, h33, hP, ⟨⟨n, hw⟩, hcn⟩, -⟩ := id hQ
  obtain rfl : n = nlo pg.2.1 := (nlo_eq hw).symm
  have c0 := hC.1
  have hk1 : k.2.1 ≤ 6 := hC.2.2.2.2.2.2.2
  obtain ⟨p1, p2, p3, -⟩ := id hP
  have hn := hw.2.1
  refine mm_start (lo := [some (.ref 0), some (.int p), some (.int x), none]) pn_X10 rfl rfl (Nat.le_of_ble_eq_true rfl) ?_
  refine mt_aload_n (pc := 0) dX10_soul_0 rfl ?_
  refine mt_iload_n (pc := 1) dX10_soul_1 rfl ?_
  refine mt_aV (pc := 2) (c_needSoul (d := 7) hl (Nat.le_refl 7) (by omega) h0 hC) cal_X10_needSoul vir_X10_needSoul ml_X10_245 dX10_soul_2 (by first | assumption | omega) (by repeat (first | exact hset_eq _ _ _ | assumption | rw [hset_ne (by first | assumption | decide | omega)])) (by first | assumption | (show _ ≤ d; omega)) ⟨(Nat.le_of_ble_eq_true rfl), (Nat.le_of_ble_eq_true rfl)⟩ rfl rfl (Nat.le_of_ble_eq_true rfl) ?_ ?_
  · rintro x9 n9 k9 h9
    obtain ⟨rfl, rfl, hno, rfl⟩ := h9
    exact P_qx (if_neg hno)
  · rintro v9 n9 k9 ⟨rfl, rfl, hok, rfl⟩
    obtain ⟨j, hj, rfl⟩ := inR_of hok (by omega)
    have er : soulR k cs pg.2.1 (nI j) x = soulV k cs pg.2.1 j x := by rw [soulR, if_pos hok, nI_clamp (by omega)]
    refine ⟨rfl, ?_⟩
    refine mt_aload_n (pc := 5) dX10_soul_5 rfl ?_
    refine mt_get (pc := 6) gf_X10_65 dX10_soul_6 (by first | assumption | omega) (by repeat (first | exact hset_eq _ _ _ | assumption | rw [hset_ne (by first | assumption | decide | omega)])) rfl ?_
    refine mt_get (pc := 9) gf_X10_157 dX10_soul_9 (by first | assumption | omega) (by repeat (first | exact hset_eq _ _ _ | assumption | rw [hset_ne (by first | assumption | decide | omega)])) rfl ?_
    refine mt_astore_n (pc := 12) dX10_soul_12 (Nat.le_of_ble_eq_true rfl) rfl ?_
    refine mt_iload_n (pc := 13) dX10_soul_13 rfl ?_
    rcases sw_cases x 5 with ⟨c14, h14, rfl⟩ | h14
    · rcases (show c14 = 0 ∨ c14 = 1 ∨ c14 = 2 ∨ c14 = 3 ∨ c14 = 4 ∨ c14 = 5 by omega) with rfl | rfl | rfl | rfl | rfl | rfl
      · refine mt_tableIn (pc := 14) (tgt := 52) dX10_soul_14 (by decide) (by decide) (off := 38) (by decide +kernel) (by decide) ?_
        refine mt_aload_n (pc := 52) dX10_soul_52 rfl ?_
        refine mt_iload_n (pc := 53) dX10_soul_53 rfl ?_
        refine mt_cV (pc := 54) (c_standing (d := 1) (p := j) (Nat.le_refl 1) (by omega) (by omega) (by omega) p2 p3) cal_X6_standing vir_X6_standing ml_X10_248 dX10_soul_54 (by first | assumption | omega) (by repeat (first | exact hset_eq _ _ _ | assumption | rw [hset_ne (by first | assumption | decide | omega)])) (by first | assumption | (show _ ≤ d; omega)) ⟨(Nat.le_of_ble_eq_true rfl), (Nat.le_of_ble_eq_true rfl)⟩ rfl rfl (Nat.le_of_ble_eq_true rfl) ?_
        exact mt_iret rfl dX10_soul_57 (Nat.le_of_ble_eq_true rfl) (Nat.le_of_ble_eq_true rfl) (P_qv (ic := ic) (rs := rs) (ne := ne) (ia := ia) (er.trans rfl) hQ.fq)
      · refine mt_tableIn (pc := 14) (tgt := 58) dX10_soul_14 (by decide) (by decide) (off := 44) (by decide +kernel) (by decide) ?_
        refine mt_aload_n (pc := 58) dX10_soul_58 rfl ?_
        refine mt_get (pc := 59) gf_X10_19 dX10_soul_59 (by first | assumption | omega) (by repeat (first | exact hset_eq _ _ _ | assumption | rw [hset_ne (by first | assumption | decide | omega)])) rfl ?_
        refine mt_iload_n (pc := 62) dX10_soul_62 rfl ?_
        refine mt_cV (pc := 63) (c_toldStanding (d := 1) (p := j) (Nat.le_refl 1) (by omega) (by omega) hC) cal_X1_toldStanding vir_X1_toldStanding ml_X10_251 dX10_soul_63 (by first | assumption | omega) (by repeat (first | exact hset_eq _ _ _ | assumption | rw [hset_ne (by first | assumption | decide | omega)])) (by first | assumption | (show _ ≤ d; omega)) ⟨(Nat.le_of_ble_eq_true rfl), (Nat.le_of_ble_eq_true rfl)⟩ rfl rfl (Nat.le_of_ble_eq_true rfl) ?_
        exact mt_iret rfl dX10_soul_66 (Nat.le_of_ble_eq_true rfl) (Nat.le_of_ble_eq_true rfl) (P_qv (ic := ic) (rs := rs) (ne := ne) (ia := ia) (er.trans rfl) hQ.fq)
      · refine mt_tableIn (pc := 14) (tgt := 67) dX10_soul_14 (by decide) (by decide) (off := 53) (by decide +kernel) (by decide) ?_
        refine mt_aload_n (pc := 67) dX10_soul_67 rfl ?_
        refine mt_iload_n (pc := 68) dX10_soul_68 rfl ?_
        refine mt_cV (pc := 69) (c_purse (d := 1) (p := j) (Nat.le_refl 1) (by omega) (by omega) (by omega) p2 p3) cal_X6_purse vir_X6_purse ml_X10_254 dX10_soul_69 (by first | assumption | omega) (by repeat (first | exact hset_eq _ _ _ | assumption | rw [hset_ne (by first | assumption | decide | omega)])) (by first | assumption | (show _ ≤ d; omega)) ⟨(Nat.le_of_ble_eq_true rfl), (Nat.le_of_ble_eq_true rfl)⟩ rfl rfl (Nat.le_of_ble_eq_true rfl) ?_
        exact mt_iret rfl dX10_soul_72 (Nat.le_of_ble_eq_true rfl) (Nat.le_of_ble_eq_true rfl) (P_qv (ic := ic) (rs := rs) (ne := ne) (ia := ia) (er.trans rfl) hQ.fq)
      · refine mt_tableIn (pc := 14) (tgt := 73) dX10_soul_14 (by decide) (by decide) (off := 59) (by decide +kernel) (by decide) ?_
        refine mt_aload_n (pc := 73) dX10_soul_73 rfl ?_
        refine mt_iconst (pc := 74) (v := 0) dX10_soul_74 (by decide) ?_
        refine mt_iload_n (pc := 75) dX10_soul_75 rfl ?_
        refine mt_cV (pc := 76) (c_loansWhere (d := 2) (k := 0) (v := nI j) (Nat.le_refl 2) (by decide) hn hw.1 (by omega) (by omega) p2 p3) cal_X6_loansWhere vir_X6_loansWhere ml_X10_238 dX10_soul_76 (by first | assumption | omega) (by repeat (first | exact hset_eq _ _ _ | assumption | rw [hset_ne (by first | assumption | decide | omega)])) (by first | assumption | (show _ ≤ d; omega)) ⟨(Nat.le_of_ble_eq_true rfl), (Nat.le_of_ble_eq_true rfl)⟩ rfl rfl (Nat.le_of_ble_eq_true rfl) ?_
        exact mt_iret rfl dX10_soul_79 (Nat.le_of_ble_eq_true rfl) (Nat.le_of_ble_eq_true rfl) (P_qv (ic := ic) (rs := rs) (ne := ne) (ia := ia) (er.trans rfl) hQ.fq)
      · refine mt_tableIn (pc := 14) (tgt := 80) dX10_soul_14 (by decide) (by decide) (off := 66) (by decide +kernel) (by decide) ?_
        refine mt_aload_n (pc := 80) dX10_soul_80 rfl ?_
        refine mt_get (pc := 81) gf_X10_58 dX10_soul_81 (by first | assumption | omega) (by repeat (first | exact hset_eq _ _ _ | assumption | rw [hset_ne (by first | assumption | decide | omega)])) rfl ?_
        refine mt_aload_n (pc := 84) dX10_soul_84 rfl ?_
        refine mt_iload_n (pc := 85) dX10_soul_85 rfl ?_
        refine mt_aV (pc := 86) (c_owesInAll (d := 4) (who := nI j) (Nat.le_refl 4) (by omega) hw hA hLW hC h33 (by decide) (by decide) (by omega) (by omega) p2 p3) cal_X4_owesInAll vir_X4_owesInAll ml_X10_205 dX10_soul_86 (by first | assumption | omega) (by repeat (first | exact hset_eq _ _ _ | assumption | rw [hset_ne (by first | assumption | decide | omega)])) (by first | assumption | (show _ ≤ d; omega)) ⟨(Nat.le_of_ble_eq_true rfl), (Nat.le_of_ble_eq_true rfl)⟩ rfl rfl (Nat.le_of_ble_eq_true rfl) ?_ ?_
        · rintro x9 n9 k9 h9
          simp [P_ow] at h9
        · rintro v9 n9 k9 ⟨hv, rfl, hF9⟩
          cases hv
          refine ⟨rfl, ?_⟩
          exact mt_iret rfl dX10_soul_89 (Nat.le_of_ble_eq_true rfl) (Nat.le_of_ble_eq_true rfl) (P_qv (ic := ic) (rs := rs) (ne := ne) (ia := ia) (er.trans rfl) (hQ.frl hF9))
      · refine mt_tableIn (pc := 14) (tgt := 90) dX10_soul_14 (by decide) (by decide) (off := 76) (by decide +kernel) (by decide) ?_
        refine mt_aload_n (pc := 90) dX10_soul_90 rfl ?_
        refine mt_iconst (pc := 91) (v := 0) dX10_soul_91 (by decide) ?_
        refine mt_iload_n (pc := 92) dX10_soul_92 rfl ?_
        refine mt_cV (pc := 93) (c_lentWhere (d := 2) (k := 0) (v := nI j) (Nat.le_refl 2) (by decide) hn hw.1 (by omega) (by omega) p2 p3) cal_X6_lentWhere vir_X6_lentWhere ml_X10_257 dX10_soul_93 (by first | assumption | omega) (by repeat (first | exact hset_eq _ _ _ | assumption | rw [hset_ne (by first | assumption | decide | omega)])) (by first | assumption | (show _ ≤ d; omega)) ⟨(Nat.le_of_ble_eq_true rfl), (Nat.le_of_ble_eq_true rfl)⟩ rfl rfl (Nat.le_of_ble_eq_true rfl) ?_
        exact mt_iret rfl dX10_soul_96 (Nat.le_of_ble_eq_true rfl) (Nat.le_of_ble_eq_true rfl) (P_qv (ic := ic) (rs := rs) (ne := ne) (ia := ia) (er.trans rfl) hQ.fq)
    · refine mt_tableOut (pc := 14) (tgt := 97) dX10_soul_14 h14 (by decide) ?_
      have er2 : soulV k cs pg.2.1 j x = .inl 1 := by unfold soulV; rw [if_neg (sw_no h14 (by decide) (by decide)), if_neg (sw_no h14 (by decide) (by decide)), if_neg (sw_no h14 (by decide) (by decide)), if_neg (sw_no h14 (by decide) (by decide)), if_neg (sw_no h14 (by decide) (by decide)), if_neg (sw_no h14 (by decide) (by decide))]
      refine mt_aload_n (pc := 97) dX10_soul_97 rfl ?_
      refine mt_iconst (pc := 98) (v := 0) dX10_soul_98 (by decide) ?_
      refine mt_aV (pc := 99) (c_needArgument (d := 6) hl (Nat.le_refl 6) (by omega) h0) cal_X10_needArgument vir_X10_needArgument ml_X10_218 dX10_soul_99 (by first | assumption | omega) (by repeat (first | exact hset_eq _ _ _ | assumption | rw [hset_ne (by first | assumption | decide | omega)])) (by first | assumption | (show _ ≤ d; omega)) ⟨(Nat.le_of_ble_eq_true rfl), (Nat.le_of_ble_eq_true rfl)⟩ rfl rfl (Nat.le_of_ble_eq_true rfl) ?_ ?_
      · rintro x9 n9 k9 h9
        obtain ⟨rfl, rfl, hno, rfl⟩ := h9
        exact P_qx (er.trans er2)
      · rintro v9 n9 k9 ⟨rfl, rfl, hok2, rfl⟩
        refine ⟨rfl, ?_⟩
        refine mt_iconst (pc := 102) (v := (-1)) dX10_soul_102 (by decide) ?_
        exact mt_iret rfl dX10_soul_103 (Nat.le_of_ble_eq_true rfl) (Nat.le_of_ble_eq_true rfl) (absurd rfl hok2)
theorem c_loan {p x : Int32} (hl : l.stackTraces = false) (hd : 10 ≤ d) (hx : 188 ≤ nx) (hQ : QW h ic rs ne ia k cs bk pg) : mm_Con G l yX10_loan cX10_loan 3 (some .int) d 8 48 [.ref 0, .int p, .int x] nx h (P_q (loanR k cs pg.2.1 p x) ic rs ne ia nx h) := by
  obtain ⟨h0, hC, hA, hLW, hB, h33, hP, ⟨⟨n, hw⟩, hcn⟩, -⟩ := id hQ
  obtain rfl : n = nlo pg.2.1 := (nlo_eq hw).symm
  have c0 := hC.1
  obtain ⟨p1, p2, p3, -⟩ := id hP
  have hn := hw.2.1
  have hin : (if p < 0 then (0 : Int32) else if pg.2.1 3 ≤ p then 0 else 1) = 0 ↔ ¬ inR p (nlo pg.2.1) := by
    rw [hw.1]
    by_cases z1 : p < 0
    · rw [if_pos z1]; exact ⟨fun _ y => y.1 z1, fun _ => rfl⟩
    · by_cases z2 : nI (nlo pg.2.1) ≤ p
      · rw [if_neg z1, if_pos z2]; exact ⟨fun _ y => y.2 z2, fun _ => rfl⟩
      · rw [if_neg z1, if_neg z2]; exact ⟨fun y => absurd y (by decide), fun y => absurd ⟨z1, z2⟩ y⟩
  refine mm_start (lo := [some (.ref 0), some (.int p), some (.int x)]) pn_X10 rfl rfl (Nat.le_of_ble_eq_true rfl) ?_
  refine mt_aload_n (pc := 0) dX10_loan_0 rfl ?_
  refine mt_aload_n (pc := 1) dX10_loan_1 rfl ?_
  refine mt_get (pc := 2) gf_X10_65 dX10_loan_2 (by first | assumption | omega) (by repeat (first | exact hset_eq _ _ _ | assumption | rw [hset_ne (by first | assumption | decide | omega)])) rfl ?_
  refine mt_get (pc := 5) gf_X10_157 dX10_loan_5 (by first | assumption | omega) (by repeat (first | exact hset_eq _ _ _ | assumption | rw [hset_ne (by first | assumption | decide | omega)])) rfl ?_
  refine mt_iload_n (pc := 8) dX10_loan_8 rfl ?_
  refine mt_cV (pc := 9) (c_hasLoan (d := 1) (by omega) (by omega) p2 p3) cal_X6_hasLoan vir_X6_hasLoan ml_X10_260 dX10_loan_9 (by first | assumption | omega) (by repeat (first | exact hset_eq _ _ _ | assumption | rw [hset_ne (by first | assumption | decide | omega)])) (by first | assumption | (show _ ≤ d; omega)) ⟨(Nat.le_of_ble_eq_true rfl), (Nat.le_of_ble_eq_true rfl)⟩ rfl rfl (Nat.le_of_ble_eq_true rfl) ?_
  refine mt_aV (pc := 12) (c_needElement (d := 6) hl (Nat.le_refl 6) (by omega) h0) cal_X10_needElement vir_X10_needElement ml_X10_263 dX10_loan_12 (by first | assumption | omega) (by repeat (first | exact hset_eq _ _ _ | assumption | rw [hset_ne (by first | assumption | decide | omega)])) (by first | assumption | (show _ ≤ d; omega)) ⟨(Nat.le_of_ble_eq_true rfl), (Nat.le_of_ble_eq_true rfl)⟩ rfl rfl (Nat.le_of_ble_eq_true rfl) ?_ ?_
  · rintro x9 n9 k9 h9
    obtain ⟨rfl, rfl, hno, rfl⟩ := h9
    exact P_qx (if_neg (hin.mp (Classical.not_not.mp hno)))
  · rintro v9 n9 k9 ⟨rfl, rfl, hok, rfl⟩
    have hok1 : inR p (nlo pg.2.1) := Classical.not_not.mp fun z => hok (hin.mpr z)
    obtain ⟨j, hj, rfl⟩ := inR_of hok1 (by omega)
    have er : loanR k cs pg.2.1 (nI j) x = if ¬ x < 0 ∧ ¬ 6 < x then .inr (if x = 6 then owI k cs pg.2.1 j else pg.2.1 (24 + 6 * j + x.toNatClampNeg)) else .inl 1 := by rw [loanR, if_pos hok1, nI_clamp (by omega)]
    refine ⟨rfl, ?_⟩
    refine mt_aload_n (pc := 15) dX10_loan_15 rfl ?_
    refine mt_iload_n (pc := 16) dX10_loan_16 rfl ?_
    refine mt_iconst (pc := 17) (v := 0) dX10_loan_17 (by decide) ?_
    refine mt_bipush (pc := 18) (v := 6) dX10_loan_18 (by decide) ?_
    refine mt_aV (pc := 20) (c_needRange (d := 7) hl (Nat.le_refl 7) (by omega) h0) cal_X10_needRange vir_X10_needRange ml_X10_266 dX10_loan_20 (by first | assumption | omega) (by repeat (first | exact hset_eq _ _ _ | assumption | rw [hset_ne (by first | assumption | decide | omega)])) (by first | assumption | (show _ ≤ d; omega)) ⟨(Nat.le_of_ble_eq_true rfl), (Nat.le_of_ble_eq_true rfl)⟩ rfl rfl (Nat.le_of_ble_eq_true rfl) ?_ ?_
    · rintro x9 n9 k9 h9
      obtain ⟨rfl, rfl, hno, rfl⟩ := h9
      exact P_qx (er.trans (if_neg hno))
    · rintro v9 n9 k9 ⟨rfl, rfl, hok2, rfl⟩
      rw [if_pos hok2] at er
      refine ⟨rfl, ?_⟩
      refine mt_iload_n (pc := 23) dX10_loan_23 rfl ?_
      refine mt_bipush (pc := 24) (v := 6) dX10_loan_24 (by decide) ?_
      refine mt_icmp_ne (pc := 26) (tgt := 47) dX10_loan_26 (by decide) (fun c26 => ?_) (fun c26 => ?_)
      · skip
        rw [if_neg c26] at er
        obtain ⟨c, hc1, hc2, rfl⟩ := okR_nI (lo := 0) (hi := 6) hok2 (by decide) (by decide)
        have hc3 : c ≠ 6 := fun z => c26 (by rw [z]; rfl)
        rw [nI_clamp (by omega)] at er
        refine mt_aload_n (pc := 47) dX10_loan_47 rfl ?_
        refine mt_get (pc := 48) gf_X10_65 dX10_loan_48 (by first | assumption | omega) (by repeat (first | exact hset_eq _ _ _ | assumption | rw [hset_ne (by first | assumption | decide | omega)])) rfl ?_
        refine mt_get (pc := 51) gf_X10_157 dX10_loan_51 (by first | assumption | omega) (by repeat (first | exact hset_eq _ _ _ | assumption | rw [hset_ne (by first | assumption | decide | omega)])) rfl ?_
        refine mt_iload_n (pc := 54) dX10_loan_54 rfl ?_
        refine mt_iload_n (pc := 55) dX10_loan_55 rfl ?_
        refine mt_cV (pc := 56) (c_ofLoan (d := 1) (i := j) (k := c) (Nat.le_refl 1) (by omega) (by omega) (by omega) (by omega) p2 p3) cal_X6_ofLoan vir_X6_ofLoan ml_X10_273 dX10_loan_56 (by first | assumption | omega) (by repeat (first | exact hset_eq _ _ _ | assumption | rw [hset_ne (by first | assumption | decide | omega)])) (by first | assumption | (show _ ≤ d; omega)) ⟨(Nat.le_of_ble_eq_true rfl), (Nat.le_of_ble_eq_true rfl)⟩ rfl rfl (Nat.le_of_ble_eq_true rfl) ?_
        exact mt_iret rfl dX10_loan_59 (Nat.le_of_ble_eq_true rfl) (Nat.le_of_ble_eq_true rfl) (P_qv (ic := ic) (rs := rs) (ne := ne) (ia := ia) er hQ.fq)
      · skip
        rw [if_pos c26] at er
        have so := hw.so hj
        have sl := hw.sl hj
        refine mt_aload_n (pc := 29) dX10_loan_29 rfl ?_
        refine mt_get (pc := 30) gf_X10_58 dX10_loan_30 (by first | assumption | omega) (by repeat (first | exact hset_eq _ _ _ | assumption | rw [hset_ne (by first | assumption | decide | omega)])) rfl ?_
        refine mt_aload_n (pc := 33) dX10_loan_33 rfl ?_
        refine mt_get (pc := 34) gf_X10_65 dX10_loan_34 (by first | assumption | omega) (by repeat (first | exact hset_eq _ _ _ | assumption | rw [hset_ne (by first | assumption | decide | omega)])) rfl ?_
        refine mt_get (pc := 37) gf_X10_157 dX10_loan_37 (by first | assumption | omega) (by repeat (first | exact hset_eq _ _ _ | assumption | rw [hset_ne (by first | assumption | decide | omega)])) rfl ?_
        refine mt_iload_n (pc := 40) dX10_loan_40 rfl ?_
        refine mt_aV (pc := 41) (c_rowes (d := 3) (i := j) (Nat.le_refl 3) (by omega) (by omega) so.1 so.2 sl.1 sl.2 hA hLW hC h33 (by decide) (by decide) (by omega) (by omega) p2 p3) cal_X4_owes vir_X4_owes ml_X10_270 dX10_loan_41 (by first | assumption | omega) (by repeat (first | exact hset_eq _ _ _ | assumption | rw [hset_ne (by first | assumption | decide | omega)])) (by first | assumption | (show _ ≤ d; omega)) ⟨(Nat.le_of_ble_eq_true rfl), (Nat.le_of_ble_eq_true rfl)⟩ rfl rfl (Nat.le_of_ble_eq_true rfl) ?_ ?_
        · rintro x9 n9 k9 h9
          simp [P_ow] at h9
        · rintro v9 n9 k9 ⟨hv, rfl, hF9⟩
          cases hv
          refine ⟨rfl, ?_⟩
          refine mt_goto (pc := 44) (tgt := 59) dX10_loan_44 (by decide) ?_
          exact mt_iret rfl dX10_loan_59 (Nat.le_of_ble_eq_true rfl) (Nat.le_of_ble_eq_true rfl) (P_qv (ic := ic) (rs := rs) (ne := ne) (ia := ia) er (hQ.frl hF9))
theorem c_status {x : Int32} (hx : 188 ≤ nx) (hQ : QW h ic rs ne ia k cs bk pg) : mm_Con G l yX10_status cX10_status 2 (some .int) d 0 0 [.ref 0, .int x] nx h (mm_ret (some (.int (if x = 0 then ne else if x = 1 then ia else -1))) nx h) := by
  have h0 := hQ.1
  refine mm_start (lo := [some (.ref 0), some (.int x)]) pn_X10 rfl rfl (Nat.le_of_ble_eq_true rfl) ?_
  refine mt_iload_n (pc := 0) dX10_status_0 rfl ?_
  refine mt_if_ne (pc := 1) (tgt := 9) dX10_status_1 (by decide) (fun c1 => ?_) (fun c1 => ?_)
  · skip
    refine mt_iload_n (pc := 9) dX10_status_9 rfl ?_
    refine mt_iconst (pc := 10) (v := 1) dX10_status_10 (by decide) ?_
    refine mt_icmp_ne (pc := 11) (tgt := 21) dX10_status_11 (by decide) (fun c11 => ?_) (fun c11 => ?_)
    · skip
      refine mt_iconst (pc := 21) (v := (-1)) dX10_status_21 (by decide) ?_
      exact mt_iret rfl dX10_status_22 (Nat.le_of_ble_eq_true rfl) (Nat.le_of_ble_eq_true rfl) ⟨by rw [if_neg c1, if_neg c11], rfl, rfl⟩
    · skip
      refine mt_aload_n (pc := 14) dX10_status_14 rfl ?_
      refine mt_get (pc := 15) gf_X10_365 dX10_status_15 (by first | assumption | omega) (by repeat (first | exact hset_eq _ _ _ | assumption | rw [hset_ne (by first | assumption | decide | omega)])) rfl ?_
      refine mt_goto (pc := 18) (tgt := 22) dX10_status_18 (by decide) ?_
      exact mt_iret rfl dX10_status_22 (Nat.le_of_ble_eq_true rfl) (Nat.le_of_ble_eq_true rfl) ⟨by rw [if_neg c1, if_pos c11], rfl, rfl⟩
  · skip
    refine mt_aload_n (pc := 4) dX10_status_4 rfl ?_
    refine mt_get (pc := 5) gf_X10_362 dX10_status_5 (by first | assumption | omega) (by repeat (first | exact hset_eq _ _ _ | assumption | rw [hset_ne (by first | assumption | decide | omega)])) rfl ?_
    exact mt_iret rfl dX10_status_8 (Nat.le_of_ble_eq_true rfl) (Nat.le_of_ble_eq_true rfl) ⟨by rw [if_pos c1], rfl, rfl⟩
theorem c_lends {a p x : Int32} (hl : l.stackTraces = false) (hd : 10 ≤ d) (hx : 188 ≤ nx) (hQ : QW h ic rs ne ia k cs bk pg) : mm_Con G l yX10_lends cX10_lends 4 (some .boolean) d 8 48 [.ref 0, .int a, .int p, .int x] nx h (P_q (if inR a k.2.1 ∧ inR p k.1 then (if ¬ x < 1 ∧ ¬ 60 < x then .inr (if ¬ 10 ≤ pg.2.1 3 ∧ openC k pg.2.1 a.toNatClampNeg p.toNatClampNeg x then 1 else 0) else .inl 1) else .inl 0) ic rs ne ia nx h) := by
  obtain ⟨h0, hC, hA, hLW, hB, h33, hP, ⟨⟨n, hw⟩, hcn⟩, -⟩ := id hQ
  have hk1 : k.1 ≤ 8 := hC.2.2.2.2.2.2.1
  have hk2 : k.2.1 ≤ 6 := hC.2.2.2.2.2.2.2
  obtain ⟨p1, p2, p3, -⟩ := id hP
  refine mm_start (lo := [some (.ref 0), some (.int a), some (.int p), some (.int x)]) pn_X10 rfl rfl (Nat.le_of_ble_eq_true rfl) ?_
  refine mt_aload_n (pc := 0) dX10_lends_0 rfl ?_
  refine mt_iload_n (pc := 1) dX10_lends_1 rfl ?_
  refine mt_aV (pc := 2) (c_needSoul (d := 7) hl (Nat.le_refl 7) (by omega) h0 hC) cal_X10_needSoul vir_X10_needSoul ml_X10_245 dX10_lends_2 (by first | assumption | omega) (by repeat (first | exact hset_eq _ _ _ | assumption | rw [hset_ne (by first | assumption | decide | omega)])) (by first | assumption | (show _ ≤ d; omega)) ⟨(Nat.le_of_ble_eq_true rfl), (Nat.le_of_ble_eq_true rfl)⟩ rfl rfl (Nat.le_of_ble_eq_true rfl) ?_ ?_
  · rintro x9 n9 k9 h9
    obtain ⟨rfl, rfl, hno, rfl⟩ := h9
    exact P_qx (if_neg fun z => hno z.1)
  · rintro v9 n9 k9 ⟨rfl, rfl, hok, rfl⟩
    refine ⟨rfl, ?_⟩
    refine mt_aload_n (pc := 5) dX10_lends_5 rfl ?_
    refine mt_iload_n (pc := 6) dX10_lends_6 rfl ?_
    refine mt_aV (pc := 7) (c_needSlab (d := 7) hl (Nat.le_refl 7) (by omega) h0 hC) cal_X10_needSlab vir_X10_needSlab ml_X10_222 dX10_lends_7 (by first | assumption | omega) (by repeat (first | exact hset_eq _ _ _ | assumption | rw [hset_ne (by first | assumption | decide | omega)])) (by first | assumption | (show _ ≤ d; omega)) ⟨(Nat.le_of_ble_eq_true rfl), (Nat.le_of_ble_eq_true rfl)⟩ rfl rfl (Nat.le_of_ble_eq_true rfl) ?_ ?_
    · rintro x9 n9 k9 h9
      obtain ⟨rfl, rfl, hno, rfl⟩ := h9
      exact P_qx (if_neg fun z => hno z.2)
    · rintro v9 n9 k9 ⟨rfl, rfl, hok2, rfl⟩
      refine ⟨rfl, ?_⟩
      refine mt_aload_n (pc := 10) dX10_lends_10 rfl ?_
      refine mt_iload_n (pc := 11) dX10_lends_11 rfl ?_
      refine mt_iconst (pc := 12) (v := 1) dX10_lends_12 (by decide) ?_
      refine mt_bipush (pc := 13) (v := 60) dX10_lends_13 (by decide) ?_
      refine mt_aV (pc := 15) (c_needRange (d := 7) hl (Nat.le_refl 7) (by omega) h0) cal_X10_needRange vir_X10_needRange ml_X10_266 dX10_lends_15 (by first | assumption | omega) (by repeat (first | exact hset_eq _ _ _ | assumption | rw [hset_ne (by first | assumption | decide | omega)])) (by first | assumption | (show _ ≤ d; omega)) ⟨(Nat.le_of_ble_eq_true rfl), (Nat.le_of_ble_eq_true rfl)⟩ rfl rfl (Nat.le_of_ble_eq_true rfl) ?_ ?_
      · rintro x9 n9 k9 h9
        obtain ⟨rfl, rfl, hno, rfl⟩ := h9
        exact P_qx (by rw [if_pos ⟨hok, hok2⟩, if_neg hno])
      · rintro v9 n9 k9 ⟨rfl, rfl, hok3, rfl⟩
        obtain ⟨j, hj, rfl⟩ := inR_of hok (by omega)
        obtain ⟨q, hq, rfl⟩ := inR_of hok2 (by omega)
        refine ⟨rfl, ?_⟩
        refine mt_aload_n (pc := 18) dX10_lends_18 rfl ?_
        refine mt_get (pc := 19) gf_X10_58 dX10_lends_19 (by first | assumption | omega) (by repeat (first | exact hset_eq _ _ _ | assumption | rw [hset_ne (by first | assumption | decide | omega)])) rfl ?_
        refine mt_aload_n (pc := 22) dX10_lends_22 rfl ?_
        refine mt_get (pc := 23) gf_X10_65 dX10_lends_23 (by first | assumption | omega) (by repeat (first | exact hset_eq _ _ _ | assumption | rw [hset_ne (by first | assumption | decide | omega)])) rfl ?_
        refine mt_get (pc := 26) gf_X10_157 dX10_lends_26 (by first | assumption | omega) (by repeat (first | exact hset_eq _ _ _ | assumption | rw [hset_ne (by first | assumption | decide | omega)])) rfl ?_
        refine mt_iload_n (pc := 29) dX10_lends_29 rfl ?_
        refine mt_iload_n (pc := 30) dX10_lends_30 rfl ?_
        refine mt_iload_n (pc := 31) dX10_lends_31 rfl ?_
        refine mt_cV (pc := 32) (c_wouldLend (d := 3) (a := j) (p := q) (Nat.le_refl 3) (by omega) (by omega) (by omega) hC h33 (by omega) (by omega) p2 p3) cal_X4_wouldLend vir_X4_wouldLend ml_X10_285 dX10_lends_32 (by first | assumption | omega) (by repeat (first | exact hset_eq _ _ _ | assumption | rw [hset_ne (by first | assumption | decide | omega)])) (by first | assumption | (show _ ≤ d; omega)) ⟨(Nat.le_of_ble_eq_true rfl), (Nat.le_of_ble_eq_true rfl)⟩ rfl rfl (Nat.le_of_ble_eq_true rfl) ?_
        exact mt_zret rfl (by split <;> first | exact Or.inl rfl | exact Or.inr rfl) dX10_lends_35 (Nat.le_of_ble_eq_true rfl) (Nat.le_of_ble_eq_true rfl) (P_qv (ic := ic) (rs := rs) (ne := ne) (ia := ia) (by rw [if_pos ⟨hok, hok2⟩, if_pos hok3, nI_clamp (by omega), nI_clamp (by omega)]) hQ.fq)
end BANKR
