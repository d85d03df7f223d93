/-! CryptBank: questions that look ahead. -/
theorem RC.rw {f : Nat → Int32} (h : RC f) : RW f (nlo f) := by
  obtain ⟨⟨n, hw⟩, -⟩ := h
  rw [nlo_eq hw]
  exact hw
def adV (k : CS) (cs : List Nat) (g : Nat → Int32) (x : Int32) : Int32 := if x = 0 then owA k cs g (-1) (nlo g) else if x = 1 then g 1 else lwF g 5 1
def wouR (cs : List Nat) (a0 a1 a2 a3 a4 a5 a6 a7 : Int32) : Nat ⊕ Int32 := ifR a0 1 60 (ifR a1 0 999 (ifR a2 0 5 (ifR a3 0 1 (ifR a4 0 9 (ifR a5 0 99 (ifR a6 0 999 (ifR a7 0 5 (.inr (clamp (lawV cs (factF a0 a1 a2 a3 a4 a5 a6 a7))))))))))) 
theorem brkS_s {k : CS} {cs : List Nat} {a q i : Nat} {g : Nat → Int32} : brkS k cs a (q + 1) i g = if g (18 + a) < owA k cs g (nI a) (nlo g) then nI i else brkS k cs a q (i + 1) (nigF g (nlo g)) := rfl
theorem ifR_p {x lo hi : Int32} {r : Nat ⊕ Int32} (h : ¬ x < lo ∧ ¬ hi < x) : ifR x lo hi r = r := if_pos h
theorem ifR_n {x lo hi : Int32} {r : Nat ⊕ Int32} (h : ¬ (¬ x < lo ∧ ¬ hi < x)) : ifR x lo hi r = .inl 1 := if_neg h
section BANKT
variable {G : mm_G} {l : Launch} {d nx : Nat} {h : Nat → mm_E} {ic rs ne ia : Int32} {k : CS} {cs : List Nat} {bk : BS} {pg : PGS}
theorem c_ahead {nn x : Int32} (hl : l.stackTraces = false) (hd : 10 ≤ d) (hx : 188 ≤ nx) (hQ : QW h ic rs ne ia k cs bk pg) : mm_Con G l yX10_ahead cX10_ahead 4 (some .int) d 8 48 [.ref 0, .int nn, .int x] nx h (P_q (ifR nn 0 99 (ifR x 0 2 (.inr (adV k cs (nigN pg.2.1 nn.toNatClampNeg) x)))) ic rs ne ia nx h) := by
  obtain ⟨h0, hC, hA, hLW, hB, h33, hP, ⟨⟨n, hw⟩, hcn⟩, -⟩ := id hQ
  obtain rfl : n = nlo pg.2.1 := (nlo_eq hw).symm
  have c0 := hC.1
  have hk1 : k.1 ≤ 8 := hC.2.2.2.2.2.2.1
  have hk2 : k.2.1 ≤ 6 := hC.2.2.2.2.2.2.2
  obtain ⟨p1, p2, p3, -⟩ := id hP
  have hn := hw.2.1
  obtain ⟨df, hd180, hdcn⟩ := hQ.2.2.2.2.2.2.2.2.2.1
  have hd179 := hQ.2.2.2.2.2.2.2.2.1
  have hRC := hQ.2.2.2.2.2.2.2.1
  refine mm_start (lo := [some (.ref 0), some (.int nn), some (.int x), none]) pn_X10 rfl rfl (Nat.le_of_ble_eq_true rfl) ?_
  refine mt_aload_n (pc := 0) dX10_ahead_0 rfl ?_
  refine mt_iload_n (pc := 1) dX10_ahead_1 rfl ?_
  refine mt_iconst (pc := 2) (v := 0) dX10_ahead_2 (by decide) ?_
  refine mt_bipush (pc := 3) (v := 99) dX10_ahead_3 (by decide) ?_
  refine mt_aV (pc := 5) (c_needRange (d := 7) hl (Nat.le_refl 7) (by omega) h0) cal_X10_needRange vir_X10_needRange ml_X10_266 dX10_ahead_5 (by first | assumption | omega) (by repeat (first | exact hset_eq _ _ _ | assumption | rw [hset_ne (by first | assumption | decide | omega)])) (by first | assumption | (show _ ≤ d; omega)) ⟨(Nat.le_of_ble_eq_true rfl), (Nat.le_of_ble_eq_true rfl)⟩ rfl rfl (Nat.le_of_ble_eq_true rfl) ?_ ?_
  · rintro x9 n9 k9 h9
    obtain ⟨rfl, rfl, hno, rfl⟩ := h9
    exact P_qx (ifR_n hno)
  · rintro v9 n9 k9 ⟨rfl, rfl, hok, rfl⟩
    refine ⟨rfl, ?_⟩
    refine mt_aload_n (pc := 8) dX10_ahead_8 rfl ?_
    refine mt_iload_n (pc := 9) dX10_ahead_9 rfl ?_
    refine mt_iconst (pc := 10) (v := 0) dX10_ahead_10 (by decide) ?_
    refine mt_iconst (pc := 11) (v := 2) dX10_ahead_11 (by decide) ?_
    refine mt_aV (pc := 12) (c_needRange (d := 7) hl (Nat.le_refl 7) (by omega) h0) cal_X10_needRange vir_X10_needRange ml_X10_266 dX10_ahead_12 (by first | assumption | omega) (by repeat (first | exact hset_eq _ _ _ | assumption | rw [hset_ne (by first | assumption | decide | omega)])) (by first | assumption | (show _ ≤ d; omega)) ⟨(Nat.le_of_ble_eq_true rfl), (Nat.le_of_ble_eq_true rfl)⟩ rfl rfl (Nat.le_of_ble_eq_true rfl) ?_ ?_
    · rintro x9 n9 k9 h9
      obtain ⟨rfl, rfl, hno, rfl⟩ := h9
      exact P_qx ((ifR_p hok).trans (ifR_n hno))
    · rintro v9 n9 k9 ⟨rfl, rfl, hok2, rfl⟩
      obtain ⟨j, hj1, hj2, rfl⟩ := okR_nI (lo := 0) (hi := 99) hok (by decide) (by decide)
      have er : ifR (nI j) 0 99 (ifR x 0 2 (.inr (adV k cs (nigN pg.2.1 (nI j).toNatClampNeg) x))) = .inr (adV k cs (nigN pg.2.1 j) x) := ((ifR_p hok).trans (ifR_p hok2)).trans (by rw [nI_clamp (by omega)])
      refine ⟨rfl, ?_⟩
      refine mt_aload_n (pc := 15) dX10_ahead_15 rfl ?_
      refine mt_get (pc := 16) gf_X10_76 dX10_ahead_16 (by first | assumption | omega) (by repeat (first | exact hset_eq _ _ _ | assumption | rw [hset_ne (by first | assumption | decide | omega)])) rfl ?_
      refine mt_aload_n (pc := 19) dX10_ahead_19 rfl ?_
      refine mt_get (pc := 20) gf_X10_65 dX10_ahead_20 (by first | assumption | omega) (by repeat (first | exact hset_eq _ _ _ | assumption | rw [hset_ne (by first | assumption | decide | omega)])) rfl ?_
      refine mt_get (pc := 23) gf_X10_157 dX10_ahead_23 (by first | assumption | omega) (by repeat (first | exact hset_eq _ _ _ | assumption | rw [hset_ne (by first | assumption | decide | omega)])) rfl ?_
      refine mt_cV (pc := 26) (c_scopyFrom (d := 2) (s := 179) (r := 180) (s2 := 35) (r2 := 36) (Nat.le_refl 2) (by omega) (by omega) hd179 hd180 (by omega) (by omega) p2 p3) cal_X6_copyFrom vir_X6_copyFrom ml_X10_289 dX10_ahead_26 (by first | assumption | omega) (by repeat (first | exact hset_eq _ _ _ | assumption | rw [hset_ne (by first | assumption | decide | omega)])) (by first | assumption | (show _ ≤ d; omega)) ⟨(Nat.le_of_ble_eq_true rfl), (Nat.le_of_ble_eq_true rfl)⟩ rfl rfl (Nat.le_of_ble_eq_true rfl) ?_
      rw [cpy_cn hdcn hcn]
      refine mt_iconst (pc := 29) (v := 0) dX10_ahead_29 (by decide) ?_
      refine mt_istore_n (pc := 30) dX10_ahead_30 (Nat.le_of_ble_eq_true rfl) rfl ?_
      refine mt_for (pc := 31) (H := fun i => hset h 180 (rwE (nigN pg.2.1 i))) (L := fun i => [some (.ref 0), some (.int (nI j)), some (.int x), some (.int (nI i))]) j (fun i hi ni => ?_) ?_
      · skip
        have hRi := RC_nigN hRC i
        refine mt_iload_n (pc := 31) dX10_ahead_31 rfl ?_
        refine mt_iload_n (pc := 32) dX10_ahead_32 rfl ?_
        refine mt_icmp_ge (pc := 33) (tgt := 53) dX10_ahead_33 (by decide) (fun c33 => ?_) (fun c33 => ?_)
        · exact absurd c33 (nI_ge hi (by omega))
        · skip
          refine mt_aload_n (pc := 36) dX10_ahead_36 rfl ?_
          refine mt_get (pc := 37) gf_X10_58 dX10_ahead_37 (by first | assumption | omega) ((hset_ne (by decide)).trans h0) rfl ?_
          refine mt_aload_n (pc := 40) dX10_ahead_40 rfl ?_
          refine mt_get (pc := 41) gf_X10_76 dX10_ahead_41 (by first | assumption | omega) ((hset_ne (by decide)).trans h0) rfl ?_
          refine mt_cV (pc := 44) (c_passNight (d := 3) (s := 179) (r := 180) (Nat.le_refl 3) (by omega) hRi.rw (by decide) (by omega) (by omega) ((hset_ne (by decide)).trans hd179) (hset_eq _ _ _)) cal_X4_passNight vir_X4_passNight ml_X10_292 dX10_ahead_44 (by first | assumption | omega) ((hset_ne (by decide)).trans h33) (by first | assumption | (show _ ≤ d; omega)) ⟨(Nat.le_of_ble_eq_true rfl), (Nat.le_of_ble_eq_true rfl)⟩ rfl rfl (Nat.le_of_ble_eq_true rfl) ?_
          rw [hset_hset]
          refine mt_iinc (pc := 47) (c9 := 1) dX10_ahead_47 rfl (by decide) (Nat.le_of_ble_eq_true rfl) rfl ?_
          refine mt_goto (pc := 50) (tgt := 31) dX10_ahead_50 (by decide) ?_
          rw [show (nI i + 1 : Int32) = nI (i + 1) from nI_1 i]
          first
            | exact ni
            | exact mt_fg (by repeat (first | exact trivial | refine ⟨rfl, ?_⟩ | rfl)) ni
      · skip
        have hRi := RC_nigN hRC j
        have hFd := hQ.dream hRi.2
        have hQd := hQ.of hFd
        obtain ⟨-, mC, mA, -, -, m33, -, -, m179, -⟩ := id hQd
        have m180 : hset h 180 (rwE (nigN pg.2.1 j)) 180 = rwE (nigN pg.2.1 j) := hset_eq _ _ _
        generalize hset h 180 (rwE (nigN pg.2.1 j)) = m at hFd hQd mC mA m33 m179 m180
        refine mt_iload_n (pc := 31) dX10_ahead_31 rfl ?_
        refine mt_iload_n (pc := 32) dX10_ahead_32 rfl ?_
        refine mt_icmp_ge (pc := 33) (tgt := 53) dX10_ahead_33 (by decide) (fun c33 => ?_) (fun c33 => ?_)
        · skip
          refine mt_iload_n (pc := 53) dX10_ahead_53 rfl ?_
          refine mt_if_ne (pc := 54) (tgt := 70) dX10_ahead_54 (by decide) (fun c54 => ?_) (fun c54 => ?_)
          · skip
            replace er := er.trans (congrArg Sum.inr (if_neg c54))
            refine mt_iload_n (pc := 70) dX10_ahead_70 rfl ?_
            refine mt_iconst (pc := 71) (v := 1) dX10_ahead_71 (by decide) ?_
            refine mt_icmp_ne (pc := 72) (tgt := 85) dX10_ahead_72 (by decide) (fun c72 => ?_) (fun c72 => ?_)
            · skip
              replace er := er.trans (congrArg Sum.inr (if_neg c72))
              refine mt_aload_n (pc := 85) dX10_ahead_85 rfl ?_
              refine mt_get (pc := 86) gf_X10_76 dX10_ahead_86 (by first | assumption | omega) hQd.1 rfl ?_
              refine mt_cV (pc := 89) (c_overdue (d := 3) (Nat.le_refl 3) hRi.rw.2.1 hRi.rw.1 (by omega) (by omega) m179 m180) cal_X6_overdue vir_X6_overdue ml_X10_209 dX10_ahead_89 (by first | assumption | omega) m179 (by first | assumption | (show _ ≤ d; omega)) ⟨(Nat.le_of_ble_eq_true rfl), (Nat.le_of_ble_eq_true rfl)⟩ rfl rfl (Nat.le_of_ble_eq_true rfl) ?_
              exact mt_iret rfl dX10_ahead_92 (Nat.le_of_ble_eq_true rfl) (Nat.le_of_ble_eq_true rfl) (P_qv (ic := ic) (rs := rs) (ne := ne) (ia := ia) er hFd)
            · skip
              replace er := er.trans (congrArg Sum.inr (if_pos c72))
              refine mt_aload_n (pc := 75) dX10_ahead_75 rfl ?_
              refine mt_get (pc := 76) gf_X10_76 dX10_ahead_76 (by first | assumption | omega) hQd.1 rfl ?_
              refine mt_cV (pc := 79) (c_sealedSlabs (d := 1) (by omega) (by omega) m179 m180) cal_X6_sealedSlabs vir_X6_sealedSlabs ml_X10_198 dX10_ahead_79 (by first | assumption | omega) m179 (by first | assumption | (show _ ≤ d; omega)) ⟨(Nat.le_of_ble_eq_true rfl), (Nat.le_of_ble_eq_true rfl)⟩ rfl rfl (Nat.le_of_ble_eq_true rfl) ?_
              refine mt_goto (pc := 82) (tgt := 92) dX10_ahead_82 (by decide) ?_
              exact mt_iret rfl dX10_ahead_92 (Nat.le_of_ble_eq_true rfl) (Nat.le_of_ble_eq_true rfl) (P_qv (ic := ic) (rs := rs) (ne := ne) (ia := ia) er hFd)
          · skip
            replace er := er.trans (congrArg Sum.inr (if_pos c54))
            refine mt_aload_n (pc := 57) dX10_ahead_57 rfl ?_
            refine mt_get (pc := 58) gf_X10_58 dX10_ahead_58 (by first | assumption | omega) hQd.1 rfl ?_
            refine mt_aload_n (pc := 61) dX10_ahead_61 rfl ?_
            refine mt_get (pc := 62) gf_X10_76 dX10_ahead_62 (by first | assumption | omega) hQd.1 rfl ?_
            refine mt_iconst (pc := 65) (v := (-1)) dX10_ahead_65 (by decide) ?_
            refine mt_aV (pc := 66) (c_owesInAll (d := 4) (s := 179) (r := 180) (who := -1) (Nat.le_refl 4) (by omega) hRi.rw mA hLW mC m33 (by decide) (by decide) (by omega) (by omega) m179 m180) cal_X4_owesInAll vir_X4_owesInAll ml_X10_205 dX10_ahead_66 (by first | assumption | omega) m33 (by first | assumption | (show _ ≤ d; omega)) ⟨(Nat.le_of_ble_eq_true rfl), (Nat.le_of_ble_eq_true rfl)⟩ rfl rfl (Nat.le_of_ble_eq_true rfl) ?_ ?_
            · rintro x9 n9 k9 h9
              simp [P_ow] at h9
            · rintro v9 n9 k9 ⟨hv, rfl, hF9⟩
              cases hv
              refine ⟨rfl, ?_⟩
              exact mt_iret rfl dX10_ahead_69 (Nat.le_of_ble_eq_true rfl) (Nat.le_of_ble_eq_true rfl) (P_qv (ic := ic) (rs := rs) (ne := ne) (ia := ia) er (FQ.trans hFd (hQd.frl hF9)))
        · exact absurd (nI_le (Nat.le_refl _) (by omega)) c33
theorem c_broke {a : Int32} (hl : l.stackTraces = false) (hd : 10 ≤ d) (hx : 188 ≤ nx) (hQ : QW h ic rs ne ia k cs bk pg) : mm_Con G l yX10_broke cX10_broke 3 (some .int) d 8 48 [.ref 0, .int a] nx h (P_q (if inR a k.2.1 then .inr (brkS k cs a.toNatClampNeg 100 0 pg.2.1) else .inl 0) ic rs ne ia nx h) := by
  obtain ⟨h0, hC, hA, hLW, hB, h33, hP, ⟨⟨n, hw⟩, hcn⟩, -⟩ := id hQ
  obtain rfl : n = nlo pg.2.1 := (nlo_eq hw).symm
  have c0 := hC.1
  have hk1 : k.1 ≤ 8 := hC.2.2.2.2.2.2.1
  have hk2 : k.2.1 ≤ 6 := hC.2.2.2.2.2.2.2
  obtain ⟨p1, p2, p3, -⟩ := id hP
  have hn := hw.2.1
  obtain ⟨df, hd180, hdcn⟩ := hQ.2.2.2.2.2.2.2.2.2.1
  have hd179 := hQ.2.2.2.2.2.2.2.2.1
  have hRC := hQ.2.2.2.2.2.2.2.1
  refine mm_start (lo := [some (.ref 0), some (.int a), none]) pn_X10 rfl rfl (Nat.le_of_ble_eq_true rfl) ?_
  refine mt_aload_n (pc := 0) dX10_broke_0 rfl ?_
  refine mt_iload_n (pc := 1) dX10_broke_1 rfl ?_
  refine mt_aV (pc := 2) (c_needSoul (d := 7) hl (Nat.le_refl 7) (by omega) h0 hC) cal_X10_needSoul vir_X10_needSoul ml_X10_245 dX10_broke_2 (by first | assumption | omega) (by repeat (first | exact hset_eq _ _ _ | assumption | rw [hset_ne (by first | assumption | decide | omega)])) (by first | assumption | (show _ ≤ d; omega)) ⟨(Nat.le_of_ble_eq_true rfl), (Nat.le_of_ble_eq_true rfl)⟩ rfl rfl (Nat.le_of_ble_eq_true rfl) ?_ ?_
  · rintro x9 n9 k9 h9
    obtain ⟨rfl, rfl, hno, rfl⟩ := h9
    exact P_qx (if_neg hno)
  · rintro v9 n9 k9 ⟨rfl, rfl, hok, rfl⟩
    obtain ⟨j, hj, rfl⟩ := inR_of hok (by omega)
    have er : (if inR (nI j) k.2.1 then .inr (brkS k cs (nI j).toNatClampNeg 100 0 pg.2.1) else .inl 0 : Nat ⊕ Int32) = .inr (brkS k cs j 100 0 pg.2.1) := (if_pos hok).trans (by rw [nI_clamp (by omega)])
    refine ⟨rfl, ?_⟩
    refine mt_aload_n (pc := 5) dX10_broke_5 rfl ?_
    refine mt_get (pc := 6) gf_X10_76 dX10_broke_6 (by first | assumption | omega) (by repeat (first | exact hset_eq _ _ _ | assumption | rw [hset_ne (by first | assumption | decide | omega)])) rfl ?_
    refine mt_aload_n (pc := 9) dX10_broke_9 rfl ?_
    refine mt_get (pc := 10) gf_X10_65 dX10_broke_10 (by first | assumption | omega) (by repeat (first | exact hset_eq _ _ _ | assumption | rw [hset_ne (by first | assumption | decide | omega)])) rfl ?_
    refine mt_get (pc := 13) gf_X10_157 dX10_broke_13 (by first | assumption | omega) (by repeat (first | exact hset_eq _ _ _ | assumption | rw [hset_ne (by first | assumption | decide | omega)])) rfl ?_
    refine mt_cV (pc := 16) (c_scopyFrom (d := 2) (s := 179) (r := 180) (s2 := 35) (r2 := 36) (Nat.le_refl 2) (by omega) (by omega) hd179 hd180 (by omega) (by omega) p2 p3) cal_X6_copyFrom vir_X6_copyFrom ml_X10_289 dX10_broke_16 (by first | assumption | omega) (by repeat (first | exact hset_eq _ _ _ | assumption | rw [hset_ne (by first | assumption | decide | omega)])) (by first | assumption | (show _ ≤ d; omega)) ⟨(Nat.le_of_ble_eq_true rfl), (Nat.le_of_ble_eq_true rfl)⟩ rfl rfl (Nat.le_of_ble_eq_true rfl) ?_
    rw [cpy_cn hdcn hcn]
    refine mt_iconst (pc := 19) (v := 0) dX10_broke_19 (by decide) ?_
    refine mt_istore_n (pc := 20) dX10_broke_20 (Nat.le_of_ble_eq_true rfl) rfl ?_
    refine mt_forE (pc := 21) (α := Nat → mm_E) (H := fun i (m : Nat → mm_E) => m) (L := fun i (m : Nat → mm_E) => [some (.ref 0), some (.int (nI j)), some (.int (nI i))]) (I := fun i (m : Nat → mm_E) => FQ h m ∧ m 180 = rwE (nigN pg.2.1 i) ∧ brkS k cs j 100 0 pg.2.1 = brkS k cs j (100 - i) i (nigN pg.2.1 i)) 100 (fun i m hi fi ni => ?_) (fun m fi => ?_) _ (⟨hQ.dream hcn, hset_eq _ _ _, rfl⟩)
    · skip
      obtain ⟨g1, g2, g3⟩ := fi
      have hRi := RC_nigN hRC i
      have hQm := hQ.of g1
      obtain ⟨m0, mC, mA, -, -, m33, -, -, m179, -⟩ := id hQm
      rw [show 100 - i = 100 - (i + 1) + 1 by omega, brkS_s (q := 100 - (i + 1))] at g3
      refine mt_iload_n (pc := 21) dX10_broke_21 rfl ?_
      refine mt_bipush (pc := 22) (v := 99) dX10_broke_22 (by decide) ?_
      refine mt_icmp_gt (pc := 24) (tgt := 69) dX10_broke_24 (by decide) (fun c24 => ?_) (fun c24 => ?_)
      · exact absurd c24 (nI_nlt (a := 99) (b := i) (by omega) (by decide))
      · skip
        refine mt_aload_n (pc := 27) dX10_broke_27 rfl ?_
        refine mt_get (pc := 28) gf_X10_58 dX10_broke_28 (by first | assumption | omega) m0 rfl ?_
        refine mt_aload_n (pc := 31) dX10_broke_31 rfl ?_
        refine mt_get (pc := 32) gf_X10_76 dX10_broke_32 (by first | assumption | omega) m0 rfl ?_
        refine mt_iload_n (pc := 35) dX10_broke_35 rfl ?_
        refine mt_aV (pc := 36) (c_owesInAll (d := 4) (s := 179) (r := 180) (who := nI j) (Nat.le_refl 4) (by omega) hRi.rw mA hLW mC m33 (by decide) (by decide) (by omega) (by omega) m179 g2) cal_X4_owesInAll vir_X4_owesInAll ml_X10_205 dX10_broke_36 (by first | assumption | omega) m33 (by first | assumption | (show _ ≤ d; omega)) ⟨(Nat.le_of_ble_eq_true rfl), (Nat.le_of_ble_eq_true rfl)⟩ rfl rfl (Nat.le_of_ble_eq_true rfl) ?_ ?_
        · rintro x9 n9 k9 h9
          simp [P_ow] at h9
        · rintro v9 n9 k9 ⟨hv, rfl, hF9⟩
          cases hv
          refine ⟨rfl, ?_⟩
          have hFk := FQ.trans g1 (hQm.frl hF9)
          have hQk := hQ.of hFk
          have k0 := hQk.1
          have k33 := hQk.2.2.2.2.2.1
          have k179 := hQk.2.2.2.2.2.2.2.2.1
          have k180 := (hF9.1 180 (by decide) (by decide)).trans g2
          refine mt_aload_n (pc := 39) dX10_broke_39 rfl ?_
          refine mt_get (pc := 40) gf_X10_76 dX10_broke_40 (by first | assumption | omega) k0 rfl ?_
          refine mt_iload_n (pc := 43) dX10_broke_43 rfl ?_
          refine mt_cV (pc := 44) (c_purse (d := 1) (p := j) (Nat.le_refl 1) (by omega) (by omega) (by omega) k179 k180) cal_X6_purse vir_X6_purse ml_X10_254 dX10_broke_44 (by first | assumption | omega) k179 (by first | assumption | (show _ ≤ d; omega)) ⟨(Nat.le_of_ble_eq_true rfl), (Nat.le_of_ble_eq_true rfl)⟩ rfl rfl (Nat.le_of_ble_eq_true rfl) ?_
          refine mt_icmp_le (pc := 47) (tgt := 52) dX10_broke_47 (by decide) (fun c47 => ?_) (fun c47 => ?_)
          · skip
            rw [if_neg (Int32.not_lt.mpr c47)] at g3
            refine mt_aload_n (pc := 52) dX10_broke_52 rfl ?_
            refine mt_get (pc := 53) gf_X10_58 dX10_broke_53 (by first | assumption | omega) k0 rfl ?_
            refine mt_aload_n (pc := 56) dX10_broke_56 rfl ?_
            refine mt_get (pc := 57) gf_X10_76 dX10_broke_57 (by first | assumption | omega) k0 rfl ?_
            refine mt_cV (pc := 60) (c_passNight (d := 3) (s := 179) (r := 180) (Nat.le_refl 3) (by omega) hRi.rw (by decide) (by omega) (by omega) k179 k180) cal_X4_passNight vir_X4_passNight ml_X10_292 dX10_broke_60 (by first | assumption | omega) k33 (by first | assumption | (show _ ≤ d; omega)) ⟨(Nat.le_of_ble_eq_true rfl), (Nat.le_of_ble_eq_true rfl)⟩ rfl rfl (Nat.le_of_ble_eq_true rfl) ?_
            refine mt_iinc (pc := 63) (c9 := 1) dX10_broke_63 rfl (by decide) (Nat.le_of_ble_eq_true rfl) rfl ?_
            refine mt_goto (pc := 66) (tgt := 21) dX10_broke_66 (by decide) ?_
            rw [show (nI i + 1 : Int32) = nI (i + 1) from nI_1 i]
            exact ni _ ⟨FQ.trans hFk (hQk.dream (RC_nig hRi).2), hset_eq _ _ _, g3⟩
          · skip
            rw [if_pos (Int32.not_le.mp c47)] at g3
            refine mt_iload_n (pc := 50) dX10_broke_50 rfl ?_
            exact mt_iret rfl dX10_broke_51 (Nat.le_of_ble_eq_true rfl) (Nat.le_of_ble_eq_true rfl) (P_qv (ic := ic) (rs := rs) (ne := ne) (ia := ia) (er.trans (by rw [g3])) hFk)
    · skip
      obtain ⟨g1, g2, g3⟩ := fi
      refine mt_iload_n (pc := 21) dX10_broke_21 rfl ?_
      refine mt_bipush (pc := 22) (v := 99) dX10_broke_22 (by decide) ?_
      refine mt_icmp_gt (pc := 24) (tgt := 69) dX10_broke_24 (by decide) (fun c24 => ?_) (fun c24 => ?_)
      · skip
        refine mt_iconst (pc := 69) (v := (-1)) dX10_broke_69 (by decide) ?_
        exact mt_iret rfl dX10_broke_70 (Nat.le_of_ble_eq_true rfl) (Nat.le_of_ble_eq_true rfl) (P_qv (ic := ic) (rs := rs) (ne := ne) (ia := ia) (er.trans (by rw [g3]; rfl)) g1)
      · exact absurd (nI_lt (a := 99) (b := 100) (by decide) (by decide)) c24
theorem c_cheapest {a kd am tt : Int32} (hl : l.stackTraces = false) (hd : 10 ≤ d) (hx : 188 ≤ nx) (hQ : QW h ic rs ne ia k cs bk pg) : mm_Con G l yX10_cheapest cX10_cheapest 9 (some .int) d 8 48 [.ref 0, .int a, .int kd, .int am, .int tt] nx h (P_q (if inR a k.2.1 then ifR kd 0 5 (ifR am 1 60 (ifR tt 1 40 (.inr (cheF k cs pg.2.1 a.toNatClampNeg kd am tt k.1).1))) else .inl 0) ic rs ne ia nx h) := by
  obtain ⟨h0, hC, hA, hLW, hB, h33, hP, ⟨⟨n, hw⟩, hcn⟩, -⟩ := id hQ
  obtain rfl : n = nlo pg.2.1 := (nlo_eq hw).symm
  have c0 := hC.1
  have hk1 : k.1 ≤ 8 := hC.2.2.2.2.2.2.1
  have hk2 : k.2.1 ≤ 6 := hC.2.2.2.2.2.2.2
  obtain ⟨p1, p2, p3, -⟩ := id hP
  have hn := hw.2.1
  refine mm_start (lo := [some (.ref 0), some (.int a), some (.int kd), some (.int am), some (.int tt), none, none, none, none]) pn_X10 rfl rfl (Nat.le_of_ble_eq_true rfl) ?_
  refine mt_aload_n (pc := 0) dX10_cheapest_0 rfl ?_
  refine mt_iload_n (pc := 1) dX10_cheapest_1 rfl ?_
  refine mt_aV (pc := 2) (c_needSoul (d := 7) hl (Nat.le_refl 7) (by omega) h0 hC) cal_X10_needSoul vir_X10_needSoul ml_X10_245 dX10_cheapest_2 (by first | assumption | omega) (by repeat (first | exact hset_eq _ _ _ | assumption | rw [hset_ne (by first | assumption | decide | omega)])) (by first | assumption | (show _ ≤ d; omega)) ⟨(Nat.le_of_ble_eq_true rfl), (Nat.le_of_ble_eq_true rfl)⟩ rfl rfl (Nat.le_of_ble_eq_true rfl) ?_ ?_
  · rintro x9 n9 k9 h9
    obtain ⟨rfl, rfl, hno, rfl⟩ := h9
    exact P_qx (if_neg hno)
  · rintro v9 n9 k9 ⟨rfl, rfl, hok, rfl⟩
    refine ⟨rfl, ?_⟩
    refine mt_aload_n (pc := 5) dX10_cheapest_5 rfl ?_
    refine mt_iload_n (pc := 6) dX10_cheapest_6 rfl ?_
    refine mt_iconst (pc := 7) (v := 0) dX10_cheapest_7 (by decide) ?_
    refine mt_iconst (pc := 8) (v := 5) dX10_cheapest_8 (by decide) ?_
    refine mt_aV (pc := 9) (c_needRange (d := 7) hl (Nat.le_refl 7) (by omega) h0) cal_X10_needRange vir_X10_needRange ml_X10_266 dX10_cheapest_9 (by first | assumption | omega) (by repeat (first | exact hset_eq _ _ _ | assumption | rw [hset_ne (by first | assumption | decide | omega)])) (by first | assumption | (show _ ≤ d; omega)) ⟨(Nat.le_of_ble_eq_true rfl), (Nat.le_of_ble_eq_true rfl)⟩ rfl rfl (Nat.le_of_ble_eq_true rfl) ?_ ?_
    · rintro x9 n9 k9 h9
      obtain ⟨rfl, rfl, hno, rfl⟩ := h9
      exact P_qx ((if_pos hok).trans (ifR_n hno))
    · rintro v9 n9 k9 ⟨rfl, rfl, hok2, rfl⟩
      refine ⟨rfl, ?_⟩
      refine mt_aload_n (pc := 12) dX10_cheapest_12 rfl ?_
      refine mt_iload_n (pc := 13) dX10_cheapest_13 rfl ?_
      refine mt_iconst (pc := 14) (v := 1) dX10_cheapest_14 (by decide) ?_
      refine mt_bipush (pc := 15) (v := 60) dX10_cheapest_15 (by decide) ?_
      refine mt_aV (pc := 17) (c_needRange (d := 7) hl (Nat.le_refl 7) (by omega) h0) cal_X10_needRange vir_X10_needRange ml_X10_266 dX10_cheapest_17 (by first | assumption | omega) (by repeat (first | exact hset_eq _ _ _ | assumption | rw [hset_ne (by first | assumption | decide | omega)])) (by first | assumption | (show _ ≤ d; omega)) ⟨(Nat.le_of_ble_eq_true rfl), (Nat.le_of_ble_eq_true rfl)⟩ rfl rfl (Nat.le_of_ble_eq_true rfl) ?_ ?_
      · rintro x9 n9 k9 h9
        obtain ⟨rfl, rfl, hno, rfl⟩ := h9
        exact P_qx ((if_pos hok).trans ((ifR_p hok2).trans (ifR_n hno)))
      · rintro v9 n9 k9 ⟨rfl, rfl, hok3, rfl⟩
        refine ⟨rfl, ?_⟩
        refine mt_aload_n (pc := 20) dX10_cheapest_20 rfl ?_
        refine mt_iload (pc := 21) dX10_cheapest_21 rfl ?_
        refine mt_iconst (pc := 23) (v := 1) dX10_cheapest_23 (by decide) ?_
        refine mt_bipush (pc := 24) (v := 40) dX10_cheapest_24 (by decide) ?_
        refine mt_aV (pc := 26) (c_needRange (d := 7) hl (Nat.le_refl 7) (by omega) h0) cal_X10_needRange vir_X10_needRange ml_X10_266 dX10_cheapest_26 (by first | assumption | omega) (by repeat (first | exact hset_eq _ _ _ | assumption | rw [hset_ne (by first | assumption | decide | omega)])) (by first | assumption | (show _ ≤ d; omega)) ⟨(Nat.le_of_ble_eq_true rfl), (Nat.le_of_ble_eq_true rfl)⟩ rfl rfl (Nat.le_of_ble_eq_true rfl) ?_ ?_
        · rintro x9 n9 k9 h9
          obtain ⟨rfl, rfl, hno, rfl⟩ := h9
          exact P_qx ((if_pos hok).trans ((ifR_p hok2).trans ((ifR_p hok3).trans (ifR_n hno))))
        · rintro v9 n9 k9 ⟨rfl, rfl, hok4, rfl⟩
          obtain ⟨j, hj, rfl⟩ := inR_of hok (by omega)
          have er : (if inR (nI j) k.2.1 then ifR kd 0 5 (ifR am 1 60 (ifR tt 1 40 (.inr (cheF k cs pg.2.1 (nI j).toNatClampNeg kd am tt k.1).1))) else .inl 0) = .inr (cheF k cs pg.2.1 j kd am tt k.1).1 := ((if_pos hok).trans ((ifR_p hok2).trans ((ifR_p hok3).trans (ifR_p hok4)))).trans (by rw [nI_clamp (by omega)])
          refine ⟨rfl, ?_⟩
          refine mt_iconst (pc := 29) (v := (-1)) dX10_cheapest_29 (by decide) ?_
          refine mt_istore (pc := 30) dX10_cheapest_30 (Nat.le_of_ble_eq_true rfl) rfl ?_
          refine mt_iconst (pc := 32) (v := 0) dX10_cheapest_32 (by decide) ?_
          refine mt_istore (pc := 33) dX10_cheapest_33 (Nat.le_of_ble_eq_true rfl) rfl ?_
          refine mt_iconst (pc := 35) (v := 0) dX10_cheapest_35 (by decide) ?_
          refine mt_istore (pc := 36) dX10_cheapest_36 (Nat.le_of_ble_eq_true rfl) rfl ?_
          refine mt_forget 8 ?_
          refine mt_forE (pc := 38) (α := Nat → mm_E) (H := fun i (m : Nat → mm_E) => m) (L := fun i (m : Nat → mm_E) => [some (.ref 0), some (.int (nI j)), some (.int kd), some (.int am), some (.int tt), some (.int ((cheF k cs pg.2.1 j kd am tt i).1)), some (.int ((cheF k cs pg.2.1 j kd am tt i).2)), some (.int (nI i)), none]) (I := fun i (m : Nat → mm_E) => FQ h m) (k.1) (fun i m hi fi ni => ?_) (fun m fi => ?_) h (hQ.fq)
          · skip
            have e1 : cheF k cs pg.2.1 j kd am tt (i + 1) = if k.2.2.1 i = kd ∧ clC k pg.2.1 j i am then (if (cheF k cs pg.2.1 j kd am tt i).1 = -1 ∨ cheV k cs pg.2.1 j i am tt < (cheF k cs pg.2.1 j kd am tt i).2 then (nI i, cheV k cs pg.2.1 j i am tt) else cheF k cs pg.2.1 j kd am tt i) else cheF k cs pg.2.1 j kd am tt i := rfl
            obtain ⟨m0, mC, mA, -, -, m33, mP, -⟩ := hQ.of fi
            obtain ⟨q1, q2, q3, -⟩ := id mP
            have m3 := mC.1
            refine mt_iload (pc := 38) dX10_cheapest_38 rfl ?_
            refine mt_aload_n (pc := 40) dX10_cheapest_40 rfl ?_
            refine mt_get (pc := 41) gf_X10_19 dX10_cheapest_41 (by first | assumption | omega) m0 rfl ?_
            refine mt_get (pc := 44) gf_X10_141 dX10_cheapest_44 (by first | assumption | omega) m3 rfl ?_
            refine mt_icmp_ge (pc := 47) (tgt := 133) dX10_cheapest_47 (by decide) (fun c47 => ?_) (fun c47 => ?_)
            · exact absurd c47 (nI_ge hi (by omega))
            · skip
              refine mt_aload_n (pc := 50) dX10_cheapest_50 rfl ?_
              refine mt_get (pc := 51) gf_X10_19 dX10_cheapest_51 (by first | assumption | omega) m0 rfl ?_
              refine mt_iload (pc := 54) dX10_cheapest_54 rfl ?_
              refine mt_cV (pc := 56) (c_kindOf (d := 1) (p := i) (Nat.le_refl 1) (by omega) (by omega) mC) cal_X1_kindOf vir_X1_kindOf ml_X10_225 dX10_cheapest_56 (by first | assumption | omega) m3 (by first | assumption | (show _ ≤ d; omega)) ⟨(Nat.le_of_ble_eq_true rfl), (Nat.le_of_ble_eq_true rfl)⟩ rfl rfl (Nat.le_of_ble_eq_true rfl) ?_
              refine mt_iload_n (pc := 59) dX10_cheapest_59 rfl ?_
              refine mt_icmp_ne (pc := 60) (tgt := 127) dX10_cheapest_60 (by decide) (fun c60 => ?_) (fun c60 => ?_)
              · skip
                rw [if_neg (fun z => c60 z.1)] at e1
                refine mt_iinc (pc := 127) (c9 := 1) dX10_cheapest_127 rfl (by decide) (Nat.le_of_ble_eq_true rfl) rfl ?_
                refine mt_goto (pc := 130) (tgt := 38) dX10_cheapest_130 (by decide) ?_
                rw [show (nI i + 1 : Int32) = nI (i + 1) from nI_1 i]
                rw [e1] at ni
                first
                  | exact ni m fi
                  | exact mt_forget 8 (ni k9 hFk)
              · skip
                refine mt_aload_n (pc := 63) dX10_cheapest_63 rfl ?_
                refine mt_get (pc := 64) gf_X10_58 dX10_cheapest_64 (by first | assumption | omega) m0 rfl ?_
                refine mt_aload_n (pc := 67) dX10_cheapest_67 rfl ?_
                refine mt_get (pc := 68) gf_X10_65 dX10_cheapest_68 (by first | assumption | omega) m0 rfl ?_
                refine mt_get (pc := 71) gf_X10_157 dX10_cheapest_71 (by first | assumption | omega) q1 rfl ?_
                refine mt_iload_n (pc := 74) dX10_cheapest_74 rfl ?_
                refine mt_iload (pc := 75) dX10_cheapest_75 rfl ?_
                refine mt_iload_n (pc := 77) dX10_cheapest_77 rfl ?_
                refine mt_cV (pc := 78) (c_wouldLend (d := 3) (a := j) (p := i) (Nat.le_refl 3) (by omega) (by omega) (by omega) mC m33 (by omega) (by omega) q2 q3) cal_X4_wouldLend vir_X4_wouldLend ml_X10_285 dX10_cheapest_78 (by first | assumption | omega) m33 (by first | assumption | (show _ ≤ d; omega)) ⟨(Nat.le_of_ble_eq_true rfl), (Nat.le_of_ble_eq_true rfl)⟩ rfl rfl (Nat.le_of_ble_eq_true rfl) ?_
                refine mt_if_eq (pc := 81) (tgt := 127) dX10_cheapest_81 (by decide) (fun c81 => ?_) (fun c81 => ?_)
                · skip
                  rw [if_neg (fun z => by rw [if_pos z.2] at c81; exact absurd c81 (by decide))] at e1
                  refine mt_iinc (pc := 127) (c9 := 1) dX10_cheapest_127 rfl (by decide) (Nat.le_of_ble_eq_true rfl) rfl ?_
                  refine mt_goto (pc := 130) (tgt := 38) dX10_cheapest_130 (by decide) ?_
                  rw [show (nI i + 1 : Int32) = nI (i + 1) from nI_1 i]
                  rw [e1] at ni
                  first
                    | exact ni m fi
                    | exact mt_forget 8 (ni k9 hFk)
                · skip
                  rw [if_pos ⟨c60, Classical.not_not.mp fun z => c81 (if_neg z)⟩] at e1
                  refine mt_aload_n (pc := 84) dX10_cheapest_84 rfl ?_
                  refine mt_get (pc := 85) gf_X10_58 dX10_cheapest_85 (by first | assumption | omega) m0 rfl ?_
                  refine mt_aload_n (pc := 88) dX10_cheapest_88 rfl ?_
                  refine mt_get (pc := 89) gf_X10_65 dX10_cheapest_89 (by first | assumption | omega) m0 rfl ?_
                  refine mt_get (pc := 92) gf_X10_157 dX10_cheapest_92 (by first | assumption | omega) q1 rfl ?_
                  refine mt_iload_n (pc := 95) dX10_cheapest_95 rfl ?_
                  refine mt_iload (pc := 96) dX10_cheapest_96 rfl ?_
                  refine mt_iload_n (pc := 98) dX10_cheapest_98 rfl ?_
                  refine mt_iload (pc := 99) dX10_cheapest_99 rfl ?_
                  refine mt_aV (pc := 101) (c_wouldOwe (d := 3) (a := j) (p := i) (n := am) (t := tt) (Nat.le_refl 3) (by omega) (by omega) (by omega) mA hLW mC m33 (by decide) (by decide) (by omega) (by omega) q2 q3) cal_X4_wouldOwe vir_X4_wouldOwe ml_X10_295 dX10_cheapest_101 (by first | assumption | omega) m33 (by first | assumption | (show _ ≤ d; omega)) ⟨(Nat.le_of_ble_eq_true rfl), (Nat.le_of_ble_eq_true rfl)⟩ rfl rfl (Nat.le_of_ble_eq_true rfl) ?_ ?_
                  · rintro x9 n9 k9 h9
                    simp [P_ow] at h9
                  · rintro v9 n9 k9 ⟨hv, rfl, hF9⟩
                    cases hv
                    have hFk := FQ.trans fi ((hQ.of fi).frl hF9)
                    refine ⟨rfl, ?_⟩
                    rw [show clamp (lawV cs (factF am tt (k.2.2.1 i) (kinN k j i) (pg.2.1 (12 + j)) (pg.2.1 (4 + i) - am) (pg.2.1 0 + tt) (nI j))) = cheV k cs pg.2.1 j i am tt from rfl]
                    refine mt_istore (pc := 104) dX10_cheapest_104 (Nat.le_of_ble_eq_true rfl) rfl ?_
                    refine mt_iload (pc := 106) dX10_cheapest_106 rfl ?_
                    refine mt_iconst (pc := 108) (v := (-1)) dX10_cheapest_108 (by decide) ?_
                    refine mt_icmp_eq (pc := 109) (tgt := 119) dX10_cheapest_109 (by decide) (fun c109 => ?_) (fun c109 => ?_)
                    · skip
                      rw [if_pos (Or.inl c109)] at e1
                      refine mt_iload (pc := 119) dX10_cheapest_119 rfl ?_
                      refine mt_istore (pc := 121) dX10_cheapest_121 (Nat.le_of_ble_eq_true rfl) rfl ?_
                      refine mt_iload (pc := 123) dX10_cheapest_123 rfl ?_
                      refine mt_istore (pc := 125) dX10_cheapest_125 (Nat.le_of_ble_eq_true rfl) rfl ?_
                      refine mt_iinc (pc := 127) (c9 := 1) dX10_cheapest_127 rfl (by decide) (Nat.le_of_ble_eq_true rfl) rfl ?_
                      refine mt_goto (pc := 130) (tgt := 38) dX10_cheapest_130 (by decide) ?_
                      rw [show (nI i + 1 : Int32) = nI (i + 1) from nI_1 i]
                      rw [e1] at ni
                      first
                        | exact ni m fi
                        | exact mt_forget 8 (ni k9 hFk)
                    · skip
                      refine mt_iload (pc := 112) dX10_cheapest_112 rfl ?_
                      refine mt_iload (pc := 114) dX10_cheapest_114 rfl ?_
                      refine mt_icmp_ge (pc := 116) (tgt := 127) dX10_cheapest_116 (by decide) (fun c116 => ?_) (fun c116 => ?_)
                      · skip
                        rw [if_neg (fun z => z.elim c109 (Int32.not_lt.mpr c116))] at e1
                        refine mt_iinc (pc := 127) (c9 := 1) dX10_cheapest_127 rfl (by decide) (Nat.le_of_ble_eq_true rfl) rfl ?_
                        refine mt_goto (pc := 130) (tgt := 38) dX10_cheapest_130 (by decide) ?_
                        rw [show (nI i + 1 : Int32) = nI (i + 1) from nI_1 i]
                        rw [e1] at ni
                        first
                          | exact ni m fi
                          | exact mt_forget 8 (ni k9 hFk)
                      · skip
                        rw [if_pos (Or.inr (Int32.not_le.mp c116))] at e1
                        refine mt_iload (pc := 119) dX10_cheapest_119 rfl ?_
                        refine mt_istore (pc := 121) dX10_cheapest_121 (Nat.le_of_ble_eq_true rfl) rfl ?_
                        refine mt_iload (pc := 123) dX10_cheapest_123 rfl ?_
                        refine mt_istore (pc := 125) dX10_cheapest_125 (Nat.le_of_ble_eq_true rfl) rfl ?_
                        refine mt_iinc (pc := 127) (c9 := 1) dX10_cheapest_127 rfl (by decide) (Nat.le_of_ble_eq_true rfl) rfl ?_
                        refine mt_goto (pc := 130) (tgt := 38) dX10_cheapest_130 (by decide) ?_
                        rw [show (nI i + 1 : Int32) = nI (i + 1) from nI_1 i]
                        rw [e1] at ni
                        first
                          | exact ni m fi
                          | exact mt_forget 8 (ni k9 hFk)
          · skip
            obtain ⟨m0, mC, mA, -, -, m33, mP, -⟩ := hQ.of fi
            have m3 := mC.1
            refine mt_iload (pc := 38) dX10_cheapest_38 rfl ?_
            refine mt_aload_n (pc := 40) dX10_cheapest_40 rfl ?_
            refine mt_get (pc := 41) gf_X10_19 dX10_cheapest_41 (by first | assumption | omega) m0 rfl ?_
            refine mt_get (pc := 44) gf_X10_141 dX10_cheapest_44 (by first | assumption | omega) m3 rfl ?_
            refine mt_icmp_ge (pc := 47) (tgt := 133) dX10_cheapest_47 (by decide) (fun c47 => ?_) (fun c47 => ?_)
            · skip
              refine mt_iload (pc := 133) dX10_cheapest_133 rfl ?_
              exact mt_iret rfl dX10_cheapest_135 (Nat.le_of_ble_eq_true rfl) (Nat.le_of_ble_eq_true rfl) (P_qv (ic := ic) (rs := rs) (ne := ne) (ia := ia) er fi)
            · exact absurd (nI_le (Nat.le_refl _) (by omega)) c47
theorem c_would {a0 a1 a2 a3 a4 a5 a6 a7 : Int32} (hl : l.stackTraces = false) (hd : 10 ≤ d) (hx : 188 ≤ nx) (hQ : QW h ic rs ne ia k cs bk pg) : mm_Con G l yX10_would cX10_would 9 (some .int) d 8 48 [.ref 0, .int a0, .int a1, .int a2, .int a3, .int a4, .int a5, .int a6, .int a7] nx h (P_q (wouR cs a0 a1 a2 a3 a4 a5 a6 a7) ic rs ne ia nx h) := by
  obtain ⟨h0, hC, hA, hLW, -⟩ := id hQ
  obtain ⟨a15, ⟨R, a16, aR⟩, ⟨F, a17⟩, S, a18⟩ := id hA
  refine mm_start (lo := [some (.ref 0), some (.int a0), some (.int a1), some (.int a2), some (.int a3), some (.int a4), some (.int a5), some (.int a6), some (.int a7)]) pn_X10 rfl rfl (Nat.le_of_ble_eq_true rfl) ?_
  refine mt_aload_n (pc := 0) dX10_would_0 rfl ?_
  refine mt_iload_n (pc := 1) dX10_would_1 rfl ?_
  refine mt_iconst (pc := 2) (v := 1) dX10_would_2 (by decide) ?_
  refine mt_bipush (pc := 3) (v := 60) dX10_would_3 (by decide) ?_
  refine mt_aV (pc := 5) (c_needRange (d := 7) hl (Nat.le_refl 7) (by omega) h0) cal_X10_needRange vir_X10_needRange ml_X10_266 dX10_would_5 (by first | assumption | omega) (by repeat (first | exact hset_eq _ _ _ | assumption | rw [hset_ne (by first | assumption | decide | omega)])) (by first | assumption | (show _ ≤ d; omega)) ⟨(Nat.le_of_ble_eq_true rfl), (Nat.le_of_ble_eq_true rfl)⟩ rfl rfl (Nat.le_of_ble_eq_true rfl) ?_ ?_
  · rintro x9 n9 k9 h9
    obtain ⟨rfl, rfl, hno, rfl⟩ := h9
    exact P_qx (ifR_n hno)
  · rintro v9 n9 k9 ⟨rfl, rfl, hok0, rfl⟩
    refine ⟨rfl, ?_⟩
    refine mt_aload_n (pc := 8) dX10_would_8 rfl ?_
    refine mt_iload_n (pc := 9) dX10_would_9 rfl ?_
    refine mt_iconst (pc := 10) (v := 0) dX10_would_10 (by decide) ?_
    refine mt_sipush (pc := 11) (v := 999) dX10_would_11 (by decide) ?_
    refine mt_aV (pc := 14) (c_needRange (d := 7) hl (Nat.le_refl 7) (by omega) h0) cal_X10_needRange vir_X10_needRange ml_X10_266 dX10_would_14 (by first | assumption | omega) (by repeat (first | exact hset_eq _ _ _ | assumption | rw [hset_ne (by first | assumption | decide | omega)])) (by first | assumption | (show _ ≤ d; omega)) ⟨(Nat.le_of_ble_eq_true rfl), (Nat.le_of_ble_eq_true rfl)⟩ rfl rfl (Nat.le_of_ble_eq_true rfl) ?_ ?_
    · rintro x9 n9 k9 h9
      obtain ⟨rfl, rfl, hno, rfl⟩ := h9
      exact P_qx ((ifR_p hok0).trans (ifR_n hno))
    · rintro v9 n9 k9 ⟨rfl, rfl, hok1, rfl⟩
      refine ⟨rfl, ?_⟩
      refine mt_aload_n (pc := 17) dX10_would_17 rfl ?_
      refine mt_iload_n (pc := 18) dX10_would_18 rfl ?_
      refine mt_iconst (pc := 19) (v := 0) dX10_would_19 (by decide) ?_
      refine mt_iconst (pc := 20) (v := 5) dX10_would_20 (by decide) ?_
      refine mt_aV (pc := 21) (c_needRange (d := 7) hl (Nat.le_refl 7) (by omega) h0) cal_X10_needRange vir_X10_needRange ml_X10_266 dX10_would_21 (by first | assumption | omega) (by repeat (first | exact hset_eq _ _ _ | assumption | rw [hset_ne (by first | assumption | decide | omega)])) (by first | assumption | (show _ ≤ d; omega)) ⟨(Nat.le_of_ble_eq_true rfl), (Nat.le_of_ble_eq_true rfl)⟩ rfl rfl (Nat.le_of_ble_eq_true rfl) ?_ ?_
      · rintro x9 n9 k9 h9
        obtain ⟨rfl, rfl, hno, rfl⟩ := h9
        exact P_qx ((ifR_p hok0).trans ((ifR_p hok1).trans (ifR_n hno)))
      · rintro v9 n9 k9 ⟨rfl, rfl, hok2, rfl⟩
        refine ⟨rfl, ?_⟩
        refine mt_aload_n (pc := 24) dX10_would_24 rfl ?_
        refine mt_iload (pc := 25) dX10_would_25 rfl ?_
        refine mt_iconst (pc := 27) (v := 0) dX10_would_27 (by decide) ?_
        refine mt_iconst (pc := 28) (v := 1) dX10_would_28 (by decide) ?_
        refine mt_aV (pc := 29) (c_needRange (d := 7) hl (Nat.le_refl 7) (by omega) h0) cal_X10_needRange vir_X10_needRange ml_X10_266 dX10_would_29 (by first | assumption | omega) (by repeat (first | exact hset_eq _ _ _ | assumption | rw [hset_ne (by first | assumption | decide | omega)])) (by first | assumption | (show _ ≤ d; omega)) ⟨(Nat.le_of_ble_eq_true rfl), (Nat.le_of_ble_eq_true rfl)⟩ rfl rfl (Nat.le_of_ble_eq_true rfl) ?_ ?_
        · rintro x9 n9 k9 h9
          obtain ⟨rfl, rfl, hno, rfl⟩ := h9
          exact P_qx ((ifR_p hok0).trans ((ifR_p hok1).trans ((ifR_p hok2).trans (ifR_n hno))))
        · rintro v9 n9 k9 ⟨rfl, rfl, hok3, rfl⟩
          refine ⟨rfl, ?_⟩
          refine mt_aload_n (pc := 32) dX10_would_32 rfl ?_
          refine mt_iload (pc := 33) dX10_would_33 rfl ?_
          refine mt_iconst (pc := 35) (v := 0) dX10_would_35 (by decide) ?_
          refine mt_bipush (pc := 36) (v := 9) dX10_would_36 (by decide) ?_
          refine mt_aV (pc := 38) (c_needRange (d := 7) hl (Nat.le_refl 7) (by omega) h0) cal_X10_needRange vir_X10_needRange ml_X10_266 dX10_would_38 (by first | assumption | omega) (by repeat (first | exact hset_eq _ _ _ | assumption | rw [hset_ne (by first | assumption | decide | omega)])) (by first | assumption | (show _ ≤ d; omega)) ⟨(Nat.le_of_ble_eq_true rfl), (Nat.le_of_ble_eq_true rfl)⟩ rfl rfl (Nat.le_of_ble_eq_true rfl) ?_ ?_
          · rintro x9 n9 k9 h9
            obtain ⟨rfl, rfl, hno, rfl⟩ := h9
            exact P_qx ((ifR_p hok0).trans ((ifR_p hok1).trans ((ifR_p hok2).trans ((ifR_p hok3).trans (ifR_n hno)))))
          · rintro v9 n9 k9 ⟨rfl, rfl, hok4, rfl⟩
            refine ⟨rfl, ?_⟩
            refine mt_aload_n (pc := 41) dX10_would_41 rfl ?_
            refine mt_iload (pc := 42) dX10_would_42 rfl ?_
            refine mt_iconst (pc := 44) (v := 0) dX10_would_44 (by decide) ?_
            refine mt_bipush (pc := 45) (v := 99) dX10_would_45 (by decide) ?_
            refine mt_aV (pc := 47) (c_needRange (d := 7) hl (Nat.le_refl 7) (by omega) h0) cal_X10_needRange vir_X10_needRange ml_X10_266 dX10_would_47 (by first | assumption | omega) (by repeat (first | exact hset_eq _ _ _ | assumption | rw [hset_ne (by first | assumption | decide | omega)])) (by first | assumption | (show _ ≤ d; omega)) ⟨(Nat.le_of_ble_eq_true rfl), (Nat.le_of_ble_eq_true rfl)⟩ rfl rfl (Nat.le_of_ble_eq_true rfl) ?_ ?_
            · rintro x9 n9 k9 h9
              obtain ⟨rfl, rfl, hno, rfl⟩ := h9
              exact P_qx ((ifR_p hok0).trans ((ifR_p hok1).trans ((ifR_p hok2).trans ((ifR_p hok3).trans ((ifR_p hok4).trans (ifR_n hno))))))
            · rintro v9 n9 k9 ⟨rfl, rfl, hok5, rfl⟩
              refine ⟨rfl, ?_⟩
              refine mt_aload_n (pc := 50) dX10_would_50 rfl ?_
              refine mt_iload (pc := 51) dX10_would_51 rfl ?_
              refine mt_iconst (pc := 53) (v := 0) dX10_would_53 (by decide) ?_
              refine mt_sipush (pc := 54) (v := 999) dX10_would_54 (by decide) ?_
              refine mt_aV (pc := 57) (c_needRange (d := 7) hl (Nat.le_refl 7) (by omega) h0) cal_X10_needRange vir_X10_needRange ml_X10_266 dX10_would_57 (by first | assumption | omega) (by repeat (first | exact hset_eq _ _ _ | assumption | rw [hset_ne (by first | assumption | decide | omega)])) (by first | assumption | (show _ ≤ d; omega)) ⟨(Nat.le_of_ble_eq_true rfl), (Nat.le_of_ble_eq_true rfl)⟩ rfl rfl (Nat.le_of_ble_eq_true rfl) ?_ ?_
              · rintro x9 n9 k9 h9
                obtain ⟨rfl, rfl, hno, rfl⟩ := h9
                exact P_qx ((ifR_p hok0).trans ((ifR_p hok1).trans ((ifR_p hok2).trans ((ifR_p hok3).trans ((ifR_p hok4).trans ((ifR_p hok5).trans (ifR_n hno)))))))
              · rintro v9 n9 k9 ⟨rfl, rfl, hok6, rfl⟩
                refine ⟨rfl, ?_⟩
                refine mt_aload_n (pc := 60) dX10_would_60 rfl ?_
                refine mt_iload (pc := 61) dX10_would_61 rfl ?_
                refine mt_iconst (pc := 63) (v := 0) dX10_would_63 (by decide) ?_
                refine mt_iconst (pc := 64) (v := 5) dX10_would_64 (by decide) ?_
                refine mt_aV (pc := 65) (c_needRange (d := 7) hl (Nat.le_refl 7) (by omega) h0) cal_X10_needRange vir_X10_needRange ml_X10_266 dX10_would_65 (by first | assumption | omega) (by repeat (first | exact hset_eq _ _ _ | assumption | rw [hset_ne (by first | assumption | decide | omega)])) (by first | assumption | (show _ ≤ d; omega)) ⟨(Nat.le_of_ble_eq_true rfl), (Nat.le_of_ble_eq_true rfl)⟩ rfl rfl (Nat.le_of_ble_eq_true rfl) ?_ ?_
                · rintro x9 n9 k9 h9
                  obtain ⟨rfl, rfl, hno, rfl⟩ := h9
                  exact P_qx ((ifR_p hok0).trans ((ifR_p hok1).trans ((ifR_p hok2).trans ((ifR_p hok3).trans ((ifR_p hok4).trans ((ifR_p hok5).trans ((ifR_p hok6).trans (ifR_n hno))))))))
                · rintro v9 n9 k9 ⟨rfl, rfl, hok7, rfl⟩
                  have er : wouR cs a0 a1 a2 a3 a4 a5 a6 a7 = .inr (clamp (lawV cs (factF a0 a1 a2 a3 a4 a5 a6 a7))) := (ifR_p hok0).trans ((ifR_p hok1).trans ((ifR_p hok2).trans ((ifR_p hok3).trans ((ifR_p hok4).trans ((ifR_p hok5).trans ((ifR_p hok6).trans (ifR_p hok7)))))))
                  refine ⟨rfl, ?_⟩
                  refine mt_aload_n (pc := 68) dX10_would_68 rfl ?_
                  refine mt_get (pc := 69) gf_X10_29 dX10_would_69 (by first | assumption | omega) (by repeat (first | exact hset_eq _ _ _ | assumption | rw [hset_ne (by first | assumption | decide | omega)])) rfl ?_
                  refine mt_iload_n (pc := 72) dX10_would_72 rfl ?_
                  refine mt_iload_n (pc := 73) dX10_would_73 rfl ?_
                  refine mt_iload_n (pc := 74) dX10_would_74 rfl ?_
                  refine mt_iload (pc := 75) dX10_would_75 rfl ?_
                  refine mt_cV (pc := 77) (c_tellLoan (d := 0) (by omega) a15 a17) cal_X2_tellLoan vir_X2_tellLoan ml_X10_276 dX10_would_77 (by first | assumption | omega) (by repeat (first | exact hset_eq _ _ _ | assumption | rw [hset_ne (by first | assumption | decide | omega)])) (by first | assumption | (show _ ≤ d; omega)) ⟨(Nat.le_of_ble_eq_true rfl), (Nat.le_of_ble_eq_true rfl)⟩ rfl rfl (Nat.le_of_ble_eq_true rfl) ?_
                  refine mt_aload_n (pc := 80) dX10_would_80 rfl ?_
                  refine mt_get (pc := 81) gf_X10_29 dX10_would_81 (by first | assumption | omega) ((hset_ne (by decide)).trans h0) rfl ?_
                  refine mt_iload (pc := 84) dX10_would_84 rfl ?_
                  refine mt_iload (pc := 86) dX10_would_86 rfl ?_
                  refine mt_iload (pc := 88) dX10_would_88 rfl ?_
                  refine mt_iload (pc := 90) dX10_would_90 rfl ?_
                  refine mt_cV (pc := 92) (c_tellRest (d := 0) (by omega) ((hset_ne (by decide)).trans a15) (hset_eq _ _ _)) cal_X2_tellRest vir_X2_tellRest ml_X10_280 dX10_would_92 (by first | assumption | omega) (by repeat (first | exact hset_eq _ _ _ | assumption | rw [hset_ne (by first | assumption | decide | omega)])) (by first | assumption | (show _ ≤ d; omega)) ⟨(Nat.le_of_ble_eq_true rfl), (Nat.le_of_ble_eq_true rfl)⟩ rfl rfl (Nat.le_of_ble_eq_true rfl) ?_
                  rw [hset_hset]
                  obtain ⟨v, hv⟩ := hLW.2.2 (upd (upd (upd (upd (upd (upd (upd (upd F 0 a0) 1 a1) 2 a2) 3 a3) 4 a4) 5 a5) 6 a6) 7 a7)
                  have hlv := lawV_of fact_base hv
                  refine mt_aload_n (pc := 95) dX10_would_95 rfl ?_
                  refine mt_get (pc := 96) gf_X10_29 dX10_would_96 (by first | assumption | omega) ((hset_ne (by decide)).trans h0) rfl ?_
                  refine mt_aV (pc := 99) (c_owes (d := 1) (Nat.le_refl 1) (by omega) aR hv ((hset_ne (by decide)).trans a15) ((hset_ne (by decide)).trans a16) (hset_eq _ _ _) ((hset_ne (by decide)).trans a18)) cal_X2_owes vir_X2_owes ml_X10_283 dX10_would_99 (by first | assumption | omega) (by repeat (first | exact hset_eq _ _ _ | assumption | rw [hset_ne (by first | assumption | decide | omega)])) (by first | assumption | (show _ ≤ d; omega)) ⟨(Nat.le_of_ble_eq_true rfl), (Nat.le_of_ble_eq_true rfl)⟩ rfl rfl (Nat.le_of_ble_eq_true rfl) ?_ ?_
                  · rintro x9 n9 k9 h9
                    simp at h9
                  · rintro v9 n9 k9 ⟨hv9, rfl, S', rfl⟩
                    cases hv9
                    refine ⟨rfl, ?_⟩
                    exact mt_iret rfl dX10_would_102 (Nat.le_of_ble_eq_true rfl) (Nat.le_of_ble_eq_true rfl) (P_qv (ic := ic) (rs := rs) (ne := ne) (ia := ia) (er.trans (by rw [hlv])) (hQ.frl ⟨fun j h1 h2 => by rw [hset_ne h2, hset_ne h1], ⟨_, by rw [hset_ne (by decide), hset_eq]⟩, _, hset_eq _ _ _⟩))
end BANKT
