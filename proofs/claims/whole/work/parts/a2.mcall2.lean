/-! The reference's questions: call, run. -/
theorem wt_iff {bk : BS} {kd : Int32} {n c : Nat} (hc : c < 2 ^ n) : c &&& wtM bk kd n = c ↔ ∀ j, j < n → c.testBit j = true → bk.2.2.1 j = kd := by
  rw [and_sub]
  constructor
  · intro h j hj hb
    exact ((wtM_bit n j).mp (h j hb)).2
  · intro h j hb
    have hj : j < n := Nat.lt_of_not_le fun z => by
      rw [Nat.testBit_lt_two_pow (Nat.lt_of_lt_of_le hc (pow_mono z))] at hb
      cases hb
    exact (wtM_bit n j).mpr ⟨hj, h j hj hb⟩
theorem least_ex (P : Nat → Prop) (g : Nat → Nat) : ∃ o, IsLeast P g o := by
  by_cases h : ∃ s, P s
  · have : ∀ m s, P s → g s ≤ m → ∃ o, IsLeast P g o := fun m => by
      induction m with
      | zero => intro s hs hm; exact ⟨some (g s), ⟨s, hs, rfl⟩, fun t _ => by omega⟩
      | succ m ih =>
        intro s hs hm
        by_cases h2 : ∃ t, P t ∧ g t < g s
        · obtain ⟨t, t1, t2⟩ := h2
          exact ih t t1 (by omega)
        · exact ⟨some (g s), ⟨s, hs, rfl⟩, fun t ht => Nat.le_of_not_lt fun z => h2 ⟨t, ht, z⟩⟩
    obtain ⟨s, hs⟩ := h
    exact this (g s) s hs (Nat.le_refl _)
  · exact ⟨none, fun s hs => h ⟨s, hs⟩⟩
section MCA2
variable {G : mm_G} {l : Launch} {d nx : Nat} {h : Nat → mm_E} {g : MG} {A : MA} {k : CS} {cs : List Nat} {f : Nat → Int32} {bk : BS}
theorem n_call {x : Int32} {o9 : Option Nat} (hd : 9 ≤ d) (hx : 215 ≤ nx) (hQ : MQs k cs g A) (h41 : g 41 = nI bk.1) (hB : MBK k.2.1 bk (A 209)) (hR : RR (A 205) f) (hI : RI k f) (ho : IsLeast (candM bk.1 k.1 (amN bk) (fun p => lnM k f bk p bk.1) (rmN f) bk x) (fun s => sumM (amN bk) s bk.1) o9) : mm_Con G l yX11_call cX11_call 7 (some .int) d 0 0 [.ref 188, .int x] nx (mos h g A) (P_mq 1 1 (ifR x 0 5 (.inr (oI o9))) nx h g A) := by
  obtain ⟨h18, h19, hM, hL⟩ := id hQ
  have hk1 := hM.1
  have hk2 := hM.2.1
  have hn := hB.1
  have hp6 : 2 ^ bk.1 ≤ 2 ^ 6 := pow_mono hn
  obtain ⟨hn10, e3, -⟩ := hI.nl
  have hU := hI.uw
  by_cases hok : ¬ x < 0 ∧ ¬ 5 < x
  · rw [ifR_p hok]
    obtain ⟨r, hr⟩ : ∃ r : Nat ⊕ Int32, r = .inr (oI o9) := ⟨_, rfl⟩
    rw [← hr]
    refine mm_start (lo := [some (.ref 188), some (.int x), none, none, none, none, none]) pn_X11 rfl rfl (Nat.le_of_ble_eq_true rfl) ?_
    refine mt_aload_n (pc := 0) dX11_call_0 rfl ?_
    refine mt_iconst (pc := 1) (v := 0) dX11_call_1 (by decide) ?_
    refine mt_mput (pc := 2) pf_X11_3 dX11_call_2 hx rfl ?_
    refine mt_aload_n (pc := 5) dX11_call_5 rfl ?_
    refine mt_iload_n (pc := 6) dX11_call_6 rfl ?_
    refine mt_iconst (pc := 7) (v := 0) dX11_call_7 (by decide) ?_
    refine mt_iconst (pc := 8) (v := 5) dX11_call_8 (by decide) ?_
    refine mt_cS (pc := 9) (n_within) cal_X11_within sta_X11_within ml_X11_348 dX11_call_9 (by first | assumption | (show _ ≤ d; omega)) ⟨(Nat.le_of_ble_eq_true rfl), (Nat.le_of_ble_eq_true rfl)⟩ rfl rfl (Nat.le_of_ble_eq_true rfl) ?_
    rw [in_w hok]
    refine mt_iconst (pc := 12) (v := 1) dX11_call_12 (by decide) ?_
    refine mt_iconst (pc := 13) (v := 1) dX11_call_13 (by decide) ?_
    refine mt_cV (pc := 14) (n_mayY (d := 0) (q := 1) hx rfl (by decide)) cal_X11_may vir_X11_may ml_X11_190 dX11_call_14 (by omega) (mos_o _ _ _) (by first | assumption | (show _ ≤ d; omega)) ⟨(Nat.le_of_ble_eq_true rfl), (Nat.le_of_ble_eq_true rfl)⟩ rfl rfl (Nat.le_of_ble_eq_true rfl) ?_
    refine mt_if_ne (pc := 17) (tgt := 22) dX11_call_17 (by decide) (fun c17 => ?_) (fun c17 => ?_)
    · skip
      refine mt_aload_n (pc := 22) dX11_call_22 rfl ?_
      refine mt_aV (pc := 23) (n_takeR (d := 1) (f := f) (Nat.le_refl 1) hx hR hn10) cal_X11_take vir_X11_take ml_X11_293 dX11_call_23 (by omega) (mos_o _ _ _) (by first | assumption | (show _ ≤ d; omega)) ⟨(Nat.le_of_ble_eq_true rfl), (Nat.le_of_ble_eq_true rfl)⟩ rfl rfl (Nat.le_of_ble_eq_true rfl) ?_ ?_
      · rintro x9 n9 k9 h9
        obtain ⟨⟨⟩, -⟩ := h9
      · rintro v9 n9 k9 ⟨⟨⟩, rfl, S, rfl, hS⟩
        refine ⟨rfl, ?_⟩
        refine mt_iconst (pc := 26) (v := 0) dX11_call_26 (by decide) ?_
        refine mt_istore_n (pc := 27) dX11_call_27 (Nat.le_of_ble_eq_true rfl) rfl ?_
        obtain ⟨ro, hro⟩ : ∃ ro, A 210 = ro := ⟨_, rfl⟩
        rw [show updR A 206 S = updR (updR A 206 S) 210 (rmF S ro 0) by rw [rmF_0]; exact (updR_self (by rw [updR_ne (by decide)]; exact hro)).symm]
        refine mt_for (pc := 28) (H := fun c => mos h (upd g 0 0) (updR (updR A 206 S) 210 (rmF S ro c))) (L := fun c => [some (.ref 188), some (.int x), some (.int (nI c)), none, none, none, none]) (k.1) (fun c hc nc => ?_) ?_
        · skip
          refine mt_iload_n (pc := 28) dX11_call_28 rfl ?_
          refine mt_aload_n (pc := 29) dX11_call_29 rfl ?_
          refine mt_mgetI (pc := 30) (x := nI k.1) gf_X11_154 dX11_call_30 hx rfl h18 ?_
          refine mt_icmp_ge (pc := 33) (tgt := 56) dX11_call_33 (by decide) (fun c33 => ?_) (fun c33 => ?_)
          · exact absurd c33 (nI_ge hc (by first | omega | decide))
          · skip
            refine mt_aload_n (pc := 36) dX11_call_36 rfl ?_
            refine mt_mget (pc := 37) gf_X11_80 dX11_call_37 hx rfl ?_
            refine mt_iload_n (pc := 40) dX11_call_40 rfl ?_
            refine mt_aload_n (pc := 41) dX11_call_41 rfl ?_
            refine mt_mget (pc := 42) gf_X11_68 dX11_call_42 hx rfl ?_
            refine mt_iconst (pc := 45) (v := 0) dX11_call_45 (by decide) ?_
            refine mt_iload_n (pc := 46) dX11_call_46 rfl ?_
            refine mt_iaddN (pc := 47) (a := 0) (b := c) dX11_call_47 rfl rfl ?_
            refine mt_mald (pc := 48) (i := 206) (j := c) (x := S c) dX11_call_48 hx rfl (by rw [Nat.zero_add]) (by show _ < 91; omega) (by rw [updR_ne (by decide), updR_eq]) ?_
            refine mt_mast2 (pc := 49) (i := 210) (j := c) dX11_call_49 hx rfl rfl (by show _ < 8; omega) ?_
            refine mt_iinc (pc := 50) (c9 := 1) dX11_call_50 rfl (by decide) (Nat.le_of_ble_eq_true rfl) rfl ?_
            refine mt_goto (pc := 53) (tgt := 28) dX11_call_53 (by decide) ?_
            rw [show (nI c + 1 : Int32) = nI (c + 1) from nI_1 c, rmF_s]
            exact nc
        · skip
          refine mt_iload_n (pc := 28) dX11_call_28 rfl ?_
          refine mt_aload_n (pc := 29) dX11_call_29 rfl ?_
          refine mt_mgetI (pc := 30) (x := nI k.1) gf_X11_154 dX11_call_30 hx rfl h18 ?_
          refine mt_icmp_ge (pc := 33) (tgt := 56) dX11_call_33 (by decide) (fun c33 => ?_) (fun c33 => ?_)
          · skip
            refine mt_iconst (pc := 56) (v := (-1)) dX11_call_56 (by decide) ?_
            refine mt_istore_n (pc := 57) dX11_call_57 (Nat.le_of_ble_eq_true rfl) rfl ?_
            refine mt_iconst (pc := 58) (v := 0) dX11_call_58 (by decide) ?_
            refine mt_istore_n (pc := 59) dX11_call_59 (Nat.le_of_ble_eq_true rfl) rfl ?_
            generalize hr0 : rmF S ro k.1 = ro1
            have hro1 : ∀ p, p < k.1 → ro1 p = nI (rmN f p) ∧ rmN f p ≤ 99 := fun p hp => by
              rw [← hr0]
              show (if p < k.1 then S p else ro p) = _ ∧ _
              rw [if_pos hp, hS.1 p (by omega)]
              exact hU p (by omega)
            have hSV : ∀ ro, MSV k cs bk f (upd g 0 0) (updR (updR A 206 S) 210 ro) := fun ro => ⟨⟨h18, h19, hM, hL⟩, h41, hB, by rw [updR_ne (by decide), updR_eq]; exact hS⟩
            refine mt_forE (pc := 60) (α := (Nat → Int32) × Option Nat) (H := fun c (w : (Nat → Int32) × Option Nat) => mos h (upd g 0 0) (updR (updR A 206 S) 210 w.1)) (L := fun c (w : (Nat → Int32) × Option Nat) => [some (.ref 188), some (.int x), some (.int (oI w.2)), some (.int (nI c)), none, none, none]) (I := fun c (w : (Nat → Int32) × Option Nat) => (∀ p, p < k.1 → w.1 p = nI (rmN f p) ∧ rmN f p ≤ 99) ∧ IsLeast (fun s => s < c ∧ candM bk.1 k.1 (amN bk) (fun p => lnM k f bk p bk.1) (rmN f) bk x s) (fun s => sumM (amN bk) s bk.1) w.2) (2 ^ bk.1) (fun c w hc fc nc => ?_) (fun w fc => ?_) ((ro1, none)) (⟨hro1, fun s hs => absurd hs.1 (Nat.not_lt_zero s)⟩)
            · skip
              obtain ⟨ro2, o⟩ := w
              obtain ⟨w1, w2⟩ := fc
              dsimp only at w1 w2 ⊢
              have ov : ∀ v, o = some v → v ≤ 99 := fun v hv => by
                subst hv
                obtain ⟨⟨s, s1, s2⟩, -⟩ := w2
                rw [← s2]
                exact s1.2.2.2.2
              have hc64 : c < 64 := by omega
              have hsle : ∀ i, i ≤ bk.1 → sumM (amN bk) c i ≤ i * 60 := fun i hi => sumM_le i (fun j hj => (hB.am hk2 (show j < bk.1 by omega)).2.2.1)
              refine mt_iload_n (pc := 60) dX11_call_60 rfl ?_
              refine mt_iconst (pc := 61) (v := 1) dX11_call_61 (by decide) ?_
              refine mt_aload_n (pc := 62) dX11_call_62 rfl ?_
              refine mt_mgetI (pc := 63) (x := nI bk.1) gf_X11_167 dX11_call_63 hx rfl h41 ?_
              refine mt_ishl (pc := 66) dX11_call_66 ?_
              rw [shl1 _ (by omega)]
              refine mt_icmp_ge (pc := 67) (tgt := 190) dX11_call_67 (by decide) (fun c67 => ?_) (fun c67 => ?_)
              · exact absurd c67 (nI_ge hc (by first | omega | decide))
              · skip
                refine mt_iconst (pc := 70) (v := 0) dX11_call_70 (by decide) ?_
                refine mt_istore (pc := 71) dX11_call_71 (Nat.le_of_ble_eq_true rfl) rfl ?_
                refine mt_iconst (pc := 73) (v := 1) dX11_call_73 (by decide) ?_
                refine mt_istore (pc := 74) dX11_call_74 (Nat.le_of_ble_eq_true rfl) rfl ?_
                refine mt_iconst (pc := 76) (v := 0) dX11_call_76 (by decide) ?_
                refine mt_istore (pc := 77) dX11_call_77 (Nat.le_of_ble_eq_true rfl) rfl ?_
                refine mt_forE (pc := 79) (α := Int32) (H := fun i (z : Int32) => mos h (upd g 0 0) (updR (updR A 206 S) 210 ro2)) (L := fun i (z : Int32) => [some (.ref 188), some (.int x), some (.int (oI o)), some (.int (nI c)), some (.int (nI (sumM (amN bk) c i))), some (.int z), some (.int (nI i))]) (I := fun i (z : Int32) => zI z (∀ j, j < i → c.testBit j = true → bk.2.2.1 j = x)) (bk.1) (fun i z hi fi ni => ?_) (fun z fi => ?_) 1 (Or.inl ⟨rfl, fun j hj => absurd hj (Nat.not_lt_zero j)⟩)
                · skip
                  obtain ⟨b1, b2, b3, -, -, b6, -⟩ := hB.am hk2 hi
                  have sS : sumM (amN bk) c (i + 1) = sumM (amN bk) c i + c / 2 ^ i % 2 * amN bk i := rfl
                  rw [sS] at ni
                  refine mt_iload (pc := 79) dX11_call_79 rfl ?_
                  refine mt_aload_n (pc := 81) dX11_call_81 rfl ?_
                  refine mt_mgetI (pc := 82) (x := nI bk.1) gf_X11_167 dX11_call_82 hx rfl h41 ?_
                  refine mt_icmp_ge (pc := 85) (tgt := 149) dX11_call_85 (by decide) (fun c85 => ?_) (fun c85 => ?_)
                  · exact absurd c85 (nI_ge hi (by first | omega | decide))
                  · skip
                    refine mt_iload_n (pc := 88) dX11_call_88 rfl ?_
                    refine mt_iload (pc := 89) dX11_call_89 rfl ?_
                    refine mt_ishr (pc := 91) dX11_call_91 ?_
                    refine mt_iconst (pc := 92) (v := 1) dX11_call_92 (by decide) ?_
                    refine mt_iand (pc := 93) dX11_call_93 ?_
                    rw [bit32 (by omega) (by omega)]
                    refine mt_if_ne (pc := 94) (tgt := 100) dX11_call_94 (by decide) (fun c94 => ?_) (fun c94 => ?_)
                    · skip
                      have e1 : c / 2 ^ i % 2 = 1 := by
                        rcases Nat.mod_two_eq_zero_or_one (c / 2 ^ i) with y | y
                        · rw [y] at c94; exact absurd rfl c94
                        · exact y
                      have t1 := tb_and1.mp e1
                      rw [e1, Nat.one_mul] at ni
                      refine mt_iload (pc := 100) dX11_call_100 rfl ?_
                      refine mt_if_eq (pc := 102) (tgt := 124) dX11_call_102 (by decide) (fun c102 => ?_) (fun c102 => ?_)
                      · skip
                        have y := fi.resolve_left (fun y => by rw [y.1] at c102; exact absurd c102 (by decide))
                        refine mt_iconst (pc := 124) (v := 0) dX11_call_124 (by decide) ?_
                        refine mt_istore (pc := 125) dX11_call_125 (Nat.le_of_ble_eq_true rfl) rfl ?_
                        refine mt_iload (pc := 127) dX11_call_127 rfl ?_
                        refine mt_aload_n (pc := 129) dX11_call_129 rfl ?_
                        refine mt_mget (pc := 130) gf_X11_77 dX11_call_130 hx rfl ?_
                        refine mt_iconst (pc := 133) (v := 3) dX11_call_133 (by decide) ?_
                        refine mt_iload (pc := 134) dX11_call_134 rfl ?_
                        refine mt_imulN (pc := 136) (a := 3) (b := i) dX11_call_136 rfl rfl ?_
                        refine mt_iconst (pc := 137) (v := 2) dX11_call_137 (by decide) ?_
                        refine mt_iaddN (pc := 138) (a := 3 * i) (b := 2) dX11_call_138 rfl rfl ?_
                        refine mt_mald (pc := 139) (i := 209) (j := (3 * i) + 2) (x := nI (amN bk i)) dX11_call_139 hx rfl rfl (by show _ < 18; omega) b1 ?_
                        refine mt_iaddN (pc := 140) (a := sumM (amN bk) c i) (b := amN bk i) dX11_call_140 rfl rfl ?_
                        refine mt_istore (pc := 141) dX11_call_141 (Nat.le_of_ble_eq_true rfl) rfl ?_
                        refine mt_iinc (pc := 143) (c9 := 1) dX11_call_143 rfl (by decide) (Nat.le_of_ble_eq_true rfl) rfl ?_
                        refine mt_goto (pc := 146) (tgt := 79) dX11_call_146 (by decide) ?_
                        rw [show (nI i + 1 : Int32) = nI (i + 1) from nI_1 i]
                        exact ni 0 (Or.inr ⟨rfl, fun u => y.2 (fun j hj hb => u j (by omega) hb)⟩)
                      · skip
                        have y := fi.resolve_right (fun y => c102 y.1)
                        refine mt_aload_n (pc := 105) dX11_call_105 rfl ?_
                        refine mt_mget (pc := 106) gf_X11_77 dX11_call_106 hx rfl ?_
                        refine mt_iconst (pc := 109) (v := 3) dX11_call_109 (by decide) ?_
                        refine mt_iload (pc := 110) dX11_call_110 rfl ?_
                        refine mt_imulN (pc := 112) (a := 3) (b := i) dX11_call_112 rfl rfl ?_
                        refine mt_iconst (pc := 113) (v := 1) dX11_call_113 (by decide) ?_
                        refine mt_iaddN (pc := 114) (a := 3 * i) (b := 1) dX11_call_114 rfl rfl ?_
                        refine mt_mald (pc := 115) (i := 209) (j := (3 * i) + 1) (x := bk.2.2.1 i) dX11_call_115 hx rfl rfl (by show _ < 18; omega) b6 ?_
                        refine mt_iload_n (pc := 116) dX11_call_116 rfl ?_
                        refine mt_icmp_ne (pc := 117) (tgt := 124) dX11_call_117 (by decide) (fun c117 => ?_) (fun c117 => ?_)
                        · skip
                          refine mt_iconst (pc := 124) (v := 0) dX11_call_124 (by decide) ?_
                          refine mt_istore (pc := 125) dX11_call_125 (Nat.le_of_ble_eq_true rfl) rfl ?_
                          refine mt_iload (pc := 127) dX11_call_127 rfl ?_
                          refine mt_aload_n (pc := 129) dX11_call_129 rfl ?_
                          refine mt_mget (pc := 130) gf_X11_77 dX11_call_130 hx rfl ?_
                          refine mt_iconst (pc := 133) (v := 3) dX11_call_133 (by decide) ?_
                          refine mt_iload (pc := 134) dX11_call_134 rfl ?_
                          refine mt_imulN (pc := 136) (a := 3) (b := i) dX11_call_136 rfl rfl ?_
                          refine mt_iconst (pc := 137) (v := 2) dX11_call_137 (by decide) ?_
                          refine mt_iaddN (pc := 138) (a := 3 * i) (b := 2) dX11_call_138 rfl rfl ?_
                          refine mt_mald (pc := 139) (i := 209) (j := (3 * i) + 2) (x := nI (amN bk i)) dX11_call_139 hx rfl rfl (by show _ < 18; omega) b1 ?_
                          refine mt_iaddN (pc := 140) (a := sumM (amN bk) c i) (b := amN bk i) dX11_call_140 rfl rfl ?_
                          refine mt_istore (pc := 141) dX11_call_141 (Nat.le_of_ble_eq_true rfl) rfl ?_
                          refine mt_iinc (pc := 143) (c9 := 1) dX11_call_143 rfl (by decide) (Nat.le_of_ble_eq_true rfl) rfl ?_
                          refine mt_goto (pc := 146) (tgt := 79) dX11_call_146 (by decide) ?_
                          rw [show (nI i + 1 : Int32) = nI (i + 1) from nI_1 i]
                          exact ni 0 (Or.inr ⟨rfl, fun u => c117 (u i (by omega) t1)⟩)
                        · skip
                          refine mt_iconst (pc := 120) (v := 1) dX11_call_120 (by decide) ?_
                          refine mt_goto (pc := 121) (tgt := 125) dX11_call_121 (by decide) ?_
                          refine mt_istore (pc := 125) dX11_call_125 (Nat.le_of_ble_eq_true rfl) rfl ?_
                          refine mt_iload (pc := 127) dX11_call_127 rfl ?_
                          refine mt_aload_n (pc := 129) dX11_call_129 rfl ?_
                          refine mt_mget (pc := 130) gf_X11_77 dX11_call_130 hx rfl ?_
                          refine mt_iconst (pc := 133) (v := 3) dX11_call_133 (by decide) ?_
                          refine mt_iload (pc := 134) dX11_call_134 rfl ?_
                          refine mt_imulN (pc := 136) (a := 3) (b := i) dX11_call_136 rfl rfl ?_
                          refine mt_iconst (pc := 137) (v := 2) dX11_call_137 (by decide) ?_
                          refine mt_iaddN (pc := 138) (a := 3 * i) (b := 2) dX11_call_138 rfl rfl ?_
                          refine mt_mald (pc := 139) (i := 209) (j := (3 * i) + 2) (x := nI (amN bk i)) dX11_call_139 hx rfl rfl (by show _ < 18; omega) b1 ?_
                          refine mt_iaddN (pc := 140) (a := sumM (amN bk) c i) (b := amN bk i) dX11_call_140 rfl rfl ?_
                          refine mt_istore (pc := 141) dX11_call_141 (Nat.le_of_ble_eq_true rfl) rfl ?_
                          refine mt_iinc (pc := 143) (c9 := 1) dX11_call_143 rfl (by decide) (Nat.le_of_ble_eq_true rfl) rfl ?_
                          refine mt_goto (pc := 146) (tgt := 79) dX11_call_146 (by decide) ?_
                          rw [show (nI i + 1 : Int32) = nI (i + 1) from nI_1 i]
                          refine ni 1 (Or.inl ⟨rfl, fun j hj hb => ?_⟩)
                          rcases Nat.lt_or_eq_of_le (Nat.le_of_lt_succ hj) with u | rfl
                          · exact y.2 j u hb
                          · exact c117
                    · skip
                      have e1 : c / 2 ^ i % 2 = 0 := by
                        rcases Nat.mod_two_eq_zero_or_one (c / 2 ^ i) with y | y
                        · exact y
                        · rw [y] at c94; exact absurd c94 (by decide)
                      have t1 : ¬ c.testBit i = true := fun y => by rw [tb_and1.mpr y] at e1; cases e1
                      rw [e1, Nat.zero_mul, Nat.add_zero] at ni
                      refine mt_goto (pc := 97) (tgt := 143) dX11_call_97 (by decide) ?_
                      refine mt_iinc (pc := 143) (c9 := 1) dX11_call_143 rfl (by decide) (Nat.le_of_ble_eq_true rfl) rfl ?_
                      refine mt_goto (pc := 146) (tgt := 79) dX11_call_146 (by decide) ?_
                      rw [show (nI i + 1 : Int32) = nI (i + 1) from nI_1 i]
                      refine ni z ?_
                      rcases fi with ⟨y1, y2⟩ | ⟨y1, y2⟩
                      · refine Or.inl ⟨y1, fun j hj hb => ?_⟩
                        rcases Nat.lt_or_eq_of_le (Nat.le_of_lt_succ hj) with u | rfl
                        · exact y2 j u hb
                        · exact absurd hb t1
                      · exact Or.inr ⟨y1, fun u => y2 (fun j hj hb => u j (by omega) hb)⟩
                · skip
                  have sle := hsle bk.1 (Nat.le_refl _)
                  have wt := wt_iff (bk := bk) (kd := x) hc
                  have keep := fun (y : ¬ candM bk.1 k.1 (amN bk) (fun p => lnM k f bk p bk.1) (rmN f) bk x c ∨ ∃ v, o = some v ∧ v ≤ sumM (amN bk) c bk.1) => nc (ro2, o) ⟨w1, IsLeast_s w2 y⟩
                  refine mt_iload (pc := 79) dX11_call_79 rfl ?_
                  refine mt_aload_n (pc := 81) dX11_call_81 rfl ?_
                  refine mt_mgetI (pc := 82) (x := nI bk.1) gf_X11_167 dX11_call_82 hx rfl h41 ?_
                  refine mt_icmp_ge (pc := 85) (tgt := 149) dX11_call_85 (by decide) (fun c85 => ?_) (fun c85 => ?_)
                  · skip
                    refine mt_iload (pc := 149) dX11_call_149 rfl ?_
                    refine mt_if_eq (pc := 151) (tgt := 184) dX11_call_151 (by decide) (fun c151 => ?_) (fun c151 => ?_)
                    · skip
                      have y := fi.resolve_left (fun y => by rw [y.1] at c151; exact absurd c151 (by decide))
                      have kp : ¬ candM bk.1 k.1 (amN bk) (fun p => lnM k f bk p bk.1) (rmN f) bk x c ∨ ∃ v, o = some v ∧ v ≤ sumM (amN bk) c bk.1 := Or.inl (fun u => y.2 (wt.mp u.2.1))
                      refine mt_iinc (pc := 184) (c9 := 1) dX11_call_184 rfl (by decide) (Nat.le_of_ble_eq_true rfl) rfl ?_
                      refine mt_goto (pc := 187) (tgt := 60) dX11_call_187 (by decide) ?_
                      rw [show (nI c + 1 : Int32) = nI (c + 1) from nI_1 c]
                      exact mt_forget 4 (mt_forget 5 (mt_forget 6 (keep kp)))
                    · skip
                      have y := fi.resolve_right (fun y => c151 y.1)
                      refine mt_iload (pc := 154) dX11_call_154 rfl ?_
                      refine mt_bipush (pc := 156) (v := 99) dX11_call_156 (by decide) ?_
                      refine mt_icmp_gt (pc := 158) (tgt := 184) dX11_call_158 (by decide) (fun c158 => ?_) (fun c158 => ?_)
                      · skip
                        have lt := (nI_ltI (a := 99) (by decide) (by omega)).mp c158
                        have kp : ¬ candM bk.1 k.1 (amN bk) (fun p => lnM k f bk p bk.1) (rmN f) bk x c ∨ ∃ v, o = some v ∧ v ≤ sumM (amN bk) c bk.1 := Or.inl (fun u => by have := u.2.2.2; omega)
                        refine mt_iinc (pc := 184) (c9 := 1) dX11_call_184 rfl (by decide) (Nat.le_of_ble_eq_true rfl) rfl ?_
                        refine mt_goto (pc := 187) (tgt := 60) dX11_call_187 (by decide) ?_
                        rw [show (nI c + 1 : Int32) = nI (c + 1) from nI_1 c]
                        exact mt_forget 4 (mt_forget 5 (mt_forget 6 (keep kp)))
                      · skip
                        have le99 : sumM (amN bk) c bk.1 ≤ 99 := Nat.le_of_not_lt fun u => c158 (nI_lt (a := 99) u (by omega))
                        refine mt_iload_n (pc := 161) dX11_call_161 rfl ?_
                        refine mt_iconst (pc := 162) (v := (-1)) dX11_call_162 (by decide) ?_
                        refine mt_icmp_eq (pc := 163) (tgt := 172) dX11_call_163 (by decide) (fun c163 => ?_) (fun c163 => ?_)
                        · skip
                          have on : o = none := oI_inj (y := none) (fun v hv => by have := ov v hv; omega) (fun v hv => by cases hv) c163
                          have nw : o = none ∨ ∃ v, o = some v ∧ sumM (amN bk) c bk.1 < v := Or.inl on
                          refine mt_aload_n (pc := 172) dX11_call_172 rfl ?_
                          refine mt_iconst (pc := 173) (v := 0) dX11_call_173 (by decide) ?_
                          refine mt_iload_n (pc := 174) dX11_call_174 rfl ?_
                          refine mt_aV (pc := 175) (n_areServed (cs := cs) (bk := bk) hI hc64 bk.1 0 8 n9 (upd g 0 0) (updR (updR A 206 S) 210 ro2) (rmN f) (2 ^ bk.1 - 1 - c) (by omega) (by omega) (by omega) hx (hSV ro2) (by rw [updR_eq]; exact w1) (cSet_0 hc)) cal_X11_areServed vir_X11_areServed ml_X11_391 dX11_call_175 (by omega) (mos_o _ _ _) (by first | assumption | (show _ ≤ d; omega)) ⟨(Nat.le_of_ble_eq_true rfl), (Nat.le_of_ble_eq_true rfl)⟩ rfl rfl (Nat.le_of_ble_eq_true rfl) ?_ ?_
                          · rintro x9 n9 k9 h9
                            obtain ⟨-, -, ⟨⟩, -⟩ := h9
                          · rintro v9 n9 k9 ⟨rfl, z3, ⟨⟩, hz3, ro3, rfl, hro3⟩
                            refine ⟨rfl, ?_⟩
                            rw [updR_updR]
                            have hro3' : ∀ p, p < k.1 → ro3 p = nI (rmN f p) ∧ rmN f p ≤ 99 := fun p hp => by rw [hro3 p hp, updR_eq]; exact w1 p hp
                            refine mt_if_eq (pc := 178) (tgt := 184) dX11_call_178 (by decide) (fun c178 => ?_) (fun c178 => ?_)
                            · skip
                              have no := hz3.resolve_left (fun u => by rw [u.1] at c178; exact absurd c178 (by decide))
                              refine mt_iinc (pc := 184) (c9 := 1) dX11_call_184 rfl (by decide) (Nat.le_of_ble_eq_true rfl) rfl ?_
                              refine mt_goto (pc := 187) (tgt := 60) dX11_call_187 (by decide) ?_
                              rw [show (nI c + 1 : Int32) = nI (c + 1) from nI_1 c]
                              exact mt_forget 4 (mt_forget 5 (mt_forget 6 (nc (ro3, _) ⟨hro3', IsLeast_s w2 (Or.inl (fun u => no.2 u.2.2.1))⟩)))
                            · skip
                              have yes := hz3.resolve_right (fun u => c178 u.1)
                              refine mt_iload (pc := 181) dX11_call_181 rfl ?_
                              refine mt_istore_n (pc := 183) dX11_call_183 (Nat.le_of_ble_eq_true rfl) rfl ?_
                              refine mt_iinc (pc := 184) (c9 := 1) dX11_call_184 rfl (by decide) (Nat.le_of_ble_eq_true rfl) rfl ?_
                              refine mt_goto (pc := 187) (tgt := 60) dX11_call_187 (by decide) ?_
                              rw [show (nI c + 1 : Int32) = nI (c + 1) from nI_1 c]
                              exact mt_forget 4 (mt_forget 5 (mt_forget 6 (nc (ro3, some (sumM (amN bk) c bk.1)) ⟨hro3', IsLeast_n w2 ⟨hc, wt.mpr y.2, yes.2, le99⟩ nw⟩)))
                        · skip
                          obtain ⟨v, rfl⟩ : ∃ v, o = some v := by
                            rcases o with _ | v
                            · exact absurd rfl c163
                            · exact ⟨v, rfl⟩
                          have v99 := ov v rfl
                          refine mt_iload (pc := 166) dX11_call_166 rfl ?_
                          refine mt_iload_n (pc := 168) dX11_call_168 rfl ?_
                          refine mt_icmp_ge (pc := 169) (tgt := 184) dX11_call_169 (by decide) (fun c169 => ?_) (fun c169 => ?_)
                          · skip
                            have kp : ¬ candM bk.1 k.1 (amN bk) (fun p => lnM k f bk p bk.1) (rmN f) bk x c ∨ ∃ u, some v = some u ∧ u ≤ sumM (amN bk) c bk.1 := Or.inr ⟨v, rfl, Nat.le_of_not_lt fun u => nI_ge u (by omega) c169⟩
                            refine mt_iinc (pc := 184) (c9 := 1) dX11_call_184 rfl (by decide) (Nat.le_of_ble_eq_true rfl) rfl ?_
                            refine mt_goto (pc := 187) (tgt := 60) dX11_call_187 (by decide) ?_
                            rw [show (nI c + 1 : Int32) = nI (c + 1) from nI_1 c]
                            exact mt_forget 4 (mt_forget 5 (mt_forget 6 (keep kp)))
                          · skip
                            have nw : some v = none ∨ ∃ u, some v = some u ∧ sumM (amN bk) c bk.1 < u := Or.inr ⟨v, rfl, Nat.lt_of_not_le fun u => c169 (nI_le u (by omega))⟩
                            refine mt_aload_n (pc := 172) dX11_call_172 rfl ?_
                            refine mt_iconst (pc := 173) (v := 0) dX11_call_173 (by decide) ?_
                            refine mt_iload_n (pc := 174) dX11_call_174 rfl ?_
                            refine mt_aV (pc := 175) (n_areServed (cs := cs) (bk := bk) hI hc64 bk.1 0 8 n9 (upd g 0 0) (updR (updR A 206 S) 210 ro2) (rmN f) (2 ^ bk.1 - 1 - c) (by omega) (by omega) (by omega) hx (hSV ro2) (by rw [updR_eq]; exact w1) (cSet_0 hc)) cal_X11_areServed vir_X11_areServed ml_X11_391 dX11_call_175 (by omega) (mos_o _ _ _) (by first | assumption | (show _ ≤ d; omega)) ⟨(Nat.le_of_ble_eq_true rfl), (Nat.le_of_ble_eq_true rfl)⟩ rfl rfl (Nat.le_of_ble_eq_true rfl) ?_ ?_
                            · rintro x9 n9 k9 h9
                              obtain ⟨-, -, ⟨⟩, -⟩ := h9
                            · rintro v9 n9 k9 ⟨rfl, z3, ⟨⟩, hz3, ro3, rfl, hro3⟩
                              refine ⟨rfl, ?_⟩
                              rw [updR_updR]
                              have hro3' : ∀ p, p < k.1 → ro3 p = nI (rmN f p) ∧ rmN f p ≤ 99 := fun p hp => by rw [hro3 p hp, updR_eq]; exact w1 p hp
                              refine mt_if_eq (pc := 178) (tgt := 184) dX11_call_178 (by decide) (fun c178 => ?_) (fun c178 => ?_)
                              · skip
                                have no := hz3.resolve_left (fun u => by rw [u.1] at c178; exact absurd c178 (by decide))
                                refine mt_iinc (pc := 184) (c9 := 1) dX11_call_184 rfl (by decide) (Nat.le_of_ble_eq_true rfl) rfl ?_
                                refine mt_goto (pc := 187) (tgt := 60) dX11_call_187 (by decide) ?_
                                rw [show (nI c + 1 : Int32) = nI (c + 1) from nI_1 c]
                                exact mt_forget 4 (mt_forget 5 (mt_forget 6 (nc (ro3, _) ⟨hro3', IsLeast_s w2 (Or.inl (fun u => no.2 u.2.2.1))⟩)))
                              · skip
                                have yes := hz3.resolve_right (fun u => c178 u.1)
                                refine mt_iload (pc := 181) dX11_call_181 rfl ?_
                                refine mt_istore_n (pc := 183) dX11_call_183 (Nat.le_of_ble_eq_true rfl) rfl ?_
                                refine mt_iinc (pc := 184) (c9 := 1) dX11_call_184 rfl (by decide) (Nat.le_of_ble_eq_true rfl) rfl ?_
                                refine mt_goto (pc := 187) (tgt := 60) dX11_call_187 (by decide) ?_
                                rw [show (nI c + 1 : Int32) = nI (c + 1) from nI_1 c]
                                exact mt_forget 4 (mt_forget 5 (mt_forget 6 (nc (ro3, some (sumM (amN bk) c bk.1)) ⟨hro3', IsLeast_n w2 ⟨hc, wt.mpr y.2, yes.2, le99⟩ nw⟩)))
                  · exact absurd (nI_le (Nat.le_refl _) (by first | omega | decide)) c85
            · skip
              obtain ⟨ro2, o⟩ := w
              obtain ⟨w1, w2⟩ := fc
              dsimp only at w1 w2 ⊢
              have eo : o = o9 := IsLeast_u w2 (by
                have e : (fun s => s < 2 ^ bk.1 ∧ candM bk.1 k.1 (amN bk) (fun p => lnM k f bk p bk.1) (rmN f) bk x s) = candM bk.1 k.1 (amN bk) (fun p => lnM k f bk p bk.1) (rmN f) bk x := by
                  funext s
                  exact propext ⟨fun u => u.2, fun u => ⟨u.1, u⟩⟩
                rw [e]
                exact ho)
              refine mt_iload_n (pc := 60) dX11_call_60 rfl ?_
              refine mt_iconst (pc := 61) (v := 1) dX11_call_61 (by decide) ?_
              refine mt_aload_n (pc := 62) dX11_call_62 rfl ?_
              refine mt_mgetI (pc := 63) (x := nI bk.1) gf_X11_167 dX11_call_63 hx rfl h41 ?_
              refine mt_ishl (pc := 66) dX11_call_66 ?_
              rw [shl1 _ (by omega)]
              refine mt_icmp_ge (pc := 67) (tgt := 190) dX11_call_67 (by decide) (fun c67 => ?_) (fun c67 => ?_)
              · skip
                refine mt_iload_n (pc := 190) dX11_call_190 rfl ?_
                exact mt_iret rfl dX11_call_191 (Nat.le_of_ble_eq_true rfl) (Nat.le_of_ble_eq_true rfl) (P_mqv (c0 := 1) (c1 := 1) (r := r) (by rw [hr, eo]) GQ_0 (fun j b1 b2 b3 b4 b5 b6 => by rw [updR_ne b4, updR_ne b3]))
              · exact absurd (nI_le (Nat.le_refl _) (by first | omega | decide)) c67
          · exact absurd (nI_le (Nat.le_refl _) (by first | omega | decide)) c33
    · exact absurd c17 (by decide)
  · rw [ifR_n hok]
    refine mm_start (lo := [some (.ref 188), some (.int x), none, none, none, none, none]) pn_X11 rfl rfl (Nat.le_of_ble_eq_true rfl) ?_
    refine mt_aload_n (pc := 0) dX11_call_0 rfl ?_
    refine mt_iconst (pc := 1) (v := 0) dX11_call_1 (by decide) ?_
    refine mt_mput (pc := 2) pf_X11_3 dX11_call_2 hx rfl ?_
    refine mt_aload_n (pc := 5) dX11_call_5 rfl ?_
    refine mt_iload_n (pc := 6) dX11_call_6 rfl ?_
    refine mt_iconst (pc := 7) (v := 0) dX11_call_7 (by decide) ?_
    refine mt_iconst (pc := 8) (v := 5) dX11_call_8 (by decide) ?_
    refine mt_cS (pc := 9) (n_within) cal_X11_within sta_X11_within ml_X11_348 dX11_call_9 (by first | assumption | (show _ ≤ d; omega)) ⟨(Nat.le_of_ble_eq_true rfl), (Nat.le_of_ble_eq_true rfl)⟩ rfl rfl (Nat.le_of_ble_eq_true rfl) ?_
    rw [in_nw hok]
    refine mt_iconst (pc := 12) (v := 1) dX11_call_12 (by decide) ?_
    refine mt_iconst (pc := 13) (v := 1) dX11_call_13 (by decide) ?_
    refine mt_cV (pc := 14) (n_mayN (d := 0) (q := 1) hx (by decide) rfl rfl (by decide)) cal_X11_may vir_X11_may ml_X11_190 dX11_call_14 (by omega) (mos_o _ _ _) (by first | assumption | (show _ ≤ d; omega)) ⟨(Nat.le_of_ble_eq_true rfl), (Nat.le_of_ble_eq_true rfl)⟩ rfl rfl (Nat.le_of_ble_eq_true rfl) ?_
    refine mt_if_ne (pc := 17) (tgt := 22) dX11_call_17 (by decide) (fun c17 => ?_) (fun c17 => ?_)
    · exact absurd rfl c17
    · skip
      refine mt_iconst (pc := 20) (v := 0) dX11_call_20 (by decide) ?_
      exact mt_iret rfl dX11_call_21 (Nat.le_of_ble_eq_true rfl) (Nat.le_of_ble_eq_true rfl) (P_mq1 (c0 := 1) (c1 := 1) (r := .inl 1) rfl)
end MCA2
