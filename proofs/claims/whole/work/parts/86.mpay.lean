/-! The reference: pays, a STEP. -/
theorem pay3_3 {k : CS} {cs : List Nat} {f : Nat → Int32} {i : Nat} (h1 : lsoul f i < 6) (h2 : lslab f i < 8) : pay3 k cs f i 3 = f 3 := by
  unfold pay3 pay2 pay1
  split
  · rw [upd_ne (by omega), upd_ne (by omega)]
  · rw [upd_ne (by omega), upd_ne (by omega), upd_ne (by omega)]
theorem pay_RR3 {k : CS} {cs : List Nat} {s f : Nat → Int32} {i : Nat} (hR : RR s f) (hI : RI k f) (hi : i < nlo f) :
    (f (24 + 6 * i + 5) = 1 → RR (upd (upd s (22 + lsoul f i) (f (18 + lsoul f i) - owI k cs f i)) (lslab f i) (min99 (f (4 + lslab f i) + owI k cs f i))) (pay3 k cs f i)) ∧ (¬ f (24 + 6 * i + 5) = 1 → RR (upd (upd (upd s (22 + lsoul f i) (f (18 + lsoul f i) - owI k cs f i)) (lslab f i) (min99 (f (4 + lslab f i) + owI k cs f i))) (16 + lsoul f i) (min9 (f (12 + lsoul f i) + 1))) (pay3 k cs f i)) := by
  obtain ⟨hn10, -, hw⟩ := hI.nl
  have so := hw.so hi
  have sl := hw.sl hi
  have e1 : pay2 k cs f i = upd (upd f (18 + lsoul f i) (f (18 + lsoul f i) - owI k cs f i)) (4 + lslab f i) (min99 (f (4 + lslab f i) + owI k cs f i)) := by
    unfold pay2 pay1
    rw [show upd f (18 + lsoul f i) (f (18 + lsoul f i) - owI k cs f i) (4 + lslab f i) = f (4 + lslab f i) from upd_ne (by omega)]
  have b1 := RR_upd (x := f (18 + lsoul f i) - owI k cs f i) (i := 22 + lsoul f i) (j := 18 + lsoul f i) hn10 hR (Or.inr (Or.inl ⟨by omega, by omega, by omega⟩))
  have b2 := RR_upd (x := min99 (f (4 + lslab f i) + owI k cs f i)) (i := lslab f i) (j := 4 + lslab f i) (by rw [nlo_upd (by omega)]; exact hn10) b1 (Or.inl ⟨by omega, by omega, by omega⟩)
  rw [← e1] at b2
  have e5 : pay2 k cs f i (24 + 6 * i + 5) = f (24 + 6 * i + 5) := by rw [e1, upd_ne (by omega), upd_ne (by omega)]
  have e12 : pay2 k cs f i (12 + lsoul f i) = f (12 + lsoul f i) := by rw [e1, upd_ne (by omega), upd_ne (by omega)]
  unfold pay3
  rw [e5, e12]
  refine ⟨fun z => ?_, fun z => ?_⟩
  · rw [if_pos z]
    exact b2
  · rw [if_neg z]
    exact RR_upd (by rw [e1, nlo_upd (by omega), nlo_upd (by omega)]; exact hn10) b2 (Or.inr (Or.inl ⟨by omega, by omega, by omega⟩))
theorem pay3_n {k : CS} {cs : List Nat} {f : Nat → Int32} {i : Nat} (h1 : lsoul f i < 6) (h2 : lslab f i < 8) : nlo (pay3 k cs f i) = nlo f := by
  unfold nlo
  rw [pay3_3 h1 h2]
/-- the row holds the STEPS, five numbers each -/
def MStep (R : Nat → Int32) (i : Nat) (t : ST) : Prop := R (5 * i) = nI t.1 ∧ (∀ j x, t.2.1[j]? = some x → R (5 * i + 1 + j) = nI x) ∧ (t.1 = 6 → R (5 * i + 2) = nI (5 * t.2.2))
section MPAY
variable {G : mm_G} {l : Launch} {d nx : Nat} {h : Nat → mm_E} {g : MG} {A : MA} {k : CS} {cs : List Nat} {f : Nat → Int32} {N : Nat}
theorem n_paysN {i : Nat} (hx : 215 ≤ nx) (hi : nlo f ≤ i) (hi9 : i < 1000) (hR : RR (A 206) f) (hI : RI k f) : mm_Con G l yX11_pays cX11_pays 6 (some .boolean) d 0 0 [.ref 188, .int (nI i)] nx (mos h g A) (P_mrow 0 f nx h g A) := by
  obtain ⟨hn10, e3, -⟩ := hI.nl
  refine mm_start (lo := [some (.ref 188), some (.int (nI i)), none, none, none, none]) pn_X11 rfl rfl (Nat.le_of_ble_eq_true rfl) ?_
  refine mt_iload_n (pc := 0) dX11_pays_0 rfl ?_
  refine mt_aload_n (pc := 1) dX11_pays_1 rfl ?_
  refine mt_mget (pc := 2) gf_X11_68 dX11_pays_2 hx rfl ?_
  refine mt_bipush (pc := 5) (v := 88) dX11_pays_5 (by decide) ?_
  refine mt_mald (pc := 7) (i := 206) (j := 88) (x := nI (nlo f)) dX11_pays_7 hx rfl rfl (by show _ < 91; omega) (by rw [hR.2.2.2.2.2.1]; exact e3) ?_
  refine mt_icmp_lt (pc := 8) (tgt := 13) dX11_pays_8 (by decide) (fun c8 => ?_) (fun c8 => ?_)
  · exact absurd c8 (nI_nlt hi (by omega))
  · skip
    refine mt_iconst (pc := 11) (v := 0) dX11_pays_11 (by decide) ?_
    exact mt_zret rfl (by first | exact Or.inl rfl | exact Or.inr rfl) dX11_pays_12 (Nat.le_of_ble_eq_true rfl) (Nat.le_of_ble_eq_true rfl) ⟨rfl, rfl, A, rfl, SD_rf, hR⟩
theorem n_paysY {i n : Nat} (hd : 5 ≤ d) (hx : 215 ≤ nx) (hn : nlo f = n) (hi : i < n) (hQ : MQs k cs g A) (hR : RR (A 206) f) (hI : RI k f) : mm_Con G l yX11_pays cX11_pays 6 (some .boolean) d 0 0 [.ref 188, .int (nI i)] nx (mos h g A) (P_mrow (if f (18 + lsoul f i) < owI k cs f i then 0 else 1) (if f (18 + lsoul f i) < owI k cs f i then f else payF k cs f i) nx h g A) := by
  obtain ⟨hn10, e3, hw⟩ := hI.nl
  have hi' : i < nlo f := by omega
  have so := hw.so hi'
  have sl := hw.sl hi'
  obtain ⟨l1, l2, l5, -⟩ := hI.2.2.2.2.2.2 i hi'
  obtain ⟨s, hs⟩ : ∃ s, A 206 = s := ⟨_, rfl⟩
  rw [hn] at hn10 e3
  have hRs : RR s f := hs ▸ hR
  have e88 : s 88 = nI n := hRs.2.2.2.2.2.1.trans e3
  have e5 : s (28 + 6 * i + 5) = f (24 + 6 * i + 5) := hRs.ln hi' (by decide)
  have ep : s (22 + lsoul f i) = f (18 + lsoul f i) := hRs.2.2.2.1 _ so.2
  have eu : s (lslab f i) = f (4 + lslab f i) := hRs.1 _ sl.2
  have es : s (16 + lsoul f i) = f (12 + lsoul f i) := hRs.2.2.1 _ so.2
  obtain ⟨r3a, r3b⟩ := pay_RR3 (cs := cs) hRs hI hi'
  have e33 : pay3 k cs f i 3 = nI n := (pay3_3 so.2 sl.2).trans e3
  have n3 : nlo (pay3 k cs f i) = n := (pay3_n so.2 sl.2).trans hn
  refine mm_start (lo := [some (.ref 188), some (.int (nI i)), none, none, none, none]) pn_X11 rfl rfl (Nat.le_of_ble_eq_true rfl) ?_
  refine mt_iload_n (pc := 0) dX11_pays_0 rfl ?_
  refine mt_aload_n (pc := 1) dX11_pays_1 rfl ?_
  refine mt_mget (pc := 2) gf_X11_68 dX11_pays_2 hx rfl ?_
  refine mt_bipush (pc := 5) (v := 88) dX11_pays_5 (by decide) ?_
  refine mt_mald (pc := 7) (i := 206) (j := 88) (x := nI n) dX11_pays_7 hx rfl rfl (by show _ < 91; omega) (by rw [hs]; exact e88) ?_
  refine mt_icmp_lt (pc := 8) (tgt := 13) dX11_pays_8 (by decide) (fun c8 => ?_) (fun c8 => ?_)
  · skip
    refine mt_aload_n (pc := 13) dX11_pays_13 rfl ?_
    refine mt_iload_n (pc := 14) dX11_pays_14 rfl ?_
    refine mt_iconst (pc := 15) (v := 0) dX11_pays_15 (by decide) ?_
    refine mt_cV (pc := 16) (n_loanOf (d := 0) (i := i) (k := 0) hx (by omega) (by decide)) cal_X11_loanOf vir_X11_loanOf ml_X11_314 dX11_pays_16 (by omega) (mos_o _ _ _) (by first | assumption | (show _ ≤ d; omega)) ⟨(Nat.le_of_ble_eq_true rfl), (Nat.le_of_ble_eq_true rfl)⟩ rfl rfl (Nat.le_of_ble_eq_true rfl) ?_
    rw [(hR.ln hi' (by decide)).trans so.1]
    refine mt_istore_n (pc := 19) dX11_pays_19 (Nat.le_of_ble_eq_true rfl) rfl ?_
    refine mt_aload_n (pc := 20) dX11_pays_20 rfl ?_
    refine mt_iload_n (pc := 21) dX11_pays_21 rfl ?_
    refine mt_iconst (pc := 22) (v := 1) dX11_pays_22 (by decide) ?_
    refine mt_cV (pc := 23) (n_loanOf (d := 0) (i := i) (k := 1) hx (by omega) (by decide)) cal_X11_loanOf vir_X11_loanOf ml_X11_314 dX11_pays_23 (by omega) (mos_o _ _ _) (by first | assumption | (show _ ≤ d; omega)) ⟨(Nat.le_of_ble_eq_true rfl), (Nat.le_of_ble_eq_true rfl)⟩ rfl rfl (Nat.le_of_ble_eq_true rfl) ?_
    rw [(hR.ln hi' (by decide)).trans sl.1]
    refine mt_istore_n (pc := 26) dX11_pays_26 (Nat.le_of_ble_eq_true rfl) rfl ?_
    refine mt_aload_n (pc := 27) dX11_pays_27 rfl ?_
    refine mt_iload_n (pc := 28) dX11_pays_28 rfl ?_
    refine mt_aV (pc := 29) (n_owes (d := 4) (cs := cs) (Nat.le_refl 4) hx hQ hR hI hi') cal_X11_owes vir_X11_owes ml_X11_328 dX11_pays_29 (by omega) (mos_o _ _ _) (by first | assumption | (show _ ≤ d; omega)) ⟨(Nat.le_of_ble_eq_true rfl), (Nat.le_of_ble_eq_true rfl)⟩ rfl rfl (Nat.le_of_ble_eq_true rfl) ?_ ?_
    · rintro x9 n9 k9 h9
      obtain ⟨⟨⟩, -⟩ := h9
    · rintro v9 n9 k9 ⟨⟨⟩, rfl, A1, rfl, hS⟩
      refine ⟨rfl, ?_⟩
      have hs1 : A1 206 = s := (hS 206 (by decide) (by decide)).trans hs
      rw [show mos h g A1 = mos h g (updR A1 206 s) by rw [updR_self hs1]]
      refine mt_istore (pc := 32) dX11_pays_32 (Nat.le_of_ble_eq_true rfl) rfl ?_
      refine mt_iload (pc := 34) dX11_pays_34 rfl ?_
      refine mt_aload_n (pc := 36) dX11_pays_36 rfl ?_
      refine mt_mget (pc := 37) gf_X11_68 dX11_pays_37 hx rfl ?_
      refine mt_bipush (pc := 40) (v := 22) dX11_pays_40 (by decide) ?_
      refine mt_iload_n (pc := 42) dX11_pays_42 rfl ?_
      refine mt_iaddN (pc := 43) (a := 22) (b := lsoul f i) dX11_pays_43 rfl rfl ?_
      refine mt_mald2 (pc := 44) (i := 206) (j := 22 + (lsoul f i)) (x := f (18 + lsoul f i)) dX11_pays_44 hx rfl rfl (by show _ < 91; omega) ep ?_
      refine mt_icmp_le (pc := 45) (tgt := 50) dX11_pays_45 (by decide) (fun c45 => ?_) (fun c45 => ?_)
      · skip
        rw [if_neg (Int32.not_lt.mpr c45), if_neg (Int32.not_lt.mpr c45)]
        refine mt_aload_n (pc := 50) dX11_pays_50 rfl ?_
        refine mt_mget (pc := 51) gf_X11_68 dX11_pays_51 hx rfl ?_
        refine mt_bipush (pc := 54) (v := 22) dX11_pays_54 (by decide) ?_
        refine mt_iload_n (pc := 56) dX11_pays_56 rfl ?_
        refine mt_iaddN (pc := 57) (a := 22) (b := lsoul f i) dX11_pays_57 rfl rfl ?_
        refine mt_dup2 (pc := 58) dX11_pays_58 rfl rfl ?_
        refine mt_mald2 (pc := 59) (i := 206) (j := 22 + (lsoul f i)) (x := f (18 + lsoul f i)) dX11_pays_59 hx rfl rfl (by show _ < 91; omega) ep ?_
        refine mt_iload (pc := 60) dX11_pays_60 rfl ?_
        refine mt_isub (pc := 62) dX11_pays_62 ?_
        refine mt_mast2 (pc := 63) (i := 206) (j := 22 + (lsoul f i)) dX11_pays_63 hx rfl rfl (by show _ < 91; omega) ?_
        refine mt_aload_n (pc := 64) dX11_pays_64 rfl ?_
        refine mt_mget (pc := 65) gf_X11_68 dX11_pays_65 hx rfl ?_
        refine mt_iconst (pc := 68) (v := 0) dX11_pays_68 (by decide) ?_
        refine mt_iload_n (pc := 69) dX11_pays_69 rfl ?_
        refine mt_iaddN (pc := 70) (a := 0) (b := lslab f i) dX11_pays_70 rfl rfl ?_
        refine mt_aload_n (pc := 71) dX11_pays_71 rfl ?_
        refine mt_mget (pc := 72) gf_X11_68 dX11_pays_72 hx rfl ?_
        refine mt_iconst (pc := 75) (v := 0) dX11_pays_75 (by decide) ?_
        refine mt_iload_n (pc := 76) dX11_pays_76 rfl ?_
        refine mt_iaddN (pc := 77) (a := 0) (b := lslab f i) dX11_pays_77 rfl rfl ?_
        refine mt_mald2 (pc := 78) (i := 206) (j := lslab f i) (x := f (4 + lslab f i)) dX11_pays_78 hx rfl (by rw [Nat.zero_add]) (by show _ < 91; omega) (by rw [upd_ne (by omega)]; exact eu) ?_
        refine mt_iload (pc := 79) dX11_pays_79 rfl ?_
        refine mt_iadd (pc := 81) dX11_pays_81 ?_
        refine mt_bipush (pc := 82) (v := 99) dX11_pays_82 (by decide) ?_
        refine mt_cS (pc := 84) (n_held) cal_X11_held sta_X11_held ml_X11_331 dX11_pays_84 (by first | assumption | (show _ ≤ d; omega)) ⟨(Nat.le_of_ble_eq_true rfl), (Nat.le_of_ble_eq_true rfl)⟩ rfl rfl (Nat.le_of_ble_eq_true rfl) ?_
        rw [held_99]
        refine mt_mast2 (pc := 87) (i := 206) (j := lslab f i) dX11_pays_87 hx rfl (by rw [Nat.zero_add]) (by show _ < 91; omega) ?_
        refine mt_aload_n (pc := 88) dX11_pays_88 rfl ?_
        refine mt_iload_n (pc := 89) dX11_pays_89 rfl ?_
        refine mt_iconst (pc := 90) (v := 5) dX11_pays_90 (by decide) ?_
        refine mt_cV (pc := 91) (n_loanOf (d := 0) (i := i) (k := 5) hx (by omega) (by decide)) cal_X11_loanOf vir_X11_loanOf ml_X11_314 dX11_pays_91 (by omega) (mos_o _ _ _) (by first | assumption | (show _ ≤ d; omega)) ⟨(Nat.le_of_ble_eq_true rfl), (Nat.le_of_ble_eq_true rfl)⟩ rfl rfl (Nat.le_of_ble_eq_true rfl) ?_
        rw [updR_eq, upd_ne (by omega), upd_ne (by omega), e5]
        refine mt_if_ne (pc := 94) (tgt := 122) dX11_pays_94 (by decide) (fun c94 => ?_) (fun c94 => ?_)
        · skip
          have hR3 := r3a (l5.resolve_left c94)
          generalize upd (upd s (22 + lsoul f i) (f (18 + lsoul f i) - owI k cs f i)) (lslab f i) (min99 (f (4 + lslab f i) + owI k cs f i)) = S3 at hR3 ⊢
          refine mt_aload_n (pc := 122) dX11_pays_122 rfl ?_
          refine mt_mget (pc := 123) gf_X11_68 dX11_pays_123 hx rfl ?_
          refine mt_bipush (pc := 126) (v := 88) dX11_pays_126 (by decide) ?_
          refine mt_dup2 (pc := 128) dX11_pays_128 rfl rfl ?_
          refine mt_mald2 (pc := 129) (i := 206) (j := 88) (x := nI n) dX11_pays_129 hx rfl rfl (by show _ < 91; omega) (hR3.2.2.2.2.2.1.trans e33) ?_
          refine mt_iconst (pc := 130) (v := 1) dX11_pays_130 (by decide) ?_
          refine mt_isubN (pc := 131) (a := n) (b := 1) dX11_pays_131 rfl rfl (by omega) ?_
          refine mt_mast2 (pc := 132) (i := 206) (j := 88) dX11_pays_132 hx rfl rfl (by show _ < 91; omega) ?_
          refine mt_bipush (pc := 133) (v := 28) dX11_pays_133 (by decide) ?_
          refine mt_bipush (pc := 135) (v := 6) dX11_pays_135 (by decide) ?_
          refine mt_iload_n (pc := 137) dX11_pays_137 rfl ?_
          refine mt_imulN (pc := 138) (a := 6) (b := i) dX11_pays_138 rfl rfl ?_
          refine mt_iaddN (pc := 139) (a := 28) (b := 6 * i) dX11_pays_139 rfl rfl ?_
          refine mt_istore (pc := 140) dX11_pays_140 (Nat.le_of_ble_eq_true rfl) rfl ?_
          rw [← shF_0 (upd S3 88 (nI (n - 1))) (28 + 6 * i)]
          refine mt_for (pc := 142) (H := fun c => mos h g (updR A1 206 (shF (upd S3 88 (nI (n - 1))) (28 + 6 * i) c))) (L := fun c => [some (.ref 188), some (.int (nI i)), some (.int (nI (lsoul f i))), some (.int (nI (lslab f i))), some (.int (owI k cs f i)), some (.int (nI (28 + 6 * i + c)))]) (6 * (n - 1 - i)) (fun c hc nc => ?_) ?_
          · skip
            refine mt_iload (pc := 142) dX11_pays_142 rfl ?_
            refine mt_bipush (pc := 144) (v := 28) dX11_pays_144 (by decide) ?_
            refine mt_bipush (pc := 146) (v := 6) dX11_pays_146 (by decide) ?_
            refine mt_aload_n (pc := 148) dX11_pays_148 rfl ?_
            refine mt_mget (pc := 149) gf_X11_68 dX11_pays_149 hx rfl ?_
            refine mt_bipush (pc := 152) (v := 88) dX11_pays_152 (by decide) ?_
            refine mt_mald2 (pc := 154) (i := 206) (j := 88) (x := nI (n - 1)) dX11_pays_154 hx rfl rfl (by show _ < 91; omega) (by unfold shF; rw [if_neg (by omega), upd_eq]) ?_
            refine mt_imulN (pc := 155) (a := 6) (b := n - 1) dX11_pays_155 rfl rfl ?_
            refine mt_iaddN (pc := 156) (a := 28) (b := 6 * (n - 1)) dX11_pays_156 rfl rfl ?_
            refine mt_icmp_ge (pc := 157) (tgt := 183) dX11_pays_157 (by decide) (fun c157 => ?_) (fun c157 => ?_)
            · exact absurd c157 (nI_ge (by omega) (by omega))
            · skip
              refine mt_aload_n (pc := 160) dX11_pays_160 rfl ?_
              refine mt_mget (pc := 161) gf_X11_68 dX11_pays_161 hx rfl ?_
              refine mt_iload (pc := 164) dX11_pays_164 rfl ?_
              refine mt_aload_n (pc := 166) dX11_pays_166 rfl ?_
              refine mt_mget (pc := 167) gf_X11_68 dX11_pays_167 hx rfl ?_
              refine mt_iload (pc := 170) dX11_pays_170 rfl ?_
              refine mt_bipush (pc := 172) (v := 6) dX11_pays_172 (by decide) ?_
              refine mt_iaddN (pc := 174) (a := 28 + 6 * i + c) (b := 6) dX11_pays_174 rfl rfl ?_
              refine mt_mald2 (pc := 175) (i := 206) (j := (28 + 6 * i + c) + 6) dX11_pays_175 hx rfl rfl (by show _ < 91; omega) rfl ?_
              refine mt_mast2 (pc := 176) (i := 206) (j := 28 + 6 * i + c) dX11_pays_176 hx rfl rfl (by show _ < 91; omega) ?_
              refine mt_iinc (pc := 177) (c9 := 1) dX11_pays_177 rfl (by decide) (Nat.le_of_ble_eq_true rfl) rfl ?_
              refine mt_goto (pc := 180) (tgt := 142) dX11_pays_180 (by decide) ?_
              rw [show (nI (28 + 6 * i + c) + 1 : Int32) = nI (28 + 6 * i + (c + 1)) from nI_1 _, shF_s]
              exact nc
          · skip
            refine mt_iload (pc := 142) dX11_pays_142 rfl ?_
            refine mt_bipush (pc := 144) (v := 28) dX11_pays_144 (by decide) ?_
            refine mt_bipush (pc := 146) (v := 6) dX11_pays_146 (by decide) ?_
            refine mt_aload_n (pc := 148) dX11_pays_148 rfl ?_
            refine mt_mget (pc := 149) gf_X11_68 dX11_pays_149 hx rfl ?_
            refine mt_bipush (pc := 152) (v := 88) dX11_pays_152 (by decide) ?_
            refine mt_mald2 (pc := 154) (i := 206) (j := 88) (x := nI (n - 1)) dX11_pays_154 hx rfl rfl (by show _ < 91; omega) (by unfold shF; rw [if_neg (by omega), upd_eq]) ?_
            refine mt_imulN (pc := 155) (a := 6) (b := n - 1) dX11_pays_155 rfl rfl ?_
            refine mt_iaddN (pc := 156) (a := 28) (b := 6 * (n - 1)) dX11_pays_156 rfl rfl ?_
            refine mt_icmp_ge (pc := 157) (tgt := 183) dX11_pays_157 (by decide) (fun c157 => ?_) (fun c157 => ?_)
            · skip
              refine mt_aload_n (pc := 183) dX11_pays_183 rfl ?_
              refine mt_mget (pc := 184) gf_X11_68 dX11_pays_184 hx rfl ?_
              refine mt_bipush (pc := 187) (v := 89) dX11_pays_187 (by decide) ?_
              refine mt_dup2 (pc := 189) dX11_pays_189 rfl rfl ?_
              refine mt_mald2 (pc := 190) (i := 206) (j := 89) (x := pay3 k cs f i 2) dX11_pays_190 hx rfl rfl (by show _ < 91; omega) (by unfold shF; rw [if_neg (by omega), upd_ne (by decide)]; exact hR3.2.2.2.2.2.2.1) ?_
              refine mt_iconst (pc := 191) (v := 1) dX11_pays_191 (by decide) ?_
              refine mt_iadd (pc := 192) dX11_pays_192 ?_
              refine mt_mast2 (pc := 193) (i := 206) (j := 89) dX11_pays_193 hx rfl rfl (by show _ < 91; omega) ?_
              refine mt_iconst (pc := 194) (v := 1) dX11_pays_194 (by decide) ?_
              exact mt_zret rfl (by first | exact Or.inl rfl | exact Or.inr rfl) dX11_pays_195 (Nat.le_of_ble_eq_true rfl) (Nat.le_of_ble_eq_true rfl) ⟨rfl, rfl, _, rfl, SD_s hS.sd, by rw [updR_eq]; exact RR_end hR3 n3 e33 hn10 hi⟩
            · exact absurd (nI_le (by omega) (by omega)) c157
        · skip
          refine mt_aload_n (pc := 97) dX11_pays_97 rfl ?_
          refine mt_mget (pc := 98) gf_X11_68 dX11_pays_98 hx rfl ?_
          refine mt_bipush (pc := 101) (v := 16) dX11_pays_101 (by decide) ?_
          refine mt_iload_n (pc := 103) dX11_pays_103 rfl ?_
          refine mt_iaddN (pc := 104) (a := 16) (b := lsoul f i) dX11_pays_104 rfl rfl ?_
          refine mt_aload_n (pc := 105) dX11_pays_105 rfl ?_
          refine mt_mget (pc := 106) gf_X11_68 dX11_pays_106 hx rfl ?_
          refine mt_bipush (pc := 109) (v := 16) dX11_pays_109 (by decide) ?_
          refine mt_iload_n (pc := 111) dX11_pays_111 rfl ?_
          refine mt_iaddN (pc := 112) (a := 16) (b := lsoul f i) dX11_pays_112 rfl rfl ?_
          refine mt_mald2 (pc := 113) (i := 206) (j := 16 + (lsoul f i)) (x := f (12 + lsoul f i)) dX11_pays_113 hx rfl rfl (by show _ < 91; omega) (by rw [upd_ne (by omega), upd_ne (by omega)]; exact es) ?_
          refine mt_iconst (pc := 114) (v := 1) dX11_pays_114 (by decide) ?_
          refine mt_iadd (pc := 115) dX11_pays_115 ?_
          refine mt_bipush (pc := 116) (v := 9) dX11_pays_116 (by decide) ?_
          refine mt_cS (pc := 118) (n_held) cal_X11_held sta_X11_held ml_X11_331 dX11_pays_118 (by first | assumption | (show _ ≤ d; omega)) ⟨(Nat.le_of_ble_eq_true rfl), (Nat.le_of_ble_eq_true rfl)⟩ rfl rfl (Nat.le_of_ble_eq_true rfl) ?_
          rw [held_9]
          refine mt_mast2 (pc := 121) (i := 206) (j := 16 + (lsoul f i)) dX11_pays_121 hx rfl rfl (by show _ < 91; omega) ?_
          have hR3 := r3b (by rw [c94]; decide)
          generalize upd (upd (upd s (22 + lsoul f i) (f (18 + lsoul f i) - owI k cs f i)) (lslab f i) (min99 (f (4 + lslab f i) + owI k cs f i))) (16 + lsoul f i) (min9 (f (12 + lsoul f i) + 1)) = S3 at hR3 ⊢
          refine mt_aload_n (pc := 122) dX11_pays_122 rfl ?_
          refine mt_mget (pc := 123) gf_X11_68 dX11_pays_123 hx rfl ?_
          refine mt_bipush (pc := 126) (v := 88) dX11_pays_126 (by decide) ?_
          refine mt_dup2 (pc := 128) dX11_pays_128 rfl rfl ?_
          refine mt_mald2 (pc := 129) (i := 206) (j := 88) (x := nI n) dX11_pays_129 hx rfl rfl (by show _ < 91; omega) (hR3.2.2.2.2.2.1.trans e33) ?_
          refine mt_iconst (pc := 130) (v := 1) dX11_pays_130 (by decide) ?_
          refine mt_isubN (pc := 131) (a := n) (b := 1) dX11_pays_131 rfl rfl (by omega) ?_
          refine mt_mast2 (pc := 132) (i := 206) (j := 88) dX11_pays_132 hx rfl rfl (by show _ < 91; omega) ?_
          refine mt_bipush (pc := 133) (v := 28) dX11_pays_133 (by decide) ?_
          refine mt_bipush (pc := 135) (v := 6) dX11_pays_135 (by decide) ?_
          refine mt_iload_n (pc := 137) dX11_pays_137 rfl ?_
          refine mt_imulN (pc := 138) (a := 6) (b := i) dX11_pays_138 rfl rfl ?_
          refine mt_iaddN (pc := 139) (a := 28) (b := 6 * i) dX11_pays_139 rfl rfl ?_
          refine mt_istore (pc := 140) dX11_pays_140 (Nat.le_of_ble_eq_true rfl) rfl ?_
          rw [← shF_0 (upd S3 88 (nI (n - 1))) (28 + 6 * i)]
          refine mt_for (pc := 142) (H := fun c => mos h g (updR A1 206 (shF (upd S3 88 (nI (n - 1))) (28 + 6 * i) c))) (L := fun c => [some (.ref 188), some (.int (nI i)), some (.int (nI (lsoul f i))), some (.int (nI (lslab f i))), some (.int (owI k cs f i)), some (.int (nI (28 + 6 * i + c)))]) (6 * (n - 1 - i)) (fun c hc nc => ?_) ?_
          · skip
            refine mt_iload (pc := 142) dX11_pays_142 rfl ?_
            refine mt_bipush (pc := 144) (v := 28) dX11_pays_144 (by decide) ?_
            refine mt_bipush (pc := 146) (v := 6) dX11_pays_146 (by decide) ?_
            refine mt_aload_n (pc := 148) dX11_pays_148 rfl ?_
            refine mt_mget (pc := 149) gf_X11_68 dX11_pays_149 hx rfl ?_
            refine mt_bipush (pc := 152) (v := 88) dX11_pays_152 (by decide) ?_
            refine mt_mald2 (pc := 154) (i := 206) (j := 88) (x := nI (n - 1)) dX11_pays_154 hx rfl rfl (by show _ < 91; omega) (by unfold shF; rw [if_neg (by omega), upd_eq]) ?_
            refine mt_imulN (pc := 155) (a := 6) (b := n - 1) dX11_pays_155 rfl rfl ?_
            refine mt_iaddN (pc := 156) (a := 28) (b := 6 * (n - 1)) dX11_pays_156 rfl rfl ?_
            refine mt_icmp_ge (pc := 157) (tgt := 183) dX11_pays_157 (by decide) (fun c157 => ?_) (fun c157 => ?_)
            · exact absurd c157 (nI_ge (by omega) (by omega))
            · skip
              refine mt_aload_n (pc := 160) dX11_pays_160 rfl ?_
              refine mt_mget (pc := 161) gf_X11_68 dX11_pays_161 hx rfl ?_
              refine mt_iload (pc := 164) dX11_pays_164 rfl ?_
              refine mt_aload_n (pc := 166) dX11_pays_166 rfl ?_
              refine mt_mget (pc := 167) gf_X11_68 dX11_pays_167 hx rfl ?_
              refine mt_iload (pc := 170) dX11_pays_170 rfl ?_
              refine mt_bipush (pc := 172) (v := 6) dX11_pays_172 (by decide) ?_
              refine mt_iaddN (pc := 174) (a := 28 + 6 * i + c) (b := 6) dX11_pays_174 rfl rfl ?_
              refine mt_mald2 (pc := 175) (i := 206) (j := (28 + 6 * i + c) + 6) dX11_pays_175 hx rfl rfl (by show _ < 91; omega) rfl ?_
              refine mt_mast2 (pc := 176) (i := 206) (j := 28 + 6 * i + c) dX11_pays_176 hx rfl rfl (by show _ < 91; omega) ?_
              refine mt_iinc (pc := 177) (c9 := 1) dX11_pays_177 rfl (by decide) (Nat.le_of_ble_eq_true rfl) rfl ?_
              refine mt_goto (pc := 180) (tgt := 142) dX11_pays_180 (by decide) ?_
              rw [show (nI (28 + 6 * i + c) + 1 : Int32) = nI (28 + 6 * i + (c + 1)) from nI_1 _, shF_s]
              exact nc
          · skip
            refine mt_iload (pc := 142) dX11_pays_142 rfl ?_
            refine mt_bipush (pc := 144) (v := 28) dX11_pays_144 (by decide) ?_
            refine mt_bipush (pc := 146) (v := 6) dX11_pays_146 (by decide) ?_
            refine mt_aload_n (pc := 148) dX11_pays_148 rfl ?_
            refine mt_mget (pc := 149) gf_X11_68 dX11_pays_149 hx rfl ?_
            refine mt_bipush (pc := 152) (v := 88) dX11_pays_152 (by decide) ?_
            refine mt_mald2 (pc := 154) (i := 206) (j := 88) (x := nI (n - 1)) dX11_pays_154 hx rfl rfl (by show _ < 91; omega) (by unfold shF; rw [if_neg (by omega), upd_eq]) ?_
            refine mt_imulN (pc := 155) (a := 6) (b := n - 1) dX11_pays_155 rfl rfl ?_
            refine mt_iaddN (pc := 156) (a := 28) (b := 6 * (n - 1)) dX11_pays_156 rfl rfl ?_
            refine mt_icmp_ge (pc := 157) (tgt := 183) dX11_pays_157 (by decide) (fun c157 => ?_) (fun c157 => ?_)
            · skip
              refine mt_aload_n (pc := 183) dX11_pays_183 rfl ?_
              refine mt_mget (pc := 184) gf_X11_68 dX11_pays_184 hx rfl ?_
              refine mt_bipush (pc := 187) (v := 89) dX11_pays_187 (by decide) ?_
              refine mt_dup2 (pc := 189) dX11_pays_189 rfl rfl ?_
              refine mt_mald2 (pc := 190) (i := 206) (j := 89) (x := pay3 k cs f i 2) dX11_pays_190 hx rfl rfl (by show _ < 91; omega) (by unfold shF; rw [if_neg (by omega), upd_ne (by decide)]; exact hR3.2.2.2.2.2.2.1) ?_
              refine mt_iconst (pc := 191) (v := 1) dX11_pays_191 (by decide) ?_
              refine mt_iadd (pc := 192) dX11_pays_192 ?_
              refine mt_mast2 (pc := 193) (i := 206) (j := 89) dX11_pays_193 hx rfl rfl (by show _ < 91; omega) ?_
              refine mt_iconst (pc := 194) (v := 1) dX11_pays_194 (by decide) ?_
              exact mt_zret rfl (by first | exact Or.inl rfl | exact Or.inr rfl) dX11_pays_195 (Nat.le_of_ble_eq_true rfl) (Nat.le_of_ble_eq_true rfl) ⟨rfl, rfl, _, rfl, SD_s hS.sd, by rw [updR_eq]; exact RR_end hR3 n3 e33 hn10 hi⟩
            · exact absurd (nI_le (by omega) (by omega)) c157
      · skip
        rw [if_pos (Int32.not_le.mp c45), if_pos (Int32.not_le.mp c45)]
        refine mt_iconst (pc := 48) (v := 0) dX11_pays_48 (by decide) ?_
        exact mt_zret rfl (by first | exact Or.inl rfl | exact Or.inr rfl) dX11_pays_49 (Nat.le_of_ble_eq_true rfl) (Nat.le_of_ble_eq_true rfl) ⟨rfl, rfl, _, rfl, SD_s hS.sd, by rw [updR_eq]; exact hRs⟩
  · exact absurd (nI_lt hi (by omega)) c8
theorem n_pays {i : Nat} (hd : 5 ≤ d) (hx : 215 ≤ nx) (hi9 : i < 1000) (hQ : MQs k cs g A) (hR : RR (A 206) f) (hI : RI k f) : mm_Con G l yX11_pays cX11_pays 6 (some .boolean) d 0 0 [.ref 188, .int (nI i)] nx (mos h g A) (P_mrow (doS k cs (1, [i], 0) f).2 (doS k cs (1, [i], 0) f).1 nx h g A) := by
  simp only [doS]
  by_cases hi : nlo f ≤ i
  · rw [if_pos (Or.inl hi)]
    exact n_paysN hx hi hi9 hR hI
  · have := n_paysY (G := G) (l := l) (h := h) (cs := cs) hd hx rfl (Nat.lt_of_not_le hi) hQ hR hI
    by_cases hc : f (18 + lsoul f i) < owI k cs f i
    · rw [if_pos hc, if_pos hc] at this
      rw [if_pos (Or.inr hc)]
      exact this
    · rw [if_neg hc, if_neg hc] at this
      rw [if_neg (fun z => z.elim hi hc)]
      exact this
theorem n_isDone {i : Nat} {t : ST} (hd : 6 ≤ d) (hx : 215 ≤ nx) (hi : i < 50) (hQ : MQs k cs g A) (hR : RR (A 206) f) (hJ : RJ 400 k f) (hT : TW k.2.1 k.1 t) (h6 : t.1 ≠ 6) (hS : MStep (A 204) i t) : mm_Con G l yX11_isDone cX11_isDone 5 (some .boolean) d 0 0 [.ref 188, .int (nI (5 * i))] nx (mos h g A) (P_mrow (doS k cs t f).2 (doS k cs t f).1 nx h g A) := by
  obtain ⟨q1, q2, hM, hL⟩ := id hQ
  have hk1 := hM.1
  have hk2 := hM.2.1
  obtain ⟨hn10, -, -⟩ := hJ.1.nl
  obtain ⟨m0, m1, -⟩ := hS
  rcases hT with ⟨a, p, x, y, rfl, h1, h2, h3, h4, h5, h7⟩ | ⟨i2, rfl, h1⟩ | ⟨a, x, rfl, h1, h2, h3⟩ | ⟨p, rfl, h1⟩ | ⟨p, rfl, h1⟩ | rfl | ⟨x, z, rfl, -⟩
  · refine mm_start (lo := [some (.ref 188), some (.int (nI (5 * i))), none, none, none]) pn_X11 rfl rfl (Nat.le_of_ble_eq_true rfl) ?_
    refine mt_aload_n (pc := 0) dX11_isDone_0 rfl ?_
    refine mt_mget (pc := 1) gf_X11_62 dX11_isDone_1 hx rfl ?_
    refine mt_iload_n (pc := 4) dX11_isDone_4 rfl ?_
    refine mt_mald (pc := 5) (i := 204) (j := 5 * i) (x := 0) dX11_isDone_5 hx rfl rfl (by show _ < 250; omega) m0 ?_
    refine mt_istore_n (pc := 6) dX11_isDone_6 (Nat.le_of_ble_eq_true rfl) rfl ?_
    refine mt_aload_n (pc := 7) dX11_isDone_7 rfl ?_
    refine mt_mget (pc := 8) gf_X11_62 dX11_isDone_8 hx rfl ?_
    refine mt_iload_n (pc := 11) dX11_isDone_11 rfl ?_
    refine mt_iconst (pc := 12) (v := 1) dX11_isDone_12 (by decide) ?_
    refine mt_iaddN (pc := 13) (a := 5 * i) (b := 1) dX11_isDone_13 rfl rfl ?_
    refine mt_mald (pc := 14) (i := 204) (j := (5 * i) + 1) (x := nI a) dX11_isDone_14 hx rfl rfl (by show _ < 250; omega) (m1 0 a rfl) ?_
    refine mt_istore_n (pc := 15) dX11_isDone_15 (Nat.le_of_ble_eq_true rfl) rfl ?_
    refine mt_iload_n (pc := 16) dX11_isDone_16 rfl ?_
    refine mt_if_ne (pc := 17) (tgt := 50) dX11_isDone_17 (by decide) (fun c17 => ?_) (fun c17 => ?_)
    · exact absurd rfl c17
    · skip
      refine mt_aload_n (pc := 20) dX11_isDone_20 rfl ?_
      refine mt_iload_n (pc := 21) dX11_isDone_21 rfl ?_
      refine mt_aload_n (pc := 22) dX11_isDone_22 rfl ?_
      refine mt_mget (pc := 23) gf_X11_62 dX11_isDone_23 hx rfl ?_
      refine mt_iload_n (pc := 26) dX11_isDone_26 rfl ?_
      refine mt_iconst (pc := 27) (v := 2) dX11_isDone_27 (by decide) ?_
      refine mt_iaddN (pc := 28) (a := 5 * i) (b := 2) dX11_isDone_28 rfl rfl ?_
      refine mt_mald (pc := 29) (i := 204) (j := (5 * i) + 2) (x := nI p) dX11_isDone_29 hx rfl rfl (by show _ < 250; omega) (m1 1 p rfl) ?_
      refine mt_aload_n (pc := 30) dX11_isDone_30 rfl ?_
      refine mt_mget (pc := 31) gf_X11_62 dX11_isDone_31 hx rfl ?_
      refine mt_iload_n (pc := 34) dX11_isDone_34 rfl ?_
      refine mt_iconst (pc := 35) (v := 3) dX11_isDone_35 (by decide) ?_
      refine mt_iaddN (pc := 36) (a := 5 * i) (b := 3) dX11_isDone_36 rfl rfl ?_
      refine mt_mald (pc := 37) (i := 204) (j := (5 * i) + 3) (x := nI x) dX11_isDone_37 hx rfl rfl (by show _ < 250; omega) (m1 2 x rfl) ?_
      refine mt_aload_n (pc := 38) dX11_isDone_38 rfl ?_
      refine mt_mget (pc := 39) gf_X11_62 dX11_isDone_39 hx rfl ?_
      refine mt_iload_n (pc := 42) dX11_isDone_42 rfl ?_
      refine mt_iconst (pc := 43) (v := 4) dX11_isDone_43 (by decide) ?_
      refine mt_iaddN (pc := 44) (a := 5 * i) (b := 4) dX11_isDone_44 rfl rfl ?_
      refine mt_mald (pc := 45) (i := 204) (j := (5 * i) + 4) (x := nI y) dX11_isDone_45 hx rfl rfl (by show _ < 250; omega) (m1 3 y rfl) ?_
      refine mt_aV (pc := 46) (n_lendsTo (d := 2) (k := k) (cs := cs) (f := f) (Nat.le_refl 2) hx hM hR hJ.1 (by omega) h2) cal_X11_lendsTo vir_X11_lendsTo ml_X11_334 dX11_isDone_46 (by omega) (mos_o _ _ _) (by first | assumption | (show _ ≤ d; omega)) ⟨(Nat.le_of_ble_eq_true rfl), (Nat.le_of_ble_eq_true rfl)⟩ rfl rfl (Nat.le_of_ble_eq_true rfl) ?_ ?_
      · rintro x9 n9 k9 h9
        obtain ⟨⟨⟩, -⟩ := h9
      · rintro v9 n9 k9 ⟨⟨⟩, rfl, A1, rfl, hs1, hR1⟩
        refine ⟨rfl, ?_⟩
        exact mt_zret rfl (by simp only [doS]; split <;> simp) dX11_isDone_49 (Nat.le_of_ble_eq_true rfl) (Nat.le_of_ble_eq_true rfl) ⟨rfl, rfl, A1, rfl, hs1, hR1⟩
  · refine mm_start (lo := [some (.ref 188), some (.int (nI (5 * i))), none, none, none]) pn_X11 rfl rfl (Nat.le_of_ble_eq_true rfl) ?_
    refine mt_aload_n (pc := 0) dX11_isDone_0 rfl ?_
    refine mt_mget (pc := 1) gf_X11_62 dX11_isDone_1 hx rfl ?_
    refine mt_iload_n (pc := 4) dX11_isDone_4 rfl ?_
    refine mt_mald (pc := 5) (i := 204) (j := 5 * i) (x := 1) dX11_isDone_5 hx rfl rfl (by show _ < 250; omega) m0 ?_
    refine mt_istore_n (pc := 6) dX11_isDone_6 (Nat.le_of_ble_eq_true rfl) rfl ?_
    refine mt_aload_n (pc := 7) dX11_isDone_7 rfl ?_
    refine mt_mget (pc := 8) gf_X11_62 dX11_isDone_8 hx rfl ?_
    refine mt_iload_n (pc := 11) dX11_isDone_11 rfl ?_
    refine mt_iconst (pc := 12) (v := 1) dX11_isDone_12 (by decide) ?_
    refine mt_iaddN (pc := 13) (a := 5 * i) (b := 1) dX11_isDone_13 rfl rfl ?_
    refine mt_mald (pc := 14) (i := 204) (j := (5 * i) + 1) (x := nI i2) dX11_isDone_14 hx rfl rfl (by show _ < 250; omega) (m1 0 i2 rfl) ?_
    refine mt_istore_n (pc := 15) dX11_isDone_15 (Nat.le_of_ble_eq_true rfl) rfl ?_
    refine mt_iload_n (pc := 16) dX11_isDone_16 rfl ?_
    refine mt_if_ne (pc := 17) (tgt := 50) dX11_isDone_17 (by decide) (fun c17 => ?_) (fun c17 => ?_)
    · skip
      refine mt_iload_n (pc := 50) dX11_isDone_50 rfl ?_
      refine mt_iconst (pc := 51) (v := 1) dX11_isDone_51 (by decide) ?_
      refine mt_icmp_ne (pc := 52) (tgt := 61) dX11_isDone_52 (by decide) (fun c52 => ?_) (fun c52 => ?_)
      · exact absurd rfl c52
      · skip
        refine mt_aload_n (pc := 55) dX11_isDone_55 rfl ?_
        refine mt_iload_n (pc := 56) dX11_isDone_56 rfl ?_
        refine mt_aV (pc := 57) (n_pays (d := 5) (k := k) (cs := cs) (f := f) (Nat.le_refl 5) hx (by omega) hQ hR hJ.1) cal_X11_pays vir_X11_pays ml_X11_338 dX11_isDone_57 (by omega) (mos_o _ _ _) (by first | assumption | (show _ ≤ d; omega)) ⟨(Nat.le_of_ble_eq_true rfl), (Nat.le_of_ble_eq_true rfl)⟩ rfl rfl (Nat.le_of_ble_eq_true rfl) ?_ ?_
        · rintro x9 n9 k9 h9
          obtain ⟨⟨⟩, -⟩ := h9
        · rintro v9 n9 k9 ⟨⟨⟩, rfl, A1, rfl, hs1, hR1⟩
          refine ⟨rfl, ?_⟩
          exact mt_zret rfl (by simp only [doS]; split <;> simp) dX11_isDone_60 (Nat.le_of_ble_eq_true rfl) (Nat.le_of_ble_eq_true rfl) ⟨rfl, rfl, A1, rfl, hs1, hR1⟩
    · exact absurd c17 (by decide)
  · refine mm_start (lo := [some (.ref 188), some (.int (nI (5 * i))), none, none, none]) pn_X11 rfl rfl (Nat.le_of_ble_eq_true rfl) ?_
    refine mt_aload_n (pc := 0) dX11_isDone_0 rfl ?_
    refine mt_mget (pc := 1) gf_X11_62 dX11_isDone_1 hx rfl ?_
    refine mt_iload_n (pc := 4) dX11_isDone_4 rfl ?_
    refine mt_mald (pc := 5) (i := 204) (j := 5 * i) (x := 2) dX11_isDone_5 hx rfl rfl (by show _ < 250; omega) m0 ?_
    refine mt_istore_n (pc := 6) dX11_isDone_6 (Nat.le_of_ble_eq_true rfl) rfl ?_
    refine mt_aload_n (pc := 7) dX11_isDone_7 rfl ?_
    refine mt_mget (pc := 8) gf_X11_62 dX11_isDone_8 hx rfl ?_
    refine mt_iload_n (pc := 11) dX11_isDone_11 rfl ?_
    refine mt_iconst (pc := 12) (v := 1) dX11_isDone_12 (by decide) ?_
    refine mt_iaddN (pc := 13) (a := 5 * i) (b := 1) dX11_isDone_13 rfl rfl ?_
    refine mt_mald (pc := 14) (i := 204) (j := (5 * i) + 1) (x := nI a) dX11_isDone_14 hx rfl rfl (by show _ < 250; omega) (m1 0 a rfl) ?_
    refine mt_istore_n (pc := 15) dX11_isDone_15 (Nat.le_of_ble_eq_true rfl) rfl ?_
    refine mt_iload_n (pc := 16) dX11_isDone_16 rfl ?_
    refine mt_if_ne (pc := 17) (tgt := 50) dX11_isDone_17 (by decide) (fun c17 => ?_) (fun c17 => ?_)
    · skip
      refine mt_iload_n (pc := 50) dX11_isDone_50 rfl ?_
      refine mt_iconst (pc := 51) (v := 1) dX11_isDone_51 (by decide) ?_
      refine mt_icmp_ne (pc := 52) (tgt := 61) dX11_isDone_52 (by decide) (fun c52 => ?_) (fun c52 => ?_)
      · skip
        refine mt_iload_n (pc := 61) dX11_isDone_61 rfl ?_
        refine mt_iconst (pc := 62) (v := 2) dX11_isDone_62 (by decide) ?_
        refine mt_icmp_ne (pc := 63) (tgt := 80) dX11_isDone_63 (by decide) (fun c63 => ?_) (fun c63 => ?_)
        · exact absurd rfl c63
        · skip
          refine mt_aload_n (pc := 66) dX11_isDone_66 rfl ?_
          refine mt_iload_n (pc := 67) dX11_isDone_67 rfl ?_
          refine mt_aload_n (pc := 68) dX11_isDone_68 rfl ?_
          refine mt_mget (pc := 69) gf_X11_62 dX11_isDone_69 hx rfl ?_
          refine mt_iload_n (pc := 72) dX11_isDone_72 rfl ?_
          refine mt_iconst (pc := 73) (v := 2) dX11_isDone_73 (by decide) ?_
          refine mt_iaddN (pc := 74) (a := 5 * i) (b := 2) dX11_isDone_74 rfl rfl ?_
          refine mt_mald (pc := 75) (i := 204) (j := (5 * i) + 2) (x := nI x) dX11_isDone_75 hx rfl rfl (by show _ < 250; omega) (m1 1 x rfl) ?_
          refine mt_aV (pc := 76) (n_earns (d := 1) (k := k) (cs := cs) (f := f) (Nat.le_refl 1) hx hR hJ.1 (by omega)) cal_X11_earns vir_X11_earns ml_X11_341 dX11_isDone_76 (by omega) (mos_o _ _ _) (by first | assumption | (show _ ≤ d; omega)) ⟨(Nat.le_of_ble_eq_true rfl), (Nat.le_of_ble_eq_true rfl)⟩ rfl rfl (Nat.le_of_ble_eq_true rfl) ?_ ?_
          · rintro x9 n9 k9 h9
            obtain ⟨⟨⟩, -⟩ := h9
          · rintro v9 n9 k9 ⟨⟨⟩, rfl, A1, rfl, hs1, hR1⟩
            refine ⟨rfl, ?_⟩
            exact mt_zret rfl (by simp only [doS]; split <;> simp) dX11_isDone_79 (Nat.le_of_ble_eq_true rfl) (Nat.le_of_ble_eq_true rfl) ⟨rfl, rfl, A1, rfl, hs1, hR1⟩
      · exact absurd c52 (by decide)
    · exact absurd c17 (by decide)
  · obtain ⟨z, z1, z2⟩ := hJ.1.2.2.2.2.1
    have z3 := pow_mono hk1
    have hb := hR.2.1 p (by omega)
    have hRS := RR_seal (p := p) hR (by omega) z1 (by omega)
    refine mm_start (lo := [some (.ref 188), some (.int (nI (5 * i))), none, none, none]) pn_X11 rfl rfl (Nat.le_of_ble_eq_true rfl) ?_
    refine mt_aload_n (pc := 0) dX11_isDone_0 rfl ?_
    refine mt_mget (pc := 1) gf_X11_62 dX11_isDone_1 hx rfl ?_
    refine mt_iload_n (pc := 4) dX11_isDone_4 rfl ?_
    refine mt_mald (pc := 5) (i := 204) (j := 5 * i) (x := 3) dX11_isDone_5 hx rfl rfl (by show _ < 250; omega) m0 ?_
    refine mt_istore_n (pc := 6) dX11_isDone_6 (Nat.le_of_ble_eq_true rfl) rfl ?_
    refine mt_aload_n (pc := 7) dX11_isDone_7 rfl ?_
    refine mt_mget (pc := 8) gf_X11_62 dX11_isDone_8 hx rfl ?_
    refine mt_iload_n (pc := 11) dX11_isDone_11 rfl ?_
    refine mt_iconst (pc := 12) (v := 1) dX11_isDone_12 (by decide) ?_
    refine mt_iaddN (pc := 13) (a := 5 * i) (b := 1) dX11_isDone_13 rfl rfl ?_
    refine mt_mald (pc := 14) (i := 204) (j := (5 * i) + 1) (x := nI p) dX11_isDone_14 hx rfl rfl (by show _ < 250; omega) (m1 0 p rfl) ?_
    refine mt_istore_n (pc := 15) dX11_isDone_15 (Nat.le_of_ble_eq_true rfl) rfl ?_
    refine mt_iload_n (pc := 16) dX11_isDone_16 rfl ?_
    refine mt_if_ne (pc := 17) (tgt := 50) dX11_isDone_17 (by decide) (fun c17 => ?_) (fun c17 => ?_)
    · skip
      refine mt_iload_n (pc := 50) dX11_isDone_50 rfl ?_
      refine mt_iconst (pc := 51) (v := 1) dX11_isDone_51 (by decide) ?_
      refine mt_icmp_ne (pc := 52) (tgt := 61) dX11_isDone_52 (by decide) (fun c52 => ?_) (fun c52 => ?_)
      · skip
        refine mt_iload_n (pc := 61) dX11_isDone_61 rfl ?_
        refine mt_iconst (pc := 62) (v := 2) dX11_isDone_62 (by decide) ?_
        refine mt_icmp_ne (pc := 63) (tgt := 80) dX11_isDone_63 (by decide) (fun c63 => ?_) (fun c63 => ?_)
        · skip
          refine mt_iload_n (pc := 80) dX11_isDone_80 rfl ?_
          refine mt_iconst (pc := 81) (v := 3) dX11_isDone_81 (by decide) ?_
          refine mt_icmp_eq (pc := 82) (tgt := 90) dX11_isDone_82 (by decide) (fun c82 => ?_) (fun c82 => ?_)
          · skip
            refine mt_iload_n (pc := 90) dX11_isDone_90 rfl ?_
            refine mt_iconst (pc := 91) (v := 3) dX11_isDone_91 (by decide) ?_
            refine mt_icmp_ne (pc := 92) (tgt := 99) dX11_isDone_92 (by decide) (fun c92 => ?_) (fun c92 => ?_)
            · exact absurd rfl c92
            · skip
              refine mt_iconst (pc := 95) (v := 1) dX11_isDone_95 (by decide) ?_
              refine mt_goto (pc := 96) (tgt := 100) dX11_isDone_96 (by decide) ?_
              refine mt_istore (pc := 100) dX11_isDone_100 (Nat.le_of_ble_eq_true rfl) rfl ?_
              refine mt_aload_n (pc := 102) dX11_isDone_102 rfl ?_
              refine mt_mget (pc := 103) gf_X11_68 dX11_isDone_103 hx rfl ?_
              refine mt_bipush (pc := 106) (v := 8) dX11_isDone_106 (by decide) ?_
              refine mt_iload_n (pc := 108) dX11_isDone_108 rfl ?_
              refine mt_iaddN (pc := 109) (a := 8) (b := p) dX11_isDone_109 rfl rfl ?_
              refine mt_mald (pc := 110) (i := 206) (j := 8 + p) dX11_isDone_110 hx rfl rfl (by show _ < 91; omega) rfl ?_
              refine mt_iload (pc := 111) dX11_isDone_111 rfl ?_
              refine mt_icmp_ne (pc := 113) (tgt := 118) dX11_isDone_113 (by decide) (fun c113 => ?_) (fun c113 => ?_)
              · skip
                rw [hb] at c113
                refine mt_aload_n (pc := 118) dX11_isDone_118 rfl ?_
                refine mt_mget (pc := 119) gf_X11_68 dX11_isDone_119 hx rfl ?_
                refine mt_bipush (pc := 122) (v := 8) dX11_isDone_122 (by decide) ?_
                refine mt_iload_n (pc := 124) dX11_isDone_124 rfl ?_
                refine mt_iaddN (pc := 125) (a := 8) (b := p) dX11_isDone_125 rfl rfl ?_
                refine mt_iload (pc := 126) dX11_isDone_126 rfl ?_
                refine mt_mast (pc := 128) (i := 206) (j := 8 + p) dX11_isDone_128 hx rfl rfl (by show _ < 91; omega) ?_
                refine mt_iconst (pc := 129) (v := 1) dX11_isDone_129 (by decide) ?_
                exact mt_zret rfl (by first | exact Or.inl rfl | exact Or.inr rfl) dX11_isDone_130 (Nat.le_of_ble_eq_true rfl) (Nat.le_of_ble_eq_true rfl) ⟨by simp only [doS]; rw [if_neg c113], rfl, _, rfl, SD_u, by rw [updR_eq]; exact hRS⟩
              · skip
                rw [hb] at c113
                refine mt_iconst (pc := 116) (v := 0) dX11_isDone_116 (by decide) ?_
                exact mt_zret rfl (by first | exact Or.inl rfl | exact Or.inr rfl) dX11_isDone_117 (Nat.le_of_ble_eq_true rfl) (Nat.le_of_ble_eq_true rfl) ⟨by simp only [doS]; rw [if_pos c113], rfl, A, rfl, SD_rf, by rw [show A 206 = upd (A 206) (8 + p) 1 from (upd_self (hb.trans c113)).symm]; exact hRS⟩
          · exact absurd rfl c82
        · exact absurd c63 (by decide)
      · exact absurd c52 (by decide)
    · exact absurd c17 (by decide)
  · obtain ⟨z, z1, z2⟩ := hJ.1.2.2.2.2.1
    have z3 := pow_mono hk1
    have hb := hR.2.1 p (by omega)
    have hRS := RR_open (p := p) hR (by omega) z1 (by omega)
    have hb2 : (f 1 >>> (nI p &&& 31)) &&& 1 = 0 ∨ (f 1 >>> (nI p &&& 31)) &&& 1 = 1 := by
      rw [z1, bit32 (by omega) (by omega)]
      rcases Nat.mod_two_eq_zero_or_one (z / 2 ^ p) with y | y <;> rw [y]
      · exact Or.inl rfl
      · exact Or.inr rfl
    refine mm_start (lo := [some (.ref 188), some (.int (nI (5 * i))), none, none, none]) pn_X11 rfl rfl (Nat.le_of_ble_eq_true rfl) ?_
    refine mt_aload_n (pc := 0) dX11_isDone_0 rfl ?_
    refine mt_mget (pc := 1) gf_X11_62 dX11_isDone_1 hx rfl ?_
    refine mt_iload_n (pc := 4) dX11_isDone_4 rfl ?_
    refine mt_mald (pc := 5) (i := 204) (j := 5 * i) (x := 4) dX11_isDone_5 hx rfl rfl (by show _ < 250; omega) m0 ?_
    refine mt_istore_n (pc := 6) dX11_isDone_6 (Nat.le_of_ble_eq_true rfl) rfl ?_
    refine mt_aload_n (pc := 7) dX11_isDone_7 rfl ?_
    refine mt_mget (pc := 8) gf_X11_62 dX11_isDone_8 hx rfl ?_
    refine mt_iload_n (pc := 11) dX11_isDone_11 rfl ?_
    refine mt_iconst (pc := 12) (v := 1) dX11_isDone_12 (by decide) ?_
    refine mt_iaddN (pc := 13) (a := 5 * i) (b := 1) dX11_isDone_13 rfl rfl ?_
    refine mt_mald (pc := 14) (i := 204) (j := (5 * i) + 1) (x := nI p) dX11_isDone_14 hx rfl rfl (by show _ < 250; omega) (m1 0 p rfl) ?_
    refine mt_istore_n (pc := 15) dX11_isDone_15 (Nat.le_of_ble_eq_true rfl) rfl ?_
    refine mt_iload_n (pc := 16) dX11_isDone_16 rfl ?_
    refine mt_if_ne (pc := 17) (tgt := 50) dX11_isDone_17 (by decide) (fun c17 => ?_) (fun c17 => ?_)
    · skip
      refine mt_iload_n (pc := 50) dX11_isDone_50 rfl ?_
      refine mt_iconst (pc := 51) (v := 1) dX11_isDone_51 (by decide) ?_
      refine mt_icmp_ne (pc := 52) (tgt := 61) dX11_isDone_52 (by decide) (fun c52 => ?_) (fun c52 => ?_)
      · skip
        refine mt_iload_n (pc := 61) dX11_isDone_61 rfl ?_
        refine mt_iconst (pc := 62) (v := 2) dX11_isDone_62 (by decide) ?_
        refine mt_icmp_ne (pc := 63) (tgt := 80) dX11_isDone_63 (by decide) (fun c63 => ?_) (fun c63 => ?_)
        · skip
          refine mt_iload_n (pc := 80) dX11_isDone_80 rfl ?_
          refine mt_iconst (pc := 81) (v := 3) dX11_isDone_81 (by decide) ?_
          refine mt_icmp_eq (pc := 82) (tgt := 90) dX11_isDone_82 (by decide) (fun c82 => ?_) (fun c82 => ?_)
          · exact absurd c82 (by decide)
          · skip
            refine mt_iload_n (pc := 85) dX11_isDone_85 rfl ?_
            refine mt_iconst (pc := 86) (v := 4) dX11_isDone_86 (by decide) ?_
            refine mt_icmp_ne (pc := 87) (tgt := 131) dX11_isDone_87 (by decide) (fun c87 => ?_) (fun c87 => ?_)
            · exact absurd rfl c87
            · skip
              refine mt_iload_n (pc := 90) dX11_isDone_90 rfl ?_
              refine mt_iconst (pc := 91) (v := 3) dX11_isDone_91 (by decide) ?_
              refine mt_icmp_ne (pc := 92) (tgt := 99) dX11_isDone_92 (by decide) (fun c92 => ?_) (fun c92 => ?_)
              · skip
                refine mt_iconst (pc := 99) (v := 0) dX11_isDone_99 (by decide) ?_
                refine mt_istore (pc := 100) dX11_isDone_100 (Nat.le_of_ble_eq_true rfl) rfl ?_
                refine mt_aload_n (pc := 102) dX11_isDone_102 rfl ?_
                refine mt_mget (pc := 103) gf_X11_68 dX11_isDone_103 hx rfl ?_
                refine mt_bipush (pc := 106) (v := 8) dX11_isDone_106 (by decide) ?_
                refine mt_iload_n (pc := 108) dX11_isDone_108 rfl ?_
                refine mt_iaddN (pc := 109) (a := 8) (b := p) dX11_isDone_109 rfl rfl ?_
                refine mt_mald (pc := 110) (i := 206) (j := 8 + p) dX11_isDone_110 hx rfl rfl (by show _ < 91; omega) rfl ?_
                refine mt_iload (pc := 111) dX11_isDone_111 rfl ?_
                refine mt_icmp_ne (pc := 113) (tgt := 118) dX11_isDone_113 (by decide) (fun c113 => ?_) (fun c113 => ?_)
                · skip
                  rw [hb] at c113
                  refine mt_aload_n (pc := 118) dX11_isDone_118 rfl ?_
                  refine mt_mget (pc := 119) gf_X11_68 dX11_isDone_119 hx rfl ?_
                  refine mt_bipush (pc := 122) (v := 8) dX11_isDone_122 (by decide) ?_
                  refine mt_iload_n (pc := 124) dX11_isDone_124 rfl ?_
                  refine mt_iaddN (pc := 125) (a := 8) (b := p) dX11_isDone_125 rfl rfl ?_
                  refine mt_iload (pc := 126) dX11_isDone_126 rfl ?_
                  refine mt_mast (pc := 128) (i := 206) (j := 8 + p) dX11_isDone_128 hx rfl rfl (by show _ < 91; omega) ?_
                  refine mt_iconst (pc := 129) (v := 1) dX11_isDone_129 (by decide) ?_
                  exact mt_zret rfl (by first | exact Or.inl rfl | exact Or.inr rfl) dX11_isDone_130 (Nat.le_of_ble_eq_true rfl) (Nat.le_of_ble_eq_true rfl) ⟨by simp only [doS]; rw [if_pos (hb2.resolve_left c113)], rfl, _, rfl, SD_u, by rw [updR_eq]; exact hRS⟩
                · skip
                  rw [hb] at c113
                  refine mt_iconst (pc := 116) (v := 0) dX11_isDone_116 (by decide) ?_
                  exact mt_zret rfl (by first | exact Or.inl rfl | exact Or.inr rfl) dX11_isDone_117 (Nat.le_of_ble_eq_true rfl) (Nat.le_of_ble_eq_true rfl) ⟨by simp only [doS]; rw [if_neg (by rw [c113]; decide)], rfl, A, rfl, SD_rf, by rw [show A 206 = upd (A 206) (8 + p) 0 from (upd_self (hb.trans c113)).symm]; exact hRS⟩
              · exact absurd c92 (by decide)
        · exact absurd c63 (by decide)
      · exact absurd c52 (by decide)
    · exact absurd c17 (by decide)
  · obtain ⟨u, u1, u2⟩ := hJ.2.1
    have e90 : A 206 90 = f 0 := hR.2.2.2.2.2.2.2
    refine mm_start (lo := [some (.ref 188), some (.int (nI (5 * i))), none, none, none]) pn_X11 rfl rfl (Nat.le_of_ble_eq_true rfl) ?_
    refine mt_aload_n (pc := 0) dX11_isDone_0 rfl ?_
    refine mt_mget (pc := 1) gf_X11_62 dX11_isDone_1 hx rfl ?_
    refine mt_iload_n (pc := 4) dX11_isDone_4 rfl ?_
    refine mt_mald (pc := 5) (i := 204) (j := 5 * i) (x := 5) dX11_isDone_5 hx rfl rfl (by show _ < 250; omega) m0 ?_
    refine mt_istore_n (pc := 6) dX11_isDone_6 (Nat.le_of_ble_eq_true rfl) rfl ?_
    refine mt_aload_n (pc := 7) dX11_isDone_7 rfl ?_
    refine mt_mget (pc := 8) gf_X11_62 dX11_isDone_8 hx rfl ?_
    refine mt_iload_n (pc := 11) dX11_isDone_11 rfl ?_
    refine mt_iconst (pc := 12) (v := 1) dX11_isDone_12 (by decide) ?_
    refine mt_iaddN (pc := 13) (a := 5 * i) (b := 1) dX11_isDone_13 rfl rfl ?_
    refine mt_mald (pc := 14) (i := 204) (j := (5 * i) + 1) dX11_isDone_14 hx rfl rfl (by show _ < 250; omega) rfl ?_
    refine mt_istore_n (pc := 15) dX11_isDone_15 (Nat.le_of_ble_eq_true rfl) rfl ?_
    refine mt_iload_n (pc := 16) dX11_isDone_16 rfl ?_
    refine mt_if_ne (pc := 17) (tgt := 50) dX11_isDone_17 (by decide) (fun c17 => ?_) (fun c17 => ?_)
    · skip
      refine mt_iload_n (pc := 50) dX11_isDone_50 rfl ?_
      refine mt_iconst (pc := 51) (v := 1) dX11_isDone_51 (by decide) ?_
      refine mt_icmp_ne (pc := 52) (tgt := 61) dX11_isDone_52 (by decide) (fun c52 => ?_) (fun c52 => ?_)
      · skip
        refine mt_iload_n (pc := 61) dX11_isDone_61 rfl ?_
        refine mt_iconst (pc := 62) (v := 2) dX11_isDone_62 (by decide) ?_
        refine mt_icmp_ne (pc := 63) (tgt := 80) dX11_isDone_63 (by decide) (fun c63 => ?_) (fun c63 => ?_)
        · skip
          refine mt_iload_n (pc := 80) dX11_isDone_80 rfl ?_
          refine mt_iconst (pc := 81) (v := 3) dX11_isDone_81 (by decide) ?_
          refine mt_icmp_eq (pc := 82) (tgt := 90) dX11_isDone_82 (by decide) (fun c82 => ?_) (fun c82 => ?_)
          · exact absurd c82 (by decide)
          · skip
            refine mt_iload_n (pc := 85) dX11_isDone_85 rfl ?_
            refine mt_iconst (pc := 86) (v := 4) dX11_isDone_86 (by decide) ?_
            refine mt_icmp_ne (pc := 87) (tgt := 131) dX11_isDone_87 (by decide) (fun c87 => ?_) (fun c87 => ?_)
            · skip
              refine mt_aload_n (pc := 131) dX11_isDone_131 rfl ?_
              refine mt_mget (pc := 132) gf_X11_68 dX11_isDone_132 hx rfl ?_
              refine mt_bipush (pc := 135) (v := 90) dX11_isDone_135 (by decide) ?_
              refine mt_mald (pc := 137) (i := 206) (j := 90) (x := f 0) dX11_isDone_137 hx rfl rfl (by show _ < 91; omega) e90 ?_
              refine mt_sipush (pc := 138) (v := 400) dX11_isDone_138 (by decide) ?_
              refine mt_icmp_ne (pc := 141) (tgt := 146) dX11_isDone_141 (by decide) (fun c141 => ?_) (fun c141 => ?_)
              · skip
                have lt4 : f 0 < 400 := by
                  rw [u1] at c141 ⊢
                  exact nI_lt (b := 400) (Nat.lt_of_le_of_ne u2 (fun z => c141 (by rw [z]; rfl))) (by decide)
                refine mt_aload_n (pc := 146) dX11_isDone_146 rfl ?_
                refine mt_aV (pc := 147) (n_passes (d := 1) (k := k) (f := f) (N := 400) (Nat.le_refl 1) hx hk1 hR hJ (by decide)) cal_X11_passes vir_X11_passes ml_X11_345 dX11_isDone_147 (by omega) (mos_o _ _ _) (by first | assumption | (show _ ≤ d; omega)) ⟨(Nat.le_of_ble_eq_true rfl), (Nat.le_of_ble_eq_true rfl)⟩ rfl rfl (Nat.le_of_ble_eq_true rfl) ?_ ?_
                · rintro x9 n9 k9 h9
                  obtain ⟨⟨⟩, -⟩ := h9
                · rintro v9 n9 k9 ⟨⟨⟩, rfl, S1, rfl, hR1⟩
                  refine ⟨rfl, ?_⟩
                  refine mt_iconst (pc := 150) (v := 1) dX11_isDone_150 (by decide) ?_
                  exact mt_zret rfl (by first | exact Or.inl rfl | exact Or.inr rfl) dX11_isDone_151 (Nat.le_of_ble_eq_true rfl) (Nat.le_of_ble_eq_true rfl) ⟨by simp only [doS]; rw [if_pos lt4], rfl, _, rfl, SD_u, by simp only [doS]; rw [if_pos lt4, updR_eq]; exact hR1⟩
              · skip
                refine mt_iconst (pc := 144) (v := 0) dX11_isDone_144 (by decide) ?_
                exact mt_zret rfl (by first | exact Or.inl rfl | exact Or.inr rfl) dX11_isDone_145 (Nat.le_of_ble_eq_true rfl) (Nat.le_of_ble_eq_true rfl) ⟨by simp only [doS]; rw [if_neg (by rw [c141]; decide)], rfl, A, rfl, SD_rf, by simp only [doS]; rw [if_neg (by rw [c141]; decide)]; exact hR⟩
            · exact absurd c87 (by decide)
        · exact absurd c63 (by decide)
      · exact absurd c52 (by decide)
    · exact absurd c17 (by decide)
  · exact absurd rfl h6
end MPAY
