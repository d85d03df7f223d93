/-! The reference's questions: richest, poorest, next, deepest, trust, shut, worth, late, kind. -/
theorem gfl_sel {s : Nat → P2 → P2} {F : Nat → Int32} {w0 : P2} (hs : ∀ p w, s p w = w ∨ s p w = (nI p, F p)) : ∀ c, gfl s w0 c = w0 ∨ ∃ b, b < c ∧ gfl s w0 c = (nI b, F b)
  | 0 => Or.inl rfl
  | c + 1 => by
    show s c (gfl s w0 c) = w0 ∨ ∃ b, b < c + 1 ∧ s c (gfl s w0 c) = (nI b, F b)
    rcases hs c (gfl s w0 c) with h | h
    · rw [h]
      rcases gfl_sel hs c with z | ⟨b, z1, z2⟩
      · exact Or.inl z
      · exact Or.inr ⟨b, by omega, z2⟩
    · exact Or.inr ⟨c, by omega, h⟩
theorem sel_m1 {w w0 : P2} {F : Nat → Int32} {c : Nat} (hc : c ≤ 100) (h : w = w0 ∨ ∃ b, b < c ∧ w = (nI b, F b)) (hw : w.1 = -1) : w = w0 := by
  rcases h with z | ⟨b, z1, z2⟩
  · exact z
  · rw [z2] at hw
    exact absurd hw (nI_m1 (hi := 1000) (by show ((b : Nat) : Int) ≤ 1000; omega))
theorem ite_sel {c : Prop} {x y : P2} (hd : Decidable c) : (if c then x else y) = y ∨ (if c then x else y) = x := by
  by_cases h : c
  · exact Or.inr (if_pos h)
  · exact Or.inl (if_neg h)
theorem rich_s (k : CS) (f : Nat → Int32) (c : Nat) : richF k f (c + 1) = if ¬ f (4 + c) ≤ (richF k f c).2 then (nI c, f (4 + c)) else richF k f c := rfl
theorem rich_sel (k : CS) (f : Nat → Int32) (c : Nat) : richF k f c = (-1, -1) ∨ ∃ b, b < c ∧ richF k f c = (nI b, f (4 + b)) := gfl_sel (F := fun b => f (4 + b)) (fun p w => ite_sel _) c
theorem poor_s (f : Nat → Int32) (c : Nat) : poorF f (c + 1) = if (poorF f c).1 = -1 ∨ f (18 + c) < (poorF f c).2 then (nI c, f (18 + c)) else poorF f c := rfl
theorem poor_sel (f : Nat → Int32) (c : Nat) : poorF f c = (-1, -1) ∨ ∃ b, b < c ∧ poorF f c = (nI b, f (18 + b)) := gfl_sel (F := fun b => f (18 + b)) (fun p w => ite_sel _) c
theorem next_s (f : Nat → Int32) (i : Nat) : nextF f (i + 1) = if f (24 + 6 * i + 5) = 1 then nextF f i else if (nextF f i).1 = -1 ∨ f (24 + 6 * i + 4) - f 0 < (nextF f i).2 then (nI i, f (24 + 6 * i + 4) - f 0) else nextF f i := rfl
theorem next_sel (f : Nat → Int32) (c : Nat) : nextF f c = (-1, -1) ∨ ∃ b, b < c ∧ nextF f c = (nI b, f (24 + 6 * b + 4) - f 0) := gfl_sel (F := fun b => f (24 + 6 * b + 4) - f 0) (fun i w => by
  by_cases h : f (24 + 6 * i + 5) = 1
  · rw [if_pos h]
    exact Or.inl rfl
  · rw [if_neg h]
    exact ite_sel _) c
theorem deep_s (k : CS) (cs : List Nat) (f : Nat → Int32) (i : Nat) : deepF k cs f (i + 1) = if ¬ owI k cs f i ≤ (deepF k cs f i).2 then (nI i, owI k cs f i) else deepF k cs f i := rfl
theorem deep_sel (k : CS) (cs : List Nat) (f : Nat → Int32) (c : Nat) : deepF k cs f c = (-1, -1) ∨ ∃ b, b < c ∧ deepF k cs f c = (nI b, owI k cs f b) := gfl_sel (F := owI k cs f) (fun p w => ite_sel _) c
theorem nI_nm1 {u : Nat} (hu : u < 2 ^ 31) : ¬ nI u ≤ -1 := fun z => nI_pos hu (Int32.lt_of_le_of_lt z (by decide))
theorem owI_b (k : CS) (cs : List Nat) (f : Nat → Int32) (i : Nat) : ∃ u, owI k cs f i = nI u ∧ u ≤ 200 := clamp_b _
theorem sub_lt3 {u u' v : Nat} (h1 : u < 2 ^ 30) (h2 : u' < 2 ^ 30) (h3 : v < 2 ^ 30) : nI u - nI v < nI u' - nI v ↔ ¬ nI u' ≤ nI u := by
  rw [Int32.lt_iff_toInt_lt, pk_sub_toInt h1 h3, pk_sub_toInt h2 h3, Int32.le_iff_toInt_le, nI_toInt (by omega), nI_toInt (by omega)]
  omega
section MQC
variable {G : mm_G} {l : Launch} {d nx : Nat} {h : Nat → mm_E} {g : MG} {A : MA} {k : CS} {cs : List Nat} {f : Nat → Int32} {bk : BS}
theorem n_richest {x : Int32} (hd : 2 ≤ d) (hx : 215 ≤ nx) (hQ : MQs k cs g A) (hR : RR (A 205) f) (hI : RI k f) : mm_Con G l yX11_richest cX11_richest 4 (some .int) d 0 0 [.ref 188, .int x] nx (mos h g A) (P_mq 1 1 (ifR x 0 1 (.inr (if x = 0 then (richF k f k.1).1 else (richF k f k.1).2))) nx h g A) := by
  obtain ⟨h18, h19, hM, hL⟩ := id hQ
  have hk1 := hM.1
  have hk2 := hM.2.1
  by_cases hok : ¬ x < 0 ∧ ¬ 1 < x
  · rw [ifR_p hok]
    obtain ⟨r, hr⟩ : ∃ r : Nat ⊕ Int32, r = .inr (if x = 0 then (richF k f k.1).1 else (richF k f k.1).2) := ⟨_, rfl⟩
    rw [← hr]
    refine mm_start (lo := [some (.ref 188), some (.int x), none, none]) pn_X11 rfl rfl (Nat.le_of_ble_eq_true rfl) ?_
    refine mt_aload_n (pc := 0) dX11_richest_0 rfl ?_
    refine mt_iconst (pc := 1) (v := 0) dX11_richest_1 (by decide) ?_
    refine mt_mput (pc := 2) pf_X11_3 dX11_richest_2 hx rfl ?_
    refine mt_aload_n (pc := 5) dX11_richest_5 rfl ?_
    refine mt_iload_n (pc := 6) dX11_richest_6 rfl ?_
    refine mt_iconst (pc := 7) (v := 0) dX11_richest_7 (by decide) ?_
    refine mt_iconst (pc := 8) (v := 1) dX11_richest_8 (by decide) ?_
    refine mt_cS (pc := 9) (n_within) cal_X11_within sta_X11_within ml_X11_348 dX11_richest_9 (by first | assumption | (show _ ≤ d; omega)) ⟨(Nat.le_of_ble_eq_true rfl), (Nat.le_of_ble_eq_true rfl)⟩ rfl rfl (Nat.le_of_ble_eq_true rfl) ?_
    rw [in_w hok]
    refine mt_iconst (pc := 12) (v := 1) dX11_richest_12 (by decide) ?_
    refine mt_iconst (pc := 13) (v := 1) dX11_richest_13 (by decide) ?_
    refine mt_cV (pc := 14) (n_mayY (d := 0) (q := 1) hx rfl (by decide)) cal_X11_may vir_X11_may ml_X11_190 dX11_richest_14 (by omega) (mos_o _ _ _) (by first | assumption | (show _ ≤ d; omega)) ⟨(Nat.le_of_ble_eq_true rfl), (Nat.le_of_ble_eq_true rfl)⟩ rfl rfl (Nat.le_of_ble_eq_true rfl) ?_
    refine mt_if_ne (pc := 17) (tgt := 22) dX11_richest_17 (by decide) (fun c17 => ?_) (fun c17 => ?_)
    · skip
      refine mt_iconst (pc := 22) (v := (-1)) dX11_richest_22 (by decide) ?_
      refine mt_istore_n (pc := 23) dX11_richest_23 (Nat.le_of_ble_eq_true rfl) rfl ?_
      refine mt_iconst (pc := 24) (v := 0) dX11_richest_24 (by decide) ?_
      refine mt_istore_n (pc := 25) dX11_richest_25 (Nat.le_of_ble_eq_true rfl) rfl ?_
      refine mt_for (pc := 26) (H := fun c => mos h (upd g 0 0) A) (L := fun c => [some (.ref 188), some (.int x), some (.int ((richF k f c).1)), some (.int (nI c))]) (k.1) (fun c hc nc => ?_) ?_
      · skip
        rw [rich_s] at nc
        have sel := rich_sel k f c
        generalize richF k f c = w at nc sel ⊢
        refine mt_iload_n (pc := 26) dX11_richest_26 rfl ?_
        refine mt_aload_n (pc := 27) dX11_richest_27 rfl ?_
        refine mt_mgetI (pc := 28) (x := nI k.1) gf_X11_154 dX11_richest_28 hx rfl h18 ?_
        refine mt_icmp_ge (pc := 31) (tgt := 66) dX11_richest_31 (by decide) (fun c31 => ?_) (fun c31 => ?_)
        · exact absurd c31 (nI_ge hc (by first | omega | decide))
        · skip
          refine mt_iload_n (pc := 34) dX11_richest_34 rfl ?_
          refine mt_iconst (pc := 35) (v := (-1)) dX11_richest_35 (by decide) ?_
          refine mt_icmp_eq (pc := 36) (tgt := 58) dX11_richest_36 (by decide) (fun c36 => ?_) (fun c36 => ?_)
          · skip
            have ew := sel_m1 (by omega) sel c36
            subst ew
            obtain ⟨u, u1, u2⟩ := hI.2.1 c (by omega)
            rw [if_pos (by rw [u1]; exact nI_nm1 (by omega))] at nc
            refine mt_iload_n (pc := 58) dX11_richest_58 rfl ?_
            refine mt_istore_n (pc := 59) dX11_richest_59 (Nat.le_of_ble_eq_true rfl) rfl ?_
            refine mt_iinc (pc := 60) (c9 := 1) dX11_richest_60 rfl (by decide) (Nat.le_of_ble_eq_true rfl) rfl ?_
            refine mt_goto (pc := 63) (tgt := 26) dX11_richest_63 (by decide) ?_
            rw [show (nI c + 1 : Int32) = nI (c + 1) from nI_1 c]
            first
              | exact nc
              | exact mt_fg (by repeat (first | exact trivial | refine ⟨rfl, ?_⟩ | rfl)) nc
          · skip
            obtain ⟨b, hb, rfl⟩ := sel.resolve_left (fun z => c36 (by rw [z]))
            refine mt_aload_n (pc := 39) dX11_richest_39 rfl ?_
            refine mt_mget (pc := 40) gf_X11_65 dX11_richest_40 hx rfl ?_
            refine mt_iconst (pc := 43) (v := 0) dX11_richest_43 (by decide) ?_
            refine mt_iload_n (pc := 44) dX11_richest_44 rfl ?_
            refine mt_iaddN (pc := 45) (a := 0) (b := c) dX11_richest_45 rfl rfl ?_
            refine mt_mald (pc := 46) (i := 205) (j := c) (x := f (4 + c)) dX11_richest_46 hx rfl (by rw [Nat.zero_add]) (by show _ < 91; omega) (hR.1 c (by omega)) ?_
            refine mt_aload_n (pc := 47) dX11_richest_47 rfl ?_
            refine mt_mget (pc := 48) gf_X11_65 dX11_richest_48 hx rfl ?_
            refine mt_iconst (pc := 51) (v := 0) dX11_richest_51 (by decide) ?_
            refine mt_iload_n (pc := 52) dX11_richest_52 rfl ?_
            refine mt_iaddN (pc := 53) (a := 0) (b := b) dX11_richest_53 rfl rfl ?_
            refine mt_mald (pc := 54) (i := 205) (j := b) (x := f (4 + b)) dX11_richest_54 hx rfl (by rw [Nat.zero_add]) (by show _ < 91; omega) (hR.1 b (by omega)) ?_
            refine mt_icmp_le (pc := 55) (tgt := 60) dX11_richest_55 (by decide) (fun c55 => ?_) (fun c55 => ?_)
            · skip
              rw [if_neg (fun z => z c55)] at nc
              refine mt_iinc (pc := 60) (c9 := 1) dX11_richest_60 rfl (by decide) (Nat.le_of_ble_eq_true rfl) rfl ?_
              refine mt_goto (pc := 63) (tgt := 26) dX11_richest_63 (by decide) ?_
              rw [show (nI c + 1 : Int32) = nI (c + 1) from nI_1 c]
              first
                | exact nc
                | exact mt_fg (by repeat (first | exact trivial | refine ⟨rfl, ?_⟩ | rfl)) nc
            · skip
              rw [if_pos c55] at nc
              refine mt_iload_n (pc := 58) dX11_richest_58 rfl ?_
              refine mt_istore_n (pc := 59) dX11_richest_59 (Nat.le_of_ble_eq_true rfl) rfl ?_
              refine mt_iinc (pc := 60) (c9 := 1) dX11_richest_60 rfl (by decide) (Nat.le_of_ble_eq_true rfl) rfl ?_
              refine mt_goto (pc := 63) (tgt := 26) dX11_richest_63 (by decide) ?_
              rw [show (nI c + 1 : Int32) = nI (c + 1) from nI_1 c]
              first
                | exact nc
                | exact mt_fg (by repeat (first | exact trivial | refine ⟨rfl, ?_⟩ | rfl)) nc
      · skip
        have sel := rich_sel k f k.1
        generalize richF k f k.1 = w at sel hr ⊢
        refine mt_iload_n (pc := 26) dX11_richest_26 rfl ?_
        refine mt_aload_n (pc := 27) dX11_richest_27 rfl ?_
        refine mt_mgetI (pc := 28) (x := nI k.1) gf_X11_154 dX11_richest_28 hx rfl h18 ?_
        refine mt_icmp_ge (pc := 31) (tgt := 66) dX11_richest_31 (by decide) (fun c31 => ?_) (fun c31 => ?_)
        · skip
          refine mt_iload_n (pc := 66) dX11_richest_66 rfl ?_
          refine mt_if_eq (pc := 67) (tgt := 75) dX11_richest_67 (by decide) (fun c67 => ?_) (fun c67 => ?_)
          · skip
            refine mt_iload_n (pc := 75) dX11_richest_75 rfl ?_
            refine mt_goto (pc := 76) (tgt := 87) dX11_richest_76 (by decide) ?_
            exact mt_iret rfl dX11_richest_87 (Nat.le_of_ble_eq_true rfl) (Nat.le_of_ble_eq_true rfl) (P_mqv (c0 := 1) (c1 := 1) (r := r) (by rw [hr, if_pos c67]) GQ_0 AQ_rf)
          · skip
            refine mt_iload_n (pc := 70) dX11_richest_70 rfl ?_
            refine mt_iconst (pc := 71) (v := (-1)) dX11_richest_71 (by decide) ?_
            refine mt_icmp_ne (pc := 72) (tgt := 79) dX11_richest_72 (by decide) (fun c72 => ?_) (fun c72 => ?_)
            · skip
              obtain ⟨b, hb, rfl⟩ := sel.resolve_left (fun z => c72 (by rw [z]))
              refine mt_aload_n (pc := 79) dX11_richest_79 rfl ?_
              refine mt_mget (pc := 80) gf_X11_65 dX11_richest_80 hx rfl ?_
              refine mt_iconst (pc := 83) (v := 0) dX11_richest_83 (by decide) ?_
              refine mt_iload_n (pc := 84) dX11_richest_84 rfl ?_
              refine mt_iaddN (pc := 85) (a := 0) (b := b) dX11_richest_85 rfl rfl ?_
              refine mt_mald (pc := 86) (i := 205) (j := b) (x := f (4 + b)) dX11_richest_86 hx rfl (by rw [Nat.zero_add]) (by show _ < 91; omega) (hR.1 b (by omega)) ?_
              exact mt_iret rfl dX11_richest_87 (Nat.le_of_ble_eq_true rfl) (Nat.le_of_ble_eq_true rfl) (P_mqv (c0 := 1) (c1 := 1) (r := r) (by rw [hr, if_neg c67]) GQ_0 AQ_rf)
            · skip
              have ew := sel_m1 (by omega) sel c72
              refine mt_iload_n (pc := 75) dX11_richest_75 rfl ?_
              refine mt_goto (pc := 76) (tgt := 87) dX11_richest_76 (by decide) ?_
              exact mt_iret rfl dX11_richest_87 (Nat.le_of_ble_eq_true rfl) (Nat.le_of_ble_eq_true rfl) (P_mqv (c0 := 1) (c1 := 1) (r := r) (by rw [hr, if_neg c67, ew]) GQ_0 AQ_rf)
        · exact absurd (nI_le (Nat.le_refl _) (by first | omega | decide)) c31
    · exact absurd c17 (by decide)
  · rw [ifR_n hok]
    refine mm_start (lo := [some (.ref 188), some (.int x), none, none]) pn_X11 rfl rfl (Nat.le_of_ble_eq_true rfl) ?_
    refine mt_aload_n (pc := 0) dX11_richest_0 rfl ?_
    refine mt_iconst (pc := 1) (v := 0) dX11_richest_1 (by decide) ?_
    refine mt_mput (pc := 2) pf_X11_3 dX11_richest_2 hx rfl ?_
    refine mt_aload_n (pc := 5) dX11_richest_5 rfl ?_
    refine mt_iload_n (pc := 6) dX11_richest_6 rfl ?_
    refine mt_iconst (pc := 7) (v := 0) dX11_richest_7 (by decide) ?_
    refine mt_iconst (pc := 8) (v := 1) dX11_richest_8 (by decide) ?_
    refine mt_cS (pc := 9) (n_within) cal_X11_within sta_X11_within ml_X11_348 dX11_richest_9 (by first | assumption | (show _ ≤ d; omega)) ⟨(Nat.le_of_ble_eq_true rfl), (Nat.le_of_ble_eq_true rfl)⟩ rfl rfl (Nat.le_of_ble_eq_true rfl) ?_
    rw [in_nw hok]
    refine mt_iconst (pc := 12) (v := 1) dX11_richest_12 (by decide) ?_
    refine mt_iconst (pc := 13) (v := 1) dX11_richest_13 (by decide) ?_
    refine mt_cV (pc := 14) (n_mayN (d := 0) (q := 1) hx (by decide) rfl rfl (by decide)) cal_X11_may vir_X11_may ml_X11_190 dX11_richest_14 (by omega) (mos_o _ _ _) (by first | assumption | (show _ ≤ d; omega)) ⟨(Nat.le_of_ble_eq_true rfl), (Nat.le_of_ble_eq_true rfl)⟩ rfl rfl (Nat.le_of_ble_eq_true rfl) ?_
    refine mt_if_ne (pc := 17) (tgt := 22) dX11_richest_17 (by decide) (fun c17 => ?_) (fun c17 => ?_)
    · exact absurd rfl c17
    · skip
      refine mt_iconst (pc := 20) (v := 0) dX11_richest_20 (by decide) ?_
      exact mt_iret rfl dX11_richest_21 (Nat.le_of_ble_eq_true rfl) (Nat.le_of_ble_eq_true rfl) (P_mq1 (c0 := 1) (c1 := 1) (r := .inl 1) rfl)
theorem n_poorest {x : Int32} (hd : 2 ≤ d) (hx : 215 ≤ nx) (hQ : MQs k cs g A) (hR : RR (A 205) f) (hI : RI k f) : mm_Con G l yX11_poorest cX11_poorest 4 (some .int) d 0 0 [.ref 188, .int x] nx (mos h g A) (P_mq 1 1 (ifR x 0 1 (.inr (if x = 0 then (poorF f k.2.1).1 else (poorF f k.2.1).2))) nx h g A) := by
  obtain ⟨h18, h19, hM, hL⟩ := id hQ
  have hk1 := hM.1
  have hk2 := hM.2.1
  by_cases hok : ¬ x < 0 ∧ ¬ 1 < x
  · rw [ifR_p hok]
    obtain ⟨r, hr⟩ : ∃ r : Nat ⊕ Int32, r = .inr (if x = 0 then (poorF f k.2.1).1 else (poorF f k.2.1).2) := ⟨_, rfl⟩
    rw [← hr]
    refine mm_start (lo := [some (.ref 188), some (.int x), none, none]) pn_X11 rfl rfl (Nat.le_of_ble_eq_true rfl) ?_
    refine mt_aload_n (pc := 0) dX11_poorest_0 rfl ?_
    refine mt_iconst (pc := 1) (v := 0) dX11_poorest_1 (by decide) ?_
    refine mt_mput (pc := 2) pf_X11_3 dX11_poorest_2 hx rfl ?_
    refine mt_aload_n (pc := 5) dX11_poorest_5 rfl ?_
    refine mt_iload_n (pc := 6) dX11_poorest_6 rfl ?_
    refine mt_iconst (pc := 7) (v := 0) dX11_poorest_7 (by decide) ?_
    refine mt_iconst (pc := 8) (v := 1) dX11_poorest_8 (by decide) ?_
    refine mt_cS (pc := 9) (n_within) cal_X11_within sta_X11_within ml_X11_348 dX11_poorest_9 (by first | assumption | (show _ ≤ d; omega)) ⟨(Nat.le_of_ble_eq_true rfl), (Nat.le_of_ble_eq_true rfl)⟩ rfl rfl (Nat.le_of_ble_eq_true rfl) ?_
    rw [in_w hok]
    refine mt_iconst (pc := 12) (v := 1) dX11_poorest_12 (by decide) ?_
    refine mt_iconst (pc := 13) (v := 1) dX11_poorest_13 (by decide) ?_
    refine mt_cV (pc := 14) (n_mayY (d := 0) (q := 1) hx rfl (by decide)) cal_X11_may vir_X11_may ml_X11_190 dX11_poorest_14 (by omega) (mos_o _ _ _) (by first | assumption | (show _ ≤ d; omega)) ⟨(Nat.le_of_ble_eq_true rfl), (Nat.le_of_ble_eq_true rfl)⟩ rfl rfl (Nat.le_of_ble_eq_true rfl) ?_
    refine mt_if_ne (pc := 17) (tgt := 22) dX11_poorest_17 (by decide) (fun c17 => ?_) (fun c17 => ?_)
    · skip
      refine mt_iconst (pc := 22) (v := (-1)) dX11_poorest_22 (by decide) ?_
      refine mt_istore_n (pc := 23) dX11_poorest_23 (Nat.le_of_ble_eq_true rfl) rfl ?_
      refine mt_iconst (pc := 24) (v := 0) dX11_poorest_24 (by decide) ?_
      refine mt_istore_n (pc := 25) dX11_poorest_25 (Nat.le_of_ble_eq_true rfl) rfl ?_
      refine mt_for (pc := 26) (H := fun c => mos h (upd g 0 0) A) (L := fun c => [some (.ref 188), some (.int x), some (.int ((poorF f c).1)), some (.int (nI c))]) (k.2.1) (fun c hc nc => ?_) ?_
      · skip
        rw [poor_s] at nc
        have sel := poor_sel f c
        generalize poorF f c = w at nc sel ⊢
        refine mt_iload_n (pc := 26) dX11_poorest_26 rfl ?_
        refine mt_aload_n (pc := 27) dX11_poorest_27 rfl ?_
        refine mt_mgetI (pc := 28) (x := nI k.2.1) gf_X11_157 dX11_poorest_28 hx rfl h19 ?_
        refine mt_icmp_ge (pc := 31) (tgt := 68) dX11_poorest_31 (by decide) (fun c31 => ?_) (fun c31 => ?_)
        · exact absurd c31 (nI_ge hc (by first | omega | decide))
        · skip
          refine mt_iload_n (pc := 34) dX11_poorest_34 rfl ?_
          refine mt_iconst (pc := 35) (v := (-1)) dX11_poorest_35 (by decide) ?_
          refine mt_icmp_eq (pc := 36) (tgt := 60) dX11_poorest_36 (by decide) (fun c36 => ?_) (fun c36 => ?_)
          · skip
            rw [if_pos (Or.inl c36)] at nc
            refine mt_iload_n (pc := 60) dX11_poorest_60 rfl ?_
            refine mt_istore_n (pc := 61) dX11_poorest_61 (Nat.le_of_ble_eq_true rfl) rfl ?_
            refine mt_iinc (pc := 62) (c9 := 1) dX11_poorest_62 rfl (by decide) (Nat.le_of_ble_eq_true rfl) rfl ?_
            refine mt_goto (pc := 65) (tgt := 26) dX11_poorest_65 (by decide) ?_
            rw [show (nI c + 1 : Int32) = nI (c + 1) from nI_1 c]
            first
              | exact nc
              | exact mt_fg (by repeat (first | exact trivial | refine ⟨rfl, ?_⟩ | rfl)) nc
          · skip
            obtain ⟨b, hb, rfl⟩ := sel.resolve_left (fun z => c36 (by rw [z]))
            refine mt_aload_n (pc := 39) dX11_poorest_39 rfl ?_
            refine mt_mget (pc := 40) gf_X11_65 dX11_poorest_40 hx rfl ?_
            refine mt_bipush (pc := 43) (v := 22) dX11_poorest_43 (by decide) ?_
            refine mt_iload_n (pc := 45) dX11_poorest_45 rfl ?_
            refine mt_iaddN (pc := 46) (a := 22) (b := c) dX11_poorest_46 rfl rfl ?_
            refine mt_mald (pc := 47) (i := 205) (j := 22 + c) (x := f (18 + c)) dX11_poorest_47 hx rfl rfl (by show _ < 91; omega) (hR.2.2.2.1 c (by omega)) ?_
            refine mt_aload_n (pc := 48) dX11_poorest_48 rfl ?_
            refine mt_mget (pc := 49) gf_X11_65 dX11_poorest_49 hx rfl ?_
            refine mt_bipush (pc := 52) (v := 22) dX11_poorest_52 (by decide) ?_
            refine mt_iload_n (pc := 54) dX11_poorest_54 rfl ?_
            refine mt_iaddN (pc := 55) (a := 22) (b := b) dX11_poorest_55 rfl rfl ?_
            refine mt_mald (pc := 56) (i := 205) (j := 22 + b) (x := f (18 + b)) dX11_poorest_56 hx rfl rfl (by show _ < 91; omega) (hR.2.2.2.1 b (by omega)) ?_
            refine mt_icmp_ge (pc := 57) (tgt := 62) dX11_poorest_57 (by decide) (fun c57 => ?_) (fun c57 => ?_)
            · skip
              rw [if_neg (fun z => z.elim c36 (fun y => absurd c57 (Int32.not_le.mpr y)))] at nc
              refine mt_iinc (pc := 62) (c9 := 1) dX11_poorest_62 rfl (by decide) (Nat.le_of_ble_eq_true rfl) rfl ?_
              refine mt_goto (pc := 65) (tgt := 26) dX11_poorest_65 (by decide) ?_
              rw [show (nI c + 1 : Int32) = nI (c + 1) from nI_1 c]
              first
                | exact nc
                | exact mt_fg (by repeat (first | exact trivial | refine ⟨rfl, ?_⟩ | rfl)) nc
            · skip
              rw [if_pos (Or.inr (Int32.not_le.mp c57))] at nc
              refine mt_iload_n (pc := 60) dX11_poorest_60 rfl ?_
              refine mt_istore_n (pc := 61) dX11_poorest_61 (Nat.le_of_ble_eq_true rfl) rfl ?_
              refine mt_iinc (pc := 62) (c9 := 1) dX11_poorest_62 rfl (by decide) (Nat.le_of_ble_eq_true rfl) rfl ?_
              refine mt_goto (pc := 65) (tgt := 26) dX11_poorest_65 (by decide) ?_
              rw [show (nI c + 1 : Int32) = nI (c + 1) from nI_1 c]
              first
                | exact nc
                | exact mt_fg (by repeat (first | exact trivial | refine ⟨rfl, ?_⟩ | rfl)) nc
      · skip
        have sel := poor_sel f k.2.1
        generalize poorF f k.2.1 = w at sel hr ⊢
        refine mt_iload_n (pc := 26) dX11_poorest_26 rfl ?_
        refine mt_aload_n (pc := 27) dX11_poorest_27 rfl ?_
        refine mt_mgetI (pc := 28) (x := nI k.2.1) gf_X11_157 dX11_poorest_28 hx rfl h19 ?_
        refine mt_icmp_ge (pc := 31) (tgt := 68) dX11_poorest_31 (by decide) (fun c31 => ?_) (fun c31 => ?_)
        · skip
          refine mt_iload_n (pc := 68) dX11_poorest_68 rfl ?_
          refine mt_if_eq (pc := 69) (tgt := 77) dX11_poorest_69 (by decide) (fun c69 => ?_) (fun c69 => ?_)
          · skip
            refine mt_iload_n (pc := 77) dX11_poorest_77 rfl ?_
            refine mt_goto (pc := 78) (tgt := 90) dX11_poorest_78 (by decide) ?_
            exact mt_iret rfl dX11_poorest_90 (Nat.le_of_ble_eq_true rfl) (Nat.le_of_ble_eq_true rfl) (P_mqv (c0 := 1) (c1 := 1) (r := r) (by rw [hr, if_pos c69]) GQ_0 AQ_rf)
          · skip
            refine mt_iload_n (pc := 72) dX11_poorest_72 rfl ?_
            refine mt_iconst (pc := 73) (v := (-1)) dX11_poorest_73 (by decide) ?_
            refine mt_icmp_ne (pc := 74) (tgt := 81) dX11_poorest_74 (by decide) (fun c74 => ?_) (fun c74 => ?_)
            · skip
              obtain ⟨b, hb, rfl⟩ := sel.resolve_left (fun z => c74 (by rw [z]))
              refine mt_aload_n (pc := 81) dX11_poorest_81 rfl ?_
              refine mt_mget (pc := 82) gf_X11_65 dX11_poorest_82 hx rfl ?_
              refine mt_bipush (pc := 85) (v := 22) dX11_poorest_85 (by decide) ?_
              refine mt_iload_n (pc := 87) dX11_poorest_87 rfl ?_
              refine mt_iaddN (pc := 88) (a := 22) (b := b) dX11_poorest_88 rfl rfl ?_
              refine mt_mald (pc := 89) (i := 205) (j := 22 + b) (x := f (18 + b)) dX11_poorest_89 hx rfl rfl (by show _ < 91; omega) (hR.2.2.2.1 b (by omega)) ?_
              exact mt_iret rfl dX11_poorest_90 (Nat.le_of_ble_eq_true rfl) (Nat.le_of_ble_eq_true rfl) (P_mqv (c0 := 1) (c1 := 1) (r := r) (by rw [hr, if_neg c69]) GQ_0 AQ_rf)
            · skip
              have ew := sel_m1 (by omega) sel c74
              refine mt_iload_n (pc := 77) dX11_poorest_77 rfl ?_
              refine mt_goto (pc := 78) (tgt := 90) dX11_poorest_78 (by decide) ?_
              exact mt_iret rfl dX11_poorest_90 (Nat.le_of_ble_eq_true rfl) (Nat.le_of_ble_eq_true rfl) (P_mqv (c0 := 1) (c1 := 1) (r := r) (by rw [hr, if_neg c69, ew]) GQ_0 AQ_rf)
        · exact absurd (nI_le (Nat.le_refl _) (by first | omega | decide)) c31
    · exact absurd c17 (by decide)
  · rw [ifR_n hok]
    refine mm_start (lo := [some (.ref 188), some (.int x), none, none]) pn_X11 rfl rfl (Nat.le_of_ble_eq_true rfl) ?_
    refine mt_aload_n (pc := 0) dX11_poorest_0 rfl ?_
    refine mt_iconst (pc := 1) (v := 0) dX11_poorest_1 (by decide) ?_
    refine mt_mput (pc := 2) pf_X11_3 dX11_poorest_2 hx rfl ?_
    refine mt_aload_n (pc := 5) dX11_poorest_5 rfl ?_
    refine mt_iload_n (pc := 6) dX11_poorest_6 rfl ?_
    refine mt_iconst (pc := 7) (v := 0) dX11_poorest_7 (by decide) ?_
    refine mt_iconst (pc := 8) (v := 1) dX11_poorest_8 (by decide) ?_
    refine mt_cS (pc := 9) (n_within) cal_X11_within sta_X11_within ml_X11_348 dX11_poorest_9 (by first | assumption | (show _ ≤ d; omega)) ⟨(Nat.le_of_ble_eq_true rfl), (Nat.le_of_ble_eq_true rfl)⟩ rfl rfl (Nat.le_of_ble_eq_true rfl) ?_
    rw [in_nw hok]
    refine mt_iconst (pc := 12) (v := 1) dX11_poorest_12 (by decide) ?_
    refine mt_iconst (pc := 13) (v := 1) dX11_poorest_13 (by decide) ?_
    refine mt_cV (pc := 14) (n_mayN (d := 0) (q := 1) hx (by decide) rfl rfl (by decide)) cal_X11_may vir_X11_may ml_X11_190 dX11_poorest_14 (by omega) (mos_o _ _ _) (by first | assumption | (show _ ≤ d; omega)) ⟨(Nat.le_of_ble_eq_true rfl), (Nat.le_of_ble_eq_true rfl)⟩ rfl rfl (Nat.le_of_ble_eq_true rfl) ?_
    refine mt_if_ne (pc := 17) (tgt := 22) dX11_poorest_17 (by decide) (fun c17 => ?_) (fun c17 => ?_)
    · exact absurd rfl c17
    · skip
      refine mt_iconst (pc := 20) (v := 0) dX11_poorest_20 (by decide) ?_
      exact mt_iret rfl dX11_poorest_21 (Nat.le_of_ble_eq_true rfl) (Nat.le_of_ble_eq_true rfl) (P_mq1 (c0 := 1) (c1 := 1) (r := .inl 1) rfl)
theorem n_next {x : Int32} (hd : 3 ≤ d) (hx : 215 ≤ nx) (hR : RR (A 205) f) (hJ : RJ 400 k f) : mm_Con G l yX11_next cX11_next 4 (some .int) d 0 0 [.ref 188, .int x] nx (mos h g A) (P_mq 1 1 (ifR x 0 1 (.inr (if x = 0 then (nextF f (nlo f)).1 else (nextF f (nlo f)).2))) nx h g A) := by
  obtain ⟨hn10, e3, -⟩ := hJ.1.nl
  obtain ⟨v, v1, v2⟩ := hJ.2.1
  by_cases hok : ¬ x < 0 ∧ ¬ 1 < x
  · rw [ifR_p hok]
    obtain ⟨r, hr⟩ : ∃ r : Nat ⊕ Int32, r = .inr (if x = 0 then (nextF f (nlo f)).1 else (nextF f (nlo f)).2) := ⟨_, rfl⟩
    rw [← hr]
    refine mm_start (lo := [some (.ref 188), some (.int x), none, none]) pn_X11 rfl rfl (Nat.le_of_ble_eq_true rfl) ?_
    refine mt_aload_n (pc := 0) dX11_next_0 rfl ?_
    refine mt_iconst (pc := 1) (v := 0) dX11_next_1 (by decide) ?_
    refine mt_mput (pc := 2) pf_X11_3 dX11_next_2 hx rfl ?_
    refine mt_aload_n (pc := 5) dX11_next_5 rfl ?_
    refine mt_iload_n (pc := 6) dX11_next_6 rfl ?_
    refine mt_iconst (pc := 7) (v := 0) dX11_next_7 (by decide) ?_
    refine mt_iconst (pc := 8) (v := 1) dX11_next_8 (by decide) ?_
    refine mt_cS (pc := 9) (n_within) cal_X11_within sta_X11_within ml_X11_348 dX11_next_9 (by first | assumption | (show _ ≤ d; omega)) ⟨(Nat.le_of_ble_eq_true rfl), (Nat.le_of_ble_eq_true rfl)⟩ rfl rfl (Nat.le_of_ble_eq_true rfl) ?_
    rw [in_w hok]
    refine mt_iconst (pc := 12) (v := 1) dX11_next_12 (by decide) ?_
    refine mt_iconst (pc := 13) (v := 1) dX11_next_13 (by decide) ?_
    refine mt_cV (pc := 14) (n_mayY (d := 0) (q := 1) hx rfl (by decide)) cal_X11_may vir_X11_may ml_X11_190 dX11_next_14 (by omega) (mos_o _ _ _) (by first | assumption | (show _ ≤ d; omega)) ⟨(Nat.le_of_ble_eq_true rfl), (Nat.le_of_ble_eq_true rfl)⟩ rfl rfl (Nat.le_of_ble_eq_true rfl) ?_
    refine mt_if_ne (pc := 17) (tgt := 22) dX11_next_17 (by decide) (fun c17 => ?_) (fun c17 => ?_)
    · skip
      refine mt_aload_n (pc := 22) dX11_next_22 rfl ?_
      refine mt_aV (pc := 23) (n_takeR (d := 1) (f := f) (Nat.le_refl 1) hx hR hn10) cal_X11_take vir_X11_take ml_X11_293 dX11_next_23 (by omega) (mos_o _ _ _) (by first | assumption | (show _ ≤ d; omega)) ⟨(Nat.le_of_ble_eq_true rfl), (Nat.le_of_ble_eq_true rfl)⟩ rfl rfl (Nat.le_of_ble_eq_true rfl) ?_ ?_
      · rintro x9 n9 k9 h9
        obtain ⟨⟨⟩, -⟩ := h9
      · rintro v9 n9 k9 ⟨⟨⟩, rfl, S, rfl, hS⟩
        refine ⟨rfl, ?_⟩
        have hS' : RR (updR A 206 S 206) f := by rw [updR_eq]; exact hS
        refine mt_iconst (pc := 26) (v := (-1)) dX11_next_26 (by decide) ?_
        refine mt_istore_n (pc := 27) dX11_next_27 (Nat.le_of_ble_eq_true rfl) rfl ?_
        refine mt_iconst (pc := 28) (v := 0) dX11_next_28 (by decide) ?_
        refine mt_istore_n (pc := 29) dX11_next_29 (Nat.le_of_ble_eq_true rfl) rfl ?_
        refine mt_for (pc := 30) (H := fun c => mos h (upd g 0 0) (updR A 206 S)) (L := fun c => [some (.ref 188), some (.int x), some (.int ((nextF f c).1)), some (.int (nI c))]) (nlo f) (fun c hc nc => ?_) ?_
        · skip
          rw [next_s] at nc
          have sel := next_sel f c
          generalize nextF f c = w at nc sel ⊢
          refine mt_iload_n (pc := 30) dX11_next_30 rfl ?_
          refine mt_aload_n (pc := 31) dX11_next_31 rfl ?_
          refine mt_mget (pc := 32) gf_X11_68 dX11_next_32 hx rfl ?_
          refine mt_bipush (pc := 35) (v := 88) dX11_next_35 (by decide) ?_
          refine mt_mald2 (pc := 37) (i := 206) (j := 88) (x := nI (nlo f)) dX11_next_37 hx rfl rfl (by show _ < 91; omega) (by rw [hS.2.2.2.2.2.1]; exact e3) ?_
          refine mt_icmp_ge (pc := 38) (tgt := 78) dX11_next_38 (by decide) (fun c38 => ?_) (fun c38 => ?_)
          · exact absurd c38 (nI_ge hc (by first | omega | decide))
          · skip
            refine mt_aload_n (pc := 41) dX11_next_41 rfl ?_
            refine mt_iload_n (pc := 42) dX11_next_42 rfl ?_
            refine mt_iconst (pc := 43) (v := 5) dX11_next_43 (by decide) ?_
            refine mt_cV (pc := 44) (n_loanOf (d := 0) (i := c) (k := 5) hx (by omega) (by decide)) cal_X11_loanOf vir_X11_loanOf ml_X11_314 dX11_next_44 (by omega) (mos_o _ _ _) (by first | assumption | (show _ ≤ d; omega)) ⟨(Nat.le_of_ble_eq_true rfl), (Nat.le_of_ble_eq_true rfl)⟩ rfl rfl (Nat.le_of_ble_eq_true rfl) ?_
            rw [hS'.ln hc (show 5 < 6 by decide)]
            refine mt_if_ne (pc := 47) (tgt := 72) dX11_next_47 (by decide) (fun c47 => ?_) (fun c47 => ?_)
            · skip
              rw [if_pos ((hJ.1.2.2.2.2.2.2 c hc).2.2.1.resolve_left c47)] at nc
              refine mt_iinc (pc := 72) (c9 := 1) dX11_next_72 rfl (by decide) (Nat.le_of_ble_eq_true rfl) rfl ?_
              refine mt_goto (pc := 75) (tgt := 30) dX11_next_75 (by decide) ?_
              rw [show (nI c + 1 : Int32) = nI (c + 1) from nI_1 c]
              first
                | exact nc
                | exact mt_fg (by repeat (first | exact trivial | refine ⟨rfl, ?_⟩ | rfl)) nc
            · skip
              rw [if_neg (by rw [c47]; decide)] at nc
              refine mt_iload_n (pc := 50) dX11_next_50 rfl ?_
              refine mt_iconst (pc := 51) (v := (-1)) dX11_next_51 (by decide) ?_
              refine mt_icmp_eq (pc := 52) (tgt := 70) dX11_next_52 (by decide) (fun c52 => ?_) (fun c52 => ?_)
              · skip
                rw [if_pos (Or.inl c52)] at nc
                refine mt_iload_n (pc := 70) dX11_next_70 rfl ?_
                refine mt_istore_n (pc := 71) dX11_next_71 (Nat.le_of_ble_eq_true rfl) rfl ?_
                refine mt_iinc (pc := 72) (c9 := 1) dX11_next_72 rfl (by decide) (Nat.le_of_ble_eq_true rfl) rfl ?_
                refine mt_goto (pc := 75) (tgt := 30) dX11_next_75 (by decide) ?_
                rw [show (nI c + 1 : Int32) = nI (c + 1) from nI_1 c]
                first
                  | exact nc
                  | exact mt_fg (by repeat (first | exact trivial | refine ⟨rfl, ?_⟩ | rfl)) nc
              · skip
                obtain ⟨b, hb, rfl⟩ := sel.resolve_left (fun z => c52 (by rw [z]))
                obtain ⟨u, u1, u2⟩ := hJ.2.2 c hc
                obtain ⟨u', u1', u2'⟩ := hJ.2.2 b (by omega)
                have hcmp : (f (24 + 6 * c + 4) - f 0 < f (24 + 6 * b + 4) - f 0) ↔ ¬ f (24 + 6 * b + 4) ≤ f (24 + 6 * c + 4) := by rw [u1, u1', v1]; exact sub_lt3 (by omega) (by omega) (by omega)
                refine mt_aload_n (pc := 55) dX11_next_55 rfl ?_
                refine mt_iload_n (pc := 56) dX11_next_56 rfl ?_
                refine mt_iconst (pc := 57) (v := 4) dX11_next_57 (by decide) ?_
                refine mt_cV (pc := 58) (n_loanOf (d := 0) (i := c) (k := 4) hx (by omega) (by decide)) cal_X11_loanOf vir_X11_loanOf ml_X11_314 dX11_next_58 (by omega) (mos_o _ _ _) (by first | assumption | (show _ ≤ d; omega)) ⟨(Nat.le_of_ble_eq_true rfl), (Nat.le_of_ble_eq_true rfl)⟩ rfl rfl (Nat.le_of_ble_eq_true rfl) ?_
                rw [hS'.ln hc (show 4 < 6 by decide)]
                refine mt_aload_n (pc := 61) dX11_next_61 rfl ?_
                refine mt_iload_n (pc := 62) dX11_next_62 rfl ?_
                refine mt_iconst (pc := 63) (v := 4) dX11_next_63 (by decide) ?_
                refine mt_cV (pc := 64) (n_loanOf (d := 0) (i := b) (k := 4) hx (by omega) (by decide)) cal_X11_loanOf vir_X11_loanOf ml_X11_314 dX11_next_64 (by omega) (mos_o _ _ _) (by first | assumption | (show _ ≤ d; omega)) ⟨(Nat.le_of_ble_eq_true rfl), (Nat.le_of_ble_eq_true rfl)⟩ rfl rfl (Nat.le_of_ble_eq_true rfl) ?_
                rw [hS'.ln (show b < nlo f by omega) (show 4 < 6 by decide)]
                refine mt_icmp_ge (pc := 67) (tgt := 72) dX11_next_67 (by decide) (fun c67 => ?_) (fun c67 => ?_)
                · skip
                  rw [if_neg (fun z => z.elim c52 (fun y => (hcmp.mp y) c67))] at nc
                  refine mt_iinc (pc := 72) (c9 := 1) dX11_next_72 rfl (by decide) (Nat.le_of_ble_eq_true rfl) rfl ?_
                  refine mt_goto (pc := 75) (tgt := 30) dX11_next_75 (by decide) ?_
                  rw [show (nI c + 1 : Int32) = nI (c + 1) from nI_1 c]
                  first
                    | exact nc
                    | exact mt_fg (by repeat (first | exact trivial | refine ⟨rfl, ?_⟩ | rfl)) nc
                · skip
                  rw [if_pos (Or.inr (hcmp.mpr c67))] at nc
                  refine mt_iload_n (pc := 70) dX11_next_70 rfl ?_
                  refine mt_istore_n (pc := 71) dX11_next_71 (Nat.le_of_ble_eq_true rfl) rfl ?_
                  refine mt_iinc (pc := 72) (c9 := 1) dX11_next_72 rfl (by decide) (Nat.le_of_ble_eq_true rfl) rfl ?_
                  refine mt_goto (pc := 75) (tgt := 30) dX11_next_75 (by decide) ?_
                  rw [show (nI c + 1 : Int32) = nI (c + 1) from nI_1 c]
                  first
                    | exact nc
                    | exact mt_fg (by repeat (first | exact trivial | refine ⟨rfl, ?_⟩ | rfl)) nc
        · skip
          have sel := next_sel f (nlo f)
          generalize nextF f (nlo f) = w at sel hr ⊢
          refine mt_iload_n (pc := 30) dX11_next_30 rfl ?_
          refine mt_aload_n (pc := 31) dX11_next_31 rfl ?_
          refine mt_mget (pc := 32) gf_X11_68 dX11_next_32 hx rfl ?_
          refine mt_bipush (pc := 35) (v := 88) dX11_next_35 (by decide) ?_
          refine mt_mald2 (pc := 37) (i := 206) (j := 88) (x := nI (nlo f)) dX11_next_37 hx rfl rfl (by show _ < 91; omega) (by rw [hS.2.2.2.2.2.1]; exact e3) ?_
          refine mt_icmp_ge (pc := 38) (tgt := 78) dX11_next_38 (by decide) (fun c38 => ?_) (fun c38 => ?_)
          · skip
            refine mt_iload_n (pc := 78) dX11_next_78 rfl ?_
            refine mt_if_eq (pc := 79) (tgt := 87) dX11_next_79 (by decide) (fun c79 => ?_) (fun c79 => ?_)
            · skip
              refine mt_iload_n (pc := 87) dX11_next_87 rfl ?_
              refine mt_goto (pc := 88) (tgt := 105) dX11_next_88 (by decide) ?_
              exact mt_iret rfl dX11_next_105 (Nat.le_of_ble_eq_true rfl) (Nat.le_of_ble_eq_true rfl) (P_mqv (c0 := 1) (c1 := 1) (r := r) (by rw [hr, if_pos c79]) GQ_0 SD_u.aq)
            · skip
              refine mt_iload_n (pc := 82) dX11_next_82 rfl ?_
              refine mt_iconst (pc := 83) (v := (-1)) dX11_next_83 (by decide) ?_
              refine mt_icmp_ne (pc := 84) (tgt := 91) dX11_next_84 (by decide) (fun c84 => ?_) (fun c84 => ?_)
              · skip
                obtain ⟨b, hb, rfl⟩ := sel.resolve_left (fun z => c84 (by rw [z]))
                refine mt_aload_n (pc := 91) dX11_next_91 rfl ?_
                refine mt_iload_n (pc := 92) dX11_next_92 rfl ?_
                refine mt_iconst (pc := 93) (v := 4) dX11_next_93 (by decide) ?_
                refine mt_cV (pc := 94) (n_loanOf (d := 0) (i := b) (k := 4) hx (by omega) (by decide)) cal_X11_loanOf vir_X11_loanOf ml_X11_314 dX11_next_94 (by omega) (mos_o _ _ _) (by first | assumption | (show _ ≤ d; omega)) ⟨(Nat.le_of_ble_eq_true rfl), (Nat.le_of_ble_eq_true rfl)⟩ rfl rfl (Nat.le_of_ble_eq_true rfl) ?_
                rw [hS'.ln hb (show 4 < 6 by decide)]
                refine mt_aload_n (pc := 97) dX11_next_97 rfl ?_
                refine mt_mget (pc := 98) gf_X11_68 dX11_next_98 hx rfl ?_
                refine mt_bipush (pc := 101) (v := 90) dX11_next_101 (by decide) ?_
                refine mt_mald2 (pc := 103) (i := 206) (j := 90) (x := f 0) dX11_next_103 hx rfl rfl (by show _ < 91; omega) (hS.2.2.2.2.2.2.2) ?_
                refine mt_isub (pc := 104) dX11_next_104 ?_
                exact mt_iret rfl dX11_next_105 (Nat.le_of_ble_eq_true rfl) (Nat.le_of_ble_eq_true rfl) (P_mqv (c0 := 1) (c1 := 1) (r := r) (by rw [hr, if_neg c79]) GQ_0 SD_u.aq)
              · skip
                have ew := sel_m1 (by omega) sel c84
                refine mt_iload_n (pc := 87) dX11_next_87 rfl ?_
                refine mt_goto (pc := 88) (tgt := 105) dX11_next_88 (by decide) ?_
                exact mt_iret rfl dX11_next_105 (Nat.le_of_ble_eq_true rfl) (Nat.le_of_ble_eq_true rfl) (P_mqv (c0 := 1) (c1 := 1) (r := r) (by rw [hr, if_neg c79, ew]) GQ_0 SD_u.aq)
          · exact absurd (nI_le (Nat.le_refl _) (by first | omega | decide)) c38
    · exact absurd c17 (by decide)
  · rw [ifR_n hok]
    refine mm_start (lo := [some (.ref 188), some (.int x), none, none]) pn_X11 rfl rfl (Nat.le_of_ble_eq_true rfl) ?_
    refine mt_aload_n (pc := 0) dX11_next_0 rfl ?_
    refine mt_iconst (pc := 1) (v := 0) dX11_next_1 (by decide) ?_
    refine mt_mput (pc := 2) pf_X11_3 dX11_next_2 hx rfl ?_
    refine mt_aload_n (pc := 5) dX11_next_5 rfl ?_
    refine mt_iload_n (pc := 6) dX11_next_6 rfl ?_
    refine mt_iconst (pc := 7) (v := 0) dX11_next_7 (by decide) ?_
    refine mt_iconst (pc := 8) (v := 1) dX11_next_8 (by decide) ?_
    refine mt_cS (pc := 9) (n_within) cal_X11_within sta_X11_within ml_X11_348 dX11_next_9 (by first | assumption | (show _ ≤ d; omega)) ⟨(Nat.le_of_ble_eq_true rfl), (Nat.le_of_ble_eq_true rfl)⟩ rfl rfl (Nat.le_of_ble_eq_true rfl) ?_
    rw [in_nw hok]
    refine mt_iconst (pc := 12) (v := 1) dX11_next_12 (by decide) ?_
    refine mt_iconst (pc := 13) (v := 1) dX11_next_13 (by decide) ?_
    refine mt_cV (pc := 14) (n_mayN (d := 0) (q := 1) hx (by decide) rfl rfl (by decide)) cal_X11_may vir_X11_may ml_X11_190 dX11_next_14 (by omega) (mos_o _ _ _) (by first | assumption | (show _ ≤ d; omega)) ⟨(Nat.le_of_ble_eq_true rfl), (Nat.le_of_ble_eq_true rfl)⟩ rfl rfl (Nat.le_of_ble_eq_true rfl) ?_
    refine mt_if_ne (pc := 17) (tgt := 22) dX11_next_17 (by decide) (fun c17 => ?_) (fun c17 => ?_)
    · exact absurd rfl c17
    · skip
      refine mt_iconst (pc := 20) (v := 0) dX11_next_20 (by decide) ?_
      exact mt_iret rfl dX11_next_21 (Nat.le_of_ble_eq_true rfl) (Nat.le_of_ble_eq_true rfl) (P_mq1 (c0 := 1) (c1 := 1) (r := .inl 1) rfl)
theorem n_deepest {x : Int32} (hd : 5 ≤ d) (hx : 215 ≤ nx) (hQ : MQs k cs g A) (hR : RR (A 205) f) (hI : RI k f) : mm_Con G l yX11_deepest cX11_deepest 4 (some .int) d 0 0 [.ref 188, .int x] nx (mos h g A) (P_mq 1 1 (ifR x 0 1 (.inr (if x = 0 then (deepF k cs f (nlo f)).1 else (deepF k cs f (nlo f)).2))) nx h g A) := by
  obtain ⟨h18, h19, hM, hL⟩ := id hQ
  obtain ⟨hn10, e3, -⟩ := hI.nl
  by_cases hok : ¬ x < 0 ∧ ¬ 1 < x
  · rw [ifR_p hok]
    obtain ⟨r, hr⟩ : ∃ r : Nat ⊕ Int32, r = .inr (if x = 0 then (deepF k cs f (nlo f)).1 else (deepF k cs f (nlo f)).2) := ⟨_, rfl⟩
    rw [← hr]
    refine mm_start (lo := [some (.ref 188), some (.int x), none, none]) pn_X11 rfl rfl (Nat.le_of_ble_eq_true rfl) ?_
    refine mt_aload_n (pc := 0) dX11_deepest_0 rfl ?_
    refine mt_iconst (pc := 1) (v := 0) dX11_deepest_1 (by decide) ?_
    refine mt_mput (pc := 2) pf_X11_3 dX11_deepest_2 hx rfl ?_
    refine mt_aload_n (pc := 5) dX11_deepest_5 rfl ?_
    refine mt_iload_n (pc := 6) dX11_deepest_6 rfl ?_
    refine mt_iconst (pc := 7) (v := 0) dX11_deepest_7 (by decide) ?_
    refine mt_iconst (pc := 8) (v := 1) dX11_deepest_8 (by decide) ?_
    refine mt_cS (pc := 9) (n_within) cal_X11_within sta_X11_within ml_X11_348 dX11_deepest_9 (by first | assumption | (show _ ≤ d; omega)) ⟨(Nat.le_of_ble_eq_true rfl), (Nat.le_of_ble_eq_true rfl)⟩ rfl rfl (Nat.le_of_ble_eq_true rfl) ?_
    rw [in_w hok]
    refine mt_iconst (pc := 12) (v := 1) dX11_deepest_12 (by decide) ?_
    refine mt_iconst (pc := 13) (v := 1) dX11_deepest_13 (by decide) ?_
    refine mt_cV (pc := 14) (n_mayY (d := 0) (q := 1) hx rfl (by decide)) cal_X11_may vir_X11_may ml_X11_190 dX11_deepest_14 (by omega) (mos_o _ _ _) (by first | assumption | (show _ ≤ d; omega)) ⟨(Nat.le_of_ble_eq_true rfl), (Nat.le_of_ble_eq_true rfl)⟩ rfl rfl (Nat.le_of_ble_eq_true rfl) ?_
    refine mt_if_ne (pc := 17) (tgt := 22) dX11_deepest_17 (by decide) (fun c17 => ?_) (fun c17 => ?_)
    · skip
      refine mt_aload_n (pc := 22) dX11_deepest_22 rfl ?_
      refine mt_aV (pc := 23) (n_takeR (d := 1) (f := f) (Nat.le_refl 1) hx hR hn10) cal_X11_take vir_X11_take ml_X11_293 dX11_deepest_23 (by omega) (mos_o _ _ _) (by first | assumption | (show _ ≤ d; omega)) ⟨(Nat.le_of_ble_eq_true rfl), (Nat.le_of_ble_eq_true rfl)⟩ rfl rfl (Nat.le_of_ble_eq_true rfl) ?_ ?_
      · rintro x9 n9 k9 h9
        obtain ⟨⟨⟩, -⟩ := h9
      · rintro v9 n9 k9 ⟨⟨⟩, rfl, S, rfl, hS⟩
        refine ⟨rfl, ?_⟩
        have hS' : RR (updR A 206 S 206) f := by rw [updR_eq]; exact hS
        have hQ' : MQs k cs (upd g 0 0) (updR A 206 S) := ⟨h18, h19, hM, hL⟩
        refine mt_iconst (pc := 26) (v := (-1)) dX11_deepest_26 (by decide) ?_
        refine mt_istore_n (pc := 27) dX11_deepest_27 (Nat.le_of_ble_eq_true rfl) rfl ?_
        refine mt_iconst (pc := 28) (v := 0) dX11_deepest_28 (by decide) ?_
        refine mt_istore_n (pc := 29) dX11_deepest_29 (Nat.le_of_ble_eq_true rfl) rfl ?_
        refine mt_forE (pc := 30) (α := MA) (H := fun c (a : MA) => mos h (upd g 0 0) a) (L := fun c (a : MA) => [some (.ref 188), some (.int x), some (.int ((deepF k cs f c).1)), some (.int (nI c))]) (I := fun c (a : MA) => SC (updR A 206 S) a) (nlo f) (fun c a hc fc nc => ?_) (fun a fc => ?_) (updR A 206 S) SC_rf
        · skip
          rw [deep_s] at nc
          have sel := deep_sel k cs f c
          generalize deepF k cs f c = w at nc sel ⊢
          have hRa : RR (a 206) f := by rw [fc 206 (by decide) (by decide)]; exact hS'
          have hQa : MQs k cs (upd g 0 0) a := hQ'.sc (fun j hj => fc j (by omega) (by omega))
          refine mt_iload_n (pc := 30) dX11_deepest_30 rfl ?_
          refine mt_aload_n (pc := 31) dX11_deepest_31 rfl ?_
          refine mt_mget (pc := 32) gf_X11_68 dX11_deepest_32 hx rfl ?_
          refine mt_bipush (pc := 35) (v := 88) dX11_deepest_35 (by decide) ?_
          refine mt_mald (pc := 37) (i := 206) (j := 88) (x := nI (nlo f)) dX11_deepest_37 hx rfl rfl (by show _ < 91; omega) (by rw [hRa.2.2.2.2.2.1]; exact e3) ?_
          refine mt_icmp_ge (pc := 38) (tgt := 67) dX11_deepest_38 (by decide) (fun c38 => ?_) (fun c38 => ?_)
          · exact absurd c38 (nI_ge hc (by first | omega | decide))
          · skip
            refine mt_iload_n (pc := 41) dX11_deepest_41 rfl ?_
            refine mt_iconst (pc := 42) (v := (-1)) dX11_deepest_42 (by decide) ?_
            refine mt_icmp_eq (pc := 43) (tgt := 59) dX11_deepest_43 (by decide) (fun c43 => ?_) (fun c43 => ?_)
            · skip
              have ew := sel_m1 (by omega) sel c43
              subst ew
              obtain ⟨u, u1, u2⟩ := owI_b k cs f c
              rw [if_pos (by rw [u1]; exact nI_nm1 (by omega))] at nc
              have nc := nc a fc
              refine mt_iload_n (pc := 59) dX11_deepest_59 rfl ?_
              refine mt_istore_n (pc := 60) dX11_deepest_60 (Nat.le_of_ble_eq_true rfl) rfl ?_
              refine mt_iinc (pc := 61) (c9 := 1) dX11_deepest_61 rfl (by decide) (Nat.le_of_ble_eq_true rfl) rfl ?_
              refine mt_goto (pc := 64) (tgt := 30) dX11_deepest_64 (by decide) ?_
              rw [show (nI c + 1 : Int32) = nI (c + 1) from nI_1 c]
              first
                | exact nc
                | exact mt_fg (by repeat (first | exact trivial | refine ⟨rfl, ?_⟩ | rfl)) nc
            · skip
              obtain ⟨b, hb, rfl⟩ := sel.resolve_left (fun z => c43 (by rw [z]))
              refine mt_aload_n (pc := 46) dX11_deepest_46 rfl ?_
              refine mt_iload_n (pc := 47) dX11_deepest_47 rfl ?_
              refine mt_aV (pc := 48) (n_owes (d := 4) (cs := cs) (k := k) (f := f) (Nat.le_refl 4) hx hQa hRa hI hc) cal_X11_owes vir_X11_owes ml_X11_328 dX11_deepest_48 (by omega) (mos_o _ _ _) (by first | assumption | (show _ ≤ d; omega)) ⟨(Nat.le_of_ble_eq_true rfl), (Nat.le_of_ble_eq_true rfl)⟩ rfl rfl (Nat.le_of_ble_eq_true rfl) ?_ ?_
              · rintro x9 n9 k9 h9
                obtain ⟨⟨⟩, -⟩ := h9
              · rintro v9 n9 k9 ⟨⟨⟩, rfl, A1, rfl, hS1⟩
                refine ⟨rfl, ?_⟩
                refine mt_aload_n (pc := 51) dX11_deepest_51 rfl ?_
                refine mt_iload_n (pc := 52) dX11_deepest_52 rfl ?_
                refine mt_aV (pc := 53) (n_owes (d := 4) (cs := cs) (k := k) (f := f) (i := b) (Nat.le_refl 4) hx (hQa.sc (fun j hj => hS1 j (by omega) (by omega))) (by rw [hS1 206 (by decide) (by decide)]; exact hRa) hI (by omega)) cal_X11_owes vir_X11_owes ml_X11_328 dX11_deepest_53 (by omega) (mos_o _ _ _) (by first | assumption | (show _ ≤ d; omega)) ⟨(Nat.le_of_ble_eq_true rfl), (Nat.le_of_ble_eq_true rfl)⟩ rfl rfl (Nat.le_of_ble_eq_true rfl) ?_ ?_
                · rintro x9 n9 k9 h9
                  obtain ⟨⟨⟩, -⟩ := h9
                · rintro v9 n9 k9 ⟨⟨⟩, rfl, A2, rfl, hS2⟩
                  refine ⟨rfl, ?_⟩
                  refine mt_icmp_le (pc := 56) (tgt := 61) dX11_deepest_56 (by decide) (fun c56 => ?_) (fun c56 => ?_)
                  · skip
                    have nc := nc A2 ((fc.trans hS1).trans hS2)
                    rw [if_neg (fun z => z c56)] at nc
                    refine mt_iinc (pc := 61) (c9 := 1) dX11_deepest_61 rfl (by decide) (Nat.le_of_ble_eq_true rfl) rfl ?_
                    refine mt_goto (pc := 64) (tgt := 30) dX11_deepest_64 (by decide) ?_
                    rw [show (nI c + 1 : Int32) = nI (c + 1) from nI_1 c]
                    first
                      | exact nc
                      | exact mt_fg (by repeat (first | exact trivial | refine ⟨rfl, ?_⟩ | rfl)) nc
                  · skip
                    have nc := nc A2 ((fc.trans hS1).trans hS2)
                    rw [if_pos c56] at nc
                    refine mt_iload_n (pc := 59) dX11_deepest_59 rfl ?_
                    refine mt_istore_n (pc := 60) dX11_deepest_60 (Nat.le_of_ble_eq_true rfl) rfl ?_
                    refine mt_iinc (pc := 61) (c9 := 1) dX11_deepest_61 rfl (by decide) (Nat.le_of_ble_eq_true rfl) rfl ?_
                    refine mt_goto (pc := 64) (tgt := 30) dX11_deepest_64 (by decide) ?_
                    rw [show (nI c + 1 : Int32) = nI (c + 1) from nI_1 c]
                    first
                      | exact nc
                      | exact mt_fg (by repeat (first | exact trivial | refine ⟨rfl, ?_⟩ | rfl)) nc
        · skip
          have sel := deep_sel k cs f (nlo f)
          generalize deepF k cs f (nlo f) = w at sel hr ⊢
          have hRa : RR (a 206) f := by rw [fc 206 (by decide) (by decide)]; exact hS'
          have hQa : MQs k cs (upd g 0 0) a := hQ'.sc (fun j hj => fc j (by omega) (by omega))
          refine mt_iload_n (pc := 30) dX11_deepest_30 rfl ?_
          refine mt_aload_n (pc := 31) dX11_deepest_31 rfl ?_
          refine mt_mget (pc := 32) gf_X11_68 dX11_deepest_32 hx rfl ?_
          refine mt_bipush (pc := 35) (v := 88) dX11_deepest_35 (by decide) ?_
          refine mt_mald (pc := 37) (i := 206) (j := 88) (x := nI (nlo f)) dX11_deepest_37 hx rfl rfl (by show _ < 91; omega) (by rw [hRa.2.2.2.2.2.1]; exact e3) ?_
          refine mt_icmp_ge (pc := 38) (tgt := 67) dX11_deepest_38 (by decide) (fun c38 => ?_) (fun c38 => ?_)
          · skip
            refine mt_iload_n (pc := 67) dX11_deepest_67 rfl ?_
            refine mt_if_eq (pc := 68) (tgt := 76) dX11_deepest_68 (by decide) (fun c68 => ?_) (fun c68 => ?_)
            · skip
              refine mt_iload_n (pc := 76) dX11_deepest_76 rfl ?_
              refine mt_goto (pc := 77) (tgt := 85) dX11_deepest_77 (by decide) ?_
              exact mt_iret rfl dX11_deepest_85 (Nat.le_of_ble_eq_true rfl) (Nat.le_of_ble_eq_true rfl) (P_mqv (c0 := 1) (c1 := 1) (r := r) (by rw [hr, if_pos c68]) GQ_0 (SD_u.trans fc.sd).aq)
            · skip
              refine mt_iload_n (pc := 71) dX11_deepest_71 rfl ?_
              refine mt_iconst (pc := 72) (v := (-1)) dX11_deepest_72 (by decide) ?_
              refine mt_icmp_ne (pc := 73) (tgt := 80) dX11_deepest_73 (by decide) (fun c73 => ?_) (fun c73 => ?_)
              · skip
                obtain ⟨b, hb, rfl⟩ := sel.resolve_left (fun z => c73 (by rw [z]))
                refine mt_aload_n (pc := 80) dX11_deepest_80 rfl ?_
                refine mt_iload_n (pc := 81) dX11_deepest_81 rfl ?_
                refine mt_aV (pc := 82) (n_owes (d := 4) (cs := cs) (k := k) (f := f) (i := b) (Nat.le_refl 4) hx hQa hRa hI hb) cal_X11_owes vir_X11_owes ml_X11_328 dX11_deepest_82 (by omega) (mos_o _ _ _) (by first | assumption | (show _ ≤ d; omega)) ⟨(Nat.le_of_ble_eq_true rfl), (Nat.le_of_ble_eq_true rfl)⟩ rfl rfl (Nat.le_of_ble_eq_true rfl) ?_ ?_
                · rintro x9 n9 k9 h9
                  obtain ⟨⟨⟩, -⟩ := h9
                · rintro v9 n9 k9 ⟨⟨⟩, rfl, A2, rfl, hS2⟩
                  refine ⟨rfl, ?_⟩
                  exact mt_iret rfl dX11_deepest_85 (Nat.le_of_ble_eq_true rfl) (Nat.le_of_ble_eq_true rfl) (P_mqv (c0 := 1) (c1 := 1) (r := r) (by rw [hr, if_neg c68]) GQ_0 (SD_u.trans (fc.trans hS2).sd).aq)
              · skip
                have ew := sel_m1 (by omega) sel c73
                refine mt_iload_n (pc := 76) dX11_deepest_76 rfl ?_
                refine mt_goto (pc := 77) (tgt := 85) dX11_deepest_77 (by decide) ?_
                exact mt_iret rfl dX11_deepest_85 (Nat.le_of_ble_eq_true rfl) (Nat.le_of_ble_eq_true rfl) (P_mqv (c0 := 1) (c1 := 1) (r := r) (by rw [hr, if_neg c68, ew]) GQ_0 (SD_u.trans fc.sd).aq)
          · exact absurd (nI_le (Nat.le_refl _) (by first | omega | decide)) c38
    · exact absurd c17 (by decide)
  · rw [ifR_n hok]
    refine mm_start (lo := [some (.ref 188), some (.int x), none, none]) pn_X11 rfl rfl (Nat.le_of_ble_eq_true rfl) ?_
    refine mt_aload_n (pc := 0) dX11_deepest_0 rfl ?_
    refine mt_iconst (pc := 1) (v := 0) dX11_deepest_1 (by decide) ?_
    refine mt_mput (pc := 2) pf_X11_3 dX11_deepest_2 hx rfl ?_
    refine mt_aload_n (pc := 5) dX11_deepest_5 rfl ?_
    refine mt_iload_n (pc := 6) dX11_deepest_6 rfl ?_
    refine mt_iconst (pc := 7) (v := 0) dX11_deepest_7 (by decide) ?_
    refine mt_iconst (pc := 8) (v := 1) dX11_deepest_8 (by decide) ?_
    refine mt_cS (pc := 9) (n_within) cal_X11_within sta_X11_within ml_X11_348 dX11_deepest_9 (by first | assumption | (show _ ≤ d; omega)) ⟨(Nat.le_of_ble_eq_true rfl), (Nat.le_of_ble_eq_true rfl)⟩ rfl rfl (Nat.le_of_ble_eq_true rfl) ?_
    rw [in_nw hok]
    refine mt_iconst (pc := 12) (v := 1) dX11_deepest_12 (by decide) ?_
    refine mt_iconst (pc := 13) (v := 1) dX11_deepest_13 (by decide) ?_
    refine mt_cV (pc := 14) (n_mayN (d := 0) (q := 1) hx (by decide) rfl rfl (by decide)) cal_X11_may vir_X11_may ml_X11_190 dX11_deepest_14 (by omega) (mos_o _ _ _) (by first | assumption | (show _ ≤ d; omega)) ⟨(Nat.le_of_ble_eq_true rfl), (Nat.le_of_ble_eq_true rfl)⟩ rfl rfl (Nat.le_of_ble_eq_true rfl) ?_
    refine mt_if_ne (pc := 17) (tgt := 22) dX11_deepest_17 (by decide) (fun c17 => ?_) (fun c17 => ?_)
    · exact absurd rfl c17
    · skip
      refine mt_iconst (pc := 20) (v := 0) dX11_deepest_20 (by decide) ?_
      exact mt_iret rfl dX11_deepest_21 (Nat.le_of_ble_eq_true rfl) (Nat.le_of_ble_eq_true rfl) (P_mq1 (c0 := 1) (c1 := 1) (r := .inl 1) rfl)
end MQC
