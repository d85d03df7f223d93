/-! The reference: who is served. -/
def EM (M : Nat) (g : MG) : Prop := ∃ (ml : Nat) (mm : Int), g 45 = nI ml ∧ (g 46).toInt = mm ∧ ml < 200 ∧ mm < 1000 ∧ -1 ≤ mm ∧ (M : Int) = 1000 * ml + mm + 1 ∧ (mm = -1 → ml = 0)
def TWs (g0 : MG) (A0 : MA) (g : MG) (A : MA) : Prop := (∀ j, j ≠ 45 → j ≠ 46 → g j = g0 j) ∧ ∀ j, j ≠ 210 → j ≠ 211 → j ≠ 212 → A j = A0 j
theorem TWs_rf {g : MG} {A : MA} : TWs g A g A := ⟨fun _ _ _ => rfl, fun _ _ _ _ => rfl⟩
theorem TWs.trans {g0 g1 g2 : MG} {A0 A1 A2 : MA} (h1 : TWs g0 A0 g1 A1) (h2 : TWs g1 A1 g2 A2) : TWs g0 A0 g2 A2 := ⟨fun j a b => (h2.1 j a b).trans (h1.1 j a b), fun j a b c => (h2.2 j a b c).trans (h1.2 j a b c)⟩
/-- the rooms -/
def RMq (sl : Nat) (R : Nat → Nat) (a : Nat → Int32) : Prop := ∀ p, p < sl → a p = nI (R p) ∧ R p ≤ 99
/-- what the search stands on -/
def MSV (k : CS) (cs : List Nat) (bk : BS) (f : Nat → Int32) (g : MG) (A : MA) : Prop := MQs k cs g A ∧ g 41 = nI bk.1 ∧ MBK k.2.1 bk (A 209) ∧ RR (A 206) f
theorem MSV.tw {k : CS} {cs : List Nat} {bk : BS} {f : Nat → Int32} {g g' : MG} {A A' : MA} (h : MSV k cs bk f g A) (ht : TWs g A g' A') : MSV k cs bk f g' A' := by
  obtain ⟨⟨h1, h2, h3, h4⟩, h5, h6, h7⟩ := h
  refine ⟨⟨(ht.1 18 (by decide) (by decide)).trans h1, (ht.1 19 (by decide) (by decide)).trans h2, ?_, ?_⟩, (ht.1 41 (by decide) (by decide)).trans h5, ?_, ?_⟩
  · rw [ht.2 194 (by decide) (by decide) (by decide), ht.2 195 (by decide) (by decide) (by decide), ht.2 196 (by decide) (by decide) (by decide)]
    exact h3
  · rw [ht.1 26 (by decide) (by decide), ht.2 199 (by decide) (by decide) (by decide), ht.2 200 (by decide) (by decide) (by decide)]
    exact h4
  · rw [ht.2 209 (by decide) (by decide) (by decide)]
    exact h6
  · rw [ht.2 206 (by decide) (by decide) (by decide)]
    exact h7
theorem MBK.am {so : Nat} {bk : BS} {X : Nat → Int32} (h : MBK so bk X) (hso : so ≤ 6) {i : Nat} (hi : i < bk.1) : X (3 * i + 2) = nI (amN bk i) ∧ 1 ≤ amN bk i ∧ amN bk i ≤ 60 ∧ X (3 * i) = nI (soN bk i) ∧ soN bk i < so ∧ X (3 * i + 1) = bk.2.2.1 i ∧ bk.2.2.2 i = nI (amN bk i) ∧ bk.2.1 i = nI (soN bk i) := by
  obtain ⟨h1, h2, h3, ⟨a, a1, a2⟩, n, n1, n2, n3⟩ := h.2 i hi
  have ea : soN bk i = a := by unfold soN; rw [a1, nI_clamp (by omega)]
  have en : amN bk i = n := by unfold amN; rw [n1, nI_clamp (by omega)]
  rw [ea, en]
  exact ⟨h3.trans n1, n2, n3, h1.trans a1, a2, h2, n1, a1⟩
theorem MBK.bkw {k : CS} {bk : BS} {X : Nat → Int32} (h : MBK k.2.1 bk X) (hso : k.2.1 ≤ 6) : BKW k bk := ⟨h.1, fun i hi => by
  obtain ⟨-, a2, a3, -, a5, -, a7, a8⟩ := h.am hso hi
  exact ⟨⟨a8, a5⟩, a7, a2, a3⟩⟩
theorem RI.uw {k : CS} {f : Nat → Int32} (h : RI k f) : UW f := fun p hp => by
  obtain ⟨u, u1, u2⟩ := h.2.1 p hp
  have e : rmN f p = u := by unfold rmN; rw [u1, nI_clamp (by omega)]
  rw [e]
  exact ⟨u1, u2⟩
section MTRY
variable {G : mm_G} {l : Launch} {d nx : Nat} {h : Nat → mm_E} {g : MG} {A : MA} {k : CS} {cs : List Nat} {f : Nat → Int32} {bk : BS}
theorem n_isFor {i p : Nat} (hd : 1 ≤ d) (hx : 215 ≤ nx) (hS : MSV k cs bk f g A) (hi : i < bk.1) (hp : p < k.1) : mm_Con G l yX11_isFor cX11_isFor 3 (some .boolean) d 0 0 [.ref 188, .int (nI i), .int (nI p)] nx (mos h g A) (mm_ret (some (.int (if elg k f bk i p then 1 else 0))) nx (mos h g A)) := by
  obtain ⟨⟨-, -, hM, -⟩, -, hB, hR⟩ := hS
  have hk1 := hM.1
  have hk2 := hM.2.1
  have hn := hB.1
  obtain ⟨a1, a2, a3, a4, a5, a6, a7, a8⟩ := hB.am hk2 hi
  refine mm_start (lo := [some (.ref 188), some (.int (nI i)), some (.int (nI p))]) pn_X11 rfl rfl (Nat.le_of_ble_eq_true rfl) ?_
  refine mt_aload_n (pc := 0) dX11_isFor_0 rfl ?_
  refine mt_mget (pc := 1) gf_X11_32 dX11_isFor_1 hx rfl ?_
  refine mt_iconst (pc := 4) (v := 2) dX11_isFor_4 (by decide) ?_
  refine mt_iload_n (pc := 5) dX11_isFor_5 rfl ?_
  refine mt_imulN (pc := 6) (a := 2) (b := p) dX11_isFor_6 rfl rfl ?_
  refine mt_mald (pc := 7) (i := 194) (j := 2 * p) (x := k.2.2.1 p) dX11_isFor_7 hx rfl rfl (by show _ < 16; omega) ((hM.2.2.1 p hp).1) ?_
  refine mt_aload_n (pc := 8) dX11_isFor_8 rfl ?_
  refine mt_mget (pc := 9) gf_X11_77 dX11_isFor_9 hx rfl ?_
  refine mt_iconst (pc := 12) (v := 3) dX11_isFor_12 (by decide) ?_
  refine mt_iload_n (pc := 13) dX11_isFor_13 rfl ?_
  refine mt_imulN (pc := 14) (a := 3) (b := i) dX11_isFor_14 rfl rfl ?_
  refine mt_iconst (pc := 15) (v := 1) dX11_isFor_15 (by decide) ?_
  refine mt_iaddN (pc := 16) (a := 3 * i) (b := 1) dX11_isFor_16 rfl rfl ?_
  refine mt_mald (pc := 17) (i := 209) (j := (3 * i) + 1) (x := bk.2.2.1 i) dX11_isFor_17 hx rfl rfl (by show _ < 18; omega) a6 ?_
  refine mt_icmp_ne (pc := 18) (tgt := 51) dX11_isFor_18 (by decide) (fun c18 => ?_) (fun c18 => ?_)
  · skip
    refine mt_iconst (pc := 51) (v := 0) dX11_isFor_51 (by decide) ?_
    exact mt_zret rfl (by first | exact Or.inl rfl | exact Or.inr rfl) dX11_isFor_52 (Nat.le_of_ble_eq_true rfl) (Nat.le_of_ble_eq_true rfl) ⟨by rw [if_neg (fun z => c18 z.1.symm)], rfl, rfl⟩
  · skip
    refine mt_aload_n (pc := 21) dX11_isFor_21 rfl ?_
    refine mt_aload_n (pc := 22) dX11_isFor_22 rfl ?_
    refine mt_mget (pc := 23) gf_X11_77 dX11_isFor_23 hx rfl ?_
    refine mt_iconst (pc := 26) (v := 3) dX11_isFor_26 (by decide) ?_
    refine mt_iload_n (pc := 27) dX11_isFor_27 rfl ?_
    refine mt_imulN (pc := 28) (a := 3) (b := i) dX11_isFor_28 rfl rfl ?_
    refine mt_mald (pc := 29) (i := 209) (j := 3 * i) (x := nI (soN bk i)) dX11_isFor_29 hx rfl rfl (by show _ < 18; omega) a4 ?_
    refine mt_iload_n (pc := 30) dX11_isFor_30 rfl ?_
    refine mt_aload_n (pc := 31) dX11_isFor_31 rfl ?_
    refine mt_mget (pc := 32) gf_X11_77 dX11_isFor_32 hx rfl ?_
    refine mt_iconst (pc := 35) (v := 3) dX11_isFor_35 (by decide) ?_
    refine mt_iload_n (pc := 36) dX11_isFor_36 rfl ?_
    refine mt_imulN (pc := 37) (a := 3) (b := i) dX11_isFor_37 rfl rfl ?_
    refine mt_iconst (pc := 38) (v := 2) dX11_isFor_38 (by decide) ?_
    refine mt_iaddN (pc := 39) (a := 3 * i) (b := 2) dX11_isFor_39 rfl rfl ?_
    refine mt_mald (pc := 40) (i := 209) (j := (3 * i) + 2) (x := bk.2.2.2 i) dX11_isFor_40 hx rfl rfl (by show _ < 18; omega) (a1.trans a7.symm) ?_
    refine mt_cV (pc := 41) (n_wouldLend (d := 0) (k := k) (f := f) hx hM hR (by omega) hp) cal_X11_wouldLend vir_X11_wouldLend ml_X11_321 dX11_isFor_41 (by omega) (mos_o _ _ _) (by first | assumption | (show _ ≤ d; omega)) ⟨(Nat.le_of_ble_eq_true rfl), (Nat.le_of_ble_eq_true rfl)⟩ rfl rfl (Nat.le_of_ble_eq_true rfl) ?_
    refine mt_if_eq (pc := 44) (tgt := 51) dX11_isFor_44 (by decide) (fun c44 => ?_) (fun c44 => ?_)
    · skip
      have no : ¬ openC k f (soN bk i) p (bk.2.2.2 i) := fun z => by rw [if_pos z] at c44; exact absurd c44 (by decide)
      refine mt_iconst (pc := 51) (v := 0) dX11_isFor_51 (by decide) ?_
      exact mt_zret rfl (by first | exact Or.inl rfl | exact Or.inr rfl) dX11_isFor_52 (Nat.le_of_ble_eq_true rfl) (Nat.le_of_ble_eq_true rfl) ⟨by rw [if_neg (fun z => no z.2)], rfl, rfl⟩
    · skip
      have yes : openC k f (soN bk i) p (bk.2.2.2 i) := Classical.not_not.mp fun z => c44 (if_neg z)
      refine mt_iconst (pc := 47) (v := 1) dX11_isFor_47 (by decide) ?_
      refine mt_goto (pc := 48) (tgt := 52) dX11_isFor_48 (by decide) ?_
      exact mt_zret rfl (by first | exact Or.inl rfl | exact Or.inr rfl) dX11_isFor_52 (Nat.le_of_ble_eq_true rfl) (Nat.le_of_ble_eq_true rfl) ⟨by rw [if_pos ⟨c18.symm, yes⟩], rfl, rfl⟩
/-- what tries promises -/
def P_try (k : CS) (f : Nat → Int32) (bk : BS) (i cur : Nat) (R : Nat → Nat) (M : Nat) (nx : Nat) (h : Nat → mm_E) (g : MG) (A : MA) : mm_P := fun o n m => o = .inl none ∧ n = nx ∧ ∃ g' A' M', m = mos h g' A' ∧ TWs g A g' A' ∧ (∀ p, p < k.1 → A' 210 p = A 210 p) ∧ (∀ j, j < i → A' 211 j = A 211 j) ∧ EM M' g' ∧ TRp bk.1 k.1 (amN bk) (fun p => lnM k f bk p bk.1) i cur R (A 211) M (A 212) M' (A' 212)
theorem n_try0 {many much M : Nat} {R : Nat → Nat} (hd : 1 ≤ d) (hx : 215 ≤ nx) (hS : MSV k cs bk f g A) (hm1 : many ≤ 6) (hm2 : much ≤ 360) (hE : EM M g) : mm_Con G l yX11_tries cX11_tries 6 none d 0 0 [.ref 188, .int (nI bk.1), .int (nI many), .int (nI much)] nx (mos h g A) (P_try k f bk bk.1 (1000 * many + much) R M nx h g A) := by
  have hn := hS.2.2.1.1
  obtain ⟨ml, mm, e1, e2, e3, e4, e5, e6, e7⟩ := id hE
  have hv : bsV bk.1 k.1 (amN bk) (fun p => lnM k f bk p bk.1) bk.1 R = 0 := bs_n (Nat.le_refl _)
  have stay : 1000 * many + much + 1 ≤ M → P_try k f bk bk.1 (1000 * many + much) R M nx h g A (.inl none) nx (mos h g A) := fun z => ⟨rfl, rfl, g, A, M, rfl, TWs_rf, fun _ _ => rfl, fun _ _ => rfl, hE, Or.inr ⟨by rw [hv]; omega, rfl, fun _ _ => rfl⟩⟩
  have go : M < 1000 * many + much + 1 → P_try k f bk bk.1 (1000 * many + much) R M nx h g A (.inl none) nx (mos h (upd (upd g 45 (nI many)) 46 (nI much)) (updR A 212 (fun q => if q < 6 then A 211 q else A 212 q))) := fun z => ⟨rfl, rfl, _, _, 1000 * many + much + 1, rfl, ⟨fun j a b => by rw [upd_ne b, upd_ne a], fun j a b c => updR_ne c⟩, fun _ _ => rfl, fun _ _ => rfl, ⟨many, much, by rw [upd_ne (by decide), upd_eq], by rw [upd_eq, nI_toInt (by omega)], by omega, by omega, by omega, by omega, fun y => by omega⟩, Or.inl ⟨by rw [hv]; exact z, by rw [hv], fun j hj => by rw [updR_eq, if_pos (by omega)], fun c hc => absurd hc (by omega)⟩⟩
  refine mm_start (lo := [some (.ref 188), some (.int (nI bk.1)), some (.int (nI many)), some (.int (nI much)), none, none]) pn_X11 rfl rfl (Nat.le_of_ble_eq_true rfl) ?_
  refine mt_iload_n (pc := 0) dX11_tries_0 rfl ?_
  refine mt_aload_n (pc := 1) dX11_tries_1 rfl ?_
  refine mt_mgetI (pc := 2) (x := nI bk.1) gf_X11_167 dX11_tries_2 hx rfl (hS.2.1) ?_
  refine mt_icmp_ne (pc := 5) (tgt := 58) dX11_tries_5 (by decide) (fun c5 => ?_) (fun c5 => ?_)
  · exact absurd rfl c5
  · skip
    refine mt_iload_n (pc := 8) dX11_tries_8 rfl ?_
    refine mt_aload_n (pc := 9) dX11_tries_9 rfl ?_
    refine mt_mgetI (pc := 10) (x := nI ml) gf_X11_375 dX11_tries_10 hx rfl e1 ?_
    refine mt_icmp_lt (pc := 13) (tgt := 32) dX11_tries_13 (by decide) (fun c13 => ?_) (fun c13 => ?_)
    · skip
      have lt := (nI_ltI (by omega) (by omega)).mp c13
      exact mt_vret rfl dX11_tries_32 (Nat.le_of_ble_eq_true rfl) (Nat.le_of_ble_eq_true rfl) (stay (by omega))
    · skip
      have nlt : ¬ many < ml := fun z => c13 (nI_lt z (by omega))
      refine mt_iload_n (pc := 16) dX11_tries_16 rfl ?_
      refine mt_aload_n (pc := 17) dX11_tries_17 rfl ?_
      refine mt_mgetI (pc := 18) (x := nI ml) gf_X11_375 dX11_tries_18 hx rfl e1 ?_
      refine mt_icmp_ne (pc := 21) (tgt := 33) dX11_tries_21 (by decide) (fun c21 => ?_) (fun c21 => ?_)
      · skip
        have ne : ¬ many = ml := fun z => c21 (by rw [z])
        refine mt_aload_n (pc := 33) dX11_tries_33 rfl ?_
        refine mt_iload_n (pc := 34) dX11_tries_34 rfl ?_
        refine mt_mput (pc := 35) pf_X11_375 dX11_tries_35 hx rfl ?_
        refine mt_aload_n (pc := 38) dX11_tries_38 rfl ?_
        refine mt_iload_n (pc := 39) dX11_tries_39 rfl ?_
        refine mt_mput (pc := 40) pf_X11_378 dX11_tries_40 hx rfl ?_
        refine mt_aload_n (pc := 43) dX11_tries_43 rfl ?_
        refine mt_aload_n (pc := 44) dX11_tries_44 rfl ?_
        refine mt_mget (pc := 45) gf_X11_83 dX11_tries_45 hx rfl ?_
        refine mt_aload_n (pc := 48) dX11_tries_48 rfl ?_
        refine mt_mget (pc := 49) gf_X11_86 dX11_tries_49 hx rfl ?_
        refine mt_bipush (pc := 52) (v := 6) dX11_tries_52 (by decide) ?_
        refine mt_cV (pc := 54) (n_copies (d := 0) (i := 211) (j := 212) (n := 6) hx rfl rfl (by decide) (Nat.le_of_ble_eq_true rfl) (Nat.le_of_ble_eq_true rfl)) cal_X11_copies vir_X11_copies ml_X11_160 dX11_tries_54 (by omega) (mos_o _ _ _) (by first | assumption | (show _ ≤ d; omega)) ⟨(Nat.le_of_ble_eq_true rfl), (Nat.le_of_ble_eq_true rfl)⟩ rfl rfl (Nat.le_of_ble_eq_true rfl) ?_
        exact mt_vret rfl dX11_tries_57 (Nat.le_of_ble_eq_true rfl) (Nat.le_of_ble_eq_true rfl) (go (by omega))
      · skip
        have eq : many = ml := (nI_eq (by omega) (by omega)).mp c21
        refine mt_iload_n (pc := 24) dX11_tries_24 rfl ?_
        refine mt_aload_n (pc := 25) dX11_tries_25 rfl ?_
        refine mt_mget (pc := 26) gf_X11_378 dX11_tries_26 hx rfl ?_
        refine mt_icmp_gt (pc := 29) (tgt := 33) dX11_tries_29 (by decide) (fun c29 => ?_) (fun c29 => ?_)
        · skip
          have gt : mm < much := by
            have := Int32.lt_iff_toInt_lt.mp c29
            rw [e2, nI_toInt (by omega)] at this
            exact this
          refine mt_aload_n (pc := 33) dX11_tries_33 rfl ?_
          refine mt_iload_n (pc := 34) dX11_tries_34 rfl ?_
          refine mt_mput (pc := 35) pf_X11_375 dX11_tries_35 hx rfl ?_
          refine mt_aload_n (pc := 38) dX11_tries_38 rfl ?_
          refine mt_iload_n (pc := 39) dX11_tries_39 rfl ?_
          refine mt_mput (pc := 40) pf_X11_378 dX11_tries_40 hx rfl ?_
          refine mt_aload_n (pc := 43) dX11_tries_43 rfl ?_
          refine mt_aload_n (pc := 44) dX11_tries_44 rfl ?_
          refine mt_mget (pc := 45) gf_X11_83 dX11_tries_45 hx rfl ?_
          refine mt_aload_n (pc := 48) dX11_tries_48 rfl ?_
          refine mt_mget (pc := 49) gf_X11_86 dX11_tries_49 hx rfl ?_
          refine mt_bipush (pc := 52) (v := 6) dX11_tries_52 (by decide) ?_
          refine mt_cV (pc := 54) (n_copies (d := 0) (i := 211) (j := 212) (n := 6) hx rfl rfl (by decide) (Nat.le_of_ble_eq_true rfl) (Nat.le_of_ble_eq_true rfl)) cal_X11_copies vir_X11_copies ml_X11_160 dX11_tries_54 (by omega) (mos_o _ _ _) (by first | assumption | (show _ ≤ d; omega)) ⟨(Nat.le_of_ble_eq_true rfl), (Nat.le_of_ble_eq_true rfl)⟩ rfl rfl (Nat.le_of_ble_eq_true rfl) ?_
          exact mt_vret rfl dX11_tries_57 (Nat.le_of_ble_eq_true rfl) (Nat.le_of_ble_eq_true rfl) (go (by omega))
        · skip
          have ngt : ¬ mm < much := fun z => c29 (Int32.lt_iff_toInt_lt.mpr (by rw [e2, nI_toInt (by omega)]; exact z))
          exact mt_vret rfl dX11_tries_32 (Nat.le_of_ble_eq_true rfl) (Nat.le_of_ble_eq_true rfl) (stay (by omega))
theorem n_tries (hI : RI k f) : ∀ (q i d nx : Nat) (g : MG) (A : MA) (R : Nat → Nat) (many much M : Nat), bk.1 - i = q → i ≤ bk.1 → q + 2 ≤ d → 215 ≤ nx → MSV k cs bk f g A → many ≤ i → much ≤ 60 * i → RMq k.1 R (A 210) → EM M g → mm_Con G l yX11_tries cX11_tries 6 none d 0 0 [.ref 188, .int (nI i), .int (nI many), .int (nI much)] nx (mos h g A) (P_try k f bk i (1000 * many + much) R M nx h g A)
  | 0, i, d, nx, g, A, R, many, much, M, hq, hi, hd, hx, hS, hm1, hm2, hR, hE => by
    obtain rfl : i = bk.1 := by omega
    have hn := hS.2.2.1.1
    exact n_try0 (by omega) hx hS (by omega) (by omega) hE
  | q + 1, i, d, nx, g, A, R, many, much, M, hq, hi, hd, hx, hS, hm1, hm2, hR, hE => by
    have hn := hS.2.2.1.1
    have hil : i < bk.1 := by omega
    obtain ⟨⟨h18, -, hM, -⟩, h41, hB, hRR⟩ := id hS
    have hk1 := hM.1
    have hk2 := hM.2.1
    obtain ⟨a1, a2, a3, -⟩ := hB.am hk2 hil
    have ih := n_tries hI q (i + 1)
    have hbit : ∀ p, (lnM k f bk p bk.1).testBit i = true ↔ elg k f bk i p := fun p => by rw [lnM_bit]; exact ⟨fun z => z.2, fun z => ⟨hil, z⟩⟩
    refine mm_start (lo := [some (.ref 188), some (.int (nI i)), some (.int (nI many)), some (.int (nI much)), none, none]) pn_X11 rfl rfl (Nat.le_of_ble_eq_true rfl) ?_
    refine mt_iload_n (pc := 0) dX11_tries_0 rfl ?_
    refine mt_aload_n (pc := 1) dX11_tries_1 rfl ?_
    refine mt_mgetI (pc := 2) (x := nI bk.1) gf_X11_167 dX11_tries_2 hx rfl h41 ?_
    refine mt_icmp_ne (pc := 5) (tgt := 58) dX11_tries_5 (by decide) (fun c5 => ?_) (fun c5 => ?_)
    · skip
      refine mt_aload_n (pc := 58) dX11_tries_58 rfl ?_
      refine mt_mget (pc := 59) gf_X11_77 dX11_tries_59 hx rfl ?_
      refine mt_iconst (pc := 62) (v := 3) dX11_tries_62 (by decide) ?_
      refine mt_iload_n (pc := 63) dX11_tries_63 rfl ?_
      refine mt_imulN (pc := 64) (a := 3) (b := i) dX11_tries_64 rfl rfl ?_
      refine mt_iconst (pc := 65) (v := 2) dX11_tries_65 (by decide) ?_
      refine mt_iaddN (pc := 66) (a := 3 * i) (b := 2) dX11_tries_66 rfl rfl ?_
      refine mt_mald (pc := 67) (i := 209) (j := (3 * i) + 2) (x := nI (amN bk i)) dX11_tries_67 hx rfl rfl (by show _ < 18; omega) a1 ?_
      refine mt_istore (pc := 68) dX11_tries_68 (Nat.le_of_ble_eq_true rfl) rfl ?_
      refine mt_iconst (pc := 70) (v := 0) dX11_tries_70 (by decide) ?_
      refine mt_istore (pc := 71) dX11_tries_71 (Nat.le_of_ble_eq_true rfl) rfl ?_
      refine mt_forE (pc := 73) (α := (MG × MA) × Nat) (H := fun c (w : (MG × MA) × Nat) => mos h w.1.1 w.1.2) (L := fun c (w : (MG × MA) × Nat) => [some (.ref 188), some (.int (nI i)), some (.int (nI many)), some (.int (nI much)), some (.int (nI (amN bk i))), some (.int (nI c))]) (I := fun c (w : (MG × MA) × Nat) => TWs g A w.1.1 w.1.2 ∧ (∀ p, p < k.1 → w.1.2 210 p = A 210 p) ∧ (∀ j, j < i → w.1.2 211 j = A 211 j) ∧ EM w.2 w.1.1 ∧ TRl bk.1 k.1 (amN bk) (fun p => lnM k f bk p bk.1) i (1000 * many + much) R (A 211) M (A 212) c w.2 (w.1.2 212)) (k.1) (fun c w hc fc nc => ?_) (fun w fc => ?_) (((g, A), M)) (⟨TWs_rf, fun _ _ => rfl, fun _ _ => rfl, hE, TRl_0⟩)
      · skip
        obtain ⟨⟨g1, A1⟩, M1⟩ := w
        obtain ⟨w1, w2, w3, w4, w5⟩ := fc
        dsimp only at w1 w2 w3 w4 w5 ⊢
        have hS1 := hS.tw w1
        obtain ⟨ro, hro⟩ : ∃ ro, A1 210 = ro := ⟨_, rfl⟩
        obtain ⟨rb, hrb⟩ : ∃ rb, A1 211 = rb := ⟨_, rfl⟩
        have hrc : ro c = nI (R c) := by rw [← hro, w2 c hc]; exact (hR c hc).1
        have hRc := (hR c hc).2
        refine mt_iload (pc := 73) dX11_tries_73 rfl ?_
        refine mt_aload_n (pc := 75) dX11_tries_75 rfl ?_
        refine mt_mgetI (pc := 76) (x := nI k.1) gf_X11_154 dX11_tries_76 hx rfl (hS1.1.1) ?_
        refine mt_icmp_ge (pc := 79) (tgt := 159) dX11_tries_79 (by decide) (fun c79 => ?_) (fun c79 => ?_)
        · exact absurd c79 (nI_ge hc (by first | omega | decide))
        · skip
          refine mt_aload_n (pc := 82) dX11_tries_82 rfl ?_
          refine mt_iload_n (pc := 83) dX11_tries_83 rfl ?_
          refine mt_iload (pc := 84) dX11_tries_84 rfl ?_
          refine mt_cV (pc := 86) (n_isFor (d := 1) (k := k) (cs := cs) (f := f) (bk := bk) (Nat.le_refl 1) hx hS1 hil hc) cal_X11_isFor vir_X11_isFor ml_X11_381 dX11_tries_86 (by omega) (mos_o _ _ _) (by first | assumption | (show _ ≤ d; omega)) ⟨(Nat.le_of_ble_eq_true rfl), (Nat.le_of_ble_eq_true rfl)⟩ rfl rfl (Nat.le_of_ble_eq_true rfl) ?_
          refine mt_if_eq (pc := 89) (tgt := 153) dX11_tries_89 (by decide) (fun c89 => ?_) (fun c89 => ?_)
          · skip
            have no : ¬ elg k f bk i c := fun z => by rw [if_pos z] at c89; exact absurd c89 (by decide)
            refine mt_iinc (pc := 153) (c9 := 1) dX11_tries_153 rfl (by decide) (Nat.le_of_ble_eq_true rfl) rfl ?_
            refine mt_goto (pc := 156) (tgt := 73) dX11_tries_156 (by decide) ?_
            rw [show (nI c + 1 : Int32) = nI (c + 1) from nI_1 c]
            exact nc ((g1, A1), M1) ⟨w1, w2, w3, w4, TRl_no w5 (fun z => no ((hbit c).mp z.1))⟩
          · skip
            have yes : elg k f bk i c := Classical.not_not.mp fun z => c89 (if_neg z)
            refine mt_aload_n (pc := 92) dX11_tries_92 rfl ?_
            refine mt_mget (pc := 93) gf_X11_80 dX11_tries_93 hx rfl ?_
            refine mt_iload (pc := 96) dX11_tries_96 rfl ?_
            refine mt_mald (pc := 98) (i := 210) (j := c) (x := nI (R c)) dX11_tries_98 hx rfl rfl (by show _ < 8; omega) (by rw [hro]; exact hrc) ?_
            refine mt_iload (pc := 99) dX11_tries_99 rfl ?_
            refine mt_icmp_ge (pc := 101) (tgt := 107) dX11_tries_101 (by decide) (fun c101 => ?_) (fun c101 => ?_)
            · skip
              have ge : amN bk i ≤ R c := Nat.le_of_not_lt fun z => nI_ge z (by omega) c101
              rw [show mos h g1 A1 = mos h g1 (updR A1 210 ro) by rw [updR_self hro]]
              refine mt_aload_n (pc := 107) dX11_tries_107 rfl ?_
              refine mt_mget (pc := 108) gf_X11_80 dX11_tries_108 hx rfl ?_
              refine mt_iload (pc := 111) dX11_tries_111 rfl ?_
              refine mt_dup2 (pc := 113) dX11_tries_113 rfl rfl ?_
              refine mt_mald2 (pc := 114) (i := 210) (j := c) (x := nI (R c)) dX11_tries_114 hx rfl rfl (by show _ < 8; omega) hrc ?_
              refine mt_iload (pc := 115) dX11_tries_115 rfl ?_
              refine mt_isubN (pc := 117) (a := R c) (b := amN bk i) dX11_tries_117 rfl rfl (by omega) ?_
              refine mt_mast2 (pc := 118) (i := 210) (j := c) dX11_tries_118 hx rfl rfl (by show _ < 8; omega) ?_
              refine mt_aload_n (pc := 119) dX11_tries_119 rfl ?_
              refine mt_mget (pc := 120) gf_X11_83 dX11_tries_120 hx rfl ?_
              refine mt_iload_n (pc := 123) dX11_tries_123 rfl ?_
              refine mt_iload (pc := 124) dX11_tries_124 rfl ?_
              refine mt_mast (pc := 126) (i := 211) (j := i) dX11_tries_126 hx rfl rfl (by show _ < 6; omega) ?_
              rw [show updR A1 210 (upd ro c (nI (R c - amN bk i))) 211 = rb from (updR_ne (by decide)).trans hrb]
              refine mt_aload_n (pc := 127) dX11_tries_127 rfl ?_
              refine mt_iload_n (pc := 128) dX11_tries_128 rfl ?_
              refine mt_iconst (pc := 129) (v := 1) dX11_tries_129 (by decide) ?_
              refine mt_iaddN (pc := 130) (a := i) (b := 1) dX11_tries_130 rfl rfl ?_
              refine mt_iload_n (pc := 131) dX11_tries_131 rfl ?_
              refine mt_iconst (pc := 132) (v := 1) dX11_tries_132 (by decide) ?_
              refine mt_iaddN (pc := 133) (a := many) (b := 1) dX11_tries_133 rfl rfl ?_
              refine mt_iload_n (pc := 134) dX11_tries_134 rfl ?_
              refine mt_iload (pc := 135) dX11_tries_135 rfl ?_
              refine mt_iaddN (pc := 137) (a := much) (b := amN bk i) dX11_tries_137 rfl rfl ?_
              generalize hA2 : updR (updR A1 210 (upd ro c (nI (R c - amN bk i)))) 211 (upd rb i (nI c)) = A2
              have q210 : A2 210 = upd ro c (nI (R c - amN bk i)) := by rw [← hA2, updR_ne (by decide), updR_eq]
              have q211 : A2 211 = upd rb i (nI c) := by rw [← hA2, updR_eq]
              have q212 : A2 212 = A1 212 := by rw [← hA2, updR_ne (by decide), updR_ne (by decide)]
              have qo : TWs g1 A1 g1 A2 := ⟨fun _ _ _ => rfl, fun j b1 b2 b3 => by rw [← hA2, updR_ne b2, updR_ne b1]⟩
              have hRM : RMq k.1 (updN R c (R c - amN bk i)) (A2 210) := fun p hp => by
                rw [q210]
                by_cases hpc : p = c
                · subst hpc
                  rw [upd_eq, updN_eq]
                  exact ⟨rfl, by omega⟩
                · rw [upd_ne hpc, updN_ne hpc, ← hro, w2 p hp]
                  exact hR p hp
              refine mt_aV (pc := 138) (ih (d - 1) nx g1 A2 (updN R c (R c - amN bk i)) (many + 1) (much + amN bk i) M1 (by omega) (by omega) (by omega) hx (hS1.tw qo) (by omega) (by omega) hRM w4) cal_X11_tries vir_X11_tries ml_X11_384 dX11_tries_138 (by omega) (mos_o _ _ _) (by show _ ≤ d; omega) ⟨(Nat.le_of_ble_eq_true rfl), (Nat.le_of_ble_eq_true rfl)⟩ rfl rfl (Nat.le_of_ble_eq_true rfl) ?_ ?_
              · rintro x9 n9 k9 h9
                obtain ⟨⟨⟩, -⟩ := h9
              · rintro v9 n9 k9 ⟨⟨⟩, rfl, g3, A3, M3, rfl, v1, v2, v3, v4, v5⟩
                refine ⟨rfl, ?_⟩
                rw [show 1000 * (many + 1) + (much + amN bk i) = 1000 * many + much + (1000 + amN bk i) by omega, q211, q212] at v5
                obtain ⟨ro3, hro3⟩ : ∃ ro, A3 210 = ro := ⟨_, rfl⟩
                have hr3 : ∀ p, p < k.1 → ro3 p = upd ro c (nI (R c - amN bk i)) p := fun p hp => by rw [← hro3, v2 p hp, q210]
                rw [show mos h g3 A3 = mos h g3 (updR A3 210 ro3) by rw [updR_self hro3]]
                refine mt_aload_n (pc := 141) dX11_tries_141 rfl ?_
                refine mt_mget (pc := 142) gf_X11_80 dX11_tries_142 hx rfl ?_
                refine mt_iload (pc := 145) dX11_tries_145 rfl ?_
                refine mt_dup2 (pc := 147) dX11_tries_147 rfl rfl ?_
                refine mt_mald2 (pc := 148) (i := 210) (j := c) (x := nI (R c - amN bk i)) dX11_tries_148 hx rfl rfl (by show _ < 8; omega) (by rw [hr3 c hc, upd_eq]) ?_
                refine mt_iload (pc := 149) dX11_tries_149 rfl ?_
                refine mt_iaddN (pc := 151) (a := R c - amN bk i) (b := amN bk i) dX11_tries_151 rfl rfl ?_
                refine mt_mast2 (pc := 152) (i := 210) (j := c) dX11_tries_152 hx rfl rfl (by show _ < 8; omega) ?_
                refine mt_iinc (pc := 153) (c9 := 1) dX11_tries_153 rfl (by decide) (Nat.le_of_ble_eq_true rfl) rfl ?_
                refine mt_goto (pc := 156) (tgt := 73) dX11_tries_156 (by decide) ?_
                rw [show (nI c + 1 : Int32) = nI (c + 1) from nI_1 c]
                refine nc ((g3, updR A3 210 (upd ro3 c (nI (R c - amN bk i + amN bk i)))), M3) ⟨(w1.trans qo).trans ⟨v1.1, fun j b1 b2 b3 => (updR_ne b1).trans (v1.2 j b1 b2 b3)⟩, fun p hp => ?_, fun j hj => ?_, v4, ?_⟩
                · show updR A3 210 (upd ro3 c (nI (R c - amN bk i + amN bk i))) 210 p = _
                  rw [updR_eq]
                  by_cases hpc : p = c
                  · subst hpc
                    rw [upd_eq, show R p - amN bk i + amN bk i = R p by omega]
                    exact (hR p hp).1.symm
                  · rw [upd_ne hpc, hr3 p hp, upd_ne hpc, ← hro]
                    exact w2 p hp
                · show updR A3 210 (upd ro3 c (nI (R c - amN bk i + amN bk i))) 211 j = _
                  rw [updR_ne (by decide), v3 j (by omega), q211, upd_ne (by omega), ← hrb]
                  exact w3 j hj
                · show TRl bk.1 k.1 (amN bk) (fun p => lnM k f bk p bk.1) i (1000 * many + much) R (A 211) M (A 212) (c + 1) M3 (updR A3 210 (upd ro3 c (nI (R c - amN bk i + amN bk i))) 212)
                  rw [updR_ne (by decide)]
                  exact TRl_yes hil w5 ⟨(hbit c).mpr yes, ge⟩ (fun j hj => by rw [upd_ne (by omega), ← hrb]; exact w3 j hj) (upd_eq _ _ _) v5
            · skip
              have lt : ¬ amN bk i ≤ R c := fun z => c101 (nI_le z (by omega))
              refine mt_goto (pc := 104) (tgt := 153) dX11_tries_104 (by decide) ?_
              refine mt_iinc (pc := 153) (c9 := 1) dX11_tries_153 rfl (by decide) (Nat.le_of_ble_eq_true rfl) rfl ?_
              refine mt_goto (pc := 156) (tgt := 73) dX11_tries_156 (by decide) ?_
              rw [show (nI c + 1 : Int32) = nI (c + 1) from nI_1 c]
              exact nc ((g1, A1), M1) ⟨w1, w2, w3, w4, TRl_no w5 (fun z => lt z.2)⟩
      · skip
        obtain ⟨⟨g1, A1⟩, M1⟩ := w
        obtain ⟨w1, w2, w3, w4, w5⟩ := fc
        dsimp only at w1 w2 w3 w4 w5 ⊢
        have hS1 := hS.tw w1
        obtain ⟨rb, hrb⟩ : ∃ rb, A1 211 = rb := ⟨_, rfl⟩
        refine mt_iload (pc := 73) dX11_tries_73 rfl ?_
        refine mt_aload_n (pc := 75) dX11_tries_75 rfl ?_
        refine mt_mgetI (pc := 76) (x := nI k.1) gf_X11_154 dX11_tries_76 hx rfl (hS1.1.1) ?_
        refine mt_icmp_ge (pc := 79) (tgt := 159) dX11_tries_79 (by decide) (fun c79 => ?_) (fun c79 => ?_)
        · skip
          refine mt_aload_n (pc := 159) dX11_tries_159 rfl ?_
          refine mt_mget (pc := 160) gf_X11_83 dX11_tries_160 hx rfl ?_
          refine mt_iload_n (pc := 163) dX11_tries_163 rfl ?_
          refine mt_iconst (pc := 164) (v := (-1)) dX11_tries_164 (by decide) ?_
          refine mt_mast (pc := 165) (i := 211) (j := i) dX11_tries_165 hx rfl rfl (by show _ < 6; omega) ?_
          rw [hrb]
          generalize hA2 : updR A1 211 (upd rb i (-1)) = A2
          have q210 : A2 210 = A1 210 := by rw [← hA2, updR_ne (by decide)]
          have q211 : A2 211 = upd rb i (-1) := by rw [← hA2, updR_eq]
          have q212 : A2 212 = A1 212 := by rw [← hA2, updR_ne (by decide)]
          have qo : TWs g1 A1 g1 A2 := ⟨fun _ _ _ => rfl, fun j b1 b2 b3 => by rw [← hA2, updR_ne b2]⟩
          have hRM : RMq k.1 R (A2 210) := fun p hp => by
            rw [q210, w2 p hp]
            exact hR p hp
          obtain ⟨ml, mm, e1, e2, e3, e4, e5, e6, e7⟩ := id w4
          refine mt_iload_n (pc := 166) dX11_tries_166 rfl ?_
          refine mt_aload_n (pc := 167) dX11_tries_167 rfl ?_
          refine mt_mgetI (pc := 168) (x := nI bk.1) gf_X11_167 dX11_tries_168 hx rfl (hS1.2.1) ?_
          refine mt_iaddN (pc := 171) (a := many) (b := bk.1) dX11_tries_171 rfl rfl ?_
          refine mt_iload_n (pc := 172) dX11_tries_172 rfl ?_
          refine mt_isubN (pc := 173) (a := many + bk.1) (b := i) dX11_tries_173 rfl rfl (by omega) ?_
          refine mt_iconst (pc := 174) (v := 1) dX11_tries_174 (by decide) ?_
          refine mt_isubN (pc := 175) (a := (many + bk.1) - i) (b := 1) dX11_tries_175 rfl rfl (by omega) ?_
          refine mt_aload_n (pc := 176) dX11_tries_176 rfl ?_
          refine mt_mgetI (pc := 177) (x := nI ml) gf_X11_375 dX11_tries_177 hx rfl e1 ?_
          refine mt_icmp_lt (pc := 180) (tgt := 192) dX11_tries_180 (by decide) (fun c180 => ?_) (fun c180 => ?_)
          · skip
            have lt := (nI_ltI (by omega) (by omega)).mp c180
            obtain ⟨x, y, b1, b2, b3⟩ := bs_b (sl := k.1) (L := fun p => lnM k f bk p bk.1) (fun j hj => (hB.am hk2 hj).2.2.1) q (i + 1) R (by omega)
            exact mt_vret rfl dX11_tries_192 (Nat.le_of_ble_eq_true rfl) (Nat.le_of_ble_eq_true rfl) ⟨rfl, rfl, g1, A2, M1, rfl, w1.trans qo, fun p hp => by rw [q210]; exact w2 p hp, fun j hj => by rw [q211, upd_ne (by omega), ← hrb]; exact w3 j hj, w4, TRl_end hil w5 (by2 := upd rb i (-1)) (fun j hj => by rw [upd_ne (by omega), ← hrb]; exact w3 j hj) (upd_eq _ _ _) (Or.inr ⟨by rw [b1]; omega, rfl, fun j _ => by rw [q212]⟩)⟩
          · skip
            refine mt_aload_n (pc := 183) dX11_tries_183 rfl ?_
            refine mt_iload_n (pc := 184) dX11_tries_184 rfl ?_
            refine mt_iconst (pc := 185) (v := 1) dX11_tries_185 (by decide) ?_
            refine mt_iaddN (pc := 186) (a := i) (b := 1) dX11_tries_186 rfl rfl ?_
            refine mt_iload_n (pc := 187) dX11_tries_187 rfl ?_
            refine mt_iload_n (pc := 188) dX11_tries_188 rfl ?_
            refine mt_aV (pc := 189) (ih (d - 1) nx g1 A2 R many much M1 (by omega) (by omega) (by omega) hx (hS1.tw qo) (by omega) (by omega) hRM w4) cal_X11_tries vir_X11_tries ml_X11_384 dX11_tries_189 (by omega) (mos_o _ _ _) (by show _ ≤ d; omega) ⟨(Nat.le_of_ble_eq_true rfl), (Nat.le_of_ble_eq_true rfl)⟩ rfl rfl (Nat.le_of_ble_eq_true rfl) ?_ ?_
            · rintro x9 n9 k9 h9
              obtain ⟨⟨⟩, -⟩ := h9
            · rintro v9 n9 k9 ⟨⟨⟩, rfl, g3, A3, M3, rfl, v1, v2, v3, v4, v5⟩
              refine ⟨rfl, ?_⟩
              exact mt_vret rfl dX11_tries_192 (Nat.le_of_ble_eq_true rfl) (Nat.le_of_ble_eq_true rfl) ⟨rfl, rfl, g3, A3, M3, rfl, (w1.trans qo).trans v1, fun p hp => by rw [v2 p hp, q210]; exact w2 p hp, fun j hj => by rw [v3 j (by omega), q211, upd_ne (by omega), ← hrb]; exact w3 j hj, v4, TRl_end hil w5 (by2 := upd rb i (-1)) (fun j hj => by rw [upd_ne (by omega), ← hrb]; exact w3 j hj) (upd_eq _ _ _) (by rw [q211, q212] at v5; exact v5)⟩
        · exact absurd (nI_le (Nat.le_refl _) (by first | omega | decide)) c79
    · exact absurd c5 (nI_ne hil (by omega))
end MTRY
