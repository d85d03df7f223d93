/-! The reference's winters. -/
theorem shr16 (x : Int32) : (x >>> ((16 : Int32) &&& 31)) &&& 32767 = nI (x.toBitVec.toNat / 65536 % 32768) := by
  rw [pk_and _ (m := 32767) 15 (by decide)]
  have h1 := pk_shr x ((16 : Int32) &&& 31) 16 (by decide)
  have h2 : (x >>> ((16 : Int32) &&& 31)).toInt = (x >>> ((16 : Int32) &&& 31)).toBitVec.toInt := rfl
  have h3 : x.toInt = x.toBitVec.toInt := rfl
  rw [h2, h3, Int.shiftRight_eq_div_pow, BitVec.toInt_eq_toNat_cond, BitVec.toInt_eq_toNat_cond] at h1
  have b1 := (x >>> ((16 : Int32) &&& 31)).toBitVec.isLt
  have b2 := x.toBitVec.isLt
  generalize (x >>> ((16 : Int32) &&& 31)).toBitVec.toNat = Y at *
  generalize x.toBitVec.toNat = X at *
  congr 1
  split at h1 <;> split at h1 <;> omega
theorem do0_RJ {N : Nat} {k : CS} {cs : List Nat} {f : Nat → Int32} {a p x y : Nat} (hN : N ≤ 1000) (h1 : a < k.2.1) (h2 : p < k.1) (hk1 : k.1 ≤ 8) (hk2 : k.2.1 ≤ 6) (h4 : x ≤ 60) (h7 : y ≤ 40) (h : RJ N k f) : RJ N k (doS k cs (0, [a, p, x, y], 0) f).1 := by
  simp only [doS]
  split
  · next hc =>
    have hn : nlo f < 10 := Nat.lt_of_not_le fun z => hc.1 (by rw [h.1.nl.2.1]; exact nI_le (a := 10) z (by have := h.1.nl.1; omega))
    exact lend_RJ hN h1 h2 (by omega) (by omega) h4 h7 h hn hc.2.2.1
  · exact h
theorem do1_RJ {N : Nat} {k : CS} {cs : List Nat} {f : Nat → Int32} {i : Nat} (h : RJ N k f) : RJ N k (doS k cs (1, [i], 0) f).1 := by
  simp only [doS]
  split
  · exact h
  · next hc => exact pay_RJ h (Nat.lt_of_not_le fun z => hc (Or.inl z)) (fun z => hc (Or.inr z))
theorem win_RJ {N : Nat} {k : CS} {cs : List Nat} {q : Int32} {w : (Nat → Int32) × Int32} (hk1 : k.1 ≤ 8) (hk2 : k.2.1 ≤ 6) (hN : N < 1000) (h : RJ N k w.1) : RJ (N + 1) k (winS k cs q w).1 := by
  unfold winS
  split
  · next hc =>
    refine nig_RJ hk1 hN ?_
    have h1 : RJ N k (doS k cs (0, [drw w.2 k.2.1, drw (nxs w.2) k.1, drw (nxs (nxs w.2)) 20 + 1, drw (nxs (nxs (nxs w.2))) 9 + 1], 0) w.1).1 := do0_RJ (by omega) (Nat.mod_lt _ hc.1) (Nat.mod_lt _ hc.2) hk1 hk2 (by unfold drw; omega) (by unfold drw; omega) h
    split
    · exact do1_RJ h1
    · exact h1
  · exact nig_RJ hk1 hN h
theorem winN_RJ {k : CS} {cs : List Nat} {q : Int32} {w : (Nat → Int32) × Int32} (hk1 : k.1 ≤ 8) (hk2 : k.2.1 ≤ 6) (h : RJ 400 k w.1) : ∀ n, n ≤ 500 → RJ (400 + n) k (winN k cs q w n).1
  | 0, _ => h
  | n + 1, hn => win_RJ (N := 400 + n) hk1 hk2 (by omega) (winN_RJ hk1 hk2 h n (by omega))
theorem winN_s (k : CS) (cs : List Nat) (q : Int32) (w : (Nat → Int32) × Int32) (n : Nat) : winN k cs q w (n + 1) = winS k cs q (winN k cs q w n) := rfl
theorem un_n {k : CS} {f : Nat → Int32} (hf : ∀ p, p < 8 → ∃ u, f (4 + p) = nI u ∧ u ≤ 99) (hk1 : k.1 ≤ 8) : ∃ u, unA k f = nI u ∧ u ≤ 99 * k.1 := by
  unfold unA
  have : ∀ n, n ≤ 8 → ∃ u, fld (fun p acc => acc + f (4 + p)) 0 n = nI u ∧ u ≤ 99 * n := fun n => by
    induction n with
    | zero => intro _; exact ⟨0, rfl, by decide⟩
    | succ n ih =>
      intro hn
      obtain ⟨u, u1, u2⟩ := ih (by omega)
      obtain ⟨v, v1, v2⟩ := hf n (by omega)
      refine ⟨u + v, ?_, by omega⟩
      show fld (fun p acc => acc + f (4 + p)) 0 n + f (4 + n) = _
      rw [u1, v1, nI_add]
  exact this k.1 hk1
theorem spn_s (k : CS) (cs : List Nat) (f : Nat → Int32) (z q : Int32) (n a i : Nat) : spnF k cs f z q n a (i + 1) = (if (spnF k cs f z q n a i).1 = -1 then unA k (winN k cs q (f, z + nI i) n).1 else if unA k (winN k cs q (f, z + nI i) n).1 < (spnF k cs f z q n a i).1 then unA k (winN k cs q (f, z + nI i) n).1 else (spnF k cs f z q n a i).1, if (spnF k cs f z q n a i).2.1 < unA k (winN k cs q (f, z + nI i) n).1 then unA k (winN k cs q (f, z + nI i) n).1 else (spnF k cs f z q n a i).2.1, (spnF k cs f z q n a i).2.2 + (if (winN k cs q (f, z + nI i) n).1 (12 + a) = 0 then 1 else 0)) := rfl
theorem iw_1 {q n : Int32} (h1 : ¬ q < 0 ∧ ¬ 16 < q) (h2 : ¬ n < 1 ∧ ¬ 96 < n) : (if q < 0 then (0 : Int32) else if 16 < q then 0 else if n < 1 then 0 else if 96 < n then 0 else 1) = 1 := by rw [if_neg h1.1, if_neg h1.2, if_neg h2.1, if_neg h2.2]
theorem iw_0 {q n : Int32} (h : ¬ ((¬ q < 0 ∧ ¬ 16 < q) ∧ (¬ n < 1 ∧ ¬ 96 < n))) : (if q < 0 then (0 : Int32) else if 16 < q then 0 else if n < 1 then 0 else if 96 < n then 0 else 1) = 0 := by
  by_cases h1 : q < 0
  · rw [if_pos h1]
  · rw [if_neg h1]
    by_cases h2 : 16 < q
    · rw [if_pos h2]
    · rw [if_neg h2]
      by_cases h3 : n < 1
      · rw [if_pos h3]
      · rw [if_neg h3]
        by_cases h4 : 96 < n
        · rw [if_pos h4]
        · exact absurd ⟨⟨h1, h2⟩, h3, h4⟩ h
section MWIN
variable {G : mm_G} {l : Launch} {d nx : Nat} {h : Nat → mm_E} {g : MG} {A : MA} {k : CS} {cs : List Nat} {f : Nat → Int32} {bk : BS}
theorem n_draws {z : Int32} {n : Nat} (hx : 215 ≤ nx) (hn : 0 < n) (hn2 : n < 2 ^ 31) (hz : g 48 = z) : mm_Con G l yX11_draws cX11_draws 2 (some .int) d 0 0 [.ref 188, .int (nI n)] nx (mos h g A) (mm_ret (some (.int (nI (drw z n)))) nx (mos h (upd g 48 (nxs z)) A)) := by
  refine mm_start (lo := [some (.ref 188), some (.int (nI n))]) pn_X11 rfl rfl (Nat.le_of_ble_eq_true rfl) ?_
  refine mt_aload_n (pc := 0) dX11_draws_0 rfl ?_
  refine mt_aload_n (pc := 1) dX11_draws_1 rfl ?_
  refine mt_mgetI (pc := 2) (x := z) gf_X11_412 dX11_draws_2 hx rfl hz ?_
  refine mt_ldcw (pc := 5) kc_X11_415 dX11_draws_5 ?_
  refine mt_imul (pc := 8) dX11_draws_8 ?_
  refine mt_sipush (pc := 9) (v := 12345) dX11_draws_9 (by decide) ?_
  refine mt_iadd (pc := 12) dX11_draws_12 ?_
  show mm_T _ _ _ _ _ _ _ _ _ (.int (nxs z) :: _)
  refine mt_mput (pc := 13) pf_X11_412 dX11_draws_13 hx rfl ?_
  refine mt_aload_n (pc := 16) dX11_draws_16 rfl ?_
  refine mt_mgetI (pc := 17) (x := nxs z) gf_X11_412 dX11_draws_17 hx rfl (upd_eq _ _ _) ?_
  refine mt_bipush (pc := 20) (v := 16) dX11_draws_20 (by decide) ?_
  refine mt_ishr (pc := 22) dX11_draws_22 ?_
  refine mt_sipush (pc := 23) (v := 32767) dX11_draws_23 (by decide) ?_
  refine mt_iand (pc := 26) dX11_draws_26 ?_
  rw [shr16]
  refine mt_iload_n (pc := 27) dX11_draws_27 rfl ?_
  refine mt_irem (pc := 28) dX11_draws_28 (fun z => by have := (nI_eq (a := n) (b := 0) hn2 (by decide)).mp z; omega) ?_
  rw [pk_rem (by omega) hn hn2]
  exact mt_iret rfl dX11_draws_29 (Nat.le_of_ble_eq_true rfl) (Nat.le_of_ble_eq_true rfl) ⟨rfl, rfl, rfl⟩
theorem n_winterGoes {z q : Int32} {n : Nat} (hd : 6 ≤ d) (hx : 215 ≤ nx) (hn : n ≤ 96) (hQ : MQs k cs g A) (hR : RR (A 205) f) (hJ : RJ 400 k f) : mm_Con G l yX11_winterGoes cX11_winterGoes 8 none d 0 0 [.ref 188, .int z, .int q, .int (nI n)] nx (mos h g A) (fun o n' m => o = .inl none ∧ n' = nx ∧ ∃ g' A', m = mos h g' A' ∧ (∀ j, j ≠ 48 → g' j = g j) ∧ SD A A' ∧ RR (A' 206) (winN k cs q (f, z) n).1) := by
  obtain ⟨h18, h19, hM, hL⟩ := id hQ
  have hk1 := hM.1
  have hk2 := hM.2.1
  obtain ⟨hn10, e3, -⟩ := hJ.1.nl
  refine mm_start (lo := [some (.ref 188), some (.int z), some (.int q), some (.int (nI n)), none, none, none, none]) pn_X11 rfl rfl (Nat.le_of_ble_eq_true rfl) ?_
  refine mt_aload_n (pc := 0) dX11_winterGoes_0 rfl ?_
  refine mt_aV (pc := 1) (n_takeR (d := 1) (f := f) (Nat.le_refl 1) hx hR hn10) cal_X11_take vir_X11_take ml_X11_293 dX11_winterGoes_1 (by omega) (mos_o _ _ _) (by first | assumption | (show _ ≤ d; omega)) ⟨(Nat.le_of_ble_eq_true rfl), (Nat.le_of_ble_eq_true rfl)⟩ rfl rfl (Nat.le_of_ble_eq_true rfl) ?_ ?_
  · rintro x9 n9 k9 h9
    obtain ⟨⟨⟩, -⟩ := h9
  · rintro v9 n9 k9 ⟨⟨⟩, rfl, S, rfl, hS⟩
    refine ⟨rfl, ?_⟩
    refine mt_aload_n (pc := 4) dX11_winterGoes_4 rfl ?_
    refine mt_iload_n (pc := 5) dX11_winterGoes_5 rfl ?_
    refine mt_mput (pc := 6) pf_X11_412 dX11_winterGoes_6 hx rfl ?_
    refine mt_iconst (pc := 9) (v := 0) dX11_winterGoes_9 (by decide) ?_
    refine mt_istore (pc := 10) dX11_winterGoes_10 (Nat.le_of_ble_eq_true rfl) rfl ?_
    refine mt_forE (pc := 12) (α := MG × MA) (H := fun c (w : MG × MA) => mos h w.1 w.2) (L := fun c (w : MG × MA) => [some (.ref 188), some (.int z), some (.int q), some (.int (nI n)), some (.int (nI c)), none, none, none]) (I := fun c (w : MG × MA) => (∀ j, j ≠ 48 → w.1 j = g j) ∧ w.1 48 = (winN k cs q (f, z) c).2 ∧ SD A w.2 ∧ RR (w.2 206) (winN k cs q (f, z) c).1) n (fun c w hc fc nc => ?_) (fun w fc => ?_) ((upd g 48 z, updR A 206 S)) (⟨fun j hj => upd_ne hj, show upd g 48 z 48 = z from upd_eq _ _ _, SD_u, show RR (updR A 206 S 206) f by rw [updR_eq]; exact hS⟩)
    · skip
      obtain ⟨g1, A1⟩ := w
      obtain ⟨w1, w2, w3, w4⟩ := fc
      dsimp only at w1 w2 w3 w4 ⊢
      rw [winN_s] at nc
      have hJc := winN_RJ (cs := cs) (q := q) (w := (f, z)) hk1 hk2 hJ c (by omega)
      generalize winN k cs q (f, z) c = u at w2 w4 nc hJc
      obtain ⟨F, s0⟩ := u
      dsimp only at w2 w4 hJc
      have hQc : MQs k cs g1 A1 := by
        obtain ⟨a1, a2, a3, a4⟩ := w3.mq hQ
        exact ⟨(w1 18 (by decide)).trans a1, (w1 19 (by decide)).trans a2, a3, by rw [w1 26 (by decide)]; exact a4⟩
      refine mt_iload (pc := 12) dX11_winterGoes_12 rfl ?_
      refine mt_iload_n (pc := 14) dX11_winterGoes_14 rfl ?_
      refine mt_icmp_ge (pc := 15) (tgt := 107) dX11_winterGoes_15 (by decide) (fun c15 => ?_) (fun c15 => ?_)
      · exact absurd c15 (nI_ge hc (by first | omega | decide))
      · skip
        refine mt_aload_n (pc := 18) dX11_winterGoes_18 rfl ?_
        refine mt_mgetI (pc := 19) (x := nI k.2.1) gf_X11_157 dX11_winterGoes_19 hx rfl (hQc.2.1) ?_
        refine mt_if_le (pc := 22) (tgt := 97) dX11_winterGoes_22 (by decide) (fun c22 => ?_) (fun c22 => ?_)
        · skip
          have l0 : ¬ (0 < k.2.1 ∧ 0 < k.1) := fun y => absurd c22 (Int32.not_le.mpr (nI_lt (a := 0) y.1 (by omega)))
          have eW : winS k cs q (F, s0) = (nigF F (nlo F), s0) := if_neg l0
          refine mt_aload_n (pc := 97) dX11_winterGoes_97 rfl ?_
          refine mt_aV (pc := 98) (n_passes (d := 1) (k := k) (f := F) (N := 400 + c) (Nat.le_refl 1) hx hk1 w4 hJc (by omega)) cal_X11_passes vir_X11_passes ml_X11_345 dX11_winterGoes_98 (by omega) (mos_o _ _ _) (by first | assumption | (show _ ≤ d; omega)) ⟨(Nat.le_of_ble_eq_true rfl), (Nat.le_of_ble_eq_true rfl)⟩ rfl rfl (Nat.le_of_ble_eq_true rfl) ?_ ?_
          · rintro x9 n9 k9 h9
            obtain ⟨⟨⟩, -⟩ := h9
          · rintro v9 n9 k9 ⟨⟨⟩, rfl, S1, rfl, hS1⟩
            refine ⟨rfl, ?_⟩
            refine mt_iinc (pc := 101) (c9 := 1) dX11_winterGoes_101 rfl (by decide) (Nat.le_of_ble_eq_true rfl) rfl ?_
            refine mt_goto (pc := 104) (tgt := 12) dX11_winterGoes_104 (by decide) ?_
            rw [show (nI c + 1 : Int32) = nI (c + 1) from nI_1 c]
            exact nc (g1, updR A1 206 S1) ⟨w1, by rw [eW]; exact w2, SD_s w3, show RR (updR A1 206 S1 206) (winS k cs q (F, s0)).1 by rw [updR_eq, eW]; exact hS1⟩
        · skip
          have l1 : 0 < k.2.1 := Nat.pos_of_ne_zero fun y => c22 (by rw [y]; exact Int32.le_refl _)
          refine mt_aload_n (pc := 25) dX11_winterGoes_25 rfl ?_
          refine mt_mgetI (pc := 26) (x := nI k.1) gf_X11_154 dX11_winterGoes_26 hx rfl (hQc.1) ?_
          refine mt_if_le (pc := 29) (tgt := 97) dX11_winterGoes_29 (by decide) (fun c29 => ?_) (fun c29 => ?_)
          · skip
            have l0 : ¬ (0 < k.2.1 ∧ 0 < k.1) := fun y => absurd c29 (Int32.not_le.mpr (nI_lt (a := 0) y.2 (by omega)))
            have eW : winS k cs q (F, s0) = (nigF F (nlo F), s0) := if_neg l0
            refine mt_aload_n (pc := 97) dX11_winterGoes_97 rfl ?_
            refine mt_aV (pc := 98) (n_passes (d := 1) (k := k) (f := F) (N := 400 + c) (Nat.le_refl 1) hx hk1 w4 hJc (by omega)) cal_X11_passes vir_X11_passes ml_X11_345 dX11_winterGoes_98 (by omega) (mos_o _ _ _) (by first | assumption | (show _ ≤ d; omega)) ⟨(Nat.le_of_ble_eq_true rfl), (Nat.le_of_ble_eq_true rfl)⟩ rfl rfl (Nat.le_of_ble_eq_true rfl) ?_ ?_
            · rintro x9 n9 k9 h9
              obtain ⟨⟨⟩, -⟩ := h9
            · rintro v9 n9 k9 ⟨⟨⟩, rfl, S1, rfl, hS1⟩
              refine ⟨rfl, ?_⟩
              refine mt_iinc (pc := 101) (c9 := 1) dX11_winterGoes_101 rfl (by decide) (Nat.le_of_ble_eq_true rfl) rfl ?_
              refine mt_goto (pc := 104) (tgt := 12) dX11_winterGoes_104 (by decide) ?_
              rw [show (nI c + 1 : Int32) = nI (c + 1) from nI_1 c]
              exact nc (g1, updR A1 206 S1) ⟨w1, by rw [eW]; exact w2, SD_s w3, show RR (updR A1 206 S1 206) (winS k cs q (F, s0)).1 by rw [updR_eq, eW]; exact hS1⟩
          · skip
            have l2 : 0 < k.1 := Nat.pos_of_ne_zero fun y => c29 (by rw [y]; exact Int32.le_refl _)
            have eW : winS k cs q (F, s0) = (nigF (if nI (drw (nxs (nxs (nxs (nxs s0)))) 16) < q then (doS k cs (1, [0], 0) (doS k cs (0, [drw s0 k.2.1, drw (nxs s0) k.1, drw (nxs (nxs s0)) 20 + 1, drw (nxs (nxs (nxs s0))) 9 + 1], 0) F).1).1 else (doS k cs (0, [drw s0 k.2.1, drw (nxs s0) k.1, drw (nxs (nxs s0)) 20 + 1, drw (nxs (nxs (nxs s0))) 9 + 1], 0) F).1) (nlo (if nI (drw (nxs (nxs (nxs (nxs s0)))) 16) < q then (doS k cs (1, [0], 0) (doS k cs (0, [drw s0 k.2.1, drw (nxs s0) k.1, drw (nxs (nxs s0)) 20 + 1, drw (nxs (nxs (nxs s0))) 9 + 1], 0) F).1).1 else (doS k cs (0, [drw s0 k.2.1, drw (nxs s0) k.1, drw (nxs (nxs s0)) 20 + 1, drw (nxs (nxs (nxs s0))) 9 + 1], 0) F).1)), nxs (nxs (nxs (nxs (nxs s0))))) := if_pos ⟨l1, l2⟩
            have ha6 : drw s0 k.2.1 < k.2.1 := Nat.mod_lt _ l1
            have hp8 : drw (nxs s0) k.1 < k.1 := Nat.mod_lt _ l2
            have hx20 : drw (nxs (nxs s0)) 20 + 1 ≤ 60 := by unfold drw; omega
            have ht9 : drw (nxs (nxs (nxs s0))) 9 + 1 ≤ 40 := by unfold drw; omega
            have hJ1 := do0_RJ (cs := cs) (N := 400 + c) (by omega) ha6 hp8 hk1 hk2 hx20 ht9 hJc
            refine mt_aload_n (pc := 32) dX11_winterGoes_32 rfl ?_
            refine mt_aload_n (pc := 33) dX11_winterGoes_33 rfl ?_
            refine mt_mgetI (pc := 34) (x := nI k.2.1) gf_X11_157 dX11_winterGoes_34 hx rfl (hQc.2.1) ?_
            refine mt_cV (pc := 37) (n_draws (d := 0) (z := s0) hx l1 (by omega) w2) cal_X11_draws vir_X11_draws ml_X11_416 dX11_winterGoes_37 (by omega) (mos_o _ _ _) (by first | assumption | (show _ ≤ d; omega)) ⟨(Nat.le_of_ble_eq_true rfl), (Nat.le_of_ble_eq_true rfl)⟩ rfl rfl (Nat.le_of_ble_eq_true rfl) ?_
            refine mt_istore (pc := 40) dX11_winterGoes_40 (Nat.le_of_ble_eq_true rfl) rfl ?_
            refine mt_aload_n (pc := 42) dX11_winterGoes_42 rfl ?_
            refine mt_aload_n (pc := 43) dX11_winterGoes_43 rfl ?_
            refine mt_mgetI (pc := 44) (x := nI k.1) gf_X11_154 dX11_winterGoes_44 hx rfl (hQc.1) ?_
            refine mt_cV (pc := 47) (n_draws (d := 0) (z := nxs s0) hx l2 (by omega) (upd_eq _ _ _)) cal_X11_draws vir_X11_draws ml_X11_416 dX11_winterGoes_47 (by omega) (mos_o _ _ _) (by first | assumption | (show _ ≤ d; omega)) ⟨(Nat.le_of_ble_eq_true rfl), (Nat.le_of_ble_eq_true rfl)⟩ rfl rfl (Nat.le_of_ble_eq_true rfl) ?_
            rw [upd_upd]
            refine mt_istore (pc := 50) dX11_winterGoes_50 (Nat.le_of_ble_eq_true rfl) rfl ?_
            refine mt_iconst (pc := 52) (v := 1) dX11_winterGoes_52 (by decide) ?_
            refine mt_aload_n (pc := 53) dX11_winterGoes_53 rfl ?_
            refine mt_bipush (pc := 54) (v := 20) dX11_winterGoes_54 (by decide) ?_
            refine mt_cV (pc := 56) (n_draws (d := 0) (z := nxs (nxs s0)) (n := 20) hx (by decide) (by decide) (upd_eq _ _ _)) cal_X11_draws vir_X11_draws ml_X11_416 dX11_winterGoes_56 (by omega) (mos_o _ _ _) (by first | assumption | (show _ ≤ d; omega)) ⟨(Nat.le_of_ble_eq_true rfl), (Nat.le_of_ble_eq_true rfl)⟩ rfl rfl (Nat.le_of_ble_eq_true rfl) ?_
            rw [upd_upd]
            refine mt_iaddN (pc := 59) (a := 1) (b := drw (nxs (nxs s0)) 20) dX11_winterGoes_59 rfl rfl ?_
            rw [show 1 + drw (nxs (nxs s0)) 20 = drw (nxs (nxs s0)) 20 + 1 from Nat.add_comm _ _]
            refine mt_istore (pc := 60) dX11_winterGoes_60 (Nat.le_of_ble_eq_true rfl) rfl ?_
            refine mt_aload_n (pc := 62) dX11_winterGoes_62 rfl ?_
            refine mt_iload (pc := 63) dX11_winterGoes_63 rfl ?_
            refine mt_iload (pc := 65) dX11_winterGoes_65 rfl ?_
            refine mt_iload (pc := 67) dX11_winterGoes_67 rfl ?_
            refine mt_iconst (pc := 69) (v := 1) dX11_winterGoes_69 (by decide) ?_
            refine mt_aload_n (pc := 70) dX11_winterGoes_70 rfl ?_
            refine mt_bipush (pc := 71) (v := 9) dX11_winterGoes_71 (by decide) ?_
            refine mt_cV (pc := 73) (n_draws (d := 0) (z := nxs (nxs (nxs s0))) (n := 9) hx (by decide) (by decide) (upd_eq _ _ _)) cal_X11_draws vir_X11_draws ml_X11_416 dX11_winterGoes_73 (by omega) (mos_o _ _ _) (by first | assumption | (show _ ≤ d; omega)) ⟨(Nat.le_of_ble_eq_true rfl), (Nat.le_of_ble_eq_true rfl)⟩ rfl rfl (Nat.le_of_ble_eq_true rfl) ?_
            rw [upd_upd]
            refine mt_iaddN (pc := 76) (a := 1) (b := drw (nxs (nxs (nxs s0))) 9) dX11_winterGoes_76 rfl rfl ?_
            rw [show 1 + drw (nxs (nxs (nxs s0))) 9 = drw (nxs (nxs (nxs s0))) 9 + 1 from Nat.add_comm _ _]
            refine mt_aV (pc := 77) (n_lendsTo (d := 2) (k := k) (cs := cs) (f := F) (Nat.le_refl 2) hx hQc.2.2.1 w4 hJc.1 (by omega) hp8) cal_X11_lendsTo vir_X11_lendsTo ml_X11_334 dX11_winterGoes_77 (by omega) (mos_o _ _ _) (by first | assumption | (show _ ≤ d; omega)) ⟨(Nat.le_of_ble_eq_true rfl), (Nat.le_of_ble_eq_true rfl)⟩ rfl rfl (Nat.le_of_ble_eq_true rfl) ?_ ?_
            · rintro x9 n9 k9 h9
              obtain ⟨⟨⟩, -⟩ := h9
            · rintro v9 n9 k9 ⟨⟨⟩, rfl, A2, rfl, hs2, hR2⟩
              refine ⟨rfl, ?_⟩
              generalize (doS k cs (0, [drw s0 k.2.1, drw (nxs s0) k.1, drw (nxs (nxs s0)) 20 + 1, drw (nxs (nxs (nxs s0))) 9 + 1], 0) F).1 = F1 at hR2 hJ1 eW
              refine mt_pop (pc := 80) dX11_winterGoes_80 rfl ?_
              refine mt_aload_n (pc := 81) dX11_winterGoes_81 rfl ?_
              refine mt_bipush (pc := 82) (v := 16) dX11_winterGoes_82 (by decide) ?_
              refine mt_cV (pc := 84) (n_draws (d := 0) (z := nxs (nxs (nxs (nxs s0)))) (n := 16) hx (by decide) (by decide) (upd_eq _ _ _)) cal_X11_draws vir_X11_draws ml_X11_416 dX11_winterGoes_84 (by omega) (mos_o _ _ _) (by first | assumption | (show _ ≤ d; omega)) ⟨(Nat.le_of_ble_eq_true rfl), (Nat.le_of_ble_eq_true rfl)⟩ rfl rfl (Nat.le_of_ble_eq_true rfl) ?_
              rw [upd_upd]
              have hQ2 : MQs k cs (upd g1 48 (nxs (nxs (nxs (nxs (nxs s0)))))) A2 := hs2.mq hQc
              refine mt_iload_n (pc := 87) dX11_winterGoes_87 rfl ?_
              refine mt_icmp_ge (pc := 88) (tgt := 97) dX11_winterGoes_88 (by decide) (fun c88 => ?_) (fun c88 => ?_)
              · skip
                rw [if_neg (Int32.not_lt.mpr c88)] at eW
                refine mt_aload_n (pc := 97) dX11_winterGoes_97 rfl ?_
                refine mt_aV (pc := 98) (n_passes (d := 1) (k := k) (f := F1) (N := 400 + c) (Nat.le_refl 1) hx hk1 hR2 hJ1 (by omega)) cal_X11_passes vir_X11_passes ml_X11_345 dX11_winterGoes_98 (by omega) (mos_o _ _ _) (by first | assumption | (show _ ≤ d; omega)) ⟨(Nat.le_of_ble_eq_true rfl), (Nat.le_of_ble_eq_true rfl)⟩ rfl rfl (Nat.le_of_ble_eq_true rfl) ?_ ?_
                · rintro x9 n9 k9 h9
                  obtain ⟨⟨⟩, -⟩ := h9
                · rintro v9 n9 k9 ⟨⟨⟩, rfl, S1, rfl, hS1⟩
                  refine ⟨rfl, ?_⟩
                  refine mt_iinc (pc := 101) (c9 := 1) dX11_winterGoes_101 rfl (by decide) (Nat.le_of_ble_eq_true rfl) rfl ?_
                  refine mt_goto (pc := 104) (tgt := 12) dX11_winterGoes_104 (by decide) ?_
                  rw [show (nI c + 1 : Int32) = nI (c + 1) from nI_1 c]
                  exact mt_forget 5 (mt_forget 6 (mt_forget 7 (nc (upd g1 48 (nxs (nxs (nxs (nxs (nxs s0))))), updR A2 206 S1) ⟨fun j hj => (upd_ne hj).trans (w1 j hj), show upd g1 48 (nxs (nxs (nxs (nxs (nxs s0))))) 48 = (winS k cs q (F, s0)).2 by rw [eW]; exact upd_eq _ _ _, SD_s (w3.trans hs2), show RR (updR A2 206 S1 206) (winS k cs q (F, s0)).1 by rw [updR_eq, eW]; exact hS1⟩)))
              · skip
                rw [if_pos (Int32.not_le.mp c88)] at eW
                refine mt_aload_n (pc := 91) dX11_winterGoes_91 rfl ?_
                refine mt_iconst (pc := 92) (v := 0) dX11_winterGoes_92 (by decide) ?_
                refine mt_aV (pc := 93) (n_pays (d := 5) (i := 0) (k := k) (cs := cs) (f := F1) (Nat.le_refl 5) hx (by decide) hQ2 hR2 hJ1.1) cal_X11_pays vir_X11_pays ml_X11_338 dX11_winterGoes_93 (by omega) (mos_o _ _ _) (by first | assumption | (show _ ≤ d; omega)) ⟨(Nat.le_of_ble_eq_true rfl), (Nat.le_of_ble_eq_true rfl)⟩ rfl rfl (Nat.le_of_ble_eq_true rfl) ?_ ?_
                · rintro x9 n9 k9 h9
                  obtain ⟨⟨⟩, -⟩ := h9
                · rintro v9 n9 k9 ⟨⟨⟩, rfl, A3, rfl, hs3, hR3⟩
                  refine ⟨rfl, ?_⟩
                  refine mt_pop (pc := 96) dX11_winterGoes_96 rfl ?_
                  refine mt_aload_n (pc := 97) dX11_winterGoes_97 rfl ?_
                  refine mt_aV (pc := 98) (n_passes (d := 1) (k := k) (f := _) (N := 400 + c) (Nat.le_refl 1) hx hk1 hR3 (do1_RJ hJ1) (by omega)) cal_X11_passes vir_X11_passes ml_X11_345 dX11_winterGoes_98 (by omega) (mos_o _ _ _) (by first | assumption | (show _ ≤ d; omega)) ⟨(Nat.le_of_ble_eq_true rfl), (Nat.le_of_ble_eq_true rfl)⟩ rfl rfl (Nat.le_of_ble_eq_true rfl) ?_ ?_
                  · rintro x9 n9 k9 h9
                    obtain ⟨⟨⟩, -⟩ := h9
                  · rintro v9 n9 k9 ⟨⟨⟩, rfl, S1, rfl, hS1⟩
                    refine ⟨rfl, ?_⟩
                    refine mt_iinc (pc := 101) (c9 := 1) dX11_winterGoes_101 rfl (by decide) (Nat.le_of_ble_eq_true rfl) rfl ?_
                    refine mt_goto (pc := 104) (tgt := 12) dX11_winterGoes_104 (by decide) ?_
                    rw [show (nI c + 1 : Int32) = nI (c + 1) from nI_1 c]
                    exact mt_forget 5 (mt_forget 6 (mt_forget 7 (nc (upd g1 48 (nxs (nxs (nxs (nxs (nxs s0))))), updR A3 206 S1) ⟨fun j hj => (upd_ne hj).trans (w1 j hj), show upd g1 48 (nxs (nxs (nxs (nxs (nxs s0))))) 48 = (winS k cs q (F, s0)).2 by rw [eW]; exact upd_eq _ _ _, SD_s ((w3.trans hs2).trans hs3), show RR (updR A3 206 S1 206) (winS k cs q (F, s0)).1 by rw [updR_eq, eW]; exact hS1⟩)))
    · skip
      refine mt_iload (pc := 12) dX11_winterGoes_12 rfl ?_
      refine mt_iload_n (pc := 14) dX11_winterGoes_14 rfl ?_
      refine mt_icmp_ge (pc := 15) (tgt := 107) dX11_winterGoes_15 (by decide) (fun c15 => ?_) (fun c15 => ?_)
      · skip
        exact mt_vret rfl dX11_winterGoes_107 (Nat.le_of_ble_eq_true rfl) (Nat.le_of_ble_eq_true rfl) ⟨rfl, rfl, w.1, w.2, rfl, fc.1, fc.2.2.1, fc.2.2.2⟩
      · exact absurd (nI_le (Nat.le_refl _) (by first | omega | decide)) c15
end MWIN
