/-! The reference: STEPS one by one. -/
theorem do_RJ {k : CS} {cs : List Nat} {f : Nat → Int32} {t : ST} (hk1 : k.1 ≤ 8) (hk2 : k.2.1 ≤ 6) (ht : TW k.2.1 k.1 t) (h6 : t.1 ≠ 6) (h : RJ 400 k f) : RJ 400 k (doS k cs t f).1 := by
  rcases ht with ⟨a, p, x, y, rfl, h1, h2, h3, h4, h5, h7⟩ | ⟨i, rfl, h1⟩ | ⟨a, x, rfl, h1, h2, h3⟩ | ⟨p, rfl, h1⟩ | ⟨p, rfl, h1⟩ | rfl | ⟨x, z, rfl, -⟩
  · simp only [doS]
    split
    · next hc =>
      have hn : nlo f < 10 := Nat.lt_of_not_le fun z => hc.1 (by rw [h.1.nl.2.1]; exact nI_le (a := 10) z (by have := h.1.nl.1; omega))
      exact lend_RJ (by decide) h1 h2 (by omega) (by omega) h4 h7 h hn hc.2.2.1
    · exact h
  · simp only [doS]
    split
    · exact h
    · next hc => exact pay_RJ h (Nat.lt_of_not_le fun z => hc (Or.inl z)) (fun z => hc (Or.inr z))
  · simp only [doS]
    split
    · next hc =>
      refine ⟨RI_purse h.1 (by omega) ?_, RN_upd h.2 (by omega) (by omega) (Or.inl (by omega))⟩
      obtain ⟨u, u1, u2⟩ := h.1.2.2.2.1 a (by omega)
      rw [u1, nI_add]
      unfold min300
      split
      · next z => exact ⟨u + x, rfl, Nat.le_of_lt ((nI_ltI (b := 300) (by omega) (by decide)).mp z)⟩
      · exact ⟨300, rfl, by decide⟩
    · exact h
  · exact ⟨RI_sealS h.1 hk1 h1, RN_upd h.2 (by omega) (by omega) (Or.inl (by omega))⟩
  · exact ⟨RI_openS h.1 hk1 h1, RN_upd h.2 (by omega) (by omega) (Or.inl (by omega))⟩
  · simp only [doS]
    split
    · next hc =>
      refine nig_RJ (N := 399) hk1 (by decide) ⟨h.1, ?_, h.2.2⟩
      obtain ⟨u, u1, u2⟩ := h.2.1
      rw [u1] at hc
      exact ⟨u, u1, Nat.le_of_lt_succ ((nI_ltI (b := 400) (by omega) (by decide)).mp hc)⟩
    · exact h
  · exact absurd rfl h6
/-- what holds of the reference while STEPS are done -/
def WSr (k : CS) (g0 : MG) (A0 : MA) (g : MG) (A : MA) (w : WS) : Prop := (∀ j, j ≠ 33 → j ≠ 34 → j ≠ 35 → g j = g0 j) ∧ SD A0 A ∧ g 33 = nI w.2.1 ∧ g 34 = nI w.2.2.1 ∧ g 35 = nI w.2.2.2 ∧ RR (A 206) w.1 ∧ RJ 400 k w.1 ∧ w.2.1 ≤ 200
def P_goes (k : CS) (w : WS) (nx : Nat) (h : Nat → mm_E) (g : MG) (A : MA) : mm_P := fun o n m => o = .inl none ∧ n = nx ∧ ∃ g' A', m = mos h g' A' ∧ WSr k g A g' A' w
def MSt (R : Nat → Int32) (ss : List ST) : Prop := ∀ i t, ss[i]? = some t → MStep R i t ∧ t.2.1.length ≤ 4
theorem MQs.gg {k : CS} {cs : List Nat} {g g' : MG} {A : MA} (h : MQs k cs g A) (hg : ∀ j, j ≠ 33 → j ≠ 34 → j ≠ 35 → g' j = g j) : MQs k cs g' A := by
  obtain ⟨h1, h2, h3, h4⟩ := h
  exact ⟨(hg 18 (by decide) (by decide) (by decide)).trans h1, (hg 19 (by decide) (by decide) (by decide)).trans h2, h3, by rw [hg 26 (by decide) (by decide) (by decide)]; exact h4⟩
def CGo (G : mm_G) (l : Launch) (h : Nat → mm_E) (k : CS) (cs : List Nat) (ss : List ST) (H : Nat → Nat) (d j : Nat) (B : Nat → Nat → WS → WS) : Prop := ∀ (nx : Nat) (g : MG) (A : MA) (w : WS) (i to : Nat), 215 ≤ nx → MQs k cs g A → MSt (A 204) ss → WSr k g A g A w → to ≤ ss.length → i ≤ 30 → (∀ q, i ≤ q → q < to → H q < j) → mm_Con G l yX11_goesSteps cX11_goesSteps 6 none d 0 0 [.ref 188, .int (nI (5 * i)), .int (nI (5 * to))] nx (mos h g A) (P_goes k (B i to w) nx h g A)
section MGO
variable {G : mm_G} {l : Launch} {d nx : Nat} {h : Nat → mm_E} {g : MG} {A : MA} {k : CS} {cs : List Nat} {ss : List ST} {w : WS}
theorem n_goes0 {H : Nat → Nat} : CGo G l h k cs ss H d 0 (fun _ _ w => w) := by
  intro nx g A w i to hx hQ hS hW hto hi hH
  have hle : to ≤ i := Nat.le_of_not_lt fun z => absurd (hH i (Nat.le_refl i) z) (Nat.not_lt_zero _)
  refine mm_start (lo := [some (.ref 188), some (.int (nI (5 * i))), some (.int (nI (5 * to))), none, none, none]) pn_X11 rfl rfl (Nat.le_of_ble_eq_true rfl) ?_
  refine mt_iload_n (pc := 0) dX11_goesSteps_0 rfl ?_
  refine mt_istore_n (pc := 1) dX11_goesSteps_1 (Nat.le_of_ble_eq_true rfl) rfl ?_
  refine mt_iload_n (pc := 2) dX11_goesSteps_2 rfl ?_
  refine mt_iload_n (pc := 3) dX11_goesSteps_3 rfl ?_
  refine mt_icmp_ge (pc := 4) (tgt := 132) dX11_goesSteps_4 (by decide) (fun c4 => ?_) (fun c4 => ?_)
  · skip
    exact mt_vret rfl dX11_goesSteps_132 (Nat.le_of_ble_eq_true rfl) (Nat.le_of_ble_eq_true rfl) ⟨rfl, rfl, g, A, rfl, hW⟩
  · exact absurd (nI_le (by omega) (by omega)) c4
theorem n_goesAt {H : Nat → Nat} {j : Nat} {B : Nat → Nat → WS → WS} (hd : 7 ≤ d) (hlen : ss.length ≤ 30) (hbw : BWf ss) (hTW : ∀ t ∈ ss, TW k.2.1 k.1 t) (hH : ∀ q t, ss[q]? = some t → t.1 = 6 → ∀ q', q < q' → q' < t.2.2 → H q' < H q) (hBc : CGo G l h k cs ss H (d - 1) j B) : CGo G l h k cs ss H d (j + 1) (runS k cs ss B 30) := by
  intro nx g A w i0 to hx hQ hS hW hto hi0 hHj
  have hk1 := hQ.2.2.1.1
  have hk2 := hQ.2.2.1.2.1
  refine mm_start (lo := [some (.ref 188), some (.int (nI (5 * i0))), some (.int (nI (5 * to))), none, none, none]) pn_X11 rfl rfl (Nat.le_of_ble_eq_true rfl) ?_
  refine mt_iload_n (pc := 0) dX11_goesSteps_0 rfl ?_
  refine mt_istore_n (pc := 1) dX11_goesSteps_1 (Nat.le_of_ble_eq_true rfl) rfl ?_
  refine mt_forE (pc := 2) (α := (MG × MA) × Nat × WS) (H := fun c (a : (MG × MA) × Nat × WS) => mos h a.1.1 a.1.2) (L := fun c (a : (MG × MA) × Nat × WS) => [some (.ref 188), some (.int (nI (5 * i0))), some (.int (nI (5 * to))), some (.int (nI (5 * a.2.1))), none, none]) (I := fun c (a : (MG × MA) × Nat × WS) => WSr k g A a.1.1 a.1.2 a.2.2 ∧ c ≤ a.2.1 ∧ a.2.1 ≤ 30 ∧ (i0 ≤ a.2.1) ∧ runS k cs ss B 30 i0 to w = runS k cs ss B (30 - c) a.2.1 to a.2.2) 30 (fun c a hc fc nc => ?_) (fun a fc => ?_) (((g, A), i0, w)) (⟨hW, Nat.zero_le _, hi0, Nat.le_refl _, rfl⟩)
  · skip
    obtain ⟨g1, g3, g4, g6, g5⟩ := fc
    obtain ⟨⟨g', A'⟩, q, u⟩ := a
    dsimp only at g1 g3 g4 g5 g6 ⊢
    have hq1 : 30 - c = 30 - (c + 1) + 1 := by omega
    rw [hq1, runS_s (30 - (c + 1)) q to u] at g5
    have hbl := g1.2.2.2.2.2.2.2
    have e33 := g1.2.2.1
    refine mt_iload_n (pc := 2) dX11_goesSteps_2 rfl ?_
    refine mt_iload_n (pc := 3) dX11_goesSteps_3 rfl ?_
    refine mt_icmp_ge (pc := 4) (tgt := 132) dX11_goesSteps_4 (by decide) (fun c4 => ?_) (fun c4 => ?_)
    · skip
      rw [if_neg (fun z => nI_ge (a := 5 * q) (b := 5 * to) (by omega) (by omega) c4)] at g5
      have hfin := g5
      exact mt_vret rfl dX11_goesSteps_132 (Nat.le_of_ble_eq_true rfl) (Nat.le_of_ble_eq_true rfl) ⟨rfl, rfl, g', A', rfl, by rw [hfin]; exact g1⟩
    · skip
      refine mt_aload_n (pc := 7) dX11_goesSteps_7 rfl ?_
      refine mt_mgetI (pc := 8) (x := nI u.2.1) gf_X11_296 dX11_goesSteps_8 hx rfl e33 ?_
      refine mt_sipush (pc := 11) (v := 200) dX11_goesSteps_11 (by decide) ?_
      refine mt_icmp_ge (pc := 14) (tgt := 132) dX11_goesSteps_14 (by decide) (fun c14 => ?_) (fun c14 => ?_)
      · skip
        rw [if_neg (fun z => nI_ge (b := 200) z.2.2 (by decide) c14)] at g5
        have hfin := g5
        exact mt_vret rfl dX11_goesSteps_132 (Nat.le_of_ble_eq_true rfl) (Nat.le_of_ble_eq_true rfl) ⟨rfl, rfl, g', A', rfl, by rw [hfin]; exact g1⟩
      · skip
        have l1 : q < to := Nat.lt_of_not_le fun z => c4 (nI_le (by omega) (by omega))
        have l3 : u.2.1 < 200 := Nat.lt_of_not_le fun z => c14 (nI_le (a := 200) z (by omega))
        rw [if_pos ⟨l1, by omega, l3⟩] at g5
        have hlt : q < ss.length := by omega
        have hget : ss[q]? = some ss[q] := List.getElem?_eq_getElem hlt
        have hS' : MSt (A' 204) ss := by rw [g1.2.1 204 (by decide) (by decide) (by decide)]; exact hS
        have hok := (hS' q _ hget).1
        have htw := hTW _ (List.getElem_mem hlt)
        have hb6 := hbw q _ hget
        have hHq := hH q _ hget
        have hHj2 := hHj q g6 l1
        rw [hget] at g5
        generalize ss[q] = t at hok htw hb6 hHq g5
        dsimp only at g5
        have hQ' : MQs k cs g' A' := (g1.2.1.mq hQ).gg g1.1
        refine mt_aload_n (pc := 17) dX11_goesSteps_17 rfl ?_
        refine mt_dup (pc := 18) dX11_goesSteps_18 rfl ?_
        refine mt_mgetI (pc := 19) (x := nI u.2.1) gf_X11_296 dX11_goesSteps_19 hx rfl e33 ?_
        refine mt_iconst (pc := 22) (v := 1) dX11_goesSteps_22 (by decide) ?_
        refine mt_iaddN (pc := 23) (a := u.2.1) (b := 1) dX11_goesSteps_23 rfl rfl ?_
        refine mt_mput (pc := 24) pf_X11_296 dX11_goesSteps_24 hx rfl ?_
        have hW1 : WSr k g A (upd g' 33 (nI (u.2.1 + 1))) A' (u.1, u.2.1 + 1, u.2.2) := ⟨fun j a1 a2 a3 => (upd_ne a1).trans (g1.1 j a1 a2 a3), g1.2.1, upd_eq _ _ _, (upd_ne (by decide)).trans g1.2.2.2.1, (upd_ne (by decide)).trans g1.2.2.2.2.1, g1.2.2.2.2.2.1, g1.2.2.2.2.2.2.1, by dsimp only; omega⟩
        have hQ1 : MQs k cs (upd g' 33 (nI (u.2.1 + 1))) A' := hQ'.gg (fun j a1 a2 a3 => upd_ne a1)
        generalize upd g' 33 (nI (u.2.1 + 1)) = g'' at hW1 hQ1 ⊢
        refine mt_aload_n (pc := 27) dX11_goesSteps_27 rfl ?_
        refine mt_mget (pc := 28) gf_X11_62 dX11_goesSteps_28 hx rfl ?_
        refine mt_iload_n (pc := 31) dX11_goesSteps_31 rfl ?_
        refine mt_mald (pc := 32) (i := 204) (j := 5 * q) (x := nI t.1) dX11_goesSteps_32 hx rfl rfl (by show _ < 250; omega) (hok.1) ?_
        refine mt_bipush (pc := 33) (v := 6) dX11_goesSteps_33 (by decide) ?_
        refine mt_icmp_ne (pc := 35) (tgt := 95) dX11_goesSteps_35 (by decide) (fun c35 => ?_) (fun c35 => ?_)
        · skip
          have h6 : ¬ t.1 = 6 := fun z => c35 (by rw [z]; rfl)
          rw [if_neg h6] at g5
          refine mt_aload_n (pc := 95) dX11_goesSteps_95 rfl ?_
          refine mt_iload_n (pc := 96) dX11_goesSteps_96 rfl ?_
          refine mt_aV (pc := 97) (n_isDone (d := 6) (Nat.le_refl 6) hx (i := q) (by omega) hQ1 hW1.2.2.2.2.2.1 hW1.2.2.2.2.2.2.1 htw h6 hok) cal_X11_isDone vir_X11_isDone ml_X11_308 dX11_goesSteps_97 (by omega) (mos_o _ _ _) (by first | assumption | (show _ ≤ d; omega)) ⟨(Nat.le_of_ble_eq_true rfl), (Nat.le_of_ble_eq_true rfl)⟩ rfl rfl (Nat.le_of_ble_eq_true rfl) ?_ ?_
          · rintro x9 n9 k9 h9
            obtain ⟨⟨⟩, -⟩ := h9
          · rintro v9 n9 k9 ⟨⟨⟩, rfl, A3, rfl, hs3, hR3⟩
            refine ⟨rfl, ?_⟩
            refine mt_if_eq (pc := 100) (tgt := 116) dX11_goesSteps_100 (by decide) (fun c100 => ?_) (fun c100 => ?_)
            · skip
              have hW3 : WSr k g A (upd g'' 35 (nI (u.2.2.2 + 1))) A3 (stpS k cs t u) := ⟨fun j a1 a2 a3 => (upd_ne a3).trans (hW1.1 j a1 a2 a3), hW1.2.1.trans hs3, (upd_ne (by decide)).trans hW1.2.2.1, by rw [upd_ne (by decide)]; unfold stpS; dsimp only at c100 ⊢; rw [if_pos c100]; exact hW1.2.2.2.1, by rw [upd_eq]; unfold stpS; dsimp only at c100 ⊢; rw [if_pos c100], hR3, do_RJ hk1 hk2 htw h6 hW1.2.2.2.2.2.2.1, by unfold stpS; dsimp only; omega⟩
              refine mt_aload_n (pc := 116) dX11_goesSteps_116 rfl ?_
              refine mt_dup (pc := 117) dX11_goesSteps_117 rfl ?_
              refine mt_mgetI (pc := 118) (x := nI u.2.2.2) gf_X11_302 dX11_goesSteps_118 hx rfl (hW1.2.2.2.2.1) ?_
              refine mt_iconst (pc := 121) (v := 1) dX11_goesSteps_121 (by decide) ?_
              refine mt_iaddN (pc := 122) (a := u.2.2.2) (b := 1) dX11_goesSteps_122 rfl rfl ?_
              refine mt_mput (pc := 123) pf_X11_302 dX11_goesSteps_123 hx rfl ?_
              refine mt_iinc (pc := 126) (c9 := 5) dX11_goesSteps_126 rfl (by decide) (Nat.le_of_ble_eq_true rfl) rfl ?_
              refine mt_goto (pc := 129) (tgt := 2) dX11_goesSteps_129 (by decide) ?_
              rw [show (nI (5 * q) + 5 : Int32) = nI (5 * (q + 1)) from (nI_add (5 * q) 5).trans (by rw [Nat.mul_add])]
              exact nc ((_, A3), q + 1, _) ⟨hW3, by dsimp only; omega, by dsimp only; omega, by dsimp only; omega, g5⟩
            · skip
              have hW3 : WSr k g A (upd g'' 34 (nI (u.2.2.1 + 1))) A3 (stpS k cs t u) := ⟨fun j a1 a2 a3 => (upd_ne a2).trans (hW1.1 j a1 a2 a3), hW1.2.1.trans hs3, (upd_ne (by decide)).trans hW1.2.2.1, by rw [upd_eq]; unfold stpS; dsimp only at c100 ⊢; rw [if_neg c100], by rw [upd_ne (by decide)]; unfold stpS; dsimp only at c100 ⊢; rw [if_neg c100]; exact hW1.2.2.2.2.1, hR3, do_RJ hk1 hk2 htw h6 hW1.2.2.2.2.2.2.1, by unfold stpS; dsimp only; omega⟩
              refine mt_aload_n (pc := 103) dX11_goesSteps_103 rfl ?_
              refine mt_dup (pc := 104) dX11_goesSteps_104 rfl ?_
              refine mt_mgetI (pc := 105) (x := nI u.2.2.1) gf_X11_299 dX11_goesSteps_105 hx rfl (hW1.2.2.2.1) ?_
              refine mt_iconst (pc := 108) (v := 1) dX11_goesSteps_108 (by decide) ?_
              refine mt_iaddN (pc := 109) (a := u.2.2.1) (b := 1) dX11_goesSteps_109 rfl rfl ?_
              refine mt_mput (pc := 110) pf_X11_299 dX11_goesSteps_110 hx rfl ?_
              refine mt_goto (pc := 113) (tgt := 126) dX11_goesSteps_113 (by decide) ?_
              refine mt_iinc (pc := 126) (c9 := 5) dX11_goesSteps_126 rfl (by decide) (Nat.le_of_ble_eq_true rfl) rfl ?_
              refine mt_goto (pc := 129) (tgt := 2) dX11_goesSteps_129 (by decide) ?_
              rw [show (nI (5 * q) + 5 : Int32) = nI (5 * (q + 1)) from (nI_add (5 * q) 5).trans (by rw [Nat.mul_add])]
              exact nc ((_, A3), q + 1, _) ⟨hW3, by dsimp only; omega, by dsimp only; omega, by dsimp only; omega, g5⟩
        · skip
          have h6 : t.1 = 6 := by
            have hlt : t.1 < 2 ^ 31 := by
              rcases htw with ⟨_, _, _, _, rfl, -⟩ | ⟨_, rfl, -⟩ | ⟨_, _, rfl, -⟩ | ⟨_, rfl, -⟩ | ⟨_, rfl, -⟩ | rfl | ⟨_, _, rfl, -⟩ <;> (dsimp only; omega)
            exact (nI_eq hlt (by decide)).mp c35
          rw [if_pos h6] at g5
          obtain ⟨x, z, rfl, hx30⟩ : ∃ x z, t = (6, [x], z) ∧ x ≤ 30 := by
            rcases htw with ⟨_, _, _, _, rfl, -⟩ | ⟨_, rfl, -⟩ | ⟨_, _, rfl, -⟩ | ⟨_, rfl, -⟩ | ⟨_, rfl, -⟩ | rfl | z
            · dsimp only at h6; omega
            · dsimp only at h6; omega
            · dsimp only at h6; omega
            · dsimp only at h6; omega
            · dsimp only at h6; omega
            · dsimp only at h6; omega
            · exact z
          have hz := hb6 rfl
          have hHz := hHq rfl
          have hok1 : A' 204 (5 * q + 1) = nI x := hok.2.1 0 x rfl
          have hok2 : A' 204 (5 * q + 2) = nI (5 * z) := hok.2.2 rfl
          dsimp only at g5 hz hHz
          rw [show ([x] : List Nat).getD 0 0 = x from rfl] at g5
          refine mt_aload_n (pc := 38) dX11_goesSteps_38 rfl ?_
          refine mt_mget (pc := 39) gf_X11_62 dX11_goesSteps_39 hx rfl ?_
          refine mt_iload_n (pc := 42) dX11_goesSteps_42 rfl ?_
          refine mt_iconst (pc := 43) (v := 2) dX11_goesSteps_43 (by decide) ?_
          refine mt_iaddN (pc := 44) (a := 5 * q) (b := 2) dX11_goesSteps_44 rfl rfl ?_
          refine mt_mald (pc := 45) (i := 204) (j := (5 * q) + 2) (x := nI (5 * z)) dX11_goesSteps_45 hx rfl rfl (by show _ < 250; omega) hok2 ?_
          refine mt_istore (pc := 46) dX11_goesSteps_46 (Nat.le_of_ble_eq_true rfl) rfl ?_
          refine mt_iconst (pc := 48) (v := 0) dX11_goesSteps_48 (by decide) ?_
          refine mt_istore (pc := 49) dX11_goesSteps_49 (Nat.le_of_ble_eq_true rfl) rfl ?_
          refine mt_forE (pc := 51) (α := (MG × MA) × WS) (H := fun i (a2 : (MG × MA) × WS) => mos h a2.1.1 a2.1.2) (L := fun i (a2 : (MG × MA) × WS) => [some (.ref 188), some (.int (nI (5 * i0))), some (.int (nI (5 * to))), some (.int (nI (5 * q))), some (.int (nI (5 * z))), some (.int (nI i))]) (I := fun i (a2 : (MG × MA) × WS) => WSr k g A a2.1.1 a2.1.2 a2.2 ∧ repS (B (q + 1) z) x (u.1, u.2.1 + 1, u.2.2) = repS (B (q + 1) z) (x - i) a2.2) x (fun i a2 hi fi ni => ?_) (fun a2 fi => ?_) (((g'', A'), (u.1, u.2.1 + 1, u.2.2))) (⟨hW1, rfl⟩)
          · skip
            obtain ⟨e1, e3⟩ := fi
            obtain ⟨⟨g2, A2⟩, u2⟩ := a2
            dsimp only at e1 e3 ⊢
            rw [show x - i = x - (i + 1) + 1 by omega, repS] at e3
            have eR : A2 204 = A' 204 := (e1.2.1 204 (by decide) (by decide) (by decide)).trans (g1.2.1 204 (by decide) (by decide) (by decide)).symm
            have hQ2 : MQs k cs g2 A2 := (e1.2.1.mq hQ).gg e1.1
            refine mt_iload (pc := 51) dX11_goesSteps_51 rfl ?_
            refine mt_aload_n (pc := 53) dX11_goesSteps_53 rfl ?_
            refine mt_mget (pc := 54) gf_X11_62 dX11_goesSteps_54 hx rfl ?_
            refine mt_iload_n (pc := 57) dX11_goesSteps_57 rfl ?_
            refine mt_iconst (pc := 58) (v := 1) dX11_goesSteps_58 (by decide) ?_
            refine mt_iaddN (pc := 59) (a := 5 * q) (b := 1) dX11_goesSteps_59 rfl rfl ?_
            refine mt_mald (pc := 60) (i := 204) (j := (5 * q) + 1) (x := nI x) dX11_goesSteps_60 hx rfl rfl (by show _ < 250; omega) (by rw [eR]; exact hok1) ?_
            refine mt_icmp_ge (pc := 61) (tgt := 89) dX11_goesSteps_61 (by decide) (fun c61 => ?_) (fun c61 => ?_)
            · exact absurd c61 (nI_ge hi (by first | omega | decide))
            · skip
              refine mt_aload_n (pc := 64) dX11_goesSteps_64 rfl ?_
              refine mt_mgetI (pc := 65) (x := nI u2.2.1) gf_X11_296 dX11_goesSteps_65 hx rfl (e1.2.2.1) ?_
              refine mt_sipush (pc := 68) (v := 200) dX11_goesSteps_68 (by decide) ?_
              refine mt_icmp_ge (pc := 71) (tgt := 89) dX11_goesSteps_71 (by decide) (fun c71 => ?_) (fun c71 => ?_)
              · skip
                rw [if_neg (fun y => nI_ge (b := 200) y (by decide) c71)] at e3
                refine mt_iload (pc := 89) dX11_goesSteps_89 rfl ?_
                refine mt_istore_n (pc := 91) dX11_goesSteps_91 (Nat.le_of_ble_eq_true rfl) rfl ?_
                refine mt_goto (pc := 92) (tgt := 2) dX11_goesSteps_92 (by decide) ?_
                refine mt_forget 4 (mt_forget 5 ?_)
                exact nc ((g2, A2), z, u2) ⟨e1, by dsimp only; omega, by dsimp only; omega, by dsimp only; omega, by dsimp only; rw [g5, e3]⟩
              · skip
                have l4 : u2.2.1 < 200 := Nat.lt_of_not_le fun y => c71 (nI_le (a := 200) y (by have := e1.2.2.2.2.2.2.2; omega))
                rw [if_pos l4] at e3
                refine mt_aload_n (pc := 74) dX11_goesSteps_74 rfl ?_
                refine mt_iload_n (pc := 75) dX11_goesSteps_75 rfl ?_
                refine mt_iconst (pc := 76) (v := 5) dX11_goesSteps_76 (by decide) ?_
                refine mt_iaddN (pc := 77) (a := 5 * q) (b := 5) dX11_goesSteps_77 rfl rfl ?_
                refine mt_iload (pc := 78) dX11_goesSteps_78 rfl ?_
                rw [show 5 * q + 5 = 5 * (q + 1) by omega]
                refine mt_aV (pc := 80) (hBc nx g2 A2 u2 (q + 1) z hx hQ2 (by rw [eR]; exact hS') ⟨fun _ _ _ _ => rfl, SD_rf, e1.2.2⟩ (by omega) (by omega) (fun y y1 y2 => by have := hHz y (by omega) y2; omega)) cal_X11_goesSteps vir_X11_goesSteps ml_X11_305 dX11_goesSteps_80 (by omega) (mos_o _ _ _) (by first | assumption | (show _ ≤ d; omega)) ⟨(Nat.le_of_ble_eq_true rfl), (Nat.le_of_ble_eq_true rfl)⟩ rfl rfl (Nat.le_of_ble_eq_true rfl) ?_ ?_
                · rintro x9 n9 k9 h9
                  obtain ⟨⟨⟩, -⟩ := h9
                · rintro v9 n9 k9 ⟨⟨⟩, rfl, g3', A3, rfl, hW3⟩
                  refine ⟨rfl, ?_⟩
                  refine mt_iinc (pc := 83) (c9 := 1) dX11_goesSteps_83 rfl (by decide) (Nat.le_of_ble_eq_true rfl) rfl ?_
                  refine mt_goto (pc := 86) (tgt := 51) dX11_goesSteps_86 (by decide) ?_
                  rw [show (nI i + 1 : Int32) = nI (i + 1) from nI_1 i]
                  exact ni ((g3', A3), B (q + 1) z u2) ⟨⟨fun y a1 a2 a3 => (hW3.1 y a1 a2 a3).trans (e1.1 y a1 a2 a3), e1.2.1.trans hW3.2.1, hW3.2.2⟩, e3⟩
          · skip
            obtain ⟨e1, e3⟩ := fi
            obtain ⟨⟨g2, A2⟩, u2⟩ := a2
            dsimp only at e1 e3 ⊢
            rw [Nat.sub_self, repS] at e3
            have eR : A2 204 = A' 204 := (e1.2.1 204 (by decide) (by decide) (by decide)).trans (g1.2.1 204 (by decide) (by decide) (by decide)).symm
            refine mt_iload (pc := 51) dX11_goesSteps_51 rfl ?_
            refine mt_aload_n (pc := 53) dX11_goesSteps_53 rfl ?_
            refine mt_mget (pc := 54) gf_X11_62 dX11_goesSteps_54 hx rfl ?_
            refine mt_iload_n (pc := 57) dX11_goesSteps_57 rfl ?_
            refine mt_iconst (pc := 58) (v := 1) dX11_goesSteps_58 (by decide) ?_
            refine mt_iaddN (pc := 59) (a := 5 * q) (b := 1) dX11_goesSteps_59 rfl rfl ?_
            refine mt_mald (pc := 60) (i := 204) (j := (5 * q) + 1) (x := nI x) dX11_goesSteps_60 hx rfl rfl (by show _ < 250; omega) (by rw [eR]; exact hok1) ?_
            refine mt_icmp_ge (pc := 61) (tgt := 89) dX11_goesSteps_61 (by decide) (fun c61 => ?_) (fun c61 => ?_)
            · skip
              refine mt_iload (pc := 89) dX11_goesSteps_89 rfl ?_
              refine mt_istore_n (pc := 91) dX11_goesSteps_91 (Nat.le_of_ble_eq_true rfl) rfl ?_
              refine mt_goto (pc := 92) (tgt := 2) dX11_goesSteps_92 (by decide) ?_
              refine mt_forget 4 (mt_forget 5 ?_)
              exact nc ((g2, A2), z, u2) ⟨e1, by dsimp only; omega, by dsimp only; omega, by dsimp only; omega, by dsimp only; rw [g5, e3]⟩
            · exact absurd (nI_le (Nat.le_refl _) (by first | omega | decide)) c61
  · skip
    obtain ⟨g1, g3, g4, g6, g5⟩ := fc
    obtain ⟨⟨g', A'⟩, q, u⟩ := a
    dsimp only at g1 g3 g4 g5 g6 ⊢
    have hfin : runS k cs ss B 30 i0 to w = u := g5
    refine mt_iload_n (pc := 2) dX11_goesSteps_2 rfl ?_
    refine mt_iload_n (pc := 3) dX11_goesSteps_3 rfl ?_
    refine mt_icmp_ge (pc := 4) (tgt := 132) dX11_goesSteps_4 (by decide) (fun c4 => ?_) (fun c4 => ?_)
    · skip
      exact mt_vret rfl dX11_goesSteps_132 (Nat.le_of_ble_eq_true rfl) (Nat.le_of_ble_eq_true rfl) ⟨rfl, rfl, g', A', rfl, by rw [hfin]; exact g1⟩
    · exact absurd (nI_le (by omega) (by omega)) c4
theorem n_goesJ {H : Nat → Nat} (hlen : ss.length ≤ 30) (hbw : BWf ss) (hTW : ∀ t ∈ ss, TW k.2.1 k.1 t) (hH : ∀ q t, ss[q]? = some t → t.1 = 6 → ∀ q', q < q' → q' < t.2.2 → H q' < H q) : ∀ (j d : Nat), 7 + j ≤ d → CGo G l h k cs ss H d j (carS k cs ss j)
  | 0, _, _ => n_goes0
  | j + 1, d, hd => n_goesAt (by omega) hlen hbw hTW hH (n_goesJ hlen hbw hTW hH j (d - 1) (by omega))
end MGO
