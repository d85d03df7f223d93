/-! The reference reads a law. -/
/-- a part of the law, as the reference has it: what it is, of what -/
def cdN (k : Nat) : Nat := if k < 1000 then 0 else if k < 2000 then 1 else if k = 2000 then 2 else if k = 2001 then 3 else if k = 2002 then 4 else if k = 2003 then 5 else if k = 2004 then 8 else if k = 2005 then 6 else 7
def coN (k : Nat) : Nat := if k < 1000 then k else if k < 2000 then k - 1000 else 0
def MLW (C O : Nat → Int32) (cs : List Nat) : Prop := ∀ i k, cs[i]? = some k → C i = nI (cdN k) ∧ O i = nI (coN k)
theorem MLW_push {C O : Nat → Int32} {cs : List Nat} {k : Nat} (h : MLW C O cs) : MLW (upd C cs.length (nI (cdN k))) (upd O cs.length (nI (coN k))) (cs ++ [k]) := by
  intro i j hj
  rcases Nat.lt_trichotomy i cs.length with h1 | h1 | h1
  · rw [List.getElem?_append_left h1] at hj
    rw [upd_ne (by omega), upd_ne (by omega)]
    exact h i j hj
  · subst h1
    rw [List.getElem?_append_right (Nat.le_refl _), Nat.sub_self] at hj
    cases hj
    rw [upd_eq, upd_eq]
    exact ⟨rfl, rfl⟩
  · rw [List.getElem?_eq_none (by simp only [List.length_append, List.length_cons, List.length_nil]; omega)] at hj
    cases hj
/-- where the reading of a law stands -/
def LSt (e : Nat) (g0 : MG) (A0 : MA) (g : MG) (A : MA) (x : rsL) : Prop := (∀ j, j ≠ 4 → j ≠ 5 → j ≠ 6 → j ≠ 25 → g j = g0 j) ∧ g0 3 = nI e ∧ (∀ j, j ≠ 197 → j ≠ 198 → A j = A0 j) ∧ match x with
  | .inl y => g 5 = nI y.2 ∧ g 6 = nI y.1 ∧ y.2 ≤ 600
  | .inr a => g 5 = -1 ∧ g 4 = nI a.1 ∧ a.1 ≤ e ∧ g 25 = nI a.2.length ∧ MLW (A 197) (A 198) a.2 ∧ a.2.length ≤ a.1
def rpL : rsL → (Nat × Nat) ⊕ Nat
  | .inl y => .inl y
  | .inr a => .inr a.1
def apL (x : rsL) (U : Nat → rsL) : rsL := sbind x fun a => sbind (U a.1) fun y => .inr (y.1, a.2 ++ y.2)
def apS (b : Nat → Int32) (e : Nat) (x : rsL) (c : Int32) : rsL := sbind x fun a => sbind (signS b e a.1 c) fun q => .inr (q, a.2)
theorem LSt.e {e : Nat} {g0 : MG} {A0 : MA} {g : MG} {A : MA} {x : rsL} (h : LSt e g0 A0 g A x) : g 3 = nI e := (h.1 3 (by decide) (by decide) (by decide) (by decide)).trans h.2.1
theorem LSt.pst {e : Nat} {g0 : MG} {A0 : MA} {g : MG} {A : MA} {x : rsL} (h : LSt e g0 A0 g A x) : PST e g g (rpL x) := by
  refine ⟨fun _ _ _ _ => rfl, h.e, ?_⟩
  have h4 := h.2.2.2
  rcases x with y | a
  · exact h4
  · exact ⟨h4.1, h4.2.1, h4.2.2.1⟩
theorem LSt.of {e : Nat} {g0 : MG} {A0 : MA} {g g' : MG} {A : MA} {x x' : rsL} {y : (Nat × Nat) ⊕ Nat} (h : LSt e g0 A0 g A x) (hP : PST e g g' y) (h1 : ∀ w, y = .inl w → x' = .inl w) (h2 : ∀ q, y = .inr q → ∃ a, x = .inr a ∧ a.1 ≤ q ∧ x' = .inr (q, a.2)) : LSt e g0 A0 g' A x' := by
  refine ⟨fun j a1 a2 a3 a4 => (hP.1 j a1 a2 a3).trans (h.1 j a1 a2 a3 a4), h.2.1, h.2.2.1, ?_⟩
  have h3 := hP.2.2
  rcases y with w | q
  · rw [h1 w rfl]
    exact h3
  · obtain ⟨a, rfl, hq, rfl⟩ := h2 q rfl
    have h4 := h.2.2.2
    exact ⟨h3.1, h3.2.1, h3.2.2, (hP.1 25 (by decide) (by decide) (by decide)).trans h4.2.2.2.1, h4.2.2.2.2.1, Nat.le_trans h4.2.2.2.2.2 hq⟩
theorem LSt.up {e : Nat} {g0 : MG} {A0 : MA} {g : MG} {A : MA} {x : rsL} (h : LSt e g0 A0 g A x) (v : Int32) : LSt e (upd g0 7 v) A0 (upd g 7 v) A x := by
  refine ⟨fun j a1 a2 a3 a4 => ?_, h.2.1, h.2.2.1, h.2.2.2⟩
  by_cases hj : j = 7
  · subst hj
    rw [upd_eq, upd_eq]
  · rw [upd_ne hj, upd_ne hj]
    exact h.1 j a1 a2 a3 a4
theorem LSt.sign {b : Nat → Int32} {e : Nat} {g0 : MG} {A0 : MA} {g g' : MG} {A : MA} {x : rsL} {c : Int32} (hc : ¬ c = -1) (h : LSt e g0 A0 g A x) (hP : PST e g g' (sgS b e (rpL x) c)) : LSt e g0 A0 g' A (apS b e x c) := by
  refine h.of hP (fun w hw => ?_) (fun q hq => ?_)
  · rcases x with y | a
    · cases hw; rfl
    · simp only [apS, sbind, rpL, sgS] at hw ⊢
      rw [hw]
  · rcases x with y | a
    · cases hq
    · have := signS_le (b := b) hc h.2.2.2.2.2.1 hq
      simp only [apS, sbind, rpL, sgS] at hq ⊢
      exact ⟨a, rfl, by omega, by rw [hq]⟩
section MLA
variable {G : mm_G} {l : Launch} {d nx : Nat} {h : Nat → mm_E} {g : MG} {A : MA} {b : Nat → Int32} {Po : mm_P} {e : Nat} {g0 : MG} {A0 : MA}
theorem LSt.nf {y : Nat × Nat} (hL : LSt e g0 A0 g A (.inl y)) : ¬ g 5 = -1 := by rw [hL.2.2.2.1]; exact nI_m1 (hi := 1000) (by have := hL.2.2.2.2.2; show ((y.2 : Nat) : Int) ≤ 1000; omega)
theorem n_emit {x : rsL} {k : Nat} {c o : Int32} (hd : 1 ≤ d) (hx : 215 ≤ nx) (he : e ≤ 150) (hL : LSt e g0 A0 g A x) (hx1 : ∀ a, x = .inr a → a.2.length < a.1 ∧ c = nI (cdN k) ∧ o = nI (coN k)) : mm_Con G l yX11_emit cX11_emit 3 none d 0 0 [.ref 188, .int c, .int o] nx (mos h g A) (fun q n m => q = .inl none ∧ n = nx ∧ ∃ g' A', m = mos h g' A' ∧ LSt e g0 A0 g' A' (sbind x fun a => .inr (a.1, a.2 ++ [k]))) := by
  refine mm_start (lo := [some (.ref 188), some (.int c), some (.int o)]) pn_X11 rfl rfl (Nat.le_of_ble_eq_true rfl) ?_
  rcases x with y | a
  · skip
    refine mt_aload_n (pc := 0) dX11_emit_0 rfl ?_
    refine mt_cV (pc := 1) (n_fineN (d := 0) hx hL.nf) cal_X11_fine vir_X11_fine ml_X11_134 dX11_emit_1 (by omega) (mos_o _ _ _) (by first | assumption | (show _ ≤ d; omega)) ⟨(Nat.le_of_ble_eq_true rfl), (Nat.le_of_ble_eq_true rfl)⟩ rfl rfl (Nat.le_of_ble_eq_true rfl) ?_
    refine mt_if_ne (pc := 4) (tgt := 8) dX11_emit_4 (by decide) (fun c4 => ?_) (fun c4 => ?_)
    · exact absurd rfl c4
    · skip
      exact mt_vret rfl dX11_emit_7 (Nat.le_of_ble_eq_true rfl) (Nat.le_of_ble_eq_true rfl) ⟨rfl, rfl, g, A, rfl, hL⟩
  · obtain ⟨h5, h4, h6, h25, hM, hl⟩ := hL.2.2.2
    obtain ⟨z1, rfl, rfl⟩ := hx1 a rfl
    refine mt_aload_n (pc := 0) dX11_emit_0 rfl ?_
    refine mt_cV (pc := 1) (n_fineY (d := 0) hx h5) cal_X11_fine vir_X11_fine ml_X11_134 dX11_emit_1 (by omega) (mos_o _ _ _) (by first | assumption | (show _ ≤ d; omega)) ⟨(Nat.le_of_ble_eq_true rfl), (Nat.le_of_ble_eq_true rfl)⟩ rfl rfl (Nat.le_of_ble_eq_true rfl) ?_
    refine mt_if_ne (pc := 4) (tgt := 8) dX11_emit_4 (by decide) (fun c4 => ?_) (fun c4 => ?_)
    · skip
      refine mt_aload_n (pc := 8) dX11_emit_8 rfl ?_
      refine mt_mget (pc := 9) gf_X11_41 dX11_emit_9 hx rfl ?_
      refine mt_aload_n (pc := 12) dX11_emit_12 rfl ?_
      refine mt_mgetI (pc := 13) (x := nI a.2.length) gf_X11_220 dX11_emit_13 hx rfl h25 ?_
      refine mt_iload_n (pc := 16) dX11_emit_16 rfl ?_
      refine mt_mast (pc := 17) (i := 197) (j := a.2.length) dX11_emit_17 hx rfl rfl (by show _ < 150; omega) ?_
      refine mt_aload_n (pc := 18) dX11_emit_18 rfl ?_
      refine mt_mget (pc := 19) gf_X11_44 dX11_emit_19 hx rfl ?_
      refine mt_aload_n (pc := 22) dX11_emit_22 rfl ?_
      refine mt_mgetI (pc := 23) (x := nI a.2.length) gf_X11_220 dX11_emit_23 hx rfl h25 ?_
      refine mt_iload_n (pc := 26) dX11_emit_26 rfl ?_
      refine mt_mast (pc := 27) (i := 198) (j := a.2.length) dX11_emit_27 hx rfl rfl (by show _ < 150; omega) ?_
      refine mt_aload_n (pc := 28) dX11_emit_28 rfl ?_
      refine mt_dup (pc := 29) dX11_emit_29 rfl ?_
      refine mt_mgetI (pc := 30) (x := nI a.2.length) gf_X11_220 dX11_emit_30 hx rfl h25 ?_
      refine mt_iconst (pc := 33) (v := 1) dX11_emit_33 (by decide) ?_
      refine mt_iaddN (pc := 34) (a := a.2.length) (b := 1) dX11_emit_34 rfl rfl ?_
      refine mt_mput (pc := 35) pf_X11_220 dX11_emit_35 hx rfl ?_
      exact mt_vret rfl dX11_emit_38 (Nat.le_of_ble_eq_true rfl) (Nat.le_of_ble_eq_true rfl) ⟨rfl, rfl, _, _, rfl, fun j a1 a2 a3 a4 => (upd_ne a4).trans (hL.1 j a1 a2 a3 a4), hL.2.1, fun j a1 a2 => by rw [updR_ne a2, updR_ne a1]; exact hL.2.2.1 j a1 a2, h5, h4, h6, by show nI (a.2.length + 1) = _; rw [List.length_append]; rfl, MLW_push hM, by show (a.2 ++ [k]).length ≤ a.1; rw [List.length_append]; exact z1⟩
    · exact absurd c4 (by decide)
theorem n_opens {x : rsL} {o n : Nat} (hd : 1 ≤ d) (hx : 215 ≤ nx) (he : e ≤ 150) (ho : o ≤ 6) (h7 : g0 7 = nI o) (hL : LSt e g0 A0 g A x) (hx1 : ∀ a, x = .inr a → a.1 + n ≤ e) : mm_Con G l yX11_opensOne cX11_opensOne 2 none d 0 0 [.ref 188, .int (nI n)] nx (mos h g A) (fun q n' m => q = .inl none ∧ n' = nx ∧ ∃ g', m = mos h g' A ∧ LSt e (upd g0 7 (nI (o + 1))) A0 g' A (sbind x fun a => if 6 ≤ o then .inl (3, a.1) else .inr (a.1 + n, a.2))) := by
  have t7 : g 7 = nI o := (hL.1 7 (by decide) (by decide) (by decide) (by decide)).trans h7
  refine mm_start (lo := [some (.ref 188), some (.int (nI n))]) pn_X11 rfl rfl (Nat.le_of_ble_eq_true rfl) ?_
  rcases x with y | a
  · skip
    refine mt_aload_n (pc := 0) dX11_opensOne_0 rfl ?_
    refine mt_cV (pc := 1) (n_fineN (d := 0) hx hL.nf) cal_X11_fine vir_X11_fine ml_X11_134 dX11_opensOne_1 (by omega) (mos_o _ _ _) (by first | assumption | (show _ ≤ d; omega)) ⟨(Nat.le_of_ble_eq_true rfl), (Nat.le_of_ble_eq_true rfl)⟩ rfl rfl (Nat.le_of_ble_eq_true rfl) ?_
    refine mt_if_eq (pc := 4) (tgt := 25) dX11_opensOne_4 (by decide) (fun c4 => ?_) (fun c4 => ?_)
    · skip
      refine mt_aload_n (pc := 25) dX11_opensOne_25 rfl ?_
      refine mt_cV (pc := 26) (n_fineN (d := 0) hx hL.nf) cal_X11_fine vir_X11_fine ml_X11_134 dX11_opensOne_26 (by omega) (mos_o _ _ _) (by first | assumption | (show _ ≤ d; omega)) ⟨(Nat.le_of_ble_eq_true rfl), (Nat.le_of_ble_eq_true rfl)⟩ rfl rfl (Nat.le_of_ble_eq_true rfl) ?_
      refine mt_if_eq (pc := 29) (tgt := 42) dX11_opensOne_29 (by decide) (fun c29 => ?_) (fun c29 => ?_)
      · skip
        refine mt_aload_n (pc := 42) dX11_opensOne_42 rfl ?_
        refine mt_dup (pc := 43) dX11_opensOne_43 rfl ?_
        refine mt_mgetI (pc := 44) (x := nI o) gf_X11_145 dX11_opensOne_44 hx rfl t7 ?_
        refine mt_iconst (pc := 47) (v := 1) dX11_opensOne_47 (by decide) ?_
        refine mt_iaddN (pc := 48) (a := o) (b := 1) dX11_opensOne_48 rfl rfl ?_
        refine mt_mput (pc := 49) pf_X11_145 dX11_opensOne_49 hx rfl ?_
        exact mt_vret rfl dX11_opensOne_52 (Nat.le_of_ble_eq_true rfl) (Nat.le_of_ble_eq_true rfl) ⟨rfl, rfl, _, rfl, hL.up _⟩
      · exact absurd rfl c29
    · exact absurd rfl c4
  · obtain ⟨h5, h4, h6, h25, hM, hl⟩ := hL.2.2.2
    have hn := hx1 a rfl
    by_cases h9 : 6 ≤ o
    · obtain rfl : o = 6 := by omega
      refine mt_aload_n (pc := 0) dX11_opensOne_0 rfl ?_
      refine mt_cV (pc := 1) (n_fineY (d := 0) hx h5) cal_X11_fine vir_X11_fine ml_X11_134 dX11_opensOne_1 (by omega) (mos_o _ _ _) (by first | assumption | (show _ ≤ d; omega)) ⟨(Nat.le_of_ble_eq_true rfl), (Nat.le_of_ble_eq_true rfl)⟩ rfl rfl (Nat.le_of_ble_eq_true rfl) ?_
      refine mt_if_eq (pc := 4) (tgt := 25) dX11_opensOne_4 (by decide) (fun c4 => ?_) (fun c4 => ?_)
      · exact absurd c4 (by decide)
      · skip
        refine mt_aload_n (pc := 7) dX11_opensOne_7 rfl ?_
        refine mt_mgetI (pc := 8) (x := nI 6) gf_X11_145 dX11_opensOne_8 hx rfl t7 ?_
        refine mt_bipush (pc := 11) (v := 6) dX11_opensOne_11 (by decide) ?_
        refine mt_icmp_ne (pc := 13) (tgt := 25) dX11_opensOne_13 (by decide) (fun c13 => ?_) (fun c13 => ?_)
        · exact absurd rfl c13
        · skip
          refine mt_aload_n (pc := 16) dX11_opensOne_16 rfl ?_
          refine mt_iconst (pc := 17) (v := 3) dX11_opensOne_17 (by decide) ?_
          refine mt_aload_n (pc := 18) dX11_opensOne_18 rfl ?_
          refine mt_mgetI (pc := 19) (x := nI a.1) gf_X11_111 dX11_opensOne_19 hx rfl h4 ?_
          refine mt_cV (pc := 22) (n_wrong (d := 0) hx h5) cal_X11_wrong vir_X11_wrong ml_X11_141 dX11_opensOne_22 (by omega) (mos_o _ _ _) (by first | assumption | (show _ ≤ d; omega)) ⟨(Nat.le_of_ble_eq_true rfl), (Nat.le_of_ble_eq_true rfl)⟩ rfl rfl (Nat.le_of_ble_eq_true rfl) ?_
          refine mt_aload_n (pc := 25) dX11_opensOne_25 rfl ?_
          refine mt_cV (pc := 26) (n_fineN (d := 0) hx (show ¬ nI a.1 = -1 from nI_m1 (hi := 1000) (by show ((a.1 : Nat) : Int) ≤ 1000; omega))) cal_X11_fine vir_X11_fine ml_X11_134 dX11_opensOne_26 (by omega) (mos_o _ _ _) (by first | assumption | (show _ ≤ d; omega)) ⟨(Nat.le_of_ble_eq_true rfl), (Nat.le_of_ble_eq_true rfl)⟩ rfl rfl (Nat.le_of_ble_eq_true rfl) ?_
          refine mt_if_eq (pc := 29) (tgt := 42) dX11_opensOne_29 (by decide) (fun c29 => ?_) (fun c29 => ?_)
          · skip
            refine mt_aload_n (pc := 42) dX11_opensOne_42 rfl ?_
            refine mt_dup (pc := 43) dX11_opensOne_43 rfl ?_
            refine mt_mgetI (pc := 44) (x := nI 6) gf_X11_145 dX11_opensOne_44 hx rfl t7 ?_
            refine mt_iconst (pc := 47) (v := 1) dX11_opensOne_47 (by decide) ?_
            refine mt_iaddN (pc := 48) (a := 6) (b := 1) dX11_opensOne_48 rfl rfl ?_
            refine mt_mput (pc := 49) pf_X11_145 dX11_opensOne_49 hx rfl ?_
            exact mt_vret rfl dX11_opensOne_52 (Nat.le_of_ble_eq_true rfl) (Nat.le_of_ble_eq_true rfl) ⟨rfl, rfl, _, rfl, LSt.up (g0 := g0) (A0 := A0) (x := .inl (3, a.1)) ⟨fun j a1 a2 a3 a4 => by rw [upd_ne a3, upd_ne a2]; exact hL.1 j a1 a2 a3 a4, hL.2.1, hL.2.2.1, rfl, rfl, by show a.1 ≤ 600; omega⟩ _⟩
          · exact absurd rfl c29
    · have e9 : (sbind (.inr a : rsL) fun a => if 6 ≤ o then .inl (3, a.1) else .inr (a.1 + n, a.2)) = (.inr (a.1 + n, a.2) : rsL) := if_neg h9
      rw [e9]
      refine mt_aload_n (pc := 0) dX11_opensOne_0 rfl ?_
      refine mt_cV (pc := 1) (n_fineY (d := 0) hx h5) cal_X11_fine vir_X11_fine ml_X11_134 dX11_opensOne_1 (by omega) (mos_o _ _ _) (by first | assumption | (show _ ≤ d; omega)) ⟨(Nat.le_of_ble_eq_true rfl), (Nat.le_of_ble_eq_true rfl)⟩ rfl rfl (Nat.le_of_ble_eq_true rfl) ?_
      refine mt_if_eq (pc := 4) (tgt := 25) dX11_opensOne_4 (by decide) (fun c4 => ?_) (fun c4 => ?_)
      · exact absurd c4 (by decide)
      · skip
        refine mt_aload_n (pc := 7) dX11_opensOne_7 rfl ?_
        refine mt_mgetI (pc := 8) (x := nI o) gf_X11_145 dX11_opensOne_8 hx rfl t7 ?_
        refine mt_bipush (pc := 11) (v := 6) dX11_opensOne_11 (by decide) ?_
        refine mt_icmp_ne (pc := 13) (tgt := 25) dX11_opensOne_13 (by decide) (fun c13 => ?_) (fun c13 => ?_)
        · skip
          refine mt_aload_n (pc := 25) dX11_opensOne_25 rfl ?_
          refine mt_cV (pc := 26) (n_fineY (d := 0) hx h5) cal_X11_fine vir_X11_fine ml_X11_134 dX11_opensOne_26 (by omega) (mos_o _ _ _) (by first | assumption | (show _ ≤ d; omega)) ⟨(Nat.le_of_ble_eq_true rfl), (Nat.le_of_ble_eq_true rfl)⟩ rfl rfl (Nat.le_of_ble_eq_true rfl) ?_
          refine mt_if_eq (pc := 29) (tgt := 42) dX11_opensOne_29 (by decide) (fun c29 => ?_) (fun c29 => ?_)
          · exact absurd c29 (by decide)
          · skip
            refine mt_aload_n (pc := 32) dX11_opensOne_32 rfl ?_
            refine mt_dup (pc := 33) dX11_opensOne_33 rfl ?_
            refine mt_mgetI (pc := 34) (x := nI a.1) gf_X11_111 dX11_opensOne_34 hx rfl h4 ?_
            refine mt_iload_n (pc := 37) dX11_opensOne_37 rfl ?_
            refine mt_iaddN (pc := 38) (a := a.1) (b := n) dX11_opensOne_38 rfl rfl ?_
            refine mt_mput (pc := 39) pf_X11_111 dX11_opensOne_39 hx rfl ?_
            refine mt_aload_n (pc := 42) dX11_opensOne_42 rfl ?_
            refine mt_dup (pc := 43) dX11_opensOne_43 rfl ?_
            refine mt_mgetI (pc := 44) (x := nI o) gf_X11_145 dX11_opensOne_44 hx rfl t7 ?_
            refine mt_iconst (pc := 47) (v := 1) dX11_opensOne_47 (by decide) ?_
            refine mt_iaddN (pc := 48) (a := o) (b := 1) dX11_opensOne_48 rfl rfl ?_
            refine mt_mput (pc := 49) pf_X11_145 dX11_opensOne_49 hx rfl ?_
            exact mt_vret rfl dX11_opensOne_52 (Nat.le_of_ble_eq_true rfl) (Nat.le_of_ble_eq_true rfl) ⟨rfl, rfl, _, rfl, LSt.up (g := upd g 4 (nI (a.1 + n))) (g0 := g0) (A0 := A0) (x := .inr (a.1 + n, a.2)) ⟨fun j a1 a2 a3 a4 => by rw [upd_ne a1]; exact hL.1 j a1 a2 a3 a4, hL.2.1, hL.2.2.1, h5, rfl, hn, h25, hM, by show a.2.length ≤ a.1 + n; omega⟩ _⟩
        · exact absurd c13 (nI_ne (b := 6) (by omega) (by decide))
/-- nothing is read behind a FAULT -/
theorem n_unitB {y : Nat × Nat} (hd : 1 ≤ d) (hx : 215 ≤ nx) (hL : LSt e g0 A0 g A (.inl y)) : mm_Con G l yX11_readUnit cX11_readUnit 2 none d 0 0 [.ref 188] nx (mos h g A) (mm_ret none nx (mos h g A)) := by
  refine mm_start (lo := [some (.ref 188), none]) pn_X11 rfl rfl (Nat.le_of_ble_eq_true rfl) ?_
  refine mt_aload_n (pc := 0) dX11_readUnit_0 rfl ?_
  refine mt_cV (pc := 1) (n_fineN (d := 0) hx hL.nf) cal_X11_fine vir_X11_fine ml_X11_134 dX11_readUnit_1 (by omega) (mos_o _ _ _) (by first | assumption | (show _ ≤ d; omega)) ⟨(Nat.le_of_ble_eq_true rfl), (Nat.le_of_ble_eq_true rfl)⟩ rfl rfl (Nat.le_of_ble_eq_true rfl) ?_
  refine mt_if_ne (pc := 4) (tgt := 8) dX11_readUnit_4 (by decide) (fun c4 => ?_) (fun c4 => ?_)
  · exact absurd rfl c4
  · skip
    exact mt_vret rfl dX11_readUnit_7 (Nat.le_of_ble_eq_true rfl) (Nat.le_of_ble_eq_true rfl) ⟨rfl, rfl, rfl⟩
theorem n_prodB {y : Nat × Nat} (hd : 2 ≤ d) (hx : 215 ≤ nx) (hL : LSt e g0 A0 g A (.inl y)) : mm_Con G l yX11_readProduct cX11_readProduct 2 none d 0 0 [.ref 188] nx (mos h g A) (mm_ret none nx (mos h g A)) := by
  refine mm_start (lo := [some (.ref 188), none]) pn_X11 rfl rfl (Nat.le_of_ble_eq_true rfl) ?_
  refine mt_aload_n (pc := 0) dX11_readProduct_0 rfl ?_
  refine mt_cV (pc := 1) (n_unitB (d := 1) (Nat.le_refl 1) hx hL) cal_X11_readUnit vir_X11_readUnit ml_X11_229 dX11_readProduct_1 (by omega) (mos_o _ _ _) (by first | assumption | (show _ ≤ d; omega)) ⟨(Nat.le_of_ble_eq_true rfl), (Nat.le_of_ble_eq_true rfl)⟩ rfl rfl (Nat.le_of_ble_eq_true rfl) ?_
  refine mt_aload_n (pc := 4) dX11_readProduct_4 rfl ?_
  refine mt_cV (pc := 5) (n_fineN (d := 0) hx hL.nf) cal_X11_fine vir_X11_fine ml_X11_134 dX11_readProduct_5 (by omega) (mos_o _ _ _) (by first | assumption | (show _ ≤ d; omega)) ⟨(Nat.le_of_ble_eq_true rfl), (Nat.le_of_ble_eq_true rfl)⟩ rfl rfl (Nat.le_of_ble_eq_true rfl) ?_
  refine mt_if_eq (pc := 8) (tgt := 90) dX11_readProduct_8 (by decide) (fun c8 => ?_) (fun c8 => ?_)
  · skip
    exact mt_vret rfl dX11_readProduct_90 (Nat.le_of_ble_eq_true rfl) (Nat.le_of_ble_eq_true rfl) ⟨rfl, rfl, rfl⟩
  · exact absurd rfl c8
theorem n_sumB {y : Nat × Nat} (hd : 3 ≤ d) (hx : 215 ≤ nx) (hL : LSt e g0 A0 g A (.inl y)) : mm_Con G l yX11_readSum cX11_readSum 2 none d 0 0 [.ref 188] nx (mos h g A) (mm_ret none nx (mos h g A)) := by
  refine mm_start (lo := [some (.ref 188), none]) pn_X11 rfl rfl (Nat.le_of_ble_eq_true rfl) ?_
  refine mt_aload_n (pc := 0) dX11_readSum_0 rfl ?_
  refine mt_cV (pc := 1) (n_prodB (d := 2) (Nat.le_refl 2) hx hL) cal_X11_readProduct vir_X11_readProduct ml_X11_223 dX11_readSum_1 (by omega) (mos_o _ _ _) (by first | assumption | (show _ ≤ d; omega)) ⟨(Nat.le_of_ble_eq_true rfl), (Nat.le_of_ble_eq_true rfl)⟩ rfl rfl (Nat.le_of_ble_eq_true rfl) ?_
  refine mt_aload_n (pc := 4) dX11_readSum_4 rfl ?_
  refine mt_cV (pc := 5) (n_fineN (d := 0) hx hL.nf) cal_X11_fine vir_X11_fine ml_X11_134 dX11_readSum_5 (by omega) (mos_o _ _ _) (by first | assumption | (show _ ≤ d; omega)) ⟨(Nat.le_of_ble_eq_true rfl), (Nat.le_of_ble_eq_true rfl)⟩ rfl rfl (Nat.le_of_ble_eq_true rfl) ?_
  refine mt_if_eq (pc := 8) (tgt := 67) dX11_readSum_8 (by decide) (fun c8 => ?_) (fun c8 => ?_)
  · skip
    exact mt_vret rfl dX11_readSum_67 (Nat.le_of_ble_eq_true rfl) (Nat.le_of_ble_eq_true rfl) ⟨rfl, rfl, rfl⟩
  · exact absurd rfl c8
def fcI : Option Nat → Int32
  | none => -1
  | some k => nI (k - 1000)
theorem WD_9 {b : Nat → Int32} {q r j : Nat} (h : WD b q r 9) (hj : WD b q r j) (hl : mm_tl.getD j 0 ≠ 8) : False := by
  have h1 : r = q + 8 := h.1
  have h2 := hj.1
  omega
theorem n_fact {p : Nat} (hd : 6 ≤ d) (hx : 215 ≤ nx) (hT : TP (A 190) b) (hb : BY b) (he : e ≤ 600) (h3 : g 3 = nI e) (h4 : g 4 = nI p) (hp : p ≤ e) : mm_Con G l yX11_factHere cX11_factHere 2 (some .int) d 0 0 [.ref 188] nx (mos h g A) (mm_ret (some (.int (fcI (namS b (sk b e p) (lt b e (sk b e p)))))) nx (mos h (upd g 4 (nI (sk b e p))) A)) := by
  have hq := sk_le (b := b) hp
  have hr := lt_le (b := b) hq.2
  have hLL : ∀ i, sk b e p ≤ i → i < lt b e (sk b e p) → isL (b i) := fun i a1 a2 => lt_L (e := e) a1 a2
  have wv : ∀ j, 1 ≤ j → j < 18 → mm_tl.getD j 0 ≤ 6 → 1 ≤ mm_tl.getD j 0 → (wvI b (sk b e p) (lt b e (sk b e p)) = nI (ofN j) ↔ WD b (sk b e p) (lt b e (sk b e p)) j) := fun j a1 a2 a3 a4 => wv_of hr.1 hLL a1 a2 a3 a4
  have w6 := wv 6 (by decide) (by decide) (by decide) (by decide)
  have w7 := wv 7 (by decide) (by decide) (by decide) (by decide)
  have w8 := wv 8 (by decide) (by decide) (by decide) (by decide)
  have w3 := wv 3 (by decide) (by decide) (by decide) (by decide)
  have w10 := wv 10 (by decide) (by decide) (by decide) (by decide)
  have w11 := wv 11 (by decide) (by decide) (by decide) (by decide)
  have w2 := wv 2 (by decide) (by decide) (by decide) (by decide)
  refine mm_start (lo := [some (.ref 188), none]) pn_X11 rfl rfl (Nat.le_of_ble_eq_true rfl) ?_
  refine mt_aload_n (pc := 0) dX11_factHere_0 rfl ?_
  refine mt_ldcS (pc := 1) (j := 9) (tx := "standing") (by decide +kernel) dX11_factHere_1 ?_
  refine mt_cV (pc := 3) (n_stands (d := 4) (p := p) (j := 9) (Nat.le_refl 4) hx hT hb h3 he h4 hp (by decide) (by decide)) cal_X11_standsHere vir_X11_standsHere ml_X11_240 dX11_factHere_3 (by omega) (mos_o _ _ _) (by first | assumption | (show _ ≤ d; omega)) ⟨(Nat.le_of_ble_eq_true rfl), (Nat.le_of_ble_eq_true rfl)⟩ rfl rfl (Nat.le_of_ble_eq_true rfl) ?_
  refine mt_if_eq (pc := 6) (tgt := 11) dX11_factHere_6 (by decide) (fun c6 => ?_) (fun c6 => ?_)
  · skip
    have n9 : ¬ WD b (sk b e p) (lt b e (sk b e p)) 9 := wdi0.mp c6
    refine mt_aload_n (pc := 11) dX11_factHere_11 rfl ?_
    refine mt_cV (pc := 12) (n_word (d := 1) (p := sk b e p) (Nat.le_refl 1) hx hT hb h3 he (upd_eq _ _ _) hq.2) cal_X11_word vir_X11_word ml_X11_201 dX11_factHere_12 (by omega) (mos_o _ _ _) (by first | assumption | (show _ ≤ d; omega)) ⟨(Nat.le_of_ble_eq_true rfl), (Nat.le_of_ble_eq_true rfl)⟩ rfl rfl (Nat.le_of_ble_eq_true rfl) ?_
    rw [sk_sk hp, upd_upd]
    refine mt_istore_n (pc := 15) dX11_factHere_15 (Nat.le_of_ble_eq_true rfl) rfl ?_
    refine mt_iload_n (pc := 16) dX11_factHere_16 rfl ?_
    refine mt_ldcS (pc := 17) (j := 6) (tx := "amount") (by decide +kernel) dX11_factHere_17 ?_
    refine mt_cS (pc := 19) (n_of (d := 4) (j := 6) (Nat.le_refl 4) (by decide) (by decide) (by decide)) cal_X11_of sta_X11_of ml_X11_180 dX11_factHere_19 (by first | assumption | (show _ ≤ d; omega)) ⟨(Nat.le_of_ble_eq_true rfl), (Nat.le_of_ble_eq_true rfl)⟩ rfl rfl (Nat.le_of_ble_eq_true rfl) ?_
    refine mt_icmp_ne (pc := 22) (tgt := 29) dX11_factHere_22 (by decide) (fun c22 => ?_) (fun c22 => ?_)
    · skip
      have n6 := fun z => c22 (w6.mpr z)
      refine mt_iload_n (pc := 29) dX11_factHere_29 rfl ?_
      refine mt_ldcS (pc := 30) (j := 7) (tx := "nights") (by decide +kernel) dX11_factHere_30 ?_
      refine mt_cS (pc := 32) (n_of (d := 4) (j := 7) (Nat.le_refl 4) (by decide) (by decide) (by decide)) cal_X11_of sta_X11_of ml_X11_180 dX11_factHere_32 (by first | assumption | (show _ ≤ d; omega)) ⟨(Nat.le_of_ble_eq_true rfl), (Nat.le_of_ble_eq_true rfl)⟩ rfl rfl (Nat.le_of_ble_eq_true rfl) ?_
      refine mt_icmp_ne (pc := 35) (tgt := 42) dX11_factHere_35 (by decide) (fun c35 => ?_) (fun c35 => ?_)
      · skip
        have n7 := fun z => c35 (w7.mpr z)
        refine mt_iload_n (pc := 42) dX11_factHere_42 rfl ?_
        refine mt_ldcS (pc := 43) (j := 8) (tx := "kind") (by decide +kernel) dX11_factHere_43 ?_
        refine mt_cS (pc := 45) (n_of (d := 4) (j := 8) (Nat.le_refl 4) (by decide) (by decide) (by decide)) cal_X11_of sta_X11_of ml_X11_180 dX11_factHere_45 (by first | assumption | (show _ ≤ d; omega)) ⟨(Nat.le_of_ble_eq_true rfl), (Nat.le_of_ble_eq_true rfl)⟩ rfl rfl (Nat.le_of_ble_eq_true rfl) ?_
        refine mt_icmp_ne (pc := 48) (tgt := 55) dX11_factHere_48 (by decide) (fun c48 => ?_) (fun c48 => ?_)
        · skip
          have n8 := fun z => c48 (w8.mpr z)
          refine mt_iload_n (pc := 55) dX11_factHere_55 rfl ?_
          refine mt_ldcS (pc := 56) (j := 3) (tx := "kin") (by decide +kernel) dX11_factHere_56 ?_
          refine mt_cS (pc := 58) (n_of (d := 4) (j := 3) (Nat.le_refl 4) (by decide) (by decide) (by decide)) cal_X11_of sta_X11_of ml_X11_180 dX11_factHere_58 (by first | assumption | (show _ ≤ d; omega)) ⟨(Nat.le_of_ble_eq_true rfl), (Nat.le_of_ble_eq_true rfl)⟩ rfl rfl (Nat.le_of_ble_eq_true rfl) ?_
          refine mt_icmp_ne (pc := 61) (tgt := 68) dX11_factHere_61 (by decide) (fun c61 => ?_) (fun c61 => ?_)
          · skip
            have n3 := fun z => c61 (w3.mpr z)
            refine mt_iload_n (pc := 68) dX11_factHere_68 rfl ?_
            refine mt_ldcS (pc := 69) (j := 10) (tx := "left") (by decide +kernel) dX11_factHere_69 ?_
            refine mt_cS (pc := 71) (n_of (d := 4) (j := 10) (Nat.le_refl 4) (by decide) (by decide) (by decide)) cal_X11_of sta_X11_of ml_X11_180 dX11_factHere_71 (by first | assumption | (show _ ≤ d; omega)) ⟨(Nat.le_of_ble_eq_true rfl), (Nat.le_of_ble_eq_true rfl)⟩ rfl rfl (Nat.le_of_ble_eq_true rfl) ?_
            refine mt_icmp_ne (pc := 74) (tgt := 81) dX11_factHere_74 (by decide) (fun c74 => ?_) (fun c74 => ?_)
            · skip
              have n10 := fun z => c74 (w10.mpr z)
              refine mt_iload_n (pc := 81) dX11_factHere_81 rfl ?_
              refine mt_ldcS (pc := 82) (j := 11) (tx := "night") (by decide +kernel) dX11_factHere_82 ?_
              refine mt_cS (pc := 84) (n_of (d := 4) (j := 11) (Nat.le_refl 4) (by decide) (by decide) (by decide)) cal_X11_of sta_X11_of ml_X11_180 dX11_factHere_84 (by first | assumption | (show _ ≤ d; omega)) ⟨(Nat.le_of_ble_eq_true rfl), (Nat.le_of_ble_eq_true rfl)⟩ rfl rfl (Nat.le_of_ble_eq_true rfl) ?_
              refine mt_icmp_ne (pc := 87) (tgt := 95) dX11_factHere_87 (by decide) (fun c87 => ?_) (fun c87 => ?_)
              · skip
                have n11 := fun z => c87 (w11.mpr z)
                refine mt_iload_n (pc := 95) dX11_factHere_95 rfl ?_
                refine mt_ldcS (pc := 96) (j := 2) (tx := "soul") (by decide +kernel) dX11_factHere_96 ?_
                refine mt_cS (pc := 98) (n_of (d := 4) (j := 2) (Nat.le_refl 4) (by decide) (by decide) (by decide)) cal_X11_of sta_X11_of ml_X11_180 dX11_factHere_98 (by first | assumption | (show _ ≤ d; omega)) ⟨(Nat.le_of_ble_eq_true rfl), (Nat.le_of_ble_eq_true rfl)⟩ rfl rfl (Nat.le_of_ble_eq_true rfl) ?_
                refine mt_icmp_ne (pc := 101) (tgt := 109) dX11_factHere_101 (by decide) (fun c101 => ?_) (fun c101 => ?_)
                · skip
                  have n2 := fun z => c101 (w2.mpr z)
                  refine mt_iconst (pc := 109) (v := (-1)) dX11_factHere_109 (by decide) ?_
                  exact mt_iret rfl dX11_factHere_110 (Nat.le_of_ble_eq_true rfl) (Nat.le_of_ble_eq_true rfl) ⟨by simp only [namS]; rw [if_neg n6, if_neg n7, if_neg n8, if_neg n3, if_neg n9, if_neg n10, if_neg n11, if_neg n2]; rfl, rfl, rfl⟩
                · skip
                  refine mt_bipush (pc := 104) (v := 7) dX11_factHere_104 (by decide) ?_
                  refine mt_goto (pc := 106) (tgt := 110) dX11_factHere_106 (by decide) ?_
                  exact mt_iret rfl dX11_factHere_110 (Nat.le_of_ble_eq_true rfl) (Nat.le_of_ble_eq_true rfl) ⟨by simp only [namS]; rw [if_neg n6, if_neg n7, if_neg n8, if_neg n3, if_neg n9, if_neg n10, if_neg n11, if_pos (w2.mp c101)]; rfl, rfl, rfl⟩
              · skip
                refine mt_bipush (pc := 90) (v := 6) dX11_factHere_90 (by decide) ?_
                refine mt_goto (pc := 92) (tgt := 110) dX11_factHere_92 (by decide) ?_
                exact mt_iret rfl dX11_factHere_110 (Nat.le_of_ble_eq_true rfl) (Nat.le_of_ble_eq_true rfl) ⟨by simp only [namS]; rw [if_neg n6, if_neg n7, if_neg n8, if_neg n3, if_neg n9, if_neg n10, if_pos (w11.mp c87)]; rfl, rfl, rfl⟩
            · skip
              refine mt_iconst (pc := 77) (v := 5) dX11_factHere_77 (by decide) ?_
              refine mt_goto (pc := 78) (tgt := 110) dX11_factHere_78 (by decide) ?_
              exact mt_iret rfl dX11_factHere_110 (Nat.le_of_ble_eq_true rfl) (Nat.le_of_ble_eq_true rfl) ⟨by simp only [namS]; rw [if_neg n6, if_neg n7, if_neg n8, if_neg n3, if_neg n9, if_pos (w10.mp c74)]; rfl, rfl, rfl⟩
          · skip
            refine mt_iconst (pc := 64) (v := 3) dX11_factHere_64 (by decide) ?_
            refine mt_goto (pc := 65) (tgt := 110) dX11_factHere_65 (by decide) ?_
            exact mt_iret rfl dX11_factHere_110 (Nat.le_of_ble_eq_true rfl) (Nat.le_of_ble_eq_true rfl) ⟨by simp only [namS]; rw [if_neg n6, if_neg n7, if_neg n8, if_pos (w3.mp c61)]; rfl, rfl, rfl⟩
        · skip
          refine mt_iconst (pc := 51) (v := 2) dX11_factHere_51 (by decide) ?_
          refine mt_goto (pc := 52) (tgt := 110) dX11_factHere_52 (by decide) ?_
          exact mt_iret rfl dX11_factHere_110 (Nat.le_of_ble_eq_true rfl) (Nat.le_of_ble_eq_true rfl) ⟨by simp only [namS]; rw [if_neg n6, if_neg n7, if_pos (w8.mp c48)]; rfl, rfl, rfl⟩
      · skip
        refine mt_iconst (pc := 38) (v := 1) dX11_factHere_38 (by decide) ?_
        refine mt_goto (pc := 39) (tgt := 110) dX11_factHere_39 (by decide) ?_
        exact mt_iret rfl dX11_factHere_110 (Nat.le_of_ble_eq_true rfl) (Nat.le_of_ble_eq_true rfl) ⟨by simp only [namS]; rw [if_neg n6, if_pos (w7.mp c35)]; rfl, rfl, rfl⟩
    · skip
      refine mt_iconst (pc := 25) (v := 0) dX11_factHere_25 (by decide) ?_
      refine mt_goto (pc := 26) (tgt := 110) dX11_factHere_26 (by decide) ?_
      exact mt_iret rfl dX11_factHere_110 (Nat.le_of_ble_eq_true rfl) (Nat.le_of_ble_eq_true rfl) ⟨by simp only [namS]; rw [if_pos (w6.mp c22)]; rfl, rfl, rfl⟩
  · skip
    have y9 : WD b (sk b e p) (lt b e (sk b e p)) 9 := Classical.not_not.mp fun z => c6 (wdi0.mpr z)
    refine mt_iconst (pc := 9) (v := 4) dX11_factHere_9 (by decide) ?_
    exact mt_iret rfl dX11_factHere_10 (Nat.le_of_ble_eq_true rfl) (Nat.le_of_ble_eq_true rfl) ⟨by simp only [namS]; rw [if_neg (fun z => WD_9 y9 z (by decide)), if_neg (fun z => WD_9 y9 z (by decide)), if_neg (fun z => WD_9 y9 z (by decide)), if_neg (fun z => WD_9 y9 z (by decide)), if_pos y9]; rfl, rfl, rfl⟩
/-- the contract of a reader: behind x it reads as U does -/
def CLm (G : mm_G) (l : Launch) (b : Nat → Int32) (e : Nat) (y : MethodName) (c : ByteArray) (nL d o : Nat) (U : Nat → rsL) : Prop := ∀ (nx : Nat) (h : Nat → mm_E) (g0 : MG) (A0 : MA) (g : MG) (A : MA) (x : rsL), 215 ≤ nx → TP (A0 190) b → LSt e g0 A0 g A x → g0 7 = nI o → mm_Con G l y c nL none d 0 0 [.ref 188] nx (mos h g A) (fun q n m => q = .inl none ∧ n = nx ∧ ∃ g' A', m = mos h g' A' ∧ LSt e g0 A0 g' A' (apL x U))
theorem LSt.tp {x : rsL} (hL : LSt e g0 A0 g A x) (hT : TP (A0 190) b) : TP (A 190) b := by rw [hL.2.2.1 190 (by decide) (by decide)]; exact hT
end MLA
