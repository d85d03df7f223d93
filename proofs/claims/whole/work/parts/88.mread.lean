/-! The reference reads WORK. -/
theorem MSt_push {R R' : Nat → Int32} {ss : List ST} {t : ST} (h : MSt R ss) (hR : ∀ j, j < 5 * ss.length → R' j = R j) (ht : MStep R' ss.length t) (hl : t.2.1.length ≤ 4) : MSt R' (ss ++ [t]) := by
  intro i u hu
  rcases Nat.lt_trichotomy i ss.length with hi | hi | hi
  · rw [List.getElem?_append_left hi] at hu
    obtain ⟨⟨a1, a2, a3⟩, a4⟩ := h i u hu
    refine ⟨⟨by rw [hR _ (by omega)]; exact a1, fun j x hx => ?_, fun z => by rw [hR _ (by omega)]; exact a3 z⟩, a4⟩
    have hj : j < u.2.1.length := (List.getElem?_eq_some_iff.mp hx).1
    rw [hR _ (by omega)]
    exact a2 j x hx
  · subst hi
    simp at hu
    subst hu
    exact ⟨ht, hl⟩
  · rw [List.getElem?_eq_none (by simp; omega)] at hu
    cases hu
theorem MSt_patch {R : Nat → Int32} {ss zs : List ST} {x z : Nat} (h : MSt R (ss ++ (6, [x], 0) :: zs)) : MSt (upd R (5 * ss.length + 2) (nI (5 * z))) (ss ++ (6, [x], z) :: zs) := by
  intro i u hu
  rcases Nat.lt_trichotomy i ss.length with hi | hi | hi
  · rw [List.getElem?_append_left hi] at hu
    obtain ⟨⟨a1, a2, a3⟩, a4⟩ := h i u (by rw [List.getElem?_append_left hi]; exact hu)
    refine ⟨⟨by rw [upd_ne (by omega)]; exact a1, fun j y hy => ?_, fun z => by rw [upd_ne (by omega)]; exact a3 z⟩, a4⟩
    have hj : j < u.2.1.length := (List.getElem?_eq_some_iff.mp hy).1
    rw [upd_ne (by omega)]
    exact a2 j y hy
  · subst hi
    rw [List.getElem?_append_right (Nat.le_refl _), Nat.sub_self, List.getElem?_cons_zero] at hu
    cases hu
    obtain ⟨⟨a1, a2, a3⟩, a4⟩ := h ss.length (6, [x], 0) (by rw [List.getElem?_append_right (Nat.le_refl _), Nat.sub_self, List.getElem?_cons_zero])
    refine ⟨⟨by rw [upd_ne (by omega)]; exact a1, fun j y hy => ?_, fun _ => upd_eq _ _ _⟩, a4⟩
    have hj : j < 1 := (List.getElem?_eq_some_iff.mp hy).1
    rw [upd_ne (by omega)]
    exact a2 j y hy
  · have e : ∀ w : ST, (ss ++ w :: zs)[i]? = zs[i - ss.length - 1]? := fun w => by
      rw [List.getElem?_append_right (by omega), show i - ss.length = i - ss.length - 1 + 1 by omega, List.getElem?_cons_succ]
      rfl
    rw [e] at hu
    obtain ⟨⟨a1, a2, a3⟩, a4⟩ := h i u (by rw [e]; exact hu)
    refine ⟨⟨by rw [upd_ne (by omega)]; exact a1, fun j y hy => ?_, fun z => by rw [upd_ne (by omega)]; exact a3 z⟩, a4⟩
    have hj : j < u.2.1.length := (List.getElem?_eq_some_iff.mp hy).1
    rw [upd_ne (by omega)]
    exact a2 j y hy
def WSt (e : Nat) (g0 : MG) (A0 : MA) (g : MG) (A : MA) (x : rsW) : Prop := (∀ j, j ≠ 4 → j ≠ 5 → j ≠ 6 → j ≠ 30 → g j = g0 j) ∧ g0 3 = nI e ∧ (∀ j, j ≠ 203 → A j = A0 j) ∧ match x with
  | .inl y => g 5 = nI y.2 ∧ g 6 = nI y.1 ∧ y.2 ≤ 600
  | .inr a => g 5 = -1 ∧ g 4 = nI a.1 ∧ a.1 ≤ e ∧ g 30 = nI (5 * a.2.length) ∧ MSt (A 203) a.2 ∧ 5 * a.2.length ≤ a.1 + 1
def rpW : rsW → (Nat × Nat) ⊕ Nat
  | .inl y => .inl y
  | .inr a => .inr a.1
def apW (x : rsW) (U : Nat → Nat → rsW) : rsW := sbind x fun a => sbind (U a.2.length a.1) fun y => .inr (y.1, a.2 ++ y.2)
def apC (b : Nat → Int32) (e : Nat) (x : rsW) (c : Int32) : rsW := sbind x fun a => sbind (signS b e a.1 c) fun q => .inr (q, a.2)
theorem WSt.e {e : Nat} {g0 : MG} {A0 : MA} {g : MG} {A : MA} {x : rsW} (h : WSt e g0 A0 g A x) : g 3 = nI e := (h.1 3 (by decide) (by decide) (by decide) (by decide)).trans h.2.1
theorem WSt.pst {e : Nat} {g0 : MG} {A0 : MA} {g : MG} {A : MA} {x : rsW} (h : WSt e g0 A0 g A x) : PST e g g (rpW x) := by
  refine ⟨fun _ _ _ _ => rfl, h.e, ?_⟩
  have h4 := h.2.2.2
  rcases x with y | a
  · exact h4
  · exact ⟨h4.1, h4.2.1, h4.2.2.1⟩
theorem WSt.of {e : Nat} {g0 : MG} {A0 : MA} {g g' : MG} {A : MA} {x x' : rsW} {y : (Nat × Nat) ⊕ Nat} (h : WSt e g0 A0 g A x) (hP : PST e g g' y) (h1 : ∀ w, y = .inl w → x' = .inl w) (h2 : ∀ q, y = .inr q → ∃ a, x = .inr a ∧ a.1 ≤ q ∧ x' = .inr (q, a.2)) : WSt e g0 A0 g' A x' := by
  refine ⟨fun j a1 a2 a3 a4 => (hP.1 j a1 a2 a3).trans (h.1 j a1 a2 a3 a4), h.2.1, h.2.2.1, ?_⟩
  have h3 := hP.2.2
  rcases y with w | q
  · rw [h1 w rfl]
    exact h3
  · obtain ⟨a, rfl, hq, rfl⟩ := h2 q rfl
    have h4 := h.2.2.2
    exact ⟨h3.1, h3.2.1, h3.2.2, (hP.1 30 (by decide) (by decide) (by decide)).trans h4.2.2.2.1, h4.2.2.2.2.1, by have := h4.2.2.2.2.2; dsimp only at this ⊢; omega⟩
theorem WSt.up {e : Nat} {g0 : MG} {A0 : MA} {g : MG} {A : MA} {x : rsW} (h : WSt e g0 A0 g A x) (v : Int32) : WSt e (upd g0 7 v) A0 (upd g 7 v) A x := by
  refine ⟨fun j a1 a2 a3 a4 => ?_, h.2.1, h.2.2.1, h.2.2.2⟩
  by_cases hj : j = 7
  · subst hj
    rw [upd_eq, upd_eq]
  · rw [upd_ne hj, upd_ne hj]
    exact h.1 j a1 a2 a3 a4
theorem WSt.sign {b : Nat → Int32} {e : Nat} {g0 : MG} {A0 : MA} {g g' : MG} {A : MA} {x : rsW} {c : Int32} (hc : ¬ c = -1) (h : WSt e g0 A0 g A x) (hP : PST e g g' (sgS b e (rpW x) c)) : WSt e g0 A0 g' A (apC b e x c) := by
  refine h.of hP (fun w hw => ?_) (fun q hq => ?_)
  · rcases x with y | a
    · cases hw; rfl
    · simp only [apC, sbind, rpW, sgS] at hw ⊢
      rw [hw]
  · rcases x with y | a
    · cases hq
    · have := signS_le (b := b) hc h.2.2.2.2.2.1 hq
      simp only [apC, sbind, rpW, sgS] at hq ⊢
      exact ⟨a, rfl, by omega, by rw [hq]⟩
theorem WSt.num {b : Nat → Int32} {e : Nat} {g0 : MG} {A0 : MA} {g g' : MG} {A : MA} {x : rsW} {lw hi : Int32} (hb : BY b) (h : WSt e g0 A0 g A x) (hP : PST e g g' (rpN (nmS b e (rpW x) lw hi))) : WSt e g0 A0 g' A (sbind x fun a => sbind (numS b e a.1 lw hi) fun v => .inr (v.2, a.2)) := by
  refine h.of hP (fun w hw => ?_) (fun q hq => ?_)
  · rcases x with y | a
    · cases hw; rfl
    · simp only [sbind, rpW, nmS] at hw ⊢
      rcases hn : numS b e a.1 lw hi with y | v
      · rw [hn] at hw
        cases hw
        rfl
      · rw [hn] at hw
        cases hw
  · rcases x with y | a
    · cases hq
    · simp only [sbind, rpW, nmS] at hq ⊢
      rcases hn : numS b e a.1 lw hi with y | v
      · rw [hn] at hq
        cases hq
      · rw [hn] at hq
        cases hq
        have := num_prog hb h.2.2.2.2.2.1 hn
        exact ⟨a, rfl, by omega, rfl⟩
def nv : (Nat × Nat) ⊕ (Nat × Nat) → Nat
  | .inl _ => 0
  | .inr x => x.1
theorem rv_nv (x : (Nat × Nat) ⊕ (Nat × Nat)) : rvN x = nI (nv x) := by cases x <;> rfl
theorem ofN_inj (i : Nat) (h1 : 11 ≤ i) (h2 : i ≤ 17) (j : Nat) (h3 : 11 ≤ j) (h4 : j ≤ 17) (h5 : nI (ofN i) = nI (ofN j)) : i = j := by
  have : ∀ i, i < 18 → ∀ j, j < 18 → 11 ≤ i → 11 ≤ j → nI (ofN i) = nI (ofN j) → i = j := by decide +kernel
  exact this i (by omega) j (by omega) h1 h3 h5
theorem tl_b (i : Nat) (h1 : 11 ≤ i) (h2 : i ≤ 17) : mm_tl.getD i 0 ≤ 6 ∧ 1 ≤ mm_tl.getD i 0 := by
  have : ∀ i, i < 18 → 11 ≤ i → mm_tl.getD i 0 ≤ 6 ∧ 1 ≤ mm_tl.getD i 0 := by decide +kernel
  exact this i (by omega) h1
theorem wk_of {b : Nat → Int32} {e q j : Nat} (hq : q ≤ e) (h1 : 11 ≤ j) (h2 : j ≤ 17) : wvI b q (lt b e q) = nI (ofN j) ↔ WD b q (lt b e q) j := wv_of (ltf_le _ _ hq).1 (fun i a1 a2 => lt_L a1 a2) (by omega) (by omega) (tl_b j h1 h2).1 (tl_b j h1 h2).2
theorem WD_1 {b : Nat → Int32} {e q i j : Nat} (hq : q ≤ e) (hi1 : 11 ≤ i) (hi2 : i ≤ 17) (h : WD b q (lt b e q) i) (hj1 : 11 ≤ j) (hj2 : j ≤ 17) (hij : j ≠ i) : ¬ WD b q (lt b e q) j := fun z => hij (ofN_inj j hj1 hj2 i hi1 hi2 (((wk_of hq hj1 hj2).mpr z).symm.trans ((wk_of hq hi1 hi2).mpr h)))
/-- a STEP and its sign -/
def rdS (b : Nat → Int32) (e so sl : Nat) (T : Nat → Nat → rsW) (o n p : Nat) : rsW := sbind (stepS b e so sl T o n (sk b e p) (lt b e (sk b e p))) fun x => sbind (signS b e x.1 59) fun y => .inr (y, x.2)
theorem lt_nL {b : Nat → Int32} {e p : Nat} (hb : BY b) (hp : p ≤ e) (h : ¬ isL (pk b e p)) : lt b e (sk b e p) = sk b e p := by
  have hs := sk_le (b := b) hp
  refine lt_eq (m := 0) hs.2 (fun i hi => absurd hi (Nat.not_lt_zero i)) (fun hlt z => h ?_)
  rw [Nat.add_zero] at hlt z
  unfold pk
  rw [if_pos hlt]
  exact (by_L (hb _)).mpr z
theorem step_nL {b : Nat → Int32} {e so sl o n p : Nat} {T : Nat → Nat → rsW} (hb : BY b) (hp : p ≤ e) (h : ¬ isL (pk b e p)) : stepS b e so sl T o n (sk b e p) (lt b e (sk b e p)) = .inl (1, sk b e p) := by
  have no : ∀ j, 11 ≤ j → j ≤ 17 → ¬ WD b (sk b e p) (lt b e (sk b e p)) j := fun j h1 h2 z => by
    have := z.1
    rw [lt_nL hb hp h] at this
    have := (tl_b j h1 h2).2
    omega
  unfold stepS
  rw [if_neg (no 12 (by decide) (by decide)), if_neg (no 13 (by decide) (by decide)), if_neg (no 14 (by decide) (by decide)), if_neg (no 15 (by decide) (by decide)), if_neg (no 16 (by decide) (by decide)), if_neg (no 11 (by decide) (by decide)), if_neg (no 17 (by decide) (by decide))]
theorem lop_rd {b : Nat → Int32} {e so sl o q n p : Nat} {T : Nat → Nat → rsW} (hb : BY b) (hp : p ≤ e) : lopS b e so sl T o (q + 1) n p = if atEnd b e o p then .inr (sk b e p, []) else sbind (rdS b e so sl T o n p) fun x => sbind (lopS b e so sl T o q (n + x.2.length) x.1) fun z => .inr (z.1, x.2 ++ z.2) := by
  rw [lopS_s]
  by_cases h1 : atEnd b e o p
  · rw [if_pos h1, if_pos h1]
  · rw [if_neg h1, if_neg h1]
    by_cases h2 : isL (pk b e p)
    · rw [if_neg (fun z => z h2)]
      unfold rdS
      cases stepS b e so sl T o n (sk b e p) (lt b e (sk b e p)) with
      | inl y => rfl
      | inr x =>
        simp only [sbind]
        cases signS b e x.1 59 with
        | inl y => rfl
        | inr y => rfl
    · rw [if_pos h2]
      unfold rdS
      rw [step_nL hb hp h2]
      rfl
theorem rd_sk {b : Nat → Int32} {e so sl o n p : Nat} {T : Nat → Nat → rsW} (hp : p ≤ e) : rdS b e so sl T o n (sk b e p) = rdS b e so sl T o n p := by
  unfold rdS
  rw [sk_sk hp]
theorem rd_prog {b : Nat → Int32} {e so sl o n p : Nat} {T : Nat → Nat → rsW} {a : Nat × List ST} (hb : BY b) (hT : GdW e so sl T) (hso : so ≤ 8) (hsl : sl ≤ 8) (hp : p ≤ e) (h : rdS b e so sl T o n p = .inr a) : a.1 ≤ e ∧ 5 * a.2.length + p ≤ a.1 ∧ 0 < a.2.length := by
  obtain ⟨⟨r1, s1⟩, h1, h⟩ := sbind_inr h
  obtain ⟨y, h2, h⟩ := sbind_inr h
  cases h
  have hs := sk_le (b := b) hp
  have a1 := stepS_le hb hT hso hsl (ltf_le _ _ hs.2).2 h1
  have a2 := signS_le (by decide) a1.2.1 h2
  dsimp only at a1 a2 ⊢
  exact ⟨by omega, by omega, a1.2.2.2.2⟩
section MRD
variable {G : mm_G} {l : Launch} {d nx : Nat} {h : Nat → mm_E} {g : MG} {A : MA} {b : Nat → Int32} {Po : mm_P} {e : Nat} {g0 : MG} {A0 : MA}
theorem WSt.nf {y : Nat × Nat} (hL : WSt e g0 A0 g A (.inl y)) : ¬ g 5 = -1 := by rw [hL.2.2.2.1]; exact nI_m1 (hi := 1000) (by have := hL.2.2.2.2.2; show ((y.2 : Nat) : Int) ≤ 1000; omega)
theorem WSt.tp {x : rsW} (hL : WSt e g0 A0 g A x) (hT : TP (A0 190) b) : TP (A 190) b := by rw [hL.2.2.1 190 (by decide)]; exact hT
theorem WSt.at {p q : Nat} {ss : List ST} (hL : WSt e g0 A0 g A (.inr (p, ss))) (hpq : p ≤ q) (hq : q ≤ e) : WSt e g0 A0 (upd g 4 (nI q)) A (.inr (q, ss)) := hL.of (hL.pst.at hq) (fun w hw => by cases hw) (fun q' hq2 => by cases hq2; exact ⟨_, rfl, hpq, rfl⟩)
theorem n_tells {x : rsW} {t : ST} {c a1 a2 a3 a4 : Int32} (hd : 1 ≤ d) (hx : 215 ≤ nx) (he : e ≤ 150) (hL : WSt e g0 A0 g A x) (hl : t.2.1.length ≤ 4) (hx1 : ∀ a, x = .inr a → 5 * a.2.length + 5 ≤ a.1 + 1) (hc : c = nI t.1) (hv : ∀ (j : Nat) (y : Nat), t.2.1[j]? = some y → [a1, a2, a3, a4][j]? = some (nI y)) (h6 : t.1 = 6 → a2 = nI (5 * t.2.2)) : mm_Con G l yX11_tellsStep cX11_tellsStep 6 none d 0 0 [.ref 188, .int c, .int a1, .int a2, .int a3, .int a4] nx (mos h g A) (fun q n m => q = .inl none ∧ n = nx ∧ ∃ g' A', m = mos h g' A' ∧ WSt e g0 A0 g' A' (sbind x fun a => .inr (a.1, a.2 ++ [t]))) := by
  refine mm_start (lo := [some (.ref 188), some (.int c), some (.int a1), some (.int a2), some (.int a3), some (.int a4)]) pn_X11 rfl rfl (Nat.le_of_ble_eq_true rfl) ?_
  rcases x with y | a
  · skip
    refine mt_aload_n (pc := 0) dX11_tellsStep_0 rfl ?_
    refine mt_cV (pc := 1) (n_fineN (d := 0) hx hL.nf) cal_X11_fine vir_X11_fine ml_X11_134 dX11_tellsStep_1 (by omega) (mos_o _ _ _) (by first | assumption | (show _ ≤ d; omega)) ⟨(Nat.le_of_ble_eq_true rfl), (Nat.le_of_ble_eq_true rfl)⟩ rfl rfl (Nat.le_of_ble_eq_true rfl) ?_
    refine mt_if_ne (pc := 4) (tgt := 8) dX11_tellsStep_4 (by decide) (fun c4 => ?_) (fun c4 => ?_)
    · exact absurd rfl c4
    · skip
      exact mt_vret rfl dX11_tellsStep_7 (Nat.le_of_ble_eq_true rfl) (Nat.le_of_ble_eq_true rfl) ⟨rfl, rfl, g, A, rfl, hL⟩
  · obtain ⟨h5, h4, h6', h30, hM, hlen⟩ := hL.2.2.2
    have hn := hx1 a rfl
    obtain ⟨R, hR⟩ : ∃ R, A 203 = R := ⟨_, rfl⟩
    rw [show mos h g A = mos h g (updR A 203 R) by rw [updR_self hR]]
    refine mt_aload_n (pc := 0) dX11_tellsStep_0 rfl ?_
    refine mt_cV (pc := 1) (n_fineY (d := 0) hx h5) cal_X11_fine vir_X11_fine ml_X11_134 dX11_tellsStep_1 (by omega) (mos_o _ _ _) (by first | assumption | (show _ ≤ d; omega)) ⟨(Nat.le_of_ble_eq_true rfl), (Nat.le_of_ble_eq_true rfl)⟩ rfl rfl (Nat.le_of_ble_eq_true rfl) ?_
    refine mt_if_ne (pc := 4) (tgt := 8) dX11_tellsStep_4 (by decide) (fun c4 => ?_) (fun c4 => ?_)
    · skip
      refine mt_aload_n (pc := 8) dX11_tellsStep_8 rfl ?_
      refine mt_mget (pc := 9) gf_X11_59 dX11_tellsStep_9 hx rfl ?_
      refine mt_aload_n (pc := 12) dX11_tellsStep_12 rfl ?_
      refine mt_mgetI (pc := 13) (x := nI (5 * a.2.length)) gf_X11_271 dX11_tellsStep_13 hx rfl h30 ?_
      refine mt_iload_n (pc := 16) dX11_tellsStep_16 rfl ?_
      refine mt_mast2 (pc := 17) (i := 203) (j := 5 * a.2.length) dX11_tellsStep_17 hx rfl rfl (by show _ < 250; omega) ?_
      refine mt_aload_n (pc := 18) dX11_tellsStep_18 rfl ?_
      refine mt_mget (pc := 19) gf_X11_59 dX11_tellsStep_19 hx rfl ?_
      refine mt_aload_n (pc := 22) dX11_tellsStep_22 rfl ?_
      refine mt_mgetI (pc := 23) (x := nI (5 * a.2.length)) gf_X11_271 dX11_tellsStep_23 hx rfl h30 ?_
      refine mt_iconst (pc := 26) (v := 1) dX11_tellsStep_26 (by decide) ?_
      refine mt_iaddN (pc := 27) (a := 5 * a.2.length) (b := 1) dX11_tellsStep_27 rfl rfl ?_
      refine mt_iload_n (pc := 28) dX11_tellsStep_28 rfl ?_
      refine mt_mast2 (pc := 29) (i := 203) (j := (5 * a.2.length) + 1) dX11_tellsStep_29 hx rfl rfl (by show _ < 250; omega) ?_
      refine mt_aload_n (pc := 30) dX11_tellsStep_30 rfl ?_
      refine mt_mget (pc := 31) gf_X11_59 dX11_tellsStep_31 hx rfl ?_
      refine mt_aload_n (pc := 34) dX11_tellsStep_34 rfl ?_
      refine mt_mgetI (pc := 35) (x := nI (5 * a.2.length)) gf_X11_271 dX11_tellsStep_35 hx rfl h30 ?_
      refine mt_iconst (pc := 38) (v := 2) dX11_tellsStep_38 (by decide) ?_
      refine mt_iaddN (pc := 39) (a := 5 * a.2.length) (b := 2) dX11_tellsStep_39 rfl rfl ?_
      refine mt_iload_n (pc := 40) dX11_tellsStep_40 rfl ?_
      refine mt_mast2 (pc := 41) (i := 203) (j := (5 * a.2.length) + 2) dX11_tellsStep_41 hx rfl rfl (by show _ < 250; omega) ?_
      refine mt_aload_n (pc := 42) dX11_tellsStep_42 rfl ?_
      refine mt_mget (pc := 43) gf_X11_59 dX11_tellsStep_43 hx rfl ?_
      refine mt_aload_n (pc := 46) dX11_tellsStep_46 rfl ?_
      refine mt_mgetI (pc := 47) (x := nI (5 * a.2.length)) gf_X11_271 dX11_tellsStep_47 hx rfl h30 ?_
      refine mt_iconst (pc := 50) (v := 3) dX11_tellsStep_50 (by decide) ?_
      refine mt_iaddN (pc := 51) (a := 5 * a.2.length) (b := 3) dX11_tellsStep_51 rfl rfl ?_
      refine mt_iload (pc := 52) dX11_tellsStep_52 rfl ?_
      refine mt_mast2 (pc := 54) (i := 203) (j := (5 * a.2.length) + 3) dX11_tellsStep_54 hx rfl rfl (by show _ < 250; omega) ?_
      refine mt_aload_n (pc := 55) dX11_tellsStep_55 rfl ?_
      refine mt_mget (pc := 56) gf_X11_59 dX11_tellsStep_56 hx rfl ?_
      refine mt_aload_n (pc := 59) dX11_tellsStep_59 rfl ?_
      refine mt_mgetI (pc := 60) (x := nI (5 * a.2.length)) gf_X11_271 dX11_tellsStep_60 hx rfl h30 ?_
      refine mt_iconst (pc := 63) (v := 4) dX11_tellsStep_63 (by decide) ?_
      refine mt_iaddN (pc := 64) (a := 5 * a.2.length) (b := 4) dX11_tellsStep_64 rfl rfl ?_
      refine mt_iload (pc := 65) dX11_tellsStep_65 rfl ?_
      refine mt_mast2 (pc := 67) (i := 203) (j := (5 * a.2.length) + 4) dX11_tellsStep_67 hx rfl rfl (by show _ < 250; omega) ?_
      refine mt_aload_n (pc := 68) dX11_tellsStep_68 rfl ?_
      refine mt_dup (pc := 69) dX11_tellsStep_69 rfl ?_
      refine mt_mgetI (pc := 70) (x := nI (5 * a.2.length)) gf_X11_271 dX11_tellsStep_70 hx rfl h30 ?_
      refine mt_iconst (pc := 73) (v := 5) dX11_tellsStep_73 (by decide) ?_
      refine mt_iaddN (pc := 74) (a := 5 * a.2.length) (b := 5) dX11_tellsStep_74 rfl rfl ?_
      refine mt_mput (pc := 75) pf_X11_271 dX11_tellsStep_75 hx rfl ?_
      exact mt_vret rfl dX11_tellsStep_78 (Nat.le_of_ble_eq_true rfl) (Nat.le_of_ble_eq_true rfl) ⟨rfl, rfl, _, _, rfl, fun j b1 b2 b3 b4 => (upd_ne b4).trans (hL.1 j b1 b2 b3 b4), hL.2.1, fun j b1 => (updR_ne b1).trans (hL.2.2.1 j b1), h5, h4, h6', by rw [upd_eq, List.length_append]; congr 1, by
        rw [updR_eq]
        refine MSt_push (R := R) (hR ▸ hM) (fun j hj => by rw [upd_ne (by omega), upd_ne (by omega), upd_ne (by omega), upd_ne (by omega), upd_ne (by omega)]) ⟨by rw [upd_ne (by omega), upd_ne (by omega), upd_ne (by omega), upd_ne (by omega), upd_eq]; exact hc, fun j y hy => ?_, fun z => by rw [upd_ne (by omega), upd_ne (by omega), upd_eq]; exact h6 z⟩ hl
        have hj : j < t.2.1.length := (List.getElem?_eq_some_iff.mp hy).1
        have hvj := hv j y hy
        rcases (show j = 0 ∨ j = 1 ∨ j = 2 ∨ j = 3 by omega) with rfl | rfl | rfl | rfl
        · cases hvj
          rw [upd_ne (by omega), upd_ne (by omega), upd_ne (by omega), show 5 * a.2.length + 1 + 0 = 5 * a.2.length + 1 by omega, upd_eq]
        · cases hvj
          rw [upd_ne (by omega), upd_ne (by omega), show 5 * a.2.length + 1 + 1 = 5 * a.2.length + 2 by omega, upd_eq]
        · cases hvj
          rw [upd_ne (by omega), show 5 * a.2.length + 1 + 2 = 5 * a.2.length + 3 by omega, upd_eq]
        · cases hvj
          rw [show 5 * a.2.length + 1 + 3 = 5 * a.2.length + 4 by omega, upd_eq], by dsimp only; rw [List.length_append]; dsimp only [List.length]; omega⟩
    · exact absurd c4 (by decide)
theorem n_opensW {x : rsW} {o n : Nat} (hd : 1 ≤ d) (hx : 215 ≤ nx) (he : e ≤ 150) (ho : o ≤ 6) (h7 : g0 7 = nI o) (hL : WSt e g0 A0 g A x) (hx1 : ∀ a, x = .inr a → a.1 + n ≤ e) : mm_Con G l yX11_opensOne cX11_opensOne 2 none d 0 0 [.ref 188, .int (nI n)] nx (mos h g A) (fun q n' m => q = .inl none ∧ n' = nx ∧ ∃ g', m = mos h g' A ∧ WSt e (upd g0 7 (nI (o + 1))) A0 g' A (sbind x fun a => if 6 ≤ o then .inl (3, a.1) else .inr (a.1 + n, a.2))) := by
  have t7 : g 7 = nI o := (hL.1 7 (by decide) (by decide) (by decide) (by decide)).trans h7
  refine mm_start (lo := [some (.ref 188), some (.int (nI n))]) pn_X11 rfl rfl (Nat.le_of_ble_eq_true rfl) ?_
  rcases x with y | a
  · skip
    refine mt_aload_n (pc := 0) dX11_opensOne_0 rfl ?_
    refine mt_cV (pc := 1) (n_fineN (d := 0) hx hL.nf) cal_X11_fine vir_X11_fine ml_X11_134 dX11_opensOne_1 (by omega) (mos_o _ _ _) (by first | assumption | (show _ ≤ d; omega)) ⟨(Nat.le_of_ble_eq_true rfl), (Nat.le_of_ble_eq_true rfl)⟩ rfl rfl (Nat.le_of_ble_eq_true rfl) ?_
    refine mt_if_eq (pc := 4) (tgt := 25) dX11_opensOne_4 (by decide) (fun c4 => ?_) (fun c4 => ?_)
    · skip
      refine mt_aload_n (pc := 25) dX11_opensOne_25 rfl ?_
      refine mt_cV (pc := 26) (n_fineN (d := 0) hx hL.nf) cal_X11_fine vir_X11_fine ml_X11_134 dX11_opensOne_26 (by omega) (mos_o _ _ _) (by first | assumption | (show _ ≤ d; omega)) ⟨(Nat.le_of_ble_eq_true rfl), (Nat.le_of_ble_eq_true rfl)⟩ rfl rfl (Nat.le_of_ble_eq_true rfl) ?_
      refine mt_if_eq (pc := 29) (tgt := 42) dX11_opensOne_29 (by decide) (fun c29 => ?_) (fun c29 => ?_)
      · skip
        refine mt_aload_n (pc := 42) dX11_opensOne_42 rfl ?_
        refine mt_dup (pc := 43) dX11_opensOne_43 rfl ?_
        refine mt_mgetI (pc := 44) (x := nI o) gf_X11_145 dX11_opensOne_44 hx rfl t7 ?_
        refine mt_iconst (pc := 47) (v := 1) dX11_opensOne_47 (by decide) ?_
        refine mt_iaddN (pc := 48) (a := o) (b := 1) dX11_opensOne_48 rfl rfl ?_
        refine mt_mput (pc := 49) pf_X11_145 dX11_opensOne_49 hx rfl ?_
        exact mt_vret rfl dX11_opensOne_52 (Nat.le_of_ble_eq_true rfl) (Nat.le_of_ble_eq_true rfl) ⟨rfl, rfl, _, rfl, hL.up _⟩
      · exact absurd rfl c29
    · exact absurd rfl c4
  · obtain ⟨h5, h4, h6, h25, hM, hl⟩ := hL.2.2.2
    have hn := hx1 a rfl
    by_cases h9 : 6 ≤ o
    · obtain rfl : o = 6 := by omega
      refine mt_aload_n (pc := 0) dX11_opensOne_0 rfl ?_
      refine mt_cV (pc := 1) (n_fineY (d := 0) hx h5) cal_X11_fine vir_X11_fine ml_X11_134 dX11_opensOne_1 (by omega) (mos_o _ _ _) (by first | assumption | (show _ ≤ d; omega)) ⟨(Nat.le_of_ble_eq_true rfl), (Nat.le_of_ble_eq_true rfl)⟩ rfl rfl (Nat.le_of_ble_eq_true rfl) ?_
      refine mt_if_eq (pc := 4) (tgt := 25) dX11_opensOne_4 (by decide) (fun c4 => ?_) (fun c4 => ?_)
      · exact absurd c4 (by decide)
      · skip
        refine mt_aload_n (pc := 7) dX11_opensOne_7 rfl ?_
        refine mt_mgetI (pc := 8) (x := nI 6) gf_X11_145 dX11_opensOne_8 hx rfl t7 ?_
        refine mt_bipush (pc := 11) (v := 6) dX11_opensOne_11 (by decide) ?_
        refine mt_icmp_ne (pc := 13) (tgt := 25) dX11_opensOne_13 (by decide) (fun c13 => ?_) (fun c13 => ?_)
        · exact absurd rfl c13
        · skip
          refine mt_aload_n (pc := 16) dX11_opensOne_16 rfl ?_
          refine mt_iconst (pc := 17) (v := 3) dX11_opensOne_17 (by decide) ?_
          refine mt_aload_n (pc := 18) dX11_opensOne_18 rfl ?_
          refine mt_mgetI (pc := 19) (x := nI a.1) gf_X11_111 dX11_opensOne_19 hx rfl h4 ?_
          refine mt_cV (pc := 22) (n_wrong (d := 0) hx h5) cal_X11_wrong vir_X11_wrong ml_X11_141 dX11_opensOne_22 (by omega) (mos_o _ _ _) (by first | assumption | (show _ ≤ d; omega)) ⟨(Nat.le_of_ble_eq_true rfl), (Nat.le_of_ble_eq_true rfl)⟩ rfl rfl (Nat.le_of_ble_eq_true rfl) ?_
          refine mt_aload_n (pc := 25) dX11_opensOne_25 rfl ?_
          refine mt_cV (pc := 26) (n_fineN (d := 0) hx (show ¬ nI a.1 = -1 from nI_m1 (hi := 1000) (by show ((a.1 : Nat) : Int) ≤ 1000; omega))) cal_X11_fine vir_X11_fine ml_X11_134 dX11_opensOne_26 (by omega) (mos_o _ _ _) (by first | assumption | (show _ ≤ d; omega)) ⟨(Nat.le_of_ble_eq_true rfl), (Nat.le_of_ble_eq_true rfl)⟩ rfl rfl (Nat.le_of_ble_eq_true rfl) ?_
          refine mt_if_eq (pc := 29) (tgt := 42) dX11_opensOne_29 (by decide) (fun c29 => ?_) (fun c29 => ?_)
          · skip
            refine mt_aload_n (pc := 42) dX11_opensOne_42 rfl ?_
            refine mt_dup (pc := 43) dX11_opensOne_43 rfl ?_
            refine mt_mgetI (pc := 44) (x := nI 6) gf_X11_145 dX11_opensOne_44 hx rfl t7 ?_
            refine mt_iconst (pc := 47) (v := 1) dX11_opensOne_47 (by decide) ?_
            refine mt_iaddN (pc := 48) (a := 6) (b := 1) dX11_opensOne_48 rfl rfl ?_
            refine mt_mput (pc := 49) pf_X11_145 dX11_opensOne_49 hx rfl ?_
            exact mt_vret rfl dX11_opensOne_52 (Nat.le_of_ble_eq_true rfl) (Nat.le_of_ble_eq_true rfl) ⟨rfl, rfl, _, rfl, WSt.up (g0 := g0) (A0 := A0) (x := .inl (3, a.1)) ⟨fun j a1 a2 a3 a4 => by rw [upd_ne a3, upd_ne a2]; exact hL.1 j a1 a2 a3 a4, hL.2.1, hL.2.2.1, rfl, rfl, by show a.1 ≤ 600; omega⟩ _⟩
          · exact absurd rfl c29
    · have e9 : (sbind (.inr a : rsW) fun a => if 6 ≤ o then .inl (3, a.1) else .inr (a.1 + n, a.2)) = (.inr (a.1 + n, a.2) : rsW) := if_neg h9
      rw [e9]
      refine mt_aload_n (pc := 0) dX11_opensOne_0 rfl ?_
      refine mt_cV (pc := 1) (n_fineY (d := 0) hx h5) cal_X11_fine vir_X11_fine ml_X11_134 dX11_opensOne_1 (by omega) (mos_o _ _ _) (by first | assumption | (show _ ≤ d; omega)) ⟨(Nat.le_of_ble_eq_true rfl), (Nat.le_of_ble_eq_true rfl)⟩ rfl rfl (Nat.le_of_ble_eq_true rfl) ?_
      refine mt_if_eq (pc := 4) (tgt := 25) dX11_opensOne_4 (by decide) (fun c4 => ?_) (fun c4 => ?_)
      · exact absurd c4 (by decide)
      · skip
        refine mt_aload_n (pc := 7) dX11_opensOne_7 rfl ?_
        refine mt_mgetI (pc := 8) (x := nI o) gf_X11_145 dX11_opensOne_8 hx rfl t7 ?_
        refine mt_bipush (pc := 11) (v := 6) dX11_opensOne_11 (by decide) ?_
        refine mt_icmp_ne (pc := 13) (tgt := 25) dX11_opensOne_13 (by decide) (fun c13 => ?_) (fun c13 => ?_)
        · skip
          refine mt_aload_n (pc := 25) dX11_opensOne_25 rfl ?_
          refine mt_cV (pc := 26) (n_fineY (d := 0) hx h5) cal_X11_fine vir_X11_fine ml_X11_134 dX11_opensOne_26 (by omega) (mos_o _ _ _) (by first | assumption | (show _ ≤ d; omega)) ⟨(Nat.le_of_ble_eq_true rfl), (Nat.le_of_ble_eq_true rfl)⟩ rfl rfl (Nat.le_of_ble_eq_true rfl) ?_
          refine mt_if_eq (pc := 29) (tgt := 42) dX11_opensOne_29 (by decide) (fun c29 => ?_) (fun c29 => ?_)
          · exact absurd c29 (by decide)
          · skip
            refine mt_aload_n (pc := 32) dX11_opensOne_32 rfl ?_
            refine mt_dup (pc := 33) dX11_opensOne_33 rfl ?_
            refine mt_mgetI (pc := 34) (x := nI a.1) gf_X11_111 dX11_opensOne_34 hx rfl h4 ?_
            refine mt_iload_n (pc := 37) dX11_opensOne_37 rfl ?_
            refine mt_iaddN (pc := 38) (a := a.1) (b := n) dX11_opensOne_38 rfl rfl ?_
            refine mt_mput (pc := 39) pf_X11_111 dX11_opensOne_39 hx rfl ?_
            refine mt_aload_n (pc := 42) dX11_opensOne_42 rfl ?_
            refine mt_dup (pc := 43) dX11_opensOne_43 rfl ?_
            refine mt_mgetI (pc := 44) (x := nI o) gf_X11_145 dX11_opensOne_44 hx rfl t7 ?_
            refine mt_iconst (pc := 47) (v := 1) dX11_opensOne_47 (by decide) ?_
            refine mt_iaddN (pc := 48) (a := o) (b := 1) dX11_opensOne_48 rfl rfl ?_
            refine mt_mput (pc := 49) pf_X11_145 dX11_opensOne_49 hx rfl ?_
            exact mt_vret rfl dX11_opensOne_52 (Nat.le_of_ble_eq_true rfl) (Nat.le_of_ble_eq_true rfl) ⟨rfl, rfl, _, rfl, WSt.up (g := upd g 4 (nI (a.1 + n))) (g0 := g0) (A0 := A0) (x := .inr (a.1 + n, a.2)) ⟨fun j a1 a2 a3 a4 => by rw [upd_ne a1]; exact hL.1 j a1 a2 a3 a4, hL.2.1, hL.2.2.1, h5, rfl, hn, h25, hM, by show 5 * a.2.length ≤ a.1 + n + 1; omega⟩ _⟩
        · exact absurd c13 (nI_ne (b := 6) (by omega) (by decide))
end MRD
