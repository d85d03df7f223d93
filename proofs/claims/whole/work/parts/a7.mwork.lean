/-! The reference: work. -/
def GdH (J : Nat) (U : Nat → Nat → rsW) : Prop := ∀ n p r ss, U n p = .inr (r, ss) → ∃ H : Nat → Nat, (∀ q, q < ss.length → H q < J) ∧ ∀ (q : Nat) (t : ST), ss[q]? = some t → t.1 = 6 → ∀ q', q < q' → n + q' < t.2.2 → H q' < H q
theorem h_one {J n : Nat} {t : ST} (h6 : t.1 ≠ 6) : ∃ H : Nat → Nat, (∀ q, q < [t].length → H q < J + 1) ∧ ∀ (q : Nat) (u : ST), [t][q]? = some u → u.1 = 6 → ∀ q', q < q' → n + q' < u.2.2 → H q' < H q := by
  refine ⟨fun _ => 0, fun q _ => Nat.succ_pos J, fun q u hu hu6 => ?_⟩
  rcases q with _ | q
  · cases hu
    exact absurd hu6 h6
  · cases hu
theorem stepS_h {b : Nat → Int32} {e so sl o n q r r' J : Nat} {ts : List ST} {T : Nat → Nat → rsW} (hT : GdH J T) (h : stepS b e so sl T o n q r = .inr (r', ts)) : ∃ H : Nat → Nat, (∀ i, i < ts.length → H i < J + 1) ∧ ∀ (i : Nat) (t : ST), ts[i]? = some t → t.1 = 6 → ∀ q', i < q' → n + q' < t.2.2 → H q' < H i := by
  unfold stepS at h
  split at h
  · obtain ⟨x, h1, h⟩ := sbind_inr h
    obtain ⟨y, h2, h⟩ := sbind_inr h
    obtain ⟨z, h3, h⟩ := sbind_inr h
    obtain ⟨w, h4, h⟩ := sbind_inr h
    cases h
    exact h_one (by simp)
  split at h
  · obtain ⟨x, h1, h⟩ := sbind_inr h
    cases h
    exact h_one (by simp)
  split at h
  · obtain ⟨x, h1, h⟩ := sbind_inr h
    obtain ⟨y, h2, h⟩ := sbind_inr h
    cases h
    exact h_one (by simp)
  split at h
  · obtain ⟨x, h1, h⟩ := sbind_inr h
    cases h
    exact h_one (by simp)
  split at h
  · obtain ⟨x, h1, h⟩ := sbind_inr h
    cases h
    exact h_one (by simp)
  split at h
  · cases h
    exact h_one (by simp)
  split at h
  · split at h
    · cases h
    · obtain ⟨x, h1, h⟩ := sbind_inr h
      obtain ⟨y, h2, h⟩ := sbind_inr h
      obtain ⟨⟨z, zs⟩, h3, h⟩ := sbind_inr h
      obtain ⟨u, h4, h⟩ := sbind_inr h
      cases h
      obtain ⟨H, g1, g2⟩ := hT _ _ _ _ h3
      refine ⟨fun i => if i = 0 then J else H (i - 1), fun i hi => ?_, fun i t ht h6 q' hq hq2 => ?_⟩
      · rcases i with _ | i
        · exact Nat.lt_succ_self J
        · dsimp only
          rw [if_neg (by omega), Nat.add_sub_cancel]
          simp only [List.length_cons] at hi
          have := g1 i (by omega)
          omega
      · rcases i with _ | i
        · cases ht
          dsimp only at hq2 ⊢
          rw [if_neg (by omega), if_pos rfl]
          exact g1 (q' - 1) (by omega)
        · rw [List.getElem?_cons_succ] at ht
          dsimp only
          rw [if_neg (by omega), if_neg (by omega), Nat.add_sub_cancel]
          exact g2 i t ht h6 (q' - 1) (by omega) (by omega)
  · cases h
theorem lopS_h {b : Nat → Int32} {e so sl o J : Nat} {T : Nat → Nat → rsW} (hT : GdH J T) (hB : GdB T) : ∀ q, GdH (J + 1) (lopS b e so sl T o q)
  | 0 => fun n p r ss h => by
    cases h
    exact ⟨fun _ => 0, fun i hi => absurd hi (Nat.not_lt_zero i), fun i t ht => by cases ht⟩
  | q + 1 => fun n p r ss h => by
    simp only [lopS] at h
    split at h
    · cases h
      exact ⟨fun _ => 0, fun i hi => absurd hi (Nat.not_lt_zero i), fun i t ht => by cases ht⟩
    · split at h
      · cases h
      · obtain ⟨⟨r1, s1⟩, h1, h⟩ := sbind_inr h
        obtain ⟨y, h2, h⟩ := sbind_inr h
        obtain ⟨⟨r3, s3⟩, h3, h⟩ := sbind_inr h
        cases h
        obtain ⟨H1, g1, g2⟩ := stepS_h hT h1
        obtain ⟨H2, k1, k2⟩ := lopS_h hT hB q _ _ _ _ h3
        have hb1 := stepS_b hB h1
        dsimp only at g1 g2 k1 k2 hb1 ⊢
        refine ⟨fun i => if i < s1.length then H1 i else H2 (i - s1.length), fun i hi => ?_, fun i t ht h6 q' hq hq2 => ?_⟩
        · by_cases z : i < s1.length
          · dsimp only
            rw [if_pos z]
            exact g1 i z
          · dsimp only
            rw [if_neg z]
            rw [List.length_append] at hi
            exact k1 _ (by omega)
        · by_cases z : i < s1.length
          · rw [List.getElem?_append_left z] at ht
            have := hb1 i t ht h6
            dsimp only
            rw [if_pos z, if_pos (by omega)]
            exact g2 i t ht h6 q' hq hq2
          · rw [List.getElem?_append_right (by omega)] at ht
            dsimp only
            rw [if_neg z, if_neg (by omega)]
            exact k2 (i - s1.length) t ht h6 (q' - s1.length) (by omega) (by omega)
theorem wokS_h {b : Nat → Int32} {e so sl : Nat} : ∀ j, GdH (j + 1) (wokS b e so sl j)
  | 0 => lopS_h (J := 0) (fun n p r ss h => by cases h) (fun n p r ss h => by cases h) 150
  | j + 1 => lopS_h (wokS_h j) (wokS_b j) 150
theorem MSt_congr {R R' : Nat → Int32} {ss : List ST} (h : MSt R ss) (hR : ∀ j, j < 5 * ss.length → R' j = R j) : MSt R' ss := by
  intro i t ht
  have hi : i < ss.length := (List.getElem?_eq_some_iff.mp ht).1
  obtain ⟨⟨a1, a2, a3⟩, a4⟩ := h i t ht
  refine ⟨⟨by rw [hR _ (by omega)]; exact a1, fun j x hx => ?_, fun z => by rw [hR _ (by omega)]; exact a3 z⟩, a4⟩
  have hj : j < t.2.1.length := (List.getElem?_eq_some_iff.mp hx).1
  rw [hR _ (by omega)]
  exact a2 j x hx
/-- what work promises of the reference -/
def P_mwok (z : rsW) (k : CS) (cs : List Nat) (f : Nat → Int32) (w : Nat) (nx : Nat) (h : Nat → mm_E) (g : MG) (A : MA) : mm_P := fun o n m => n = nx ∧ ∃ g' A', m = mos h g' A' ∧ g' 0 = 0 ∧ g' 2 = 0 ∧ match z with
  | .inl y => o = .inl (some (.int (nI y.1 - 10))) ∧ g' 8 = nI y.2 ∧ KPg g g' ∧ KPa A A'
  | .inr a => o = .inl (some (.int (nI (carS k cs a.2 7 0 a.2.length (f, 0, 0, 0)).2.2.1))) ∧ g' 8 = -1 ∧ KPg (upd (upd g 31 (nI (w + 1))) 32 (nI (carS k cs a.2 7 0 a.2.length (f, 0, 0, 0)).2.2.2)) g' ∧ RR (A' 205) (carS k cs a.2 7 0 a.2.length (f, 0, 0, 0)).1 ∧ RJ 400 k (carS k cs a.2 7 0 a.2.length (f, 0, 0, 0)).1 ∧ KPa (updR (updR A 205 (A' 205)) 207 (kpF (A 207) (A 205) (91 * w) 91)) A'
section MWK
variable {G : mm_G} {l : Launch} {d nx : Nat} {h : Nat → mm_E} {g : MG} {A : MA} {b : Nat → Int32} {Po : mm_P} {e so sl : Nat} {g0 : MG} {A0 : MA} {k : CS} {cs : List Nat} {f : Nat → Int32}
theorem x_work68 {y : Nat × Nat} {n : Int32} (hd : 1 ≤ d) (hx : 215 ≤ nx) (hL : WSt e g0 A0 g A (.inl y)) (kk : mm_T (G, l, yX11_work, 4, some .int, d, 0, 0, Po, nx) RX11 cX11_work nx (mos h g A) 0 0 89 [some (.ref 188), some (.int n), none, none] []) : mm_T (G, l, yX11_work, 4, some .int, d, 0, 0, Po, nx) RX11 cX11_work nx (mos h g A) 0 0 68 [some (.ref 188), some (.int n), none, none] [] := by
  refine mt_aload_n (pc := 68) dX11_work_68 rfl ?_
  refine mt_cV (pc := 69) (n_fineN (d := 0) hx hL.nf) cal_X11_fine vir_X11_fine ml_X11_134 dX11_work_69 (by omega) (mos_o _ _ _) (by first | assumption | (show _ ≤ d; omega)) ⟨(Nat.le_of_ble_eq_true rfl), (Nat.le_of_ble_eq_true rfl)⟩ rfl rfl (Nat.le_of_ble_eq_true rfl) ?_
  refine mt_if_eq (pc := 72) (tgt := 89) dX11_work_72 (by decide) (fun c72 => ?_) (fun c72 => ?_)
  · exact kk
  · exact absurd rfl c72
theorem l_work68 {U : Nat → Nat → rsW} {D : Nat} {n : Int32} (hD : D + 1 ≤ d) (hD2 : 2 ≤ d) (hx : 215 ≤ nx) (he : e ≤ 150) (hso : so ≤ 8) (hsl : sl ≤ 8) (hb : BY b) (hT : TP (A0 190) b) (hc : CRd G l b e so sl D 0 U) (hGd : GdW e so sl U) (h7 : g0 7 = nI 0) (h19 : g0 19 = nI so) (h18 : g0 18 = nI sl) : ∀ (q p : Nat) (ss : List ST) (g : MG) (A : MA), e < p + 5 * q → 5 * ss.length ≤ p → WSt e g0 A0 g A (.inr (p, ss)) → (∀ g' A', WSt e g0 A0 g' A' (apW (.inr (p, ss)) (lopS b e so sl U 0 q)) → mm_T (G, l, yX11_work, 4, some .int, d, 0, 0, Po, nx) RX11 cX11_work nx (mos h g' A') 0 0 89 [some (.ref 188), some (.int n), none, none] []) → mm_T (G, l, yX11_work, 4, some .int, d, 0, 0, Po, nx) RX11 cX11_work nx (mos h g A) 0 0 68 [some (.ref 188), some (.int n), none, none] [] := by
  intro q
  induction q with
  | zero =>
    intro p ss g A hq hl hL kk
    have := hL.2.2.2.2.2.1
    dsimp only at this
    omega
  | succ q ih =>
    intro p ss g A hq hl hL kk
    obtain ⟨h5, h4, h6, -, -, -⟩ := hL.2.2.2
    dsimp only at h4 h6
    have h3 := hL.e
    have hTA := hL.tp hT
    have hsk := sk_le (b := b) h6
    have hat : atEnd b e 0 p ↔ sk b e p = e := by unfold atEnd; rw [if_pos rfl]; exact pk_none h6
    have hL0 := hL.at hsk.1 hsk.2
    refine mt_aload_n (pc := 68) dX11_work_68 rfl ?_
    refine mt_cV (pc := 69) (n_fineY (d := 0) hx h5) cal_X11_fine vir_X11_fine ml_X11_134 dX11_work_69 (by omega) (mos_o _ _ _) (by first | assumption | (show _ ≤ d; omega)) ⟨(Nat.le_of_ble_eq_true rfl), (Nat.le_of_ble_eq_true rfl)⟩ rfl rfl (Nat.le_of_ble_eq_true rfl) ?_
    refine mt_if_eq (pc := 72) (tgt := 89) dX11_work_72 (by decide) (fun c72 => ?_) (fun c72 => ?_)
    · exact absurd c72 (by decide)
    · skip
      refine mt_aload_n (pc := 75) dX11_work_75 rfl ?_
      refine mt_cV (pc := 76) (n_isMore (d := 1) (Nat.le_refl 1) hx hTA hb h3 (by omega) h4 h6) cal_X11_isMore vir_X11_isMore ml_X11_198 dX11_work_76 (by omega) (mos_o _ _ _) (by first | assumption | (show _ ≤ d; omega)) ⟨(Nat.le_of_ble_eq_true rfl), (Nat.le_of_ble_eq_true rfl)⟩ rfl rfl (Nat.le_of_ble_eq_true rfl) ?_
      refine mt_if_eq (pc := 79) (tgt := 89) dX11_work_79 (by decide) (fun c79 => ?_) (fun c79 => ?_)
      · have c : sk b e p = e := by
          rcases Nat.lt_or_ge (sk b e p) e with z | z
          · rw [if_pos z] at c79; exact absurd c79 (by decide)
          · omega
        rw [lop_end hb h6 (hat.mpr c)] at kk
        exact kk _ A hL0
      · skip
        have c : ¬ atEnd b e 0 p := fun z => c79 (if_neg (by rw [hat.mp z]; exact Nat.lt_irrefl e))
        refine mt_aload_n (pc := 82) dX11_work_82 rfl ?_
        refine mt_aV (pc := 83) (hc nx h g0 A0 _ A _ _ hx hT hL0 (by omega) h7 h19 h18) cal_X11_readStep vir_X11_readStep ml_X11_290 dX11_work_83 (by omega) (mos_o _ _ _) hD ⟨(Nat.le_of_ble_eq_true rfl), (Nat.le_of_ble_eq_true rfl)⟩ rfl rfl (Nat.le_of_ble_eq_true rfl) ?_ ?_
        · rintro x9 n9 k9 h9
          obtain ⟨⟨⟩, -⟩ := h9
        · rintro v9 n9 k9 ⟨⟨⟩, rfl, g2, A2, rfl, hL2⟩
          refine ⟨rfl, ?_⟩
          refine mt_goto (pc := 86) (tgt := 68) dX11_work_86 (by decide) ?_
          rw [show apW (.inr (sk b e p, ss)) (rdS b e so sl U 0) = apW (.inr (p, ss)) (rdS b e so sl U 0) by simp only [apW, sbind, rd_sk h6]] at hL2
          rcases hX : rdS b e so sl U 0 ss.length p with y | a
          · rw [lop_bad hb h6 c hX] at kk
            have eY : apW (.inr (p, ss)) (rdS b e so sl U 0) = .inl y := by simp only [apW, sbind, hX]
            rw [eY] at hL2
            exact x_work68 (by omega) hx hL2 (kk g2 A2 hL2)
          · rw [lop_some hb h6 c hX] at kk
            have eY : apW (.inr (p, ss)) (rdS b e so sl U 0) = .inr (a.1, ss ++ a.2) := by simp only [apW, sbind, hX]
            rw [eY] at hL2
            have hpr := rd_prog hb hGd hso hsl h6 hX
            exact ih a.1 (ss ++ a.2) g2 A2 (by omega) (by rw [List.length_append]; omega) hL2 kk
theorem n_workN {n : Int32} {sz : Nat} (hd : 7 ≤ d) (hx : 215 ≤ nx) (h2 : g 2 = nI sz) (hn : ¬ (¬ n < 0 ∧ ¬ nI sz < n ∧ ¬ 150 < n)) : mm_Con G l yX11_work cX11_work 4 (some .int) d 0 0 [.ref 188, .int n] nx (mos h g A) (mm_ret (some (.int 0)) nx (mos h (upd g 0 1) (updR A 189 (upd (A 189) 1 (A 189 1 + 1))))) := by
  refine mm_start (lo := [some (.ref 188), some (.int n), none, none]) pn_X11 rfl rfl (Nat.le_of_ble_eq_true rfl) ?_
  refine mt_aload_n (pc := 0) dX11_work_0 rfl ?_
  refine mt_iconst (pc := 1) (v := 0) dX11_work_1 (by decide) ?_
  refine mt_mput (pc := 2) pf_X11_3 dX11_work_2 hx rfl ?_
  refine mt_aload_n (pc := 5) dX11_work_5 rfl ?_
  refine mt_iload_n (pc := 6) dX11_work_6 rfl ?_
  refine mt_if_lt (pc := 7) (tgt := 29) dX11_work_7 (by decide) (fun c7 => ?_) (fun c7 => ?_)
  · skip
    refine mt_iconst (pc := 29) (v := 0) dX11_work_29 (by decide) ?_
    refine mt_iconst (pc := 30) (v := 1) dX11_work_30 (by decide) ?_
    refine mt_iconst (pc := 31) (v := 1) dX11_work_31 (by decide) ?_
    refine mt_cV (pc := 32) (n_mayN (d := 0) (q := 1) hx (by decide) rfl rfl (by decide)) cal_X11_may vir_X11_may ml_X11_190 dX11_work_32 (by omega) (mos_o _ _ _) (by first | assumption | (show _ ≤ d; omega)) ⟨(Nat.le_of_ble_eq_true rfl), (Nat.le_of_ble_eq_true rfl)⟩ rfl rfl (Nat.le_of_ble_eq_true rfl) ?_
    refine mt_if_ne (pc := 35) (tgt := 40) dX11_work_35 (by decide) (fun c35 => ?_) (fun c35 => ?_)
    · exact absurd rfl c35
    · skip
      refine mt_iconst (pc := 38) (v := 0) dX11_work_38 (by decide) ?_
      exact mt_iret rfl dX11_work_39 (Nat.le_of_ble_eq_true rfl) (Nat.le_of_ble_eq_true rfl) ⟨rfl, rfl, by rw [upd_upd]⟩
  · skip
    refine mt_iload_n (pc := 10) dX11_work_10 rfl ?_
    refine mt_aload_n (pc := 11) dX11_work_11 rfl ?_
    refine mt_mgetI (pc := 12) (x := nI sz) gf_X11_102 dX11_work_12 hx rfl h2 ?_
    refine mt_icmp_gt (pc := 15) (tgt := 29) dX11_work_15 (by decide) (fun c15 => ?_) (fun c15 => ?_)
    · skip
      refine mt_iconst (pc := 29) (v := 0) dX11_work_29 (by decide) ?_
      refine mt_iconst (pc := 30) (v := 1) dX11_work_30 (by decide) ?_
      refine mt_iconst (pc := 31) (v := 1) dX11_work_31 (by decide) ?_
      refine mt_cV (pc := 32) (n_mayN (d := 0) (q := 1) hx (by decide) rfl rfl (by decide)) cal_X11_may vir_X11_may ml_X11_190 dX11_work_32 (by omega) (mos_o _ _ _) (by first | assumption | (show _ ≤ d; omega)) ⟨(Nat.le_of_ble_eq_true rfl), (Nat.le_of_ble_eq_true rfl)⟩ rfl rfl (Nat.le_of_ble_eq_true rfl) ?_
      refine mt_if_ne (pc := 35) (tgt := 40) dX11_work_35 (by decide) (fun c35 => ?_) (fun c35 => ?_)
      · exact absurd rfl c35
      · skip
        refine mt_iconst (pc := 38) (v := 0) dX11_work_38 (by decide) ?_
        exact mt_iret rfl dX11_work_39 (Nat.le_of_ble_eq_true rfl) (Nat.le_of_ble_eq_true rfl) ⟨rfl, rfl, by rw [upd_upd]⟩
    · skip
      refine mt_iload_n (pc := 18) dX11_work_18 rfl ?_
      refine mt_sipush (pc := 19) (v := 150) dX11_work_19 (by decide) ?_
      refine mt_icmp_gt (pc := 22) (tgt := 29) dX11_work_22 (by decide) (fun c22 => ?_) (fun c22 => ?_)
      · skip
        refine mt_iconst (pc := 29) (v := 0) dX11_work_29 (by decide) ?_
        refine mt_iconst (pc := 30) (v := 1) dX11_work_30 (by decide) ?_
        refine mt_iconst (pc := 31) (v := 1) dX11_work_31 (by decide) ?_
        refine mt_cV (pc := 32) (n_mayN (d := 0) (q := 1) hx (by decide) rfl rfl (by decide)) cal_X11_may vir_X11_may ml_X11_190 dX11_work_32 (by omega) (mos_o _ _ _) (by first | assumption | (show _ ≤ d; omega)) ⟨(Nat.le_of_ble_eq_true rfl), (Nat.le_of_ble_eq_true rfl)⟩ rfl rfl (Nat.le_of_ble_eq_true rfl) ?_
        refine mt_if_ne (pc := 35) (tgt := 40) dX11_work_35 (by decide) (fun c35 => ?_) (fun c35 => ?_)
        · exact absurd rfl c35
        · skip
          refine mt_iconst (pc := 38) (v := 0) dX11_work_38 (by decide) ?_
          exact mt_iret rfl dX11_work_39 (Nat.le_of_ble_eq_true rfl) (Nat.le_of_ble_eq_true rfl) ⟨rfl, rfl, by rw [upd_upd]⟩
      · exact absurd ⟨c7, c15, c22⟩ hn
theorem n_work16 {n sz : Nat} (hd : 2 ≤ d) (hx : 215 ≤ nx) (h2 : g 2 = nI sz) (hsz : sz ≤ 600) (hn : n ≤ sz) (hn2 : n ≤ 150) (h31 : g 31 = 16) : mm_Con G l yX11_work cX11_work 4 (some .int) d 0 0 [.ref 188, .int (nI n)] nx (mos h g A) (fun o n' m => o = .inl (some (.int (-20))) ∧ n' = nx ∧ ∃ g', m = mos h g' A ∧ g' 0 = 0 ∧ g' 2 = 0 ∧ g' 8 = -1 ∧ KPg g g') := by
  refine mm_start (lo := [some (.ref 188), some (.int (nI n)), none, none]) pn_X11 rfl rfl (Nat.le_of_ble_eq_true rfl) ?_
  refine mt_aload_n (pc := 0) dX11_work_0 rfl ?_
  refine mt_iconst (pc := 1) (v := 0) dX11_work_1 (by decide) ?_
  refine mt_mput (pc := 2) pf_X11_3 dX11_work_2 hx rfl ?_
  refine mt_aload_n (pc := 5) dX11_work_5 rfl ?_
  refine mt_iload_n (pc := 6) dX11_work_6 rfl ?_
  refine mt_if_lt (pc := 7) (tgt := 29) dX11_work_7 (by decide) (fun c7 => ?_) (fun c7 => ?_)
  · exact absurd c7 (nI_pos (by omega))
  · skip
    refine mt_iload_n (pc := 10) dX11_work_10 rfl ?_
    refine mt_aload_n (pc := 11) dX11_work_11 rfl ?_
    refine mt_mgetI (pc := 12) (x := nI sz) gf_X11_102 dX11_work_12 hx rfl h2 ?_
    refine mt_icmp_gt (pc := 15) (tgt := 29) dX11_work_15 (by decide) (fun c15 => ?_) (fun c15 => ?_)
    · exact absurd c15 (nI_nlt hn (by omega))
    · skip
      refine mt_iload_n (pc := 18) dX11_work_18 rfl ?_
      refine mt_sipush (pc := 19) (v := 150) dX11_work_19 (by decide) ?_
      refine mt_icmp_gt (pc := 22) (tgt := 29) dX11_work_22 (by decide) (fun c22 => ?_) (fun c22 => ?_)
      · exact absurd c22 (nI_nlt (a := 150) hn2 (by decide))
      · skip
        refine mt_iconst (pc := 25) (v := 1) dX11_work_25 (by decide) ?_
        refine mt_goto (pc := 26) (tgt := 30) dX11_work_26 (by decide) ?_
        refine mt_iconst (pc := 30) (v := 1) dX11_work_30 (by decide) ?_
        refine mt_iconst (pc := 31) (v := 1) dX11_work_31 (by decide) ?_
        refine mt_cV (pc := 32) (n_mayY (d := 0) (q := 1) hx rfl (by decide)) cal_X11_may vir_X11_may ml_X11_190 dX11_work_32 (by omega) (mos_o _ _ _) (by first | assumption | (show _ ≤ d; omega)) ⟨(Nat.le_of_ble_eq_true rfl), (Nat.le_of_ble_eq_true rfl)⟩ rfl rfl (Nat.le_of_ble_eq_true rfl) ?_
        refine mt_if_ne (pc := 35) (tgt := 40) dX11_work_35 (by decide) (fun c35 => ?_) (fun c35 => ?_)
        · skip
          refine mt_aload_n (pc := 40) dX11_work_40 rfl ?_
          refine mt_iload_n (pc := 41) dX11_work_41 rfl ?_
          refine mt_cV (pc := 42) (n_begins (d := 0) hx) cal_X11_begins vir_X11_begins ml_X11_194 dX11_work_42 (by omega) (mos_o _ _ _) (by first | assumption | (show _ ≤ d; omega)) ⟨(Nat.le_of_ble_eq_true rfl), (Nat.le_of_ble_eq_true rfl)⟩ rfl rfl (Nat.le_of_ble_eq_true rfl) ?_
          refine mt_aload_n (pc := 45) dX11_work_45 rfl ?_
          refine mt_mgetI (pc := 46) (x := 16) gf_X11_170 dX11_work_46 hx rfl h31 ?_
          refine mt_bipush (pc := 49) (v := 16) dX11_work_49 (by decide) ?_
          refine mt_icmp_ne (pc := 51) (tgt := 63) dX11_work_51 (by decide) (fun c51 => ?_) (fun c51 => ?_)
          · exact absurd rfl c51
          · skip
            refine mt_aload_n (pc := 54) dX11_work_54 rfl ?_
            refine mt_iconst (pc := 55) (v := 0) dX11_work_55 (by decide) ?_
            refine mt_cV (pc := 56) (n_result (d := 1) (Nat.le_refl 1) hx) cal_X11_result vir_X11_result ml_X11_216 dX11_work_56 (by omega) (mos_o _ _ _) (by first | assumption | (show _ ≤ d; omega)) ⟨(Nat.le_of_ble_eq_true rfl), (Nat.le_of_ble_eq_true rfl)⟩ rfl rfl (Nat.le_of_ble_eq_true rfl) ?_
            refine mt_pop (pc := 59) dX11_work_59 rfl ?_
            refine mt_bipush (pc := 60) (v := (-20)) dX11_work_60 (by decide) ?_
            exact mt_iret rfl dX11_work_62 (Nat.le_of_ble_eq_true rfl) (Nat.le_of_ble_eq_true rfl) ⟨rfl, rfl, _, rfl, rfl, rfl, rfl, ⟨rfl, rfl, rfl, rfl, rfl, rfl, rfl⟩⟩
        · exact absurd c35 (by decide)
theorem work_go {n w r : Nat} {ss : List ST} {g1 g2 : MG} {A2 : MA} (hd : 20 ≤ d) (hx : 215 ≤ nx) (hQ : MQs k cs g A) (hR : RR (A 205) f) (hJ : RJ 400 k f) (hw : w < 16) (hb : BY b) (hn2 : n ≤ 150) (hX : wokS b n k.2.1 k.1 6 0 0 = .inr (r, ss)) (hL : WSt n g1 A g2 A2 (.inr (r, ss))) (f31 : g1 31 = nI w) (kp : ∀ g3 : MG, (∀ j, j ≠ 4 → j ≠ 5 → j ≠ 6 → j ≠ 30 → j ≠ 8 → g3 j = g1 j) → KPg g g3 ∧ g3 0 = 0 ∧ g3 2 = 0) : mm_T (G, l, yX11_work, 4, some .int, d, 0, 0, (P_mwok (.inr (r, ss)) k cs f w nx h g A), nx) RX11 cX11_work nx (mos h g2 A2) 0 0 89 [some (.ref 188), some (.int (nI n)), none, none] [] := by
  obtain ⟨h18, h19, hM, hLw⟩ := id hQ
  have hk1 := hM.1
  have hk2 := hM.2.1
  obtain ⟨hn10, -, -⟩ := hJ.1.nl
  obtain ⟨q5, q4, q6, q30, qM, -⟩ := hL.2.2.2
  dsimp only at q4 q6 q30 qM
  have hle := wokS_le hb (by omega) hk1 6 0 0 (Nat.zero_le _) r ss hX
  have hlen : ss.length ≤ 30 := by omega
  obtain ⟨H, hH1, hH2⟩ := wokS_h 6 0 0 r ss hX
  have hH3 : ∀ (q : Nat) (t : ST), ss[q]? = some t → t.1 = 6 → ∀ q', q < q' → q' < t.2.2 → H q' < H q := fun q t ht h6 q' y1 y2 => hH2 q t ht h6 q' y1 (by omega)
  have k2 := kp g2 (fun j a1 a2 a3 a4 _ => hL.1 j a1 a2 a3 a4)
  have kA := hL.2.2.1
  have g31 : g2 31 = nI w := (hL.1 31 (by decide) (by decide) (by decide) (by decide)).trans f31
  generalize hWW : carS k cs ss 7 0 ss.length (f, 0, 0, 0) = W
  have ePo : P_mwok (.inr (r, ss)) k cs f w nx h g A = fun o n' m => n' = nx ∧ ∃ g' A', m = mos h g' A' ∧ g' 0 = 0 ∧ g' 2 = 0 ∧ o = .inl (some (.int (nI W.2.2.1))) ∧ g' 8 = -1 ∧ KPg (upd (upd g 31 (nI (w + 1))) 32 (nI W.2.2.2)) g' ∧ RR (A' 205) W.1 ∧ RJ 400 k W.1 ∧ KPa (updR (updR A 205 (A' 205)) 207 (kpF (A 207) (A 205) (91 * w) 91)) A' := by rw [← hWW]; rfl
  rw [ePo]
  refine mt_aload_n (pc := 89) dX11_work_89 rfl ?_
  refine mt_iconst (pc := 90) (v := 0) dX11_work_90 (by decide) ?_
  refine mt_cV (pc := 91) (n_result (d := 1) (Nat.le_refl 1) hx) cal_X11_result vir_X11_result ml_X11_216 dX11_work_91 (by omega) (mos_o _ _ _) (by first | assumption | (show _ ≤ d; omega)) ⟨(Nat.le_of_ble_eq_true rfl), (Nat.le_of_ble_eq_true rfl)⟩ rfl rfl (Nat.le_of_ble_eq_true rfl) ?_
  rw [if_pos q5, q5]
  refine mt_istore_n (pc := 94) dX11_work_94 (Nat.le_of_ble_eq_true rfl) rfl ?_
  refine mt_aload_n (pc := 95) dX11_work_95 rfl ?_
  refine mt_mgetI (pc := 96) (x := -1) gf_X11_105 dX11_work_96 hx rfl q5 ?_
  refine mt_iconst (pc := 99) (v := (-1)) dX11_work_99 (by decide) ?_
  refine mt_icmp_eq (pc := 100) (tgt := 105) dX11_work_100 (by decide) (fun c100 => ?_) (fun c100 => ?_)
  · skip
    refine mt_aload_n (pc := 105) dX11_work_105 rfl ?_
    refine mt_aload_n (pc := 106) dX11_work_106 rfl ?_
    refine mt_mget (pc := 107) gf_X11_59 dX11_work_107 hx rfl ?_
    refine mt_aload_n (pc := 110) dX11_work_110 rfl ?_
    refine mt_mget (pc := 111) gf_X11_62 dX11_work_111 hx rfl ?_
    refine mt_aload_n (pc := 114) dX11_work_114 rfl ?_
    refine mt_mgetI (pc := 115) (x := nI (5 * ss.length)) gf_X11_271 dX11_work_115 hx rfl q30 ?_
    refine mt_cV (pc := 118) (n_copies (d := 0) (i := 203) (j := 204) (n := 5 * ss.length) hx rfl rfl (by decide) (show 5 * ss.length ≤ 250 by omega) (show 5 * ss.length ≤ 250 by omega)) cal_X11_copies vir_X11_copies ml_X11_160 dX11_work_118 (by omega) (mos_o _ _ _) (by first | assumption | (show _ ≤ d; omega)) ⟨(Nat.le_of_ble_eq_true rfl), (Nat.le_of_ble_eq_true rfl)⟩ rfl rfl (Nat.le_of_ble_eq_true rfl) ?_
    generalize hA3 : updR A2 204 (fun q => if q < 5 * ss.length then A2 203 q else A2 204 q) = A3
    have a204 : A3 204 = fun q => if q < 5 * ss.length then A2 203 q else A2 204 q := by rw [← hA3, updR_eq]
    have a3 : ∀ j, j ≠ 203 → j ≠ 204 → A3 j = A j := fun j y1 y2 => by rw [← hA3, updR_ne y2]; exact kA j y1
    refine mt_iconst (pc := 121) (v := 0) dX11_work_121 (by decide) ?_
    refine mt_istore_n (pc := 122) dX11_work_122 (Nat.le_of_ble_eq_true rfl) rfl ?_
    rw [show mos h (upd g2 8 (-1)) A3 = mos h (upd g2 8 (-1)) (updR A3 207 (kpF (A 207) (A 205) (91 * w) 0)) by rw [kpF_0, updR_self (a3 207 (by decide) (by decide))]]
    refine mt_for (pc := 123) (H := fun c => mos h (upd g2 8 (-1)) (updR A3 207 (kpF (A 207) (A 205) (91 * w) c))) (L := fun c => [some (.ref 188), some (.int (nI n)), some (.int 0), some (.int (nI c))]) 91 (fun c hc nc => ?_) ?_
    · skip
      refine mt_iload_n (pc := 123) dX11_work_123 rfl ?_
      refine mt_bipush (pc := 124) (v := 91) dX11_work_124 (by decide) ?_
      refine mt_icmp_ge (pc := 126) (tgt := 155) dX11_work_126 (by decide) (fun c126 => ?_) (fun c126 => ?_)
      · exact absurd c126 (nI_ge (b := 91) hc (by decide))
      · skip
        refine mt_aload_n (pc := 129) dX11_work_129 rfl ?_
        refine mt_mget (pc := 130) gf_X11_71 dX11_work_130 hx rfl ?_
        refine mt_bipush (pc := 133) (v := 91) dX11_work_133 (by decide) ?_
        refine mt_aload_n (pc := 135) dX11_work_135 rfl ?_
        refine mt_mgetI (pc := 136) (x := nI w) gf_X11_170 dX11_work_136 hx rfl g31 ?_
        refine mt_imulN (pc := 139) (a := 91) (b := w) dX11_work_139 rfl rfl ?_
        refine mt_iload_n (pc := 140) dX11_work_140 rfl ?_
        refine mt_iaddN (pc := 141) (a := 91 * w) (b := c) dX11_work_141 rfl rfl ?_
        refine mt_aload_n (pc := 142) dX11_work_142 rfl ?_
        refine mt_mget (pc := 143) gf_X11_65 dX11_work_143 hx rfl ?_
        refine mt_iload_n (pc := 146) dX11_work_146 rfl ?_
        refine mt_mald (pc := 147) (i := 205) (j := c) (x := A 205 c) dX11_work_147 hx rfl rfl (by show _ < 91; omega) (by rw [updR_ne (by decide), a3 205 (by decide) (by decide)]) ?_
        refine mt_mast2 (pc := 148) (i := 207) (j := (91 * w) + c) dX11_work_148 hx rfl rfl (by show _ < 1456; omega) ?_
        refine mt_iinc (pc := 149) (c9 := 1) dX11_work_149 rfl (by decide) (Nat.le_of_ble_eq_true rfl) rfl ?_
        refine mt_goto (pc := 152) (tgt := 123) dX11_work_152 (by decide) ?_
        rw [show (nI c + 1 : Int32) = nI (c + 1) from nI_1 c, kpF_s]
        exact nc
    · skip
      refine mt_iload_n (pc := 123) dX11_work_123 rfl ?_
      refine mt_bipush (pc := 124) (v := 91) dX11_work_124 (by decide) ?_
      refine mt_icmp_ge (pc := 126) (tgt := 155) dX11_work_126 (by decide) (fun c126 => ?_) (fun c126 => ?_)
      · skip
        refine mt_aload_n (pc := 155) dX11_work_155 rfl ?_
        refine mt_dup (pc := 156) dX11_work_156 rfl ?_
        refine mt_mgetI (pc := 157) (x := nI w) gf_X11_170 dX11_work_157 hx rfl g31 ?_
        refine mt_iconst (pc := 160) (v := 1) dX11_work_160 (by decide) ?_
        refine mt_iaddN (pc := 161) (a := w) (b := 1) dX11_work_161 rfl rfl ?_
        refine mt_mput (pc := 162) pf_X11_170 dX11_work_162 hx rfl ?_
        refine mt_aload_n (pc := 165) dX11_work_165 rfl ?_
        generalize hA4 : updR A3 207 (kpF (A 207) (A 205) (91 * w) 91) = A4
        have a4_207 : A4 207 = kpF (A 207) (A 205) (91 * w) 91 := by rw [← hA4, updR_eq]
        have a4_204 : A4 204 = fun q => if q < 5 * ss.length then A2 203 q else A2 204 q := by rw [← hA4, updR_ne (by decide)]; exact a204
        have a4 : ∀ j, j ≠ 203 → j ≠ 204 → j ≠ 207 → A4 j = A j := fun j y1 y2 y3 => by rw [← hA4, updR_ne y3]; exact a3 j y1 y2
        refine mt_aV (pc := 166) (n_takeR (d := 1) (f := f) (Nat.le_refl 1) hx (by rw [a4 205 (by decide) (by decide) (by decide)]; exact hR) hn10) cal_X11_take vir_X11_take ml_X11_293 dX11_work_166 (by omega) (mos_o _ _ _) (by first | assumption | (show _ ≤ d; omega)) ⟨(Nat.le_of_ble_eq_true rfl), (Nat.le_of_ble_eq_true rfl)⟩ rfl rfl (Nat.le_of_ble_eq_true rfl) ?_ ?_
        · rintro x9 n9 k9 h9
          obtain ⟨⟨⟩, -⟩ := h9
        · rintro v9 n9 k9 ⟨⟨⟩, rfl, S, rfl, hS⟩
          refine ⟨rfl, ?_⟩
          refine mt_aload_n (pc := 169) dX11_work_169 rfl ?_
          refine mt_iconst (pc := 170) (v := 0) dX11_work_170 (by decide) ?_
          refine mt_mput (pc := 171) pf_X11_296 dX11_work_171 hx rfl ?_
          refine mt_aload_n (pc := 174) dX11_work_174 rfl ?_
          refine mt_iconst (pc := 175) (v := 0) dX11_work_175 (by decide) ?_
          refine mt_mput (pc := 176) pf_X11_299 dX11_work_176 hx rfl ?_
          refine mt_aload_n (pc := 179) dX11_work_179 rfl ?_
          refine mt_iconst (pc := 180) (v := 0) dX11_work_180 (by decide) ?_
          refine mt_mput (pc := 181) pf_X11_302 dX11_work_181 hx rfl ?_
          refine mt_aload_n (pc := 184) dX11_work_184 rfl ?_
          refine mt_iconst (pc := 185) (v := 0) dX11_work_185 (by decide) ?_
          refine mt_aload_n (pc := 186) dX11_work_186 rfl ?_
          refine mt_mgetI (pc := 187) (x := nI (5 * ss.length)) gf_X11_271 dX11_work_187 hx rfl q30 ?_
          generalize hg5 : upd (upd (upd (upd (upd g2 8 (-1)) 31 (nI (w + 1))) 33 0) 34 0) 35 0 = g5
          have q33 : g5 33 = nI 0 := by rw [← hg5]; rfl
          have q34 : g5 34 = nI 0 := by rw [← hg5]; rfl
          have q35 : g5 35 = nI 0 := by rw [← hg5]; rfl
          have q31 : g5 31 = nI (w + 1) := by rw [← hg5]; rfl
          have q8 : g5 8 = -1 := by rw [← hg5]; rfl
          have qo : ∀ j, j ≠ 8 → j ≠ 31 → j ≠ 33 → j ≠ 34 → j ≠ 35 → g5 j = g2 j := fun j y1 y2 y3 y4 y5 => by rw [← hg5, upd_ne y5, upd_ne y4, upd_ne y3, upd_ne y2, upd_ne y1]
          have hQ5 : MQs k cs g5 (updR A4 206 S) := ⟨(qo 18 (by decide) (by decide) (by decide) (by decide) (by decide)).trans (k2.1.1.trans h18), (qo 19 (by decide) (by decide) (by decide) (by decide) (by decide)).trans (k2.1.2.1.trans h19), by rw [updR_ne (by decide), updR_ne (by decide), updR_ne (by decide), a4 194 (by decide) (by decide) (by decide), a4 195 (by decide) (by decide) (by decide), a4 196 (by decide) (by decide) (by decide)]; exact hM, by rw [updR_ne (by decide), updR_ne (by decide), a4 199 (by decide) (by decide) (by decide), a4 200 (by decide) (by decide) (by decide), (qo 26 (by decide) (by decide) (by decide) (by decide) (by decide)).trans k2.1.2.2.1]; exact hLw⟩
          have hMS : MSt (updR A4 206 S 204) ss := by
            rw [updR_ne (by decide), a4_204]
            exact MSt_congr qM (fun j hj => if_pos hj)
          have hWS : WSr k g5 (updR A4 206 S) g5 (updR A4 206 S) (f, 0, 0, 0) := ⟨fun _ _ _ _ => rfl, SD_rf, q33, q34, q35, by rw [updR_eq]; exact hS, hJ, Nat.zero_le _⟩
          refine mt_aV (pc := 190) (n_goesJ (k := k) (cs := cs) (ss := ss) (H := H) hlen (wokS_bw hX) hle.2.2.2 hH3 7 14 (by decide) n9 g5 (updR A4 206 S) (f, 0, 0, 0) 0 ss.length hx hQ5 hMS hWS (Nat.le_refl _) (by decide) (fun q _ hq => hH1 q hq)) cal_X11_goesSteps vir_X11_goesSteps ml_X11_305 dX11_work_190 (by omega) (mos_o _ _ _) (by first | assumption | (show _ ≤ d; omega)) ⟨(Nat.le_of_ble_eq_true rfl), (Nat.le_of_ble_eq_true rfl)⟩ rfl rfl (Nat.le_of_ble_eq_true rfl) ?_ ?_
          · rintro x9 n9 k9 h9
            obtain ⟨⟨⟩, -⟩ := h9
          · rintro v9 n9 k9 ⟨⟨⟩, rfl, g6, A6, rfl, hW6⟩
            refine ⟨rfl, ?_⟩
            rw [hWW] at hW6
            obtain ⟨v1, v2, v3, v4, v5, v6, v7, v8⟩ := hW6
            have a6 : ∀ j, j ≠ 201 → j ≠ 202 → j ≠ 206 → A6 j = A4 j := fun j y1 y2 y3 => (v2 j y1 y2 y3).trans (updR_ne y3)
            have g6o : ∀ j, j ≠ 8 → j ≠ 31 → j ≠ 33 → j ≠ 34 → j ≠ 35 → g6 j = g2 j := fun j y1 y2 y3 y4 y5 => (v1 j y3 y4 y5).trans (qo j y1 y2 y3 y4 y5)
            have g6_8 : g6 8 = -1 := (v1 8 (by decide) (by decide) (by decide)).trans q8
            have g6_31 : g6 31 = nI (w + 1) := (v1 31 (by decide) (by decide) (by decide)).trans q31
            refine mt_aload_n (pc := 193) dX11_work_193 rfl ?_
            refine mt_aload_n (pc := 194) dX11_work_194 rfl ?_
            refine mt_mget (pc := 195) gf_X11_68 dX11_work_195 hx rfl ?_
            refine mt_aload_n (pc := 198) dX11_work_198 rfl ?_
            refine mt_mget (pc := 199) gf_X11_65 dX11_work_199 hx rfl ?_
            refine mt_bipush (pc := 202) (v := 91) dX11_work_202 (by decide) ?_
            refine mt_cV (pc := 204) (n_copies (d := 0) (i := 206) (j := 205) (n := 91) hx rfl rfl (by decide) (Nat.le_of_ble_eq_true rfl) (Nat.le_of_ble_eq_true rfl)) cal_X11_copies vir_X11_copies ml_X11_160 dX11_work_204 (by omega) (mos_o _ _ _) (by first | assumption | (show _ ≤ d; omega)) ⟨(Nat.le_of_ble_eq_true rfl), (Nat.le_of_ble_eq_true rfl)⟩ rfl rfl (Nat.le_of_ble_eq_true rfl) ?_
            generalize hA7 : updR A6 205 (fun q => if q < 91 then A6 206 q else A6 205 q) = A7
            have a7_205 : A7 205 = fun q => if q < 91 then A6 206 q else A6 205 q := by rw [← hA7, updR_eq]
            have a7_207 : A7 207 = kpF (A 207) (A 205) (91 * w) 91 := by rw [← hA7, updR_ne (by decide), a6 207 (by decide) (by decide) (by decide)]; exact a4_207
            have a7 : ∀ j, j ≠ 201 → j ≠ 202 → j ≠ 203 → j ≠ 204 → j ≠ 205 → j ≠ 206 → j ≠ 207 → A7 j = A j := fun j y1 y2 y3 y4 y5 y6 y7 => by rw [← hA7, updR_ne y5, a6 j y1 y2 y6]; exact a4 j y3 y4 y7
            refine mt_aload_n (pc := 207) dX11_work_207 rfl ?_
            refine mt_aload_n (pc := 208) dX11_work_208 rfl ?_
            refine mt_mgetI (pc := 209) (x := nI W.2.2.2) gf_X11_302 dX11_work_209 hx rfl v5 ?_
            refine mt_mput (pc := 212) pf_X11_176 dX11_work_212 hx rfl ?_
            refine mt_aload_n (pc := 215) dX11_work_215 rfl ?_
            refine mt_mgetI (pc := 216) (x := nI W.2.2.1) gf_X11_299 dX11_work_216 hx rfl (by rw [upd_ne (by decide)]; exact v4) ?_
            exact mt_iret rfl dX11_work_219 (Nat.le_of_ble_eq_true rfl) (Nat.le_of_ble_eq_true rfl) ⟨rfl, _, A7, rfl, by rw [upd_ne (by decide), g6o 0 (by decide) (by decide) (by decide) (by decide) (by decide)]; exact k2.2.1, by rw [upd_ne (by decide), g6o 2 (by decide) (by decide) (by decide) (by decide) (by decide)]; exact k2.2.2, rfl, by rw [upd_ne (by decide)]; exact g6_8, ⟨by rw [upd_ne (by decide), g6o 18 (by decide) (by decide) (by decide) (by decide) (by decide)]; exact k2.1.1, by rw [upd_ne (by decide), g6o 19 (by decide) (by decide) (by decide) (by decide) (by decide)]; exact k2.1.2.1, by rw [upd_ne (by decide), g6o 26 (by decide) (by decide) (by decide) (by decide) (by decide)]; exact k2.1.2.2.1, by rw [upd_ne (by decide)]; exact g6_31, by rw [upd_eq]; rfl, by rw [upd_ne (by decide), g6o 41 (by decide) (by decide) (by decide) (by decide) (by decide)]; exact k2.1.2.2.2.2.2.1, by rw [upd_ne (by decide), g6o 50 (by decide) (by decide) (by decide) (by decide) (by decide)]; exact k2.1.2.2.2.2.2.2⟩, by rw [a7_205]; exact RR_congr v6 (fun j hj => if_pos hj) v7.1.nl.1, v7, ⟨a7 189 (by decide) (by decide) (by decide) (by decide) (by decide) (by decide) (by decide), a7 190 (by decide) (by decide) (by decide) (by decide) (by decide) (by decide) (by decide), a7 194 (by decide) (by decide) (by decide) (by decide) (by decide) (by decide) (by decide), a7 195 (by decide) (by decide) (by decide) (by decide) (by decide) (by decide) (by decide), a7 196 (by decide) (by decide) (by decide) (by decide) (by decide) (by decide) (by decide), a7 199 (by decide) (by decide) (by decide) (by decide) (by decide) (by decide) (by decide), a7 200 (by decide) (by decide) (by decide) (by decide) (by decide) (by decide) (by decide), by rw [updR_ne (by decide), updR_eq], by rw [updR_eq]; exact a7_207, a7 209 (by decide) (by decide) (by decide) (by decide) (by decide) (by decide) (by decide), a7 214 (by decide) (by decide) (by decide) (by decide) (by decide) (by decide) (by decide)⟩⟩
      · exact absurd (nI_le (a := 91) (b := 91) (by decide) (by decide)) c126
  · exact absurd rfl c100
theorem n_work {n sz w : Nat} (hd : 20 ≤ d) (hx : 215 ≤ nx) (hT : TP (A 190) b) (hb : BY b) (h2 : g 2 = nI sz) (hsz : sz ≤ 600) (hn : n ≤ sz) (hn2 : n ≤ 150) (h31 : g 31 = nI w) (hw : w < 16) (hQ : MQs k cs g A) (hR : RR (A 205) f) (hJ : RJ 400 k f) : mm_Con G l yX11_work cX11_work 4 (some .int) d 0 0 [.ref 188, .int (nI n)] nx (mos h g A) (P_mwok (wokS b n k.2.1 k.1 6 0 0) k cs f w nx h g A) := by
  obtain ⟨h18, h19, hM, hLw⟩ := id hQ
  have hk1 := hM.1
  have hk2 := hM.2.1
  obtain ⟨hn10, -, -⟩ := hJ.1.nl
  refine mm_start (lo := [some (.ref 188), some (.int (nI n)), none, none]) pn_X11 rfl rfl (Nat.le_of_ble_eq_true rfl) ?_
  refine mt_aload_n (pc := 0) dX11_work_0 rfl ?_
  refine mt_iconst (pc := 1) (v := 0) dX11_work_1 (by decide) ?_
  refine mt_mput (pc := 2) pf_X11_3 dX11_work_2 hx rfl ?_
  refine mt_aload_n (pc := 5) dX11_work_5 rfl ?_
  refine mt_iload_n (pc := 6) dX11_work_6 rfl ?_
  refine mt_if_lt (pc := 7) (tgt := 29) dX11_work_7 (by decide) (fun c7 => ?_) (fun c7 => ?_)
  · exact absurd c7 (nI_pos (by omega))
  · skip
    refine mt_iload_n (pc := 10) dX11_work_10 rfl ?_
    refine mt_aload_n (pc := 11) dX11_work_11 rfl ?_
    refine mt_mgetI (pc := 12) (x := nI sz) gf_X11_102 dX11_work_12 hx rfl h2 ?_
    refine mt_icmp_gt (pc := 15) (tgt := 29) dX11_work_15 (by decide) (fun c15 => ?_) (fun c15 => ?_)
    · exact absurd c15 (nI_nlt hn (by omega))
    · skip
      refine mt_iload_n (pc := 18) dX11_work_18 rfl ?_
      refine mt_sipush (pc := 19) (v := 150) dX11_work_19 (by decide) ?_
      refine mt_icmp_gt (pc := 22) (tgt := 29) dX11_work_22 (by decide) (fun c22 => ?_) (fun c22 => ?_)
      · exact absurd c22 (nI_nlt (a := 150) hn2 (by decide))
      · skip
        refine mt_iconst (pc := 25) (v := 1) dX11_work_25 (by decide) ?_
        refine mt_goto (pc := 26) (tgt := 30) dX11_work_26 (by decide) ?_
        refine mt_iconst (pc := 30) (v := 1) dX11_work_30 (by decide) ?_
        refine mt_iconst (pc := 31) (v := 1) dX11_work_31 (by decide) ?_
        refine mt_cV (pc := 32) (n_mayY (d := 0) (q := 1) hx rfl (by decide)) cal_X11_may vir_X11_may ml_X11_190 dX11_work_32 (by omega) (mos_o _ _ _) (by first | assumption | (show _ ≤ d; omega)) ⟨(Nat.le_of_ble_eq_true rfl), (Nat.le_of_ble_eq_true rfl)⟩ rfl rfl (Nat.le_of_ble_eq_true rfl) ?_
        refine mt_if_ne (pc := 35) (tgt := 40) dX11_work_35 (by decide) (fun c35 => ?_) (fun c35 => ?_)
        · skip
          refine mt_aload_n (pc := 40) dX11_work_40 rfl ?_
          refine mt_iload_n (pc := 41) dX11_work_41 rfl ?_
          refine mt_cV (pc := 42) (n_begins (d := 0) hx) cal_X11_begins vir_X11_begins ml_X11_194 dX11_work_42 (by omega) (mos_o _ _ _) (by first | assumption | (show _ ≤ d; omega)) ⟨(Nat.le_of_ble_eq_true rfl), (Nat.le_of_ble_eq_true rfl)⟩ rfl rfl (Nat.le_of_ble_eq_true rfl) ?_
          refine mt_aload_n (pc := 45) dX11_work_45 rfl ?_
          refine mt_mgetI (pc := 46) (x := nI w) gf_X11_170 dX11_work_46 hx rfl h31 ?_
          refine mt_bipush (pc := 49) (v := 16) dX11_work_49 (by decide) ?_
          refine mt_icmp_ne (pc := 51) (tgt := 63) dX11_work_51 (by decide) (fun c51 => ?_) (fun c51 => ?_)
          · skip
            refine mt_aload_n (pc := 63) dX11_work_63 rfl ?_
            refine mt_iconst (pc := 64) (v := 0) dX11_work_64 (by decide) ?_
            refine mt_mput (pc := 65) pf_X11_271 dX11_work_65 hx rfl ?_
            generalize hg1 : upd (upd (upd (upd (upd (upd (upd (upd g 0 0) 2 0) 8 (-1)) 3 (nI n)) 4 0) 5 (-1)) 7 0) 30 0 = g1
            have f3 : g1 3 = nI n := by rw [← hg1]; rfl
            have f4 : g1 4 = nI 0 := by rw [← hg1]; rfl
            have f5 : g1 5 = -1 := by rw [← hg1]; rfl
            have f7 : g1 7 = nI 0 := by rw [← hg1]; rfl
            have f30 : g1 30 = nI (5 * 0) := by rw [← hg1]; rfl
            have f18 : g1 18 = nI k.1 := by rw [← hg1]; exact h18
            have f19 : g1 19 = nI k.2.1 := by rw [← hg1]; exact h19
            have f31 : g1 31 = nI w := by rw [← hg1]; exact h31
            have f26 : g1 26 = g 26 := by rw [← hg1]; rfl
            have fk : KPg g g1 ∧ g1 0 = 0 ∧ g1 2 = 0 := by rw [← hg1]; exact ⟨⟨rfl, rfl, rfl, rfl, rfl, rfl, rfl⟩, rfl, rfl⟩
            have hL0 : WSt n g1 A g1 A (.inr (0, [])) := ⟨fun _ _ _ _ _ => rfl, f3, fun _ _ => rfl, f5, f4, Nat.zero_le _, f30, fun i t ht => (by cases ht), by decide⟩
            have hrd := n_rdAt (G := G) (l := l) (b := b) (e := n) (so := k.2.1) (sl := k.1) hn2 hk2 hk1 hb 6 12 (by decide) (by decide)
            refine l_work68 (U := wokS b n k.2.1 k.1 5) (D := 12) (by omega) (by omega) hx hn2 (by omega) hk1 hb hT hrd (wokS_le hb (by omega) hk1 5) f7 f19 f18 150 0 [] g1 A (by omega) (by decide) hL0 (fun g2 A2 hL => ?_)
            have eL : apW (.inr (0, [])) (lopS b n k.2.1 k.1 (wokS b n k.2.1 k.1 5) 0 150) = wokS b n k.2.1 k.1 6 0 0 := by
              show (sbind (wokS b n k.2.1 k.1 6 0 0) fun y => (.inr (y.1, [] ++ y.2) : rsW)) = _
              cases wokS b n k.2.1 k.1 6 0 0 <;> rfl
            rw [eL] at hL
            have kp : ∀ g3 : MG, (∀ j, j ≠ 4 → j ≠ 5 → j ≠ 6 → j ≠ 30 → j ≠ 8 → g3 j = g1 j) → KPg g g3 ∧ g3 0 = 0 ∧ g3 2 = 0 := fun g3 hq => ⟨⟨(hq 18 (by decide) (by decide) (by decide) (by decide) (by decide)).trans fk.1.1, (hq 19 (by decide) (by decide) (by decide) (by decide) (by decide)).trans fk.1.2.1, (hq 26 (by decide) (by decide) (by decide) (by decide) (by decide)).trans fk.1.2.2.1, (hq 31 (by decide) (by decide) (by decide) (by decide) (by decide)).trans fk.1.2.2.2.1, (hq 32 (by decide) (by decide) (by decide) (by decide) (by decide)).trans fk.1.2.2.2.2.1, (hq 41 (by decide) (by decide) (by decide) (by decide) (by decide)).trans fk.1.2.2.2.2.2.1, (hq 50 (by decide) (by decide) (by decide) (by decide) (by decide)).trans fk.1.2.2.2.2.2.2⟩, (hq 0 (by decide) (by decide) (by decide) (by decide) (by decide)).trans fk.2.1, (hq 2 (by decide) (by decide) (by decide) (by decide) (by decide)).trans fk.2.2⟩
            rcases hX : wokS b n k.2.1 k.1 6 0 0 with y | ⟨r, ss⟩
            · rw [hX] at hL
              obtain ⟨q5, q6, q7⟩ := hL.2.2.2
              have hnf := hL.nf
              refine mt_aload_n (pc := 89) dX11_work_89 rfl ?_
              refine mt_iconst (pc := 90) (v := 0) dX11_work_90 (by decide) ?_
              refine mt_cV (pc := 91) (n_result (d := 1) (Nat.le_refl 1) hx) cal_X11_result vir_X11_result ml_X11_216 dX11_work_91 (by omega) (mos_o _ _ _) (by show _ ≤ d; omega) ⟨Nat.zero_le _, Nat.zero_le _⟩ rfl rfl (Nat.le_of_ble_eq_true rfl) ?_
              refine mt_istore_n (pc := 94) dX11_work_94 (Nat.le_of_ble_eq_true rfl) rfl ?_
              refine mt_aload_n (pc := 95) dX11_work_95 rfl ?_
              refine mt_mgetI (pc := 96) (x := g2 5) gf_X11_105 dX11_work_96 hx rfl rfl ?_
              refine mt_iconst (pc := 99) (v := -1) dX11_work_99 (by decide) ?_
              refine mt_icmp_eq (pc := 100) (tgt := 105) dX11_work_100 (by decide) (fun c100 => absurd c100 hnf) (fun c100 => ?_)
              refine mt_iload_n (pc := 103) dX11_work_103 rfl ?_
              have kq := kp (upd g2 8 (g2 5)) (fun j a1 a2 a3 a4 a5 => (upd_ne a5).trans (hL.1 j a1 a2 a3 a4))
              have ka := hL.2.2.1
              exact mt_iret rfl dX11_work_104 (Nat.le_of_ble_eq_true rfl) (Nat.le_of_ble_eq_true rfl) ⟨rfl, _, A2, rfl, kq.2.1, kq.2.2, by rw [if_neg hnf, q6], q5, kq.1, ⟨ka 189 (by decide), ka 190 (by decide), ka 194 (by decide), ka 195 (by decide), ka 196 (by decide), ka 199 (by decide), ka 200 (by decide), ka 205 (by decide), ka 207 (by decide), ka 209 (by decide), ka 214 (by decide)⟩⟩
            · rw [hX] at hL
              exact work_go hd hx hQ hR hJ hw hb hn2 hX hL f31 kp
          · exact absurd c51 (nI_ne (b := 16) hw (by decide))
        · exact absurd c35 (by decide)
end MWK
