/-! The reference: law. -/
def GdN (U : Nat → rsL) : Prop := ∀ p r cs, U p = .inr (r, cs) → 0 < cs.length
theorem stS_n {b : Nat → Int32} {e m : Nat} {U : Nat → rsL} (hU : GdN U) : GdN (stS b e m U) := by
  intro p r cs h
  obtain ⟨x, h1, h⟩ := sbind_inr h
  obtain ⟨y, h2, h⟩ := sbind_inr h
  cases h
  have := hU p x.1 x.2 h1
  rw [List.length_append]
  omega
theorem unS_n {b : Nat → Int32} {e o : Nat} {T : Nat → rsL} (hT : GdN T) : GdN (unS b e T o) := by
  intro p r cs h
  unfold unS at h
  split at h
  · obtain ⟨x, h1, h⟩ := sbind_inr h
    cases h
    exact Nat.one_pos
  split at h
  · unfold brS at h
    split at h
    · cases h
    · obtain ⟨x, h1, h⟩ := sbind_inr h
      obtain ⟨y, h2, h⟩ := sbind_inr h
      obtain ⟨z, h3, h⟩ := sbind_inr h
      cases h
      exact hT _ _ _ h2
  split at h
  · cases h
  split at h
  · obtain ⟨x, h1, h⟩ := sbind_inr h
    cases h
    rw [List.length_append]
    exact Nat.succ_pos _
  split at h
  · obtain ⟨x, h1, h⟩ := sbind_inr h
    cases h
    rw [List.length_append]
    exact Nat.succ_pos _
  split at h
  · cases h
  · cases h
    exact Nat.one_pos
theorem sumS_n {b : Nat → Int32} {e : Nat} : ∀ j, GdN (sumS b e j)
  | 0 => stS_n (stS_n (unS_n (fun p r cs h => by cases h)))
  | j + 1 => stS_n (stS_n (unS_n (sumS_n j)))
theorem lawS_n {b : Nat → Int32} {e : Nat} {cs : List Nat} (h : lawS b e = .inr cs) : 0 < cs.length := by
  obtain ⟨x, h1, h⟩ := sbind_inr h
  split at h
  · cases h
  · cases h
    exact sumS_n 6 _ _ _ h1
def P_mlaw (z : (Nat × Nat) ⊕ List Nat) (nx : Nat) (h : Nat → mm_E) (g : MG) (A : MA) : mm_P := fun o n m => n = nx ∧ ∃ g' A', m = mos h g' A' ∧ g' 0 = 0 ∧ g' 2 = 0 ∧ match z with
  | .inl y => o = .inl (some (.int (nI y.1 - 10))) ∧ g' 8 = nI y.2 ∧ KPg g g' ∧ KPa A A'
  | .inr cs => o = .inl (some (.int 1)) ∧ g' 8 = -1 ∧ KPg (upd g 26 (nI cs.length)) g' ∧ MLW (A' 199) (A' 200) cs ∧ KPa (updR (updR A 199 (A' 199)) 200 (A' 200)) A'
section MLE
variable {G : mm_G} {l : Launch} {d nx : Nat} {h : Nat → mm_E} {g : MG} {A : MA} {b : Nat → Int32}
theorem n_lawN {n : Int32} {sz : Nat} (hd : 7 ≤ d) (hx : 215 ≤ nx) (h2 : g 2 = nI sz) (hn : ¬ (¬ n < 0 ∧ ¬ nI sz < n ∧ ¬ 150 < n)) : mm_Con G l yX11_law cX11_law 3 (some .int) d 0 0 [.ref 188, .int n] nx (mos h g A) (mm_ret (some (.int 0)) nx (mos h (upd g 0 1) (updR A 189 (upd (A 189) 1 (A 189 1 + 1))))) := by
  refine mm_start (lo := [some (.ref 188), some (.int n), none]) pn_X11 rfl rfl (Nat.le_of_ble_eq_true rfl) ?_
  refine mt_aload_n (pc := 0) dX11_law_0 rfl ?_
  refine mt_iconst (pc := 1) (v := 0) dX11_law_1 (by decide) ?_
  refine mt_mput (pc := 2) pf_X11_3 dX11_law_2 hx rfl ?_
  refine mt_aload_n (pc := 5) dX11_law_5 rfl ?_
  refine mt_iload_n (pc := 6) dX11_law_6 rfl ?_
  refine mt_if_lt (pc := 7) (tgt := 29) dX11_law_7 (by decide) (fun c7 => ?_) (fun c7 => ?_)
  · skip
    refine mt_iconst (pc := 29) (v := 0) dX11_law_29 (by decide) ?_
    refine mt_iconst (pc := 30) (v := 1) dX11_law_30 (by decide) ?_
    refine mt_iconst (pc := 31) (v := 1) dX11_law_31 (by decide) ?_
    refine mt_cV (pc := 32) (n_mayN (d := 0) (q := 1) hx (by decide) rfl rfl (by decide)) cal_X11_may vir_X11_may ml_X11_190 dX11_law_32 (by omega) (mos_o _ _ _) (by first | assumption | (show _ ≤ d; omega)) ⟨(Nat.le_of_ble_eq_true rfl), (Nat.le_of_ble_eq_true rfl)⟩ rfl rfl (Nat.le_of_ble_eq_true rfl) ?_
    refine mt_if_ne (pc := 35) (tgt := 40) dX11_law_35 (by decide) (fun c35 => ?_) (fun c35 => ?_)
    · exact absurd rfl c35
    · skip
      refine mt_iconst (pc := 38) (v := 0) dX11_law_38 (by decide) ?_
      exact mt_iret rfl dX11_law_39 (Nat.le_of_ble_eq_true rfl) (Nat.le_of_ble_eq_true rfl) ⟨rfl, rfl, by rw [upd_upd]⟩
  · skip
    refine mt_iload_n (pc := 10) dX11_law_10 rfl ?_
    refine mt_aload_n (pc := 11) dX11_law_11 rfl ?_
    refine mt_mgetI (pc := 12) (x := nI sz) gf_X11_102 dX11_law_12 hx rfl h2 ?_
    refine mt_icmp_gt (pc := 15) (tgt := 29) dX11_law_15 (by decide) (fun c15 => ?_) (fun c15 => ?_)
    · skip
      refine mt_iconst (pc := 29) (v := 0) dX11_law_29 (by decide) ?_
      refine mt_iconst (pc := 30) (v := 1) dX11_law_30 (by decide) ?_
      refine mt_iconst (pc := 31) (v := 1) dX11_law_31 (by decide) ?_
      refine mt_cV (pc := 32) (n_mayN (d := 0) (q := 1) hx (by decide) rfl rfl (by decide)) cal_X11_may vir_X11_may ml_X11_190 dX11_law_32 (by omega) (mos_o _ _ _) (by first | assumption | (show _ ≤ d; omega)) ⟨(Nat.le_of_ble_eq_true rfl), (Nat.le_of_ble_eq_true rfl)⟩ rfl rfl (Nat.le_of_ble_eq_true rfl) ?_
      refine mt_if_ne (pc := 35) (tgt := 40) dX11_law_35 (by decide) (fun c35 => ?_) (fun c35 => ?_)
      · exact absurd rfl c35
      · skip
        refine mt_iconst (pc := 38) (v := 0) dX11_law_38 (by decide) ?_
        exact mt_iret rfl dX11_law_39 (Nat.le_of_ble_eq_true rfl) (Nat.le_of_ble_eq_true rfl) ⟨rfl, rfl, by rw [upd_upd]⟩
    · skip
      refine mt_iload_n (pc := 18) dX11_law_18 rfl ?_
      refine mt_sipush (pc := 19) (v := 150) dX11_law_19 (by decide) ?_
      refine mt_icmp_gt (pc := 22) (tgt := 29) dX11_law_22 (by decide) (fun c22 => ?_) (fun c22 => ?_)
      · skip
        refine mt_iconst (pc := 29) (v := 0) dX11_law_29 (by decide) ?_
        refine mt_iconst (pc := 30) (v := 1) dX11_law_30 (by decide) ?_
        refine mt_iconst (pc := 31) (v := 1) dX11_law_31 (by decide) ?_
        refine mt_cV (pc := 32) (n_mayN (d := 0) (q := 1) hx (by decide) rfl rfl (by decide)) cal_X11_may vir_X11_may ml_X11_190 dX11_law_32 (by omega) (mos_o _ _ _) (by first | assumption | (show _ ≤ d; omega)) ⟨(Nat.le_of_ble_eq_true rfl), (Nat.le_of_ble_eq_true rfl)⟩ rfl rfl (Nat.le_of_ble_eq_true rfl) ?_
        refine mt_if_ne (pc := 35) (tgt := 40) dX11_law_35 (by decide) (fun c35 => ?_) (fun c35 => ?_)
        · exact absurd rfl c35
        · skip
          refine mt_iconst (pc := 38) (v := 0) dX11_law_38 (by decide) ?_
          exact mt_iret rfl dX11_law_39 (Nat.le_of_ble_eq_true rfl) (Nat.le_of_ble_eq_true rfl) ⟨rfl, rfl, by rw [upd_upd]⟩
      · exact absurd ⟨c7, c15, c22⟩ hn
theorem n_law {n sz : Nat} (hd : 40 ≤ d) (hx : 215 ≤ nx) (hT : TP (A 190) b) (hb : BY b) (h2 : g 2 = nI sz) (hsz : sz ≤ 600) (hn : n ≤ sz) (hn2 : n ≤ 150) : mm_Con G l yX11_law cX11_law 3 (some .int) d 0 0 [.ref 188, .int (nI n)] nx (mos h g A) (P_mlaw (lawS b n) nx h g A) := by
  refine mm_start (lo := [some (.ref 188), some (.int (nI n)), none]) pn_X11 rfl rfl (Nat.le_of_ble_eq_true rfl) ?_
  refine mt_aload_n (pc := 0) dX11_law_0 rfl ?_
  refine mt_iconst (pc := 1) (v := 0) dX11_law_1 (by decide) ?_
  refine mt_mput (pc := 2) pf_X11_3 dX11_law_2 hx rfl ?_
  refine mt_aload_n (pc := 5) dX11_law_5 rfl ?_
  refine mt_iload_n (pc := 6) dX11_law_6 rfl ?_
  refine mt_if_lt (pc := 7) (tgt := 29) dX11_law_7 (by decide) (fun c7 => ?_) (fun c7 => ?_)
  · exact absurd c7 (nI_pos (by omega))
  · skip
    refine mt_iload_n (pc := 10) dX11_law_10 rfl ?_
    refine mt_aload_n (pc := 11) dX11_law_11 rfl ?_
    refine mt_mgetI (pc := 12) (x := nI sz) gf_X11_102 dX11_law_12 hx rfl h2 ?_
    refine mt_icmp_gt (pc := 15) (tgt := 29) dX11_law_15 (by decide) (fun c15 => ?_) (fun c15 => ?_)
    · exact absurd c15 (nI_nlt hn (by omega))
    · skip
      refine mt_iload_n (pc := 18) dX11_law_18 rfl ?_
      refine mt_sipush (pc := 19) (v := 150) dX11_law_19 (by decide) ?_
      refine mt_icmp_gt (pc := 22) (tgt := 29) dX11_law_22 (by decide) (fun c22 => ?_) (fun c22 => ?_)
      · exact absurd c22 (nI_nlt (a := 150) hn2 (by decide))
      · skip
        refine mt_iconst (pc := 25) (v := 1) dX11_law_25 (by decide) ?_
        refine mt_goto (pc := 26) (tgt := 30) dX11_law_26 (by decide) ?_
        refine mt_iconst (pc := 30) (v := 1) dX11_law_30 (by decide) ?_
        refine mt_iconst (pc := 31) (v := 1) dX11_law_31 (by decide) ?_
        refine mt_cV (pc := 32) (n_mayY (d := 0) (q := 1) hx rfl (by decide)) cal_X11_may vir_X11_may ml_X11_190 dX11_law_32 (by omega) (mos_o _ _ _) (by first | assumption | (show _ ≤ d; omega)) ⟨(Nat.le_of_ble_eq_true rfl), (Nat.le_of_ble_eq_true rfl)⟩ rfl rfl (Nat.le_of_ble_eq_true rfl) ?_
        refine mt_if_ne (pc := 35) (tgt := 40) dX11_law_35 (by decide) (fun c35 => ?_) (fun c35 => ?_)
        · skip
          refine mt_aload_n (pc := 40) dX11_law_40 rfl ?_
          refine mt_iload_n (pc := 41) dX11_law_41 rfl ?_
          refine mt_cV (pc := 42) (n_begins (d := 0) hx) cal_X11_begins vir_X11_begins ml_X11_194 dX11_law_42 (by omega) (mos_o _ _ _) (by first | assumption | (show _ ≤ d; omega)) ⟨(Nat.le_of_ble_eq_true rfl), (Nat.le_of_ble_eq_true rfl)⟩ rfl rfl (Nat.le_of_ble_eq_true rfl) ?_
          refine mt_aload_n (pc := 45) dX11_law_45 rfl ?_
          refine mt_iconst (pc := 46) (v := 0) dX11_law_46 (by decide) ?_
          refine mt_mput (pc := 47) pf_X11_220 dX11_law_47 hx rfl ?_
          generalize hg1 : upd (upd (upd (upd (upd (upd (upd (upd g 0 0) 2 0) 8 (-1)) 3 (nI n)) 4 0) 5 (-1)) 7 0) 25 0 = g1
          have f3 : g1 3 = nI n := by rw [← hg1]; rfl
          have f4 : g1 4 = nI 0 := by rw [← hg1]; rfl
          have f5 : g1 5 = -1 := by rw [← hg1]; rfl
          have f7 : g1 7 = nI 0 := by rw [← hg1]; rfl
          have f25 : g1 25 = nI 0 := by rw [← hg1]; rfl
          have fk : KPg g g1 ∧ g1 0 = 0 ∧ g1 2 = 0 := by rw [← hg1]; exact ⟨⟨rfl, rfl, rfl, rfl, rfl, rfl, rfl⟩, rfl, rfl⟩
          have hL0 : LSt n g1 A g1 A (.inr (0, [])) := ⟨fun _ _ _ _ _ => rfl, f3, fun _ _ _ => rfl, f5, f4, Nat.zero_le _, f25, fun i k hk => (by cases hk), Nat.le_refl _⟩
          refine mt_aload_n (pc := 50) dX11_law_50 rfl ?_
          refine mt_aV (pc := 51) (n_sumAt hn2 hb 6 34 (by decide) (by decide) nx h g1 A g1 A _ hx hT hL0 f7) cal_X11_readSum vir_X11_readSum ml_X11_235 dX11_law_51 (by omega) (mos_o _ _ _) (by first | assumption | (show _ ≤ d; omega)) ⟨(Nat.le_of_ble_eq_true rfl), (Nat.le_of_ble_eq_true rfl)⟩ rfl rfl (Nat.le_of_ble_eq_true rfl) ?_ ?_
          · rintro x9 n9 k9 h9
            simp at h9
          · rintro v9 n9 k9 ⟨⟨⟩, rfl, g2, A2, rfl, hL⟩
            refine ⟨rfl, ?_⟩
            have eL : apL (.inr (0, [])) (sumS b n 6) = sumS b n 6 0 := by simp only [apL, sbind]; cases sumS b n 6 0 <;> rfl
            rw [eL] at hL
            have kp : ∀ g3 : MG, (∀ j, j ≠ 4 → j ≠ 5 → j ≠ 6 → j ≠ 25 → g3 j = g1 j) → KPg g g3 ∧ g3 0 = 0 ∧ g3 2 = 0 := fun g3 hq => ⟨⟨(hq 18 (by decide) (by decide) (by decide) (by decide)).trans fk.1.1, (hq 19 (by decide) (by decide) (by decide) (by decide)).trans fk.1.2.1, (hq 26 (by decide) (by decide) (by decide) (by decide)).trans fk.1.2.2.1, (hq 31 (by decide) (by decide) (by decide) (by decide)).trans fk.1.2.2.2.1, (hq 32 (by decide) (by decide) (by decide) (by decide)).trans fk.1.2.2.2.2.1, (hq 41 (by decide) (by decide) (by decide) (by decide)).trans fk.1.2.2.2.2.2.1, (hq 50 (by decide) (by decide) (by decide) (by decide)).trans fk.1.2.2.2.2.2.2⟩, (hq 0 (by decide) (by decide) (by decide) (by decide)).trans fk.2.1, (hq 2 (by decide) (by decide) (by decide) (by decide)).trans fk.2.2⟩
            have ka : KPa A A2 := by
              have hq := hL.2.2.1
              exact ⟨hq 189 (by decide) (by decide), hq 190 (by decide) (by decide), hq 194 (by decide) (by decide), hq 195 (by decide) (by decide), hq 196 (by decide) (by decide), hq 199 (by decide) (by decide), hq 200 (by decide) (by decide), hq 205 (by decide) (by decide), hq 207 (by decide) (by decide), hq 209 (by decide) (by decide), hq 214 (by decide) (by decide)⟩
            have bad : ∀ (g3 : MG) (y : Nat × Nat), (∀ j, j ≠ 4 → j ≠ 5 → j ≠ 6 → j ≠ 25 → g3 j = g1 j) → g3 5 = nI y.2 → g3 6 = nI y.1 → y.2 ≤ 600 → lawS b n = .inl y → mm_T (G, l, yX11_law, 3, some .int, d, 0, 0, P_mlaw (lawS b n) n9 h g A, n9) RX11 cX11_law n9 (mos h g3 A2) 0 0 77 [some (.ref 188), some (.int (nI n)), none] [] := by
              intro g3 y hq h5 h6 hy he
              have hnf : ¬ g3 5 = -1 := by rw [h5]; exact nI_m1 (hi := 1000) (by show ((y.2 : Nat) : Int) ≤ 1000; omega)
              rw [he]
              refine mt_aload_n (pc := 77) dX11_law_77 rfl ?_
              refine mt_iconst (pc := 78) (v := 1) dX11_law_78 (by decide) ?_
              refine mt_cV (pc := 79) (n_result (d := 1) (Nat.le_refl 1) hx) cal_X11_result vir_X11_result ml_X11_216 dX11_law_79 (by omega) (mos_o _ _ _) (by show _ ≤ d; omega) ⟨Nat.zero_le _, Nat.zero_le _⟩ rfl rfl (Nat.le_of_ble_eq_true rfl) ?_
              refine mt_istore_n (pc := 82) dX11_law_82 (Nat.le_of_ble_eq_true rfl) rfl ?_
              refine mt_aload_n (pc := 83) dX11_law_83 rfl ?_
              refine mt_mgetI (pc := 84) (x := g3 5) gf_X11_105 dX11_law_84 hx rfl rfl ?_
              refine mt_iconst (pc := 87) (v := -1) dX11_law_87 (by decide) ?_
              refine mt_icmp_eq (pc := 88) (tgt := 93) dX11_law_88 (by decide) (fun c88 => absurd c88 hnf) (fun c88 => ?_)
              refine mt_iload_n (pc := 91) dX11_law_91 rfl ?_
              exact mt_iret rfl dX11_law_92 (Nat.le_of_ble_eq_true rfl) (Nat.le_of_ble_eq_true rfl) ⟨rfl, _, A2, rfl, (kp g3 hq).2.1, (kp g3 hq).2.2, by rw [if_neg hnf, h6], h5, (kp g3 hq).1, ka⟩
            have eW : lawS b n = sbind (sumS b n 6 0) fun x => if sk b n x.1 < n then .inl (1, sk b n x.1) else .inr x.2 := rfl
            rcases hX : sumS b n 6 0 with y | ⟨p, cs⟩
            · rw [hX] at hL eW
              refine mt_aload_n (pc := 54) dX11_law_54 rfl ?_
              refine mt_cV (pc := 55) (n_fineN (d := 0) hx hL.nf) cal_X11_fine vir_X11_fine ml_X11_134 dX11_law_55 (by omega) (mos_o _ _ _) (by show _ ≤ d; omega) ⟨Nat.zero_le _, Nat.zero_le _⟩ rfl rfl (Nat.le_of_ble_eq_true rfl) ?_
              refine mt_if_eq (pc := 58) (tgt := 77) dX11_law_58 (by decide) (fun c58 => ?_) (fun c58 => absurd rfl c58)
              exact bad g2 y hL.1 hL.2.2.2.1 hL.2.2.2.2.1 hL.2.2.2.2.2 eW
            · rw [hX] at hL eW
              obtain ⟨h5, h4, h6, h25, hM, hl⟩ := hL.2.2.2
              dsimp only at h4 h6 h25 hM hl
              have hsk := sk_le (b := b) h6
              refine mt_aload_n (pc := 54) dX11_law_54 rfl ?_
              refine mt_cV (pc := 55) (n_fineY (d := 0) hx h5) cal_X11_fine vir_X11_fine ml_X11_134 dX11_law_55 (by omega) (mos_o _ _ _) (by show _ ≤ d; omega) ⟨Nat.zero_le _, Nat.zero_le _⟩ rfl rfl (Nat.le_of_ble_eq_true rfl) ?_
              refine mt_if_eq (pc := 58) (tgt := 77) dX11_law_58 (by decide) (fun c58 => absurd c58 (by decide)) (fun c58 => ?_)
              refine mt_aload_n (pc := 61) dX11_law_61 rfl ?_
              refine mt_cV (pc := 62) (n_isMore (d := 1) (Nat.le_refl 1) hx (hL.tp hT) hb hL.e (by omega) h4 h6) cal_X11_isMore vir_X11_isMore ml_X11_198 dX11_law_62 (by omega) (mos_o _ _ _) (by show _ ≤ d; omega) ⟨Nat.zero_le _, Nat.zero_le _⟩ rfl rfl (Nat.le_of_ble_eq_true rfl) ?_
              have fr : ∀ j, j ≠ 4 → j ≠ 5 → j ≠ 6 → j ≠ 25 → upd g2 4 (nI (sk b n p)) j = g1 j := fun j a1 a2 a3 a4 => (upd_ne a1).trans (hL.1 j a1 a2 a3 a4)
              refine mt_if_eq (pc := 65) (tgt := 77) dX11_law_65 (by decide) (fun c65 => ?_) (fun c65 => ?_)
              · have hno : ¬ sk b n p < n := fun z => by rw [if_pos z] at c65; exact absurd c65 (by decide)
                have eW2 : lawS b n = .inr cs := eW.trans (if_neg hno)
                rw [eW2]
                refine mt_aload_n (pc := 77) dX11_law_77 rfl ?_
                refine mt_iconst (pc := 78) (v := 1) dX11_law_78 (by decide) ?_
                refine mt_cV (pc := 79) (n_result (d := 1) (Nat.le_refl 1) hx) cal_X11_result vir_X11_result ml_X11_216 dX11_law_79 (by omega) (mos_o _ _ _) (by show _ ≤ d; omega) ⟨Nat.zero_le _, Nat.zero_le _⟩ rfl rfl (Nat.le_of_ble_eq_true rfl) ?_
                refine mt_istore_n (pc := 82) dX11_law_82 (Nat.le_of_ble_eq_true rfl) rfl ?_
                refine mt_aload_n (pc := 83) dX11_law_83 rfl ?_
                refine mt_mgetI (pc := 84) (x := -1) gf_X11_105 dX11_law_84 hx rfl h5 ?_
                refine mt_iconst (pc := 87) (v := -1) dX11_law_87 (by decide) ?_
                refine mt_icmp_eq (pc := 88) (tgt := 93) dX11_law_88 (by decide) (fun c88 => ?_) (fun c88 => absurd rfl c88)
                refine mt_aload_n (pc := 93) dX11_law_93 rfl ?_
                refine mt_aload_n (pc := 94) dX11_law_94 rfl ?_
                refine mt_mgetI (pc := 95) (x := nI cs.length) gf_X11_220 dX11_law_95 hx rfl h25 ?_
                refine mt_mput (pc := 98) pf_X11_164 dX11_law_98 hx rfl ?_
                refine mt_aload_n (pc := 101) dX11_law_101 rfl ?_
                refine mt_aload_n (pc := 102) dX11_law_102 rfl ?_
                refine mt_mget (pc := 103) gf_X11_41 dX11_law_103 hx rfl ?_
                refine mt_aload_n (pc := 106) dX11_law_106 rfl ?_
                refine mt_mget (pc := 107) gf_X11_47 dX11_law_107 hx rfl ?_
                refine mt_aload_n (pc := 110) dX11_law_110 rfl ?_
                refine mt_mgetI (pc := 111) (x := nI cs.length) gf_X11_220 dX11_law_111 hx rfl h25 ?_
                refine mt_cV (pc := 114) (n_copies (d := 0) (i := 197) (j := 199) (n := cs.length) hx rfl rfl (by decide) (by show _ ≤ 150; omega) (by show _ ≤ 150; omega)) cal_X11_copies vir_X11_copies ml_X11_160 dX11_law_114 (by omega) (mos_o _ _ _) (by show _ ≤ d; omega) ⟨Nat.zero_le _, Nat.zero_le _⟩ rfl rfl (Nat.le_of_ble_eq_true rfl) ?_
                refine mt_aload_n (pc := 117) dX11_law_117 rfl ?_
                refine mt_aload_n (pc := 118) dX11_law_118 rfl ?_
                refine mt_mget (pc := 119) gf_X11_44 dX11_law_119 hx rfl ?_
                refine mt_aload_n (pc := 122) dX11_law_122 rfl ?_
                refine mt_mget (pc := 123) gf_X11_50 dX11_law_123 hx rfl ?_
                refine mt_aload_n (pc := 126) dX11_law_126 rfl ?_
                refine mt_mgetI (pc := 127) (x := nI cs.length) gf_X11_220 dX11_law_127 hx rfl h25 ?_
                refine mt_cV (pc := 130) (n_copies (d := 0) (i := 198) (j := 200) (n := cs.length) hx rfl rfl (by decide) (by show _ ≤ 150; omega) (by show _ ≤ 150; omega)) cal_X11_copies vir_X11_copies ml_X11_160 dX11_law_130 (by omega) (mos_o _ _ _) (by show _ ≤ d; omega) ⟨Nat.zero_le _, Nat.zero_le _⟩ rfl rfl (Nat.le_of_ble_eq_true rfl) ?_
                refine mt_iload_n (pc := 133) dX11_law_133 rfl ?_
                have kq := kp _ fr
                refine mt_iret rfl dX11_law_134 (Nat.le_of_ble_eq_true rfl) (Nat.le_of_ble_eq_true rfl) ⟨rfl, _, _, rfl, kq.2.1, kq.2.2, by rw [if_pos (show upd g2 4 (nI (sk b n p)) 5 = -1 from h5)], h5, ⟨kq.1.1, kq.1.2.1, rfl, kq.1.2.2.2.1, kq.1.2.2.2.2.1, kq.1.2.2.2.2.2.1, kq.1.2.2.2.2.2.2⟩, fun i k hk => ?_, ⟨ka.1, ka.2.1, ka.2.2.1, ka.2.2.2.1, ka.2.2.2.2.1, rfl, rfl, ka.2.2.2.2.2.2.2.1, ka.2.2.2.2.2.2.2.2.1, ka.2.2.2.2.2.2.2.2.2.1, ka.2.2.2.2.2.2.2.2.2.2⟩⟩
                have hi : i < cs.length := (List.getElem?_eq_some_iff.mp hk).1
                have := hM i k hk
                exact ⟨(if_pos hi).trans this.1, (if_pos hi).trans this.2⟩
              · have hyes : sk b n p < n := Classical.not_not.mp fun z => c65 (if_neg z)
                refine mt_aload_n (pc := 68) dX11_law_68 rfl ?_
                refine mt_iconst (pc := 69) (v := 1) dX11_law_69 (by decide) ?_
                refine mt_aload_n (pc := 70) dX11_law_70 rfl ?_
                refine mt_mgetI (pc := 71) (x := nI (sk b n p)) gf_X11_111 dX11_law_71 hx rfl rfl ?_
                refine mt_cV (pc := 74) (n_wrong (d := 0) hx h5) cal_X11_wrong vir_X11_wrong ml_X11_141 dX11_law_74 (by omega) (mos_o _ _ _) (by show _ ≤ d; omega) ⟨Nat.zero_le _, Nat.zero_le _⟩ rfl rfl (Nat.le_of_ble_eq_true rfl) ?_
                exact bad _ (1, sk b n p) (fun j a1 a2 a3 a4 => by rw [upd_ne a3, upd_ne a2]; exact fr j a1 a2 a3 a4) rfl rfl (by show sk b n p ≤ 600; omega) (eW.trans (if_pos hyes))
        · exact absurd c35 (by decide)
end MLE
