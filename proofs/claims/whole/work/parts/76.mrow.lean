/-! A row of the reference and a row of the class. -/
/-- what rows of the class keep to -/
def RI (k : CS) (f : Nat → Int32) : Prop := RC f ∧ (∀ p, p < 8 → ∃ u, f (4 + p) = nI u ∧ u ≤ 99) ∧ (∀ a, a < 6 → ∃ u, f (12 + a) = nI u ∧ u ≤ 9) ∧ (∀ a, a < 6 → ∃ u, f (18 + a) = nI u ∧ u ≤ 300) ∧ (∃ z, f 1 = nI z ∧ z < 2 ^ k.1) ∧ (∃ u, f 0 = nI u ∧ u ≤ 1000) ∧
  ∀ i, i < nlo f → lsoul f i < k.2.1 ∧ lslab f i < k.1 ∧ (f (24 + 6 * i + 5) = 0 ∨ f (24 + 6 * i + 5) = 1) ∧ ∃ u, f (24 + 6 * i + 2) = nI u ∧ u ≤ 60
/-- the reference's row s is the class's row f -/
def RR (s f : Nat → Int32) : Prop := (∀ p, p < 8 → s p = f (4 + p)) ∧ (∀ p, p < 8 → s (8 + p) = (f 1 >>> (nI p &&& 31)) &&& 1) ∧ (∀ a, a < 6 → s (16 + a) = f (12 + a)) ∧ (∀ a, a < 6 → s (22 + a) = f (18 + a)) ∧ (∀ i, i < 6 * nlo f → s (28 + i) = f (24 + i)) ∧ s 88 = f 3 ∧ s 89 = f 2 ∧ s 90 = f 0
theorem RR_congr {s s' f : Nat → Int32} (h : RR s f) (hc : ∀ j, j < 91 → s' j = s j) (hn : nlo f ≤ 10) : RR s' f := by
  obtain ⟨h1, h2, h3, h4, h5, h6, h7, h8⟩ := h
  exact ⟨fun p hp => (hc _ (by omega)).trans (h1 p hp), fun p hp => (hc _ (by omega)).trans (h2 p hp), fun p hp => (hc _ (by omega)).trans (h3 p hp), fun p hp => (hc _ (by omega)).trans (h4 p hp), fun p hp => (hc _ (by omega)).trans (h5 p hp), (hc _ (by omega)).trans h6, (hc _ (by omega)).trans h7, (hc _ (by omega)).trans h8⟩
theorem unF_at {k : CS} {f : Nat → Int32} : ∀ n j, unF k f n j = if 4 ≤ j ∧ j < 4 + n then k.2.2.2.1 (j - 4) else f j
  | 0, j => by rw [if_neg (by omega)]; rfl
  | n + 1, j => by
    simp only [unF]
    by_cases hj : j = 4 + n
    · subst hj
      rw [upd_eq, if_pos (by omega), show 4 + n - 4 = n by omega]
    · rw [upd_ne hj, unF_at n j]
      by_cases hq : 4 ≤ j ∧ j < 4 + n
      · rw [if_pos hq, if_pos (by omega)]
      · rw [if_neg hq, if_neg (by omega)]
theorem spF_at {k : CS} {f : Nat → Int32} : ∀ n j, n ≤ 6 → spF k f n j = if 12 ≤ j ∧ j < 12 + n then k.2.2.2.2.2.1 (j - 12) else if 18 ≤ j ∧ j < 18 + n then k.2.2.2.2.2.2 (j - 18) else f j
  | 0, j, _ => by rw [if_neg (by omega), if_neg (by omega)]; rfl
  | n + 1, j, hn => by
    simp only [spF]
    by_cases hj : j = 18 + n
    · subst hj
      rw [upd_eq, if_neg (by omega), if_pos (by omega), show 18 + n - 18 = n by omega]
    · rw [upd_ne hj]
      by_cases hj2 : j = 12 + n
      · subst hj2
        rw [upd_eq, if_pos (by omega), show 12 + n - 12 = n by omega]
      · rw [upd_ne hj2, spF_at n j (by omega)]
        by_cases hq : 12 ≤ j ∧ j < 12 + n
        · rw [if_pos hq, if_pos (by omega)]
        · rw [if_neg hq, if_neg (show ¬ (12 ≤ j ∧ j < 12 + (n + 1)) by omega)]
          by_cases hq2 : 18 ≤ j ∧ j < 18 + n
          · rw [if_pos hq2, if_pos (by omega)]
          · rw [if_neg hq2, if_neg (by omega)]
theorem begR_eq {k : CS} (h2 : k.2.1 ≤ 6) (h1 : k.1 ≤ 8) : begR k = begF k := by
  funext j
  unfold begR begF
  rw [spF_at _ j h2, unF_at]
  by_cases a1 : 4 ≤ j ∧ j < 4 + k.1
  · rw [if_pos a1, if_neg (by omega), if_neg (by omega), if_pos a1]
  · rw [if_neg a1, if_neg a1]
theorem begF_nlo {k : CS} (h1 : k.1 ≤ 8) (h2 : k.2.1 ≤ 6) : begF k 3 = 0 ∧ begF k 2 = 0 ∧ begF k 1 = 0 ∧ begF k 0 = 0 := by
  refine ⟨?_, ?_, ?_, ?_⟩ <;> (unfold begF; rw [if_neg (by omega), if_neg (by omega), if_neg (by omega)])
theorem beg_RR {k : CS} {S2 S3 K s : Nat → Int32} (hM : MCN k S2 S3 K) (hs : ∀ j, j < 91 → s j = bgM S2 S3 k.1 k.2.1 j) : RR s (begR k) := by
  obtain ⟨h1, h2, h3, h4, h5⟩ := hM
  rw [begR_eq h2 h1]
  obtain ⟨z3, z2, z1, z0⟩ := begF_nlo h1 h2
  have zn : nlo (begF k) = 0 := by unfold nlo; rw [z3]; rfl
  have hz : ∀ j, j < 91 → 28 ≤ j → s j = 0 := fun j a1 a2 => by rw [hs j a1]; unfold bgM; rw [if_neg (by omega), if_neg (by omega), if_neg (by omega)]
  refine ⟨fun p hp => ?_, fun p hp => ?_, fun a ha => ?_, fun a ha => ?_, fun i hi => by rw [zn] at hi; omega, by rw [hz 88 (by decide) (by decide), z3], by rw [hz 89 (by decide) (by decide), z2], by rw [hz 90 (by decide) (by decide), z0]⟩
  · rw [hs p (by omega)]
    unfold bgM begF
    by_cases a1 : p < k.1
    · rw [if_pos a1, if_pos (by omega), show 4 + p - 4 = p by omega]
      exact (h3 p a1).2.1
    · rw [if_neg a1, if_neg (by omega), if_neg (by omega), if_neg (by omega), if_neg (by omega), if_neg (by omega)]
  · rw [hs _ (by omega), z1]
    unfold bgM
    rw [if_neg (by omega), if_neg (by omega), if_neg (by omega)]
    have := bit32 (s := 0) (i := p) (by decide) (by omega)
    rw [show (0 : Int32) = nI 0 from rfl, this, Nat.zero_div]
  · rw [hs _ (by omega)]
    unfold bgM begF
    by_cases a1 : a < k.2.1
    · rw [if_neg (by omega), if_pos (by omega), if_neg (by omega), if_pos (by omega), show 16 + a - 16 = a by omega, show 12 + a - 12 = a by omega]
      exact (h4 a a1).1
    · rw [if_neg (by omega), if_neg (by omega), if_neg (by omega), if_neg (by omega), if_neg (by omega), if_neg (by omega)]
  · rw [hs _ (by omega)]
    unfold bgM begF
    by_cases a1 : a < k.2.1
    · rw [if_neg (by omega), if_neg (by omega), if_pos (by omega), if_neg (by omega), if_neg (by omega), if_pos (by omega), show 22 + a - 22 = a by omega, show 18 + a - 18 = a by omega]
      exact (h4 a a1).2.1
    · rw [if_neg (by omega), if_neg (by omega), if_neg (by omega), if_neg (by omega), if_neg (by omega), if_neg (by omega)]
theorem beg_RI {k : CS} {S2 S3 K : Nat → Int32} (hM : MCN k S2 S3 K) : RI k (begR k) := by
  obtain ⟨h1, h2, h3, h4, h5⟩ := hM
  have hcn := begR_cn h1 h2
  rw [begR_eq h2 h1] at hcn ⊢
  obtain ⟨z3, z2, z1, z0⟩ := begF_nlo h1 h2
  have zn : nlo (begF k) = 0 := by unfold nlo; rw [z3]; rfl
  refine ⟨⟨⟨0, z3, by decide, fun i hi => absurd hi (Nat.not_lt_zero i)⟩, hcn⟩, fun p hp => ?_, fun a ha => ?_, fun a ha => ?_, ⟨0, z1, Nat.two_pow_pos _⟩, ⟨0, z0, by decide⟩, fun i hi => by rw [zn] at hi; omega⟩
  · unfold begF
    by_cases a1 : p < k.1
    · rw [if_pos (by omega), show 4 + p - 4 = p by omega]
      obtain ⟨u, u1, u2⟩ := (h3 p a1).2.2.1
      exact ⟨u, u1, by omega⟩
    · rw [if_neg (by omega), if_neg (by omega), if_neg (by omega)]
      exact ⟨0, rfl, by decide⟩
  · unfold begF
    by_cases a1 : a < k.2.1
    · rw [if_neg (by omega), if_pos (by omega), show 12 + a - 12 = a by omega]
      exact (h4 a a1).2.2.1
    · rw [if_neg (by omega), if_neg (by omega), if_neg (by omega)]
      exact ⟨0, rfl, by decide⟩
  · unfold begF
    by_cases a1 : a < k.2.1
    · rw [if_neg (by omega), if_neg (by omega), if_pos (by omega), show 18 + a - 18 = a by omega]
      obtain ⟨u, u1, u2⟩ := (h4 a a1).2.2.2
      exact ⟨u, u1, by omega⟩
    · rw [if_neg (by omega), if_neg (by omega), if_neg (by omega)]
      exact ⟨0, rfl, by decide⟩
theorem MCN_congr {k : CS} {S2 S3 K S2' S3' K' : Nat → Int32} (h : MCN k S2 S3 K) (c1 : ∀ q, q < 16 → S2' q = S2 q) (c2 : ∀ q, q < 12 → S3' q = S3 q) (c3 : ∀ q, q < 6 → K' q = K q) : MCN k S2' S3' K' := by
  obtain ⟨h1, h2, h3, h4, h5⟩ := h
  refine ⟨h1, h2, fun p hp => ?_, fun a ha => ?_, fun a ha => ?_⟩
  · rw [c1 _ (by omega), c1 _ (by omega)]
    exact h3 p hp
  · rw [c2 _ (by omega), c2 _ (by omega)]
    exact h4 a ha
  · rw [c3 a ha]
    exact h5 a ha
/-- what the reference keeps over a text that isn't taken -/
def KPg (g g' : MG) : Prop := g' 18 = g 18 ∧ g' 19 = g 19 ∧ g' 26 = g 26 ∧ g' 31 = g 31 ∧ g' 32 = g 32 ∧ g' 41 = g 41 ∧ g' 50 = g 50
def KPa (A A' : MA) : Prop := A' 189 = A 189 ∧ A' 190 = A 190 ∧ A' 194 = A 194 ∧ A' 195 = A 195 ∧ A' 196 = A 196 ∧ A' 199 = A 199 ∧ A' 200 = A 200 ∧ A' 205 = A 205 ∧ A' 207 = A 207 ∧ A' 209 = A 209 ∧ A' 214 = A 214
/-- what county promises of the reference -/
def P_mcnt (z : (Nat × Nat) ⊕ CS) (nx : Nat) (h : Nat → mm_E) (g : MG) (A : MA) : mm_P := fun o n m => n = nx ∧ ∃ g' A', m = mos h g' A' ∧ g' 0 = 0 ∧ g' 2 = 0 ∧ match z with
  | .inl y => o = .inl (some (.int (nI y.1 - 10))) ∧ g' 8 = nI y.2 ∧ KPg g g' ∧ KPa A A'
  | .inr k => o = .inl (some (.int (nI k.1))) ∧ g' 8 = -1 ∧ g' 18 = nI k.1 ∧ g' 19 = nI k.2.1 ∧ g' 26 = 0 ∧ g' 31 = 0 ∧ g' 32 = 0 ∧ g' 41 = 0 ∧ g' 50 = 0 ∧ MCN k (A' 194) (A' 195) (A' 196) ∧ RR (A' 205) (begR k) ∧ A' 189 = A 189 ∧ A' 190 = A 190
section MCT
variable {G : mm_G} {l : Launch} {d nx : Nat} {h : Nat → mm_E} {g : MG} {A : MA} {b : Nat → Int32} {Po : mm_P}
theorem l_cnt {e : Nat} {n : Int32} (hd : 6 ≤ d) (hx : 215 ≤ nx) (hb : BY b) (he : e ≤ 600) : ∀ (m c p : Nat) (g0 g : MG) (A : MA) (k : CS), c + m = 60 → TP (A 190) b → PST e g0 g (.inr p) → g0 16 = nI k.1 → g0 17 = nI k.2.1 → MCN k (A 191) (A 192) (A 193) → (∀ g' A', RCN g0 A (cntS b e (m + 1) c p k) g' A' → mm_T (G, l, yX11_county, 4, some .int, d, 0, 0, Po, nx) RX11 cX11_county nx (mos h g' A') 0 0 164 [some (.ref 188), some (.int n), none, none] []) → mm_T (G, l, yX11_county, 4, some .int, d, 0, 0, Po, nx) RX11 cX11_county nx (mos h g A) 0 0 44 [some (.ref 188), some (.int n), some (.int (nI c)), none] [] := by
  intro m
  induction m with
  | zero =>
    intro c p g0 g A k hc hT hP h16 h17 hM kk
    refine s_cnt hd hx hT hb he (by omega) hP h16 h17 hM (fun z g' A' hz hR => kk g' A' (by rw [cntS_it, hz]; exact hR)) (fun p' k' g' A' hz hc2 => by omega)
  | succ m ih =>
    intro c p g0 g A k hc hT hP h16 h17 hM kk
    refine s_cnt hd hx hT hb he (by omega) hP h16 h17 hM (fun z g' A' hz hR => kk g' A' (by rw [cntS_it, hz]; exact hR)) (fun p' k' g' A' hz hc2 hR hp' hle => ?_)
    obtain ⟨r1, r2, r3, r4, r5, r6⟩ := hR
    refine ih (c + 1) p' g' g' A' k' (by omega) (by rw [r2 190 (by decide) (by decide) (by decide)]; exact hT) ⟨fun _ _ _ _ => rfl, (r1 3 (by decide) (by decide) (by decide) (by decide) (by decide)).trans hP.2.1, r3, hp', hle⟩ r4 r5 r6 (fun g2 A2 hR2 => kk g2 A2 ?_)
    rw [cntS_it, hz]
    exact ⟨fun j a1 a2 a3 a4 a5 => (hR2.1 j a1 a2 a3 a4 a5).trans (r1 j a1 a2 a3 a4 a5), fun j a1 a2 a3 => (hR2.2.1 j a1 a2 a3).trans (r2 j a1 a2 a3), hR2.2.2⟩
theorem n_countyN {n : Int32} {sz : Nat} (hd : 7 ≤ d) (hx : 215 ≤ nx) (h2 : g 2 = nI sz) (hn : ¬ (¬ n < 0 ∧ ¬ nI sz < n)) : mm_Con G l yX11_county cX11_county 4 (some .int) d 0 0 [.ref 188, .int n] nx (mos h g A) (mm_ret (some (.int 0)) nx (mos h (upd g 0 1) (updR A 189 (upd (A 189) 1 (A 189 1 + 1))))) := by
  refine mm_start (lo := [some (.ref 188), some (.int n), none, none]) pn_X11 rfl rfl (Nat.le_of_ble_eq_true rfl) ?_
  refine mt_aload_n (pc := 0) dX11_county_0 rfl ?_
  refine mt_iconst (pc := 1) (v := 0) dX11_county_1 (by decide) ?_
  refine mt_mput (pc := 2) pf_X11_3 dX11_county_2 hx rfl ?_
  refine mt_aload_n (pc := 5) dX11_county_5 rfl ?_
  refine mt_iload_n (pc := 6) dX11_county_6 rfl ?_
  refine mt_if_lt (pc := 7) (tgt := 22) dX11_county_7 (by decide) (fun c7 => ?_) (fun c7 => ?_)
  · skip
    have z9 : n < 0 ∨ nI sz < n := Or.inl c7
    refine mt_iconst (pc := 22) (v := 0) dX11_county_22 (by decide) ?_
    refine mt_iconst (pc := 23) (v := 1) dX11_county_23 (by decide) ?_
    refine mt_iconst (pc := 24) (v := 1) dX11_county_24 (by decide) ?_
    refine mt_cV (pc := 25) (n_mayN (d := 0) (q := 1) hx (by decide) rfl rfl (by decide)) cal_X11_may vir_X11_may ml_X11_190 dX11_county_25 (by omega) (mos_o _ _ _) (by first | assumption | (show _ ≤ d; omega)) ⟨(Nat.le_of_ble_eq_true rfl), (Nat.le_of_ble_eq_true rfl)⟩ rfl rfl (Nat.le_of_ble_eq_true rfl) ?_
    refine mt_if_ne (pc := 28) (tgt := 33) dX11_county_28 (by decide) (fun c28 => ?_) (fun c28 => ?_)
    · exact absurd rfl c28
    · skip
      refine mt_iconst (pc := 31) (v := 0) dX11_county_31 (by decide) ?_
      exact mt_iret rfl dX11_county_32 (Nat.le_of_ble_eq_true rfl) (Nat.le_of_ble_eq_true rfl) ⟨rfl, rfl, by rw [upd_upd]⟩
  · skip
    refine mt_iload_n (pc := 10) dX11_county_10 rfl ?_
    refine mt_aload_n (pc := 11) dX11_county_11 rfl ?_
    refine mt_mgetI (pc := 12) (x := nI sz) gf_X11_102 dX11_county_12 hx rfl h2 ?_
    refine mt_icmp_gt (pc := 15) (tgt := 22) dX11_county_15 (by decide) (fun c15 => ?_) (fun c15 => ?_)
    · skip
      have z9 : n < 0 ∨ nI sz < n := Or.inr c15
      refine mt_iconst (pc := 22) (v := 0) dX11_county_22 (by decide) ?_
      refine mt_iconst (pc := 23) (v := 1) dX11_county_23 (by decide) ?_
      refine mt_iconst (pc := 24) (v := 1) dX11_county_24 (by decide) ?_
      refine mt_cV (pc := 25) (n_mayN (d := 0) (q := 1) hx (by decide) rfl rfl (by decide)) cal_X11_may vir_X11_may ml_X11_190 dX11_county_25 (by omega) (mos_o _ _ _) (by first | assumption | (show _ ≤ d; omega)) ⟨(Nat.le_of_ble_eq_true rfl), (Nat.le_of_ble_eq_true rfl)⟩ rfl rfl (Nat.le_of_ble_eq_true rfl) ?_
      refine mt_if_ne (pc := 28) (tgt := 33) dX11_county_28 (by decide) (fun c28 => ?_) (fun c28 => ?_)
      · exact absurd rfl c28
      · skip
        refine mt_iconst (pc := 31) (v := 0) dX11_county_31 (by decide) ?_
        exact mt_iret rfl dX11_county_32 (Nat.le_of_ble_eq_true rfl) (Nat.le_of_ble_eq_true rfl) ⟨rfl, rfl, by rw [upd_upd]⟩
    · exact absurd ⟨c7, c15⟩ hn
theorem n_county {n sz : Nat} {k0 : CS} (hd : 7 ≤ d) (hx : 215 ≤ nx) (hT : TP (A 190) b) (hb : BY b) (h2 : g 2 = nI sz) (hsz : sz ≤ 600) (hn : n ≤ sz) (hk1 : k0.1 = 0) (hk2 : k0.2.1 = 0) : mm_Con G l yX11_county cX11_county 4 (some .int) d 0 0 [.ref 188, .int (nI n)] nx (mos h g A) (P_mcnt (cntS b n 61 0 0 k0) nx h g A) := by
  refine mm_start (lo := [some (.ref 188), some (.int (nI n)), none, none]) pn_X11 rfl rfl (Nat.le_of_ble_eq_true rfl) ?_
  refine mt_aload_n (pc := 0) dX11_county_0 rfl ?_
  refine mt_iconst (pc := 1) (v := 0) dX11_county_1 (by decide) ?_
  refine mt_mput (pc := 2) pf_X11_3 dX11_county_2 hx rfl ?_
  refine mt_aload_n (pc := 5) dX11_county_5 rfl ?_
  refine mt_iload_n (pc := 6) dX11_county_6 rfl ?_
  refine mt_if_lt (pc := 7) (tgt := 22) dX11_county_7 (by decide) (fun c7 => ?_) (fun c7 => ?_)
  · exact absurd c7 (nI_pos (by omega))
  · skip
    refine mt_iload_n (pc := 10) dX11_county_10 rfl ?_
    refine mt_aload_n (pc := 11) dX11_county_11 rfl ?_
    refine mt_mgetI (pc := 12) (x := nI sz) gf_X11_102 dX11_county_12 hx rfl h2 ?_
    refine mt_icmp_gt (pc := 15) (tgt := 22) dX11_county_15 (by decide) (fun c15 => ?_) (fun c15 => ?_)
    · exact absurd c15 (nI_nlt hn (by omega))
    · skip
      refine mt_iconst (pc := 18) (v := 1) dX11_county_18 (by decide) ?_
      refine mt_goto (pc := 19) (tgt := 23) dX11_county_19 (by decide) ?_
      refine mt_iconst (pc := 23) (v := 1) dX11_county_23 (by decide) ?_
      refine mt_iconst (pc := 24) (v := 1) dX11_county_24 (by decide) ?_
      refine mt_cV (pc := 25) (n_mayY (d := 0) (q := 1) hx rfl (by decide)) cal_X11_may vir_X11_may ml_X11_190 dX11_county_25 (by omega) (mos_o _ _ _) (by first | assumption | (show _ ≤ d; omega)) ⟨(Nat.le_of_ble_eq_true rfl), (Nat.le_of_ble_eq_true rfl)⟩ rfl rfl (Nat.le_of_ble_eq_true rfl) ?_
      refine mt_if_ne (pc := 28) (tgt := 33) dX11_county_28 (by decide) (fun c28 => ?_) (fun c28 => ?_)
      · skip
        refine mt_aload_n (pc := 33) dX11_county_33 rfl ?_
        refine mt_iload_n (pc := 34) dX11_county_34 rfl ?_
        refine mt_cV (pc := 35) (n_begins (d := 0) hx) cal_X11_begins vir_X11_begins ml_X11_194 dX11_county_35 (by omega) (mos_o _ _ _) (by first | assumption | (show _ ≤ d; omega)) ⟨(Nat.le_of_ble_eq_true rfl), (Nat.le_of_ble_eq_true rfl)⟩ rfl rfl (Nat.le_of_ble_eq_true rfl) ?_
        refine mt_aload_n (pc := 38) dX11_county_38 rfl ?_
        refine mt_cV (pc := 39) (n_startsAnew (d := 0) hx) cal_X11_startsAnew vir_X11_startsAnew ml_X11_96 dX11_county_39 (by omega) (mos_o _ _ _) (by first | assumption | (show _ ≤ d; omega)) ⟨(Nat.le_of_ble_eq_true rfl), (Nat.le_of_ble_eq_true rfl)⟩ rfl rfl (Nat.le_of_ble_eq_true rfl) ?_
        refine mt_iconst (pc := 42) (v := 0) dX11_county_42 (by decide) ?_
        refine mt_istore_n (pc := 43) dX11_county_43 (Nat.le_of_ble_eq_true rfl) rfl ?_
        refine l_cnt (e := n) (by omega) hx hb (by omega) 60 0 0 _ _ _ k0 rfl hT ⟨fun _ _ _ _ => rfl, rfl, rfl, rfl, Nat.zero_le _⟩ (by rw [hk1]; rfl) (by rw [hk2]; rfl) (MCN_0 hk1 hk2 (fun a ha => if_pos ha)) (fun g' A' hR => ?_)
        obtain ⟨r1, r2, r3⟩ := hR
        rcases hz : cntS b n 61 0 0 k0 with y | k'
        · rw [hz] at r3
          obtain ⟨r3, r4, r5⟩ := r3
          have h5 : ¬ g' 5 = -1 := by rw [r3]; exact nI_m1 (hi := 1000) (by show ((y.2 : Nat) : Int) ≤ 1000; omega)
          refine mt_aload_n (pc := 164) dX11_county_164 rfl ?_
          refine mt_aload_n (pc := 165) dX11_county_165 rfl ?_
          refine mt_mget (pc := 166) gf_X11_148 dX11_county_166 hx rfl ?_
          refine mt_cV (pc := 169) (n_result (d := 1) (Nat.le_refl 1) hx) cal_X11_result vir_X11_result ml_X11_216 dX11_county_169 (by omega) (mos_o _ _ _) (by show _ ≤ d; omega) ⟨Nat.zero_le _, Nat.zero_le _⟩ rfl rfl (Nat.le_of_ble_eq_true rfl) ?_
          refine mt_istore_n (pc := 172) dX11_county_172 (Nat.le_of_ble_eq_true rfl) rfl ?_
          refine mt_aload_n (pc := 173) dX11_county_173 rfl ?_
          refine mt_mgetI (pc := 174) (x := g' 5) gf_X11_105 dX11_county_174 hx rfl rfl ?_
          refine mt_iconst (pc := 177) (v := -1) dX11_county_177 (by decide) ?_
          refine mt_icmp_ne (pc := 178) (tgt := 185) dX11_county_178 (by decide) (fun c178 => ?_) (fun c178 => ?_)
          · refine mt_iload_n (pc := 185) dX11_county_185 rfl ?_
            exact mt_iret rfl dX11_county_186 (Nat.le_of_ble_eq_true rfl) (Nat.le_of_ble_eq_true rfl) ⟨rfl, _, A', rfl, r1 0 (by decide) (by decide) (by decide) (by decide) (by decide), r1 2 (by decide) (by decide) (by decide) (by decide) (by decide), by rw [if_neg h5, r4], r3, ⟨r1 18 (by decide) (by decide) (by decide) (by decide) (by decide), r1 19 (by decide) (by decide) (by decide) (by decide) (by decide), r1 26 (by decide) (by decide) (by decide) (by decide) (by decide), r1 31 (by decide) (by decide) (by decide) (by decide) (by decide), r1 32 (by decide) (by decide) (by decide) (by decide) (by decide), r1 41 (by decide) (by decide) (by decide) (by decide) (by decide), r1 50 (by decide) (by decide) (by decide) (by decide) (by decide)⟩, ⟨r2 189 (by decide) (by decide) (by decide), r2 190 (by decide) (by decide) (by decide), r2 194 (by decide) (by decide) (by decide), r2 195 (by decide) (by decide) (by decide), r2 196 (by decide) (by decide) (by decide), r2 199 (by decide) (by decide) (by decide), r2 200 (by decide) (by decide) (by decide), r2 205 (by decide) (by decide) (by decide), r2 207 (by decide) (by decide) (by decide), r2 209 (by decide) (by decide) (by decide), r2 214 (by decide) (by decide) (by decide)⟩⟩
          · exact absurd c178 h5
        · rw [hz] at r3
          obtain ⟨r3, r4, r5, hM⟩ := r3
          refine mt_aload_n (pc := 164) dX11_county_164 rfl ?_
          refine mt_aload_n (pc := 165) dX11_county_165 rfl ?_
          refine mt_mgetI (pc := 166) (x := nI k'.1) gf_X11_148 dX11_county_166 hx rfl r4 ?_
          refine mt_cV (pc := 169) (n_result (d := 1) (Nat.le_refl 1) hx) cal_X11_result vir_X11_result ml_X11_216 dX11_county_169 (by omega) (mos_o _ _ _) (by show _ ≤ d; omega) ⟨Nat.zero_le _, Nat.zero_le _⟩ rfl rfl (Nat.le_of_ble_eq_true rfl) ?_
          refine mt_istore_n (pc := 172) dX11_county_172 (Nat.le_of_ble_eq_true rfl) rfl ?_
          refine mt_aload_n (pc := 173) dX11_county_173 rfl ?_
          refine mt_mgetI (pc := 174) (x := g' 5) gf_X11_105 dX11_county_174 hx rfl rfl ?_
          refine mt_iconst (pc := 177) (v := -1) dX11_county_177 (by decide) ?_
          refine mt_icmp_ne (pc := 178) (tgt := 185) dX11_county_178 (by decide) (fun c178 => ?_) (fun c178 => ?_)
          · exact absurd r3 c178
          · refine mt_aload_n (pc := 181) dX11_county_181 rfl ?_
            refine mt_aV (pc := 182) (n_sets (d := 1) (Nat.le_refl 1) hx hM.1 hM.2.1 r4 r5) cal_X11_sets vir_X11_sets ml_X11_99 dX11_county_182 (by omega) (mos_o _ _ _) (by show _ ≤ d; omega) ⟨Nat.le_of_ble_eq_true rfl, Nat.le_of_ble_eq_true rfl⟩ rfl rfl (Nat.le_of_ble_eq_true rfl) ?_ ?_
            · rintro x9 n9 k9 h9
              simp at h9
            · rintro v9 n9 k9 ⟨⟨⟩, rfl, f, rfl, hf⟩
              refine ⟨rfl, ?_⟩
              refine mt_iload_n (pc := 185) dX11_county_185 rfl ?_
              exact mt_iret rfl dX11_county_186 (Nat.le_of_ble_eq_true rfl) (Nat.le_of_ble_eq_true rfl) ⟨rfl, _, _, rfl, r1 0 (by decide) (by decide) (by decide) (by decide) (by decide), r1 2 (by decide) (by decide) (by decide) (by decide) (by decide), by rw [if_pos r3], r3, rfl, rfl, rfl, rfl, rfl, rfl, rfl, MCN_congr hM (fun q hq => cpF_lt hq) (fun q hq => cpF_lt hq) (fun q hq => cpF_lt hq), beg_RR hM hf, r2 189 (by decide) (by decide) (by decide), r2 190 (by decide) (by decide) (by decide)⟩
      · exact absurd c28 (by decide)
end MCT
