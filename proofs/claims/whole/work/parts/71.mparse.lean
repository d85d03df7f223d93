/-! The reference reads: blanks, words, numbers, signs. -/
theorem upd_upd (f : Nat → Int32) (k : Nat) (x y : Int32) : upd (upd f k x) k y = upd f k y := by
  funext j
  by_cases hj : j = k
  · subst hj
    rw [upd_eq, upd_eq]
  · rw [upd_ne hj, upd_ne hj, upd_ne hj]
theorem upd_self {f : Nat → Int32} {k : Nat} {x : Int32} (h : f k = x) : upd f k x = f := by
  funext j
  by_cases hj : j = k
  · subst hj
    rw [upd_eq, h]
  · rw [upd_ne hj]
theorem upd_swap (f : Nat → Int32) {k j : Nat} (h : k ≠ j) (x y : Int32) : upd (upd f k x) j y = upd (upd f j y) k x := by
  funext z
  by_cases h1 : z = j
  · subst h1
    rw [upd_eq, upd_ne (Ne.symm h), upd_eq]
  · rw [upd_ne h1]
    by_cases h2 : z = k
    · subst h2
      rw [upd_eq, upd_eq]
    · rw [upd_ne h2, upd_ne h2, upd_ne h1]
/-- a byte as the class has it, and as the reference has it -/
theorem by_all : ∀ n : Nat, n < 256 → (Int32.ofInt ((n : Int) - 128) &&& 255 = 32 ↔ Int32.ofInt ((n : Int) - 128) = 32) ∧ ((¬ Int32.ofInt ((n : Int) - 128) &&& 255 < 97 ∧ ¬ 122 < Int32.ofInt ((n : Int) - 128) &&& 255) ↔ (¬ Int32.ofInt ((n : Int) - 128) < 97 ∧ ¬ 122 < Int32.ofInt ((n : Int) - 128))) ∧ ((¬ Int32.ofInt ((n : Int) - 128) &&& 255 < 48 ∧ ¬ 57 < Int32.ofInt ((n : Int) - 128) &&& 255) ↔ (¬ Int32.ofInt ((n : Int) - 128) < 48 ∧ ¬ 57 < Int32.ofInt ((n : Int) - 128))) ∧ (¬ Int32.ofInt ((n : Int) - 128) < 0 → Int32.ofInt ((n : Int) - 128) &&& 255 = Int32.ofInt ((n : Int) - 128)) ∧ ¬ Int32.ofInt ((n : Int) - 128) &&& 255 < 0 := by decide +kernel
theorem by_of {x : Int32} (h1 : -128 ≤ x.toInt) (h2 : x.toInt < 128) : ∃ n : Nat, n < 256 ∧ x = Int32.ofInt ((n : Int) - 128) := by
  refine ⟨(x.toInt + 128).toNat, by omega, ?_⟩
  rw [show (((x.toInt + 128).toNat : Nat) : Int) - 128 = x.toInt by omega, Int32.ofInt_toInt]
theorem by_sp {x : Int32} (h : -128 ≤ x.toInt ∧ x.toInt < 128) : x &&& 255 = 32 ↔ x = 32 := by
  obtain ⟨n, hn, rfl⟩ := by_of h.1 h.2
  exact (by_all n hn).1
theorem by_L {x : Int32} (h : -128 ≤ x.toInt ∧ x.toInt < 128) : isL (x &&& 255) ↔ isL x := by
  obtain ⟨n, hn, rfl⟩ := by_of h.1 h.2
  exact (by_all n hn).2.1
theorem by_D {x : Int32} (h : -128 ≤ x.toInt ∧ x.toInt < 128) : isD (x &&& 255) ↔ isD x := by
  obtain ⟨n, hn, rfl⟩ := by_of h.1 h.2
  exact (by_all n hn).2.2.1
theorem by_p {x : Int32} (h : -128 ≤ x.toInt ∧ x.toInt < 128) (h0 : ¬ x < 0) : x &&& 255 = x := by
  obtain ⟨n, hn, rfl⟩ := by_of h.1 h.2
  exact (by_all n hn).2.2.2.1 h0
theorem by_n {x : Int32} (h : -128 ≤ x.toInt ∧ x.toInt < 128) : ¬ x &&& 255 < 0 := by
  obtain ⟨n, hn, rfl⟩ := by_of h.1 h.2
  exact (by_all n hn).2.2.2.2
/-- the reference's tape is the class's, byte for byte -/
def TP (T b : Nat → Int32) : Prop := ∀ i, i < 600 → T i = b i &&& 255
/-- the byte behind blanks, 0 at the end -/
def hrk (b : Nat → Int32) (e p : Nat) : Int32 := if sk b e p < e then b (sk b e p) &&& 255 else 0
theorem hrk_pk {b : Nat → Int32} {e p : Nat} {c : Int32} (h0 : ¬ c = 0) (h1 : ¬ c = -1) : hrk b e p = c ↔ pk b e p = c := by
  unfold hrk pk
  split
  · exact Iff.rfl
  · constructor
    · intro h; exact absurd h.symm h0
    · intro h; exact absurd h.symm h1
theorem hrk_D {b : Nat → Int32} {e p : Nat} : isD (hrk b e p) ↔ isD (pk b e p) := by
  unfold hrk pk
  split
  · exact Iff.rfl
  · constructor <;> (intro h; exact absurd h (by decide))
/-- where the reading stands: the FAULT, or the place -/
def PST (e : Nat) (g0 g : MG) (x : (Nat × Nat) ⊕ Nat) : Prop := (∀ j, j ≠ 4 → j ≠ 5 → j ≠ 6 → g j = g0 j) ∧ g0 3 = nI e ∧ match x with
  | .inl y => g 5 = nI y.2 ∧ g 6 = nI y.1 ∧ y.2 ≤ 600
  | .inr p => g 5 = -1 ∧ g 4 = nI p ∧ p ≤ e
theorem PST.e {e : Nat} {g0 g : MG} {x : (Nat × Nat) ⊕ Nat} (h : PST e g0 g x) : g 3 = nI e := (h.1 3 (by decide) (by decide) (by decide)).trans h.2.1
theorem PST.up {e : Nat} {g0 g : MG} {x : (Nat × Nat) ⊕ Nat} (h : PST e g0 g x) {k : Nat} (v : Int32) (hk : 6 < k) : PST e (upd g0 k v) (upd g k v) x := by
  refine ⟨fun j h1 h2 h3 => ?_, by rw [upd_ne (by omega)]; exact h.2.1, ?_⟩
  · by_cases hj : j = k
    · subst hj
      rw [upd_eq, upd_eq]
    · rw [upd_ne hj, upd_ne hj]
      exact h.1 j h1 h2 h3
  · have h3 := h.2.2
    rcases x with y | p
    · exact ⟨by rw [upd_ne (by omega)]; exact h3.1, by rw [upd_ne (by omega)]; exact h3.2.1, h3.2.2⟩
    · exact ⟨by rw [upd_ne (by omega)]; exact h3.1, by rw [upd_ne (by omega)]; exact h3.2.1, h3.2.2⟩
theorem PST.at {e p q : Nat} {g0 g : MG} (h : PST e g0 g (.inr p)) (hq : q ≤ e) : PST e g0 (upd g 4 (nI q)) (.inr q) :=
  ⟨fun j h1 h2 h3 => by rw [upd_ne h1]; exact h.1 j h1 h2 h3, h.2.1, by rw [upd_ne (by decide)]; exact h.2.2.1, upd_eq _ _ _, hq⟩
theorem PST.bad {e p kd pl : Nat} {g0 g : MG} (h : PST e g0 g (.inr p)) (x : Int32) (hq : pl ≤ 600) : PST e g0 (upd (upd (upd g 4 x) 5 (nI pl)) 6 (nI kd)) (.inl (kd, pl)) :=
  ⟨fun j h1 h2 h3 => by rw [upd_ne h3, upd_ne h2, upd_ne h1]; exact h.1 j h1 h2 h3, h.2.1, by rw [upd_ne (by decide), upd_eq], upd_eq _ _ _, hq⟩
section MPA
variable {G : mm_G} {l : Launch} {d nx : Nat} {h : Nat → mm_E} {g : MG} {A : MA} {b : Nat → Int32}
theorem n_fineY (hx : 215 ≤ nx) (h5 : g 5 = -1) : mm_Con G l yX11_fine cX11_fine 1 (some .boolean) d 0 0 [.ref 188] nx (mos h g A) (mm_ret (some (.int 1)) nx (mos h g A)) := by
  refine mm_start (lo := [some (.ref 188)]) pn_X11 rfl rfl (Nat.le_of_ble_eq_true rfl) ?_
  refine mt_aload_n (pc := 0) dX11_fine_0 rfl ?_
  refine mt_mget (pc := 1) gf_X11_105 dX11_fine_1 hx rfl ?_
  refine mt_iconst (pc := 4) (v := (-1)) dX11_fine_4 (by decide) ?_
  refine mt_icmp_ne (pc := 5) (tgt := 12) dX11_fine_5 (by decide) (fun c5 => ?_) (fun c5 => ?_)
  · exact absurd h5 c5
  · skip
    refine mt_iconst (pc := 8) (v := 1) dX11_fine_8 (by decide) ?_
    refine mt_goto (pc := 9) (tgt := 13) dX11_fine_9 (by decide) ?_
    exact mt_zret rfl (by first | exact Or.inl rfl | exact Or.inr rfl) dX11_fine_13 (Nat.le_of_ble_eq_true rfl) (Nat.le_of_ble_eq_true rfl) ⟨rfl, rfl, rfl⟩
theorem n_fineN (hx : 215 ≤ nx) (h5 : ¬ g 5 = -1) : mm_Con G l yX11_fine cX11_fine 1 (some .boolean) d 0 0 [.ref 188] nx (mos h g A) (mm_ret (some (.int 0)) nx (mos h g A)) := by
  refine mm_start (lo := [some (.ref 188)]) pn_X11 rfl rfl (Nat.le_of_ble_eq_true rfl) ?_
  refine mt_aload_n (pc := 0) dX11_fine_0 rfl ?_
  refine mt_mget (pc := 1) gf_X11_105 dX11_fine_1 hx rfl ?_
  refine mt_iconst (pc := 4) (v := (-1)) dX11_fine_4 (by decide) ?_
  refine mt_icmp_ne (pc := 5) (tgt := 12) dX11_fine_5 (by decide) (fun c5 => ?_) (fun c5 => ?_)
  · skip
    refine mt_iconst (pc := 12) (v := 0) dX11_fine_12 (by decide) ?_
    exact mt_zret rfl (by first | exact Or.inl rfl | exact Or.inr rfl) dX11_fine_13 (Nat.le_of_ble_eq_true rfl) (Nat.le_of_ble_eq_true rfl) ⟨rfl, rfl, rfl⟩
  · exact absurd c5 h5
theorem n_wrong {k p : Int32} (hx : 215 ≤ nx) (h5 : g 5 = -1) : mm_Con G l yX11_wrong cX11_wrong 3 none d 0 0 [.ref 188, .int k, .int p] nx (mos h g A) (mm_ret none nx (mos h (upd (upd g 5 p) 6 k) A)) := by
  refine mm_start (lo := [some (.ref 188), some (.int k), some (.int p)]) pn_X11 rfl rfl (Nat.le_of_ble_eq_true rfl) ?_
  refine mt_aload_n (pc := 0) dX11_wrong_0 rfl ?_
  refine mt_mget (pc := 1) gf_X11_105 dX11_wrong_1 hx rfl ?_
  refine mt_iconst (pc := 4) (v := (-1)) dX11_wrong_4 (by decide) ?_
  refine mt_icmp_eq (pc := 5) (tgt := 9) dX11_wrong_5 (by decide) (fun c5 => ?_) (fun c5 => ?_)
  · skip
    refine mt_aload_n (pc := 9) dX11_wrong_9 rfl ?_
    refine mt_iload_n (pc := 10) dX11_wrong_10 rfl ?_
    refine mt_mput (pc := 11) pf_X11_105 dX11_wrong_11 hx rfl ?_
    refine mt_aload_n (pc := 14) dX11_wrong_14 rfl ?_
    refine mt_iload_n (pc := 15) dX11_wrong_15 rfl ?_
    refine mt_mput (pc := 16) pf_X11_108 dX11_wrong_16 hx rfl ?_
    exact mt_vret rfl dX11_wrong_19 (Nat.le_of_ble_eq_true rfl) (Nat.le_of_ble_eq_true rfl) ⟨rfl, rfl, rfl⟩
  · exact absurd h5 c5
theorem l_here {M : mm_M} {kc ks e : Nat} (hx : 215 ≤ nx) (hT : TP (A 190) b) (hb : BY b) (h3 : g 3 = nI e) (he : e ≤ 600) : ∀ (k p : Nat), p + k = e → mm_T M RX11 cX11_here nx (mos h (upd g 4 (nI (skf b e k p))) A) kc ks 38 [some (.ref 188)] [] → mm_T M RX11 cX11_here nx (mos h (upd g 4 (nI p)) A) kc ks 0 [some (.ref 188)] [] := by
  intro k
  induction k with
  | zero =>
    intro p hp hk
    obtain rfl : p = e := by omega
    refine mt_aload_n (pc := 0) dX11_here_0 rfl ?_
    refine mt_mgetI (pc := 1) (x := nI p) gf_X11_111 dX11_here_1 hx rfl rfl ?_
    refine mt_aload_n (pc := 4) dX11_here_4 rfl ?_
    refine mt_mgetI (pc := 5) (x := nI p) gf_X11_114 dX11_here_5 hx rfl h3 ?_
    refine mt_icmp_ge (pc := 8) (tgt := 38) dX11_here_8 (by decide) (fun c8 => ?_) (fun c8 => ?_)
    · exact hk
    · exact absurd (nI_le (Nat.le_refl p) (by omega)) c8
  | succ k ih =>
    intro p hp hk
    have hlt : p < e := by omega
    have e9 := hT p (by omega)
    refine mt_aload_n (pc := 0) dX11_here_0 rfl ?_
    refine mt_mgetI (pc := 1) (x := nI p) gf_X11_111 dX11_here_1 hx rfl rfl ?_
    refine mt_aload_n (pc := 4) dX11_here_4 rfl ?_
    refine mt_mgetI (pc := 5) (x := nI e) gf_X11_114 dX11_here_5 hx rfl h3 ?_
    refine mt_icmp_ge (pc := 8) (tgt := 38) dX11_here_8 (by decide) (fun c8 => ?_) (fun c8 => ?_)
    · exact absurd c8 (nI_ge hlt (by omega))
    · skip
      refine mt_aload_n (pc := 11) dX11_here_11 rfl ?_
      refine mt_mget (pc := 12) gf_X11_20 dX11_here_12 hx rfl ?_
      refine mt_aload_n (pc := 15) dX11_here_15 rfl ?_
      refine mt_mgetI (pc := 16) (x := nI p) gf_X11_111 dX11_here_16 hx rfl rfl ?_
      refine mt_mald (pc := 19) (i := 190) (j := p) (x := b p &&& 255) dX11_here_19 hx rfl rfl (by show _ < 600; omega) e9 ?_
      refine mt_bipush (pc := 20) (v := 32) dX11_here_20 (by decide) ?_
      refine mt_icmp_ne (pc := 22) (tgt := 38) dX11_here_22 (by decide) (fun c22 => ?_) (fun c22 => ?_)
      · (have c22 : ¬ b p = 32 := fun z => c22 ((by_sp (hb p)).mpr z); simp only [skf, hlt, c22, and_false, if_false] at hk; exact hk)
      · skip
        have c22 : b p = 32 := (by_sp (hb p)).mp c22
        refine mt_aload_n (pc := 25) dX11_here_25 rfl ?_
        refine mt_dup (pc := 26) dX11_here_26 rfl ?_
        refine mt_mgetI (pc := 27) (x := nI p) gf_X11_111 dX11_here_27 hx rfl rfl ?_
        refine mt_iconst (pc := 30) (v := 1) dX11_here_30 (by decide) ?_
        refine mt_iaddN (pc := 31) (a := p) (b := 1) dX11_here_31 rfl rfl ?_
        refine mt_mput (pc := 32) pf_X11_111 dX11_here_32 hx rfl ?_
        refine mt_goto (tgt := 0) dX11_here_35 (by decide) ?_
        rw [upd_upd]
        refine ih (p + 1) (by omega) ?_
        have e1 : skf b e (k + 1) p = skf b e k (p + 1) := by simp only [skf]; rw [if_pos ⟨hlt, c22⟩]
        rw [← e1]
        exact hk
theorem n_here {e p : Nat} (hx : 215 ≤ nx) (hT : TP (A 190) b) (hb : BY b) (h3 : g 3 = nI e) (he : e ≤ 600) (h4 : g 4 = nI p) (hp : p ≤ e) : mm_Con G l yX11_here cX11_here 1 (some .int) d 0 0 [.ref 188] nx (mos h g A) (mm_ret (some (.int (hrk b e p))) nx (mos h (upd g 4 (nI (sk b e p))) A)) := by
  refine mm_start (lo := [some (.ref 188)]) pn_X11 rfl rfl (Nat.le_of_ble_eq_true rfl) ?_
  rw [show mos h g A = mos h (upd g 4 (nI p)) A by rw [upd_self h4]]
  refine l_here hx hT hb h3 he (e - p) p (by omega) ?_
  have hq := sk_le (b := b) hp
  show mm_T _ _ _ _ (mos h (upd g 4 (nI (sk b e p))) A) _ _ _ _ _
  have e9 : sk b e p < e → A 190 (sk b e p) = b (sk b e p) &&& 255 := fun z => hT _ (by omega)
  have e8 : hrk b e p = if sk b e p < e then b (sk b e p) &&& 255 else 0 := rfl
  generalize sk b e p = q at hq e9 e8
  refine mt_aload_n (pc := 38) dX11_here_38 rfl ?_
  refine mt_mgetI (pc := 39) (x := nI q) gf_X11_111 dX11_here_39 hx rfl rfl ?_
  refine mt_aload_n (pc := 42) dX11_here_42 rfl ?_
  refine mt_mgetI (pc := 43) (x := nI e) gf_X11_114 dX11_here_43 hx rfl h3 ?_
  refine mt_icmp_ge (pc := 46) (tgt := 61) dX11_here_46 (by decide) (fun c46 => ?_) (fun c46 => ?_)
  · skip
    have hge : ¬ q < e := fun z => nI_ge z (by omega) c46
    refine mt_iconst (pc := 61) (v := 0) dX11_here_61 (by decide) ?_
    exact mt_iret rfl dX11_here_62 (Nat.le_of_ble_eq_true rfl) (Nat.le_of_ble_eq_true rfl) ⟨by rw [e8, if_neg hge], rfl, rfl⟩
  · skip
    have hlt : q < e := Nat.lt_of_not_le fun z => c46 (nI_le z (by omega))
    refine mt_aload_n (pc := 49) dX11_here_49 rfl ?_
    refine mt_mget (pc := 50) gf_X11_20 dX11_here_50 hx rfl ?_
    refine mt_aload_n (pc := 53) dX11_here_53 rfl ?_
    refine mt_mgetI (pc := 54) (x := nI q) gf_X11_111 dX11_here_54 hx rfl rfl ?_
    refine mt_mald (pc := 57) (i := 190) (j := q) (x := b q &&& 255) dX11_here_57 hx rfl rfl (by show _ < 600; omega) (e9 hlt) ?_
    refine mt_goto (pc := 58) (tgt := 62) dX11_here_58 (by decide) ?_
    exact mt_iret rfl dX11_here_62 (Nat.le_of_ble_eq_true rfl) (Nat.le_of_ble_eq_true rfl) ⟨by rw [e8, if_pos hlt], rfl, rfl⟩
theorem n_isMore {e p : Nat} (hd : 1 ≤ d) (hx : 215 ≤ nx) (hT : TP (A 190) b) (hb : BY b) (h3 : g 3 = nI e) (he : e ≤ 600) (h4 : g 4 = nI p) (hp : p ≤ e) : mm_Con G l yX11_isMore cX11_isMore 1 (some .boolean) d 0 0 [.ref 188] nx (mos h g A) (mm_ret (some (.int (if sk b e p < e then 1 else 0))) nx (mos h (upd g 4 (nI (sk b e p))) A)) := by
  have hq := sk_le (b := b) hp
  refine mm_start (lo := [some (.ref 188)]) pn_X11 rfl rfl (Nat.le_of_ble_eq_true rfl) ?_
  refine mt_aload_n (pc := 0) dX11_isMore_0 rfl ?_
  refine mt_cV (pc := 1) (n_here (d := 0) hx hT hb h3 he h4 hp) cal_X11_here vir_X11_here ml_X11_117 dX11_isMore_1 (by omega) (mos_o _ _ _) (by first | assumption | (show _ ≤ d; omega)) ⟨(Nat.le_of_ble_eq_true rfl), (Nat.le_of_ble_eq_true rfl)⟩ rfl rfl (Nat.le_of_ble_eq_true rfl) ?_
  refine mt_pop (pc := 4) dX11_isMore_4 rfl ?_
  refine mt_aload_n (pc := 5) dX11_isMore_5 rfl ?_
  refine mt_mgetI (pc := 6) (x := nI (sk b e p)) gf_X11_111 dX11_isMore_6 hx rfl rfl ?_
  refine mt_aload_n (pc := 9) dX11_isMore_9 rfl ?_
  refine mt_mgetI (pc := 10) (x := nI e) gf_X11_114 dX11_isMore_10 hx rfl h3 ?_
  refine mt_icmp_ge (pc := 13) (tgt := 20) dX11_isMore_13 (by decide) (fun c13 => ?_) (fun c13 => ?_)
  · skip
    have hge : ¬ sk b e p < e := fun z => nI_ge z (by omega) c13
    refine mt_iconst (pc := 20) (v := 0) dX11_isMore_20 (by decide) ?_
    exact mt_zret rfl (by first | exact Or.inl rfl | exact Or.inr rfl) dX11_isMore_21 (Nat.le_of_ble_eq_true rfl) (Nat.le_of_ble_eq_true rfl) ⟨by rw [if_neg hge], rfl, rfl⟩
  · skip
    have hlt : sk b e p < e := Nat.lt_of_not_le fun z => c13 (nI_le z (by omega))
    refine mt_iconst (pc := 16) (v := 1) dX11_isMore_16 (by decide) ?_
    refine mt_goto (pc := 17) (tgt := 21) dX11_isMore_17 (by decide) ?_
    exact mt_zret rfl (by first | exact Or.inl rfl | exact Or.inr rfl) dX11_isMore_21 (Nat.le_of_ble_eq_true rfl) (Nat.le_of_ble_eq_true rfl) ⟨by rw [if_pos hlt], rfl, rfl⟩
theorem l_pass {M : mm_M} {kc ks e : Nat} (hd : 1 ≤ mm_d M) (hroom : kc ≤ mm_mc M ∧ ks ≤ mm_ms M) (hx : 215 ≤ nx) (hT : TP (A 190) b) (hb : BY b) (h3 : g 3 = nI e) (he : e ≤ 600) : ∀ (k p : Nat), p + k = e → mm_T M RX11 cX11_pass nx (mos h (upd g 4 (nI (ltf b e k p))) A) kc ks 39 [some (.ref 188)] [] → mm_T M RX11 cX11_pass nx (mos h (upd g 4 (nI p)) A) kc ks 0 [some (.ref 188)] [] := by
  intro k
  induction k with
  | zero =>
    intro p hp hk
    obtain rfl : p = e := by omega
    refine mt_aload_n (pc := 0) dX11_pass_0 rfl ?_
    refine mt_mgetI (pc := 1) (x := nI p) gf_X11_111 dX11_pass_1 hx rfl rfl ?_
    refine mt_aload_n (pc := 4) dX11_pass_4 rfl ?_
    refine mt_mgetI (pc := 5) (x := nI p) gf_X11_114 dX11_pass_5 hx rfl h3 ?_
    refine mt_icmp_ge (pc := 8) (tgt := 39) dX11_pass_8 (by decide) (fun c8 => ?_) (fun c8 => ?_)
    · exact hk
    · exact absurd (nI_le (Nat.le_refl p) (by omega)) c8
  | succ k ih =>
    intro p hp hk
    have hlt : p < e := by omega
    have e9 := hT p (by omega)
    refine mt_aload_n (pc := 0) dX11_pass_0 rfl ?_
    refine mt_mgetI (pc := 1) (x := nI p) gf_X11_111 dX11_pass_1 hx rfl rfl ?_
    refine mt_aload_n (pc := 4) dX11_pass_4 rfl ?_
    refine mt_mgetI (pc := 5) (x := nI e) gf_X11_114 dX11_pass_5 hx rfl h3 ?_
    refine mt_icmp_ge (pc := 8) (tgt := 39) dX11_pass_8 (by decide) (fun c8 => ?_) (fun c8 => ?_)
    · exact absurd c8 (nI_ge hlt (by omega))
    · skip
      refine mt_aload_n (pc := 11) dX11_pass_11 rfl ?_
      refine mt_mget (pc := 12) gf_X11_20 dX11_pass_12 hx rfl ?_
      refine mt_aload_n (pc := 15) dX11_pass_15 rfl ?_
      refine mt_mgetI (pc := 16) (x := nI p) gf_X11_111 dX11_pass_16 hx rfl rfl ?_
      refine mt_mald (pc := 19) (i := 190) (j := p) (x := b p &&& 255) dX11_pass_19 hx rfl rfl (by show _ < 600; omega) e9 ?_
      refine mt_cS (pc := 20) (n_isSmall (d := 0)) cal_X11_isSmall sta_X11_isSmall ml_X11_121 dX11_pass_20 hd hroom rfl rfl (Nat.le_of_ble_eq_true rfl) ?_
      refine mt_if_eq (pc := 23) (tgt := 39) dX11_pass_23 (by decide) (fun c23 => ?_) (fun c23 => ?_)
      · (have hn : ¬ isL (b p) := fun z => isL_if.mp c23 ((by_L (hb p)).mpr z); simp only [ltf, hlt, true_and] at hk; rw [if_neg hn] at hk; exact hk)
      · skip
        have hn : isL (b p) := (by_L (hb p)).mp (Classical.not_not.mp fun z => c23 (isL_if.mpr z))
        refine mt_aload_n (pc := 26) dX11_pass_26 rfl ?_
        refine mt_dup (pc := 27) dX11_pass_27 rfl ?_
        refine mt_mgetI (pc := 28) (x := nI p) gf_X11_111 dX11_pass_28 hx rfl rfl ?_
        refine mt_iconst (pc := 31) (v := 1) dX11_pass_31 (by decide) ?_
        refine mt_iaddN (pc := 32) (a := p) (b := 1) dX11_pass_32 rfl rfl ?_
        refine mt_mput (pc := 33) pf_X11_111 dX11_pass_33 hx rfl ?_
        refine mt_goto (tgt := 0) dX11_pass_36 (by decide) ?_
        rw [upd_upd]
        refine ih (p + 1) (by omega) ?_
        have e1 : ltf b e (k + 1) p = ltf b e k (p + 1) := by simp only [ltf]; rw [if_pos ⟨hlt, hn⟩]
        rw [← e1]
        exact hk
theorem n_pass {e p : Nat} (hd : 1 ≤ d) (hx : 215 ≤ nx) (hT : TP (A 190) b) (hb : BY b) (h3 : g 3 = nI e) (he : e ≤ 600) (h4 : g 4 = nI p) (hp : p ≤ e) : mm_Con G l yX11_pass cX11_pass 1 none d 0 0 [.ref 188] nx (mos h g A) (mm_ret none nx (mos h (upd g 4 (nI (lt b e p))) A)) := by
  refine mm_start (lo := [some (.ref 188)]) pn_X11 rfl rfl (Nat.le_of_ble_eq_true rfl) ?_
  rw [show mos h g A = mos h (upd g 4 (nI p)) A by rw [upd_self h4]]
  refine l_pass hd ⟨Nat.zero_le _, Nat.zero_le _⟩ hx hT hb h3 he (e - p) p (by omega) ?_
  exact mt_vret rfl dX11_pass_39 (Nat.le_of_ble_eq_true rfl) (Nat.le_of_ble_eq_true rfl) ⟨rfl, rfl, rfl⟩
/-- the number as the reference counts it -/
def mnum (V m : Nat) : Prop := (m = V ∧ V < 100000) ∨ (m = 10000 ∧ 10000 ≤ V)
theorem mnum_lt {V m : Nat} (h : mnum V m) : m < 100000 := by
  rcases h with ⟨h1, h2⟩ | ⟨h1, h2⟩ <;> omega
theorem mnum_hi {V m : Nat} (h : mnum V m) (hm : 9999 < m) : 9999 < V := by
  rcases h with ⟨h1, h2⟩ | ⟨h1, h2⟩ <;> omega
theorem mnum_lo {V m : Nat} (h : mnum V m) (hm : ¬ 9999 < m) : m = V := by
  rcases h with ⟨h1, h2⟩ | ⟨h1, h2⟩ <;> omega
theorem l_rnum {M : mm_M} {kc ks e : Nat} {c0 lw hi : Int32} {q : Nat} (hnL : mm_nL M = 6) (hd : 1 ≤ mm_d M) (hroom : kc ≤ mm_mc M ∧ ks ≤ mm_ms M) (hx : 215 ≤ nx) (hT : TP (A 190) b) (hb : BY b) (h3 : g 3 = nI e) (he : e ≤ 600) : ∀ (k p v m : Nat), p + k = e → mnum v m → (∀ m', mnum (dgf b e k p v).2 m' → mm_T M RX11 cX11_readNumber nx (mos h (upd g 4 (nI (dgf b e k p v).1)) A) kc ks 114 [some (.ref 188), some (.int lw), some (.int hi), some (.int c0), some (.int (nI q)), some (.int (nI m'))] []) → mm_T M RX11 cX11_readNumber nx (mos h (upd g 4 (nI p)) A) kc ks 41 [some (.ref 188), some (.int lw), some (.int hi), some (.int c0), some (.int (nI q)), some (.int (nI m))] [] := by
  intro k
  induction k with
  | zero =>
    intro p v m hp hm hk
    obtain rfl : p = e := by omega
    refine mt_aload_n (pc := 41) dX11_readNumber_41 rfl ?_
    refine mt_mgetI (pc := 42) (x := nI p) gf_X11_111 dX11_readNumber_42 hx rfl rfl ?_
    refine mt_aload_n (pc := 45) dX11_readNumber_45 rfl ?_
    refine mt_mgetI (pc := 46) (x := nI p) gf_X11_114 dX11_readNumber_46 hx rfl h3 ?_
    refine mt_icmp_ge (pc := 49) (tgt := 114) dX11_readNumber_49 (by decide) (fun c49 => ?_) (fun c49 => ?_)
    · exact hk m hm
    · exact absurd (nI_le (Nat.le_refl p) (by omega)) c49
  | succ k ih =>
    intro p v m hp hm hk
    have hlt : p < e := by omega
    have e9 := hT p (by omega)
    have hm9 := mnum_lt hm
    refine mt_aload_n (pc := 41) dX11_readNumber_41 rfl ?_
    refine mt_mgetI (pc := 42) (x := nI p) gf_X11_111 dX11_readNumber_42 hx rfl rfl ?_
    refine mt_aload_n (pc := 45) dX11_readNumber_45 rfl ?_
    refine mt_mgetI (pc := 46) (x := nI e) gf_X11_114 dX11_readNumber_46 hx rfl h3 ?_
    refine mt_icmp_ge (pc := 49) (tgt := 114) dX11_readNumber_49 (by decide) (fun c49 => ?_) (fun c49 => ?_)
    · exact absurd c49 (nI_ge hlt (by omega))
    · skip
      refine mt_aload_n (pc := 52) dX11_readNumber_52 rfl ?_
      refine mt_mget (pc := 53) gf_X11_20 dX11_readNumber_53 hx rfl ?_
      refine mt_aload_n (pc := 56) dX11_readNumber_56 rfl ?_
      refine mt_mgetI (pc := 57) (x := nI p) gf_X11_111 dX11_readNumber_57 hx rfl rfl ?_
      refine mt_mald (pc := 60) (i := 190) (j := p) (x := b p &&& 255) dX11_readNumber_60 hx rfl rfl (by show _ < 600; omega) e9 ?_
      refine mt_cS (pc := 61) (n_isDigit (d := 0)) cal_X11_isDigit sta_X11_isDigit ml_X11_138 dX11_readNumber_61 hd hroom rfl rfl (Nat.le_of_ble_eq_true rfl) ?_
      refine mt_if_eq (pc := 64) (tgt := 114) dX11_readNumber_64 (by decide) (fun c64 => ?_) (fun c64 => ?_)
      · (have hn : ¬ isD (b p) := fun z => isD_if.mp c64 ((by_D (hb p)).mpr z); simp only [dgf, hlt, true_and] at hk; rw [if_neg hn] at hk; exact hk m hm)
      · skip
        have hn : isD (b p) := (by_D (hb p)).mp (Classical.not_not.mp fun z => c64 (isD_if.mpr z))
        obtain ⟨c, hc, hbc⟩ := isD_val hn
        have e1 : dgf b e (k + 1) p v = dgf b e k (p + 1) (v * 10 + c) := by simp only [dgf]; rw [if_pos ⟨hlt, hn⟩, hbc, dig_nI hc]
        rw [e1] at hk
        have hbc2 : b p &&& 255 = nI (48 + c) := by rw [by_p (hb p) (by rw [hbc]; exact nI_pos (by omega)), hbc]
        refine mt_iload (pc := 67) dX11_readNumber_67 rfl ?_
        refine mt_sipush (pc := 69) (v := 9999) dX11_readNumber_69 (by decide) ?_
        refine mt_icmp_le (pc := 72) (tgt := 81) dX11_readNumber_72 (by decide) (fun c72 => ?_) (fun c72 => ?_)
        · skip
          have hm2 : ¬ 9999 < m := fun z => nI_ge (a := 9999) z (by omega) c72
          refine mt_bipush (pc := 81) (v := 10) dX11_readNumber_81 (by decide) ?_
          refine mt_iload (pc := 83) dX11_readNumber_83 rfl ?_
          refine mt_imulN (pc := 85) (a := 10) (b := m) dX11_readNumber_85 rfl rfl ?_
          refine mt_aload_n (pc := 86) dX11_readNumber_86 rfl ?_
          refine mt_mget (pc := 87) gf_X11_20 dX11_readNumber_87 hx rfl ?_
          refine mt_aload_n (pc := 90) dX11_readNumber_90 rfl ?_
          refine mt_mgetI (pc := 91) (x := nI p) gf_X11_111 dX11_readNumber_91 hx rfl rfl ?_
          refine mt_mald (pc := 94) (i := 190) (j := p) (x := nI (48 + c)) dX11_readNumber_94 hx rfl rfl (by show _ < 600; omega) (e9.trans hbc2) ?_
          refine mt_iaddN (pc := 95) (a := 10 * m) (b := 48 + c) dX11_readNumber_95 rfl rfl ?_
          refine mt_bipush (pc := 96) (v := 48) dX11_readNumber_96 (by decide) ?_
          refine mt_isubN (pc := 98) (a := (10 * m) + (48 + c)) (b := 48) dX11_readNumber_98 rfl rfl (by omega) ?_
          refine mt_istore (pc := 99) dX11_readNumber_99 (by rw [hnL]; decide) rfl ?_
          refine mt_aload_n (pc := 101) dX11_readNumber_101 rfl ?_
          refine mt_dup (pc := 102) dX11_readNumber_102 rfl ?_
          refine mt_mgetI (pc := 103) (x := nI p) gf_X11_111 dX11_readNumber_103 hx rfl rfl ?_
          refine mt_iconst (pc := 106) (v := 1) dX11_readNumber_106 (by decide) ?_
          refine mt_iaddN (pc := 107) (a := p) (b := 1) dX11_readNumber_107 rfl rfl ?_
          refine mt_mput (pc := 108) pf_X11_111 dX11_readNumber_108 hx rfl ?_
          refine mt_goto (tgt := 41) dX11_readNumber_111 (by decide) ?_
          rw [upd_upd]
          refine ih (p + 1) (v * 10 + c) (10 * m + (48 + c) - 48) (by omega) (Or.inl ⟨by have := mnum_lo hm hm2; omega, by have := mnum_lo hm hm2; omega⟩) hk
        · skip
          have hm2 : 9999 < m := Nat.lt_of_not_le fun z => c72 (nI_le (b := 9999) z (by decide))
          refine mt_sipush (pc := 75) (v := 10000) dX11_readNumber_75 (by decide) ?_
          refine mt_goto (pc := 78) (tgt := 99) dX11_readNumber_78 (by decide) ?_
          refine mt_istore (pc := 99) dX11_readNumber_99 (by rw [hnL]; decide) rfl ?_
          refine mt_aload_n (pc := 101) dX11_readNumber_101 rfl ?_
          refine mt_dup (pc := 102) dX11_readNumber_102 rfl ?_
          refine mt_mgetI (pc := 103) (x := nI p) gf_X11_111 dX11_readNumber_103 hx rfl rfl ?_
          refine mt_iconst (pc := 106) (v := 1) dX11_readNumber_106 (by decide) ?_
          refine mt_iaddN (pc := 107) (a := p) (b := 1) dX11_readNumber_107 rfl rfl ?_
          refine mt_mput (pc := 108) pf_X11_111 dX11_readNumber_108 hx rfl ?_
          refine mt_goto (tgt := 41) dX11_readNumber_111 (by decide) ?_
          rw [upd_upd]
          refine ih (p + 1) (v * 10 + c) 10000 (by omega) (Or.inr ⟨rfl, by have := mnum_hi hm hm2; omega⟩) hk
/-- what a number read is: 0 behind a FAULT -/
def rvN : (Nat × Nat) ⊕ (Nat × Nat) → Int32
  | .inl _ => 0
  | .inr x => nI x.1
def rpN {α : Type} : (Nat × Nat) ⊕ (α × Nat) → (Nat × Nat) ⊕ Nat
  | .inl y => .inl y
  | .inr x => .inr x.2
/-- what is read behind x -/
def nmS (b : Nat → Int32) (e : Nat) (x : (Nat × Nat) ⊕ Nat) (lw hi : Int32) : (Nat × Nat) ⊕ (Nat × Nat) := sbind x fun p => numS b e p lw hi
theorem n_rnum {e : Nat} {lw hi : Int32} {g0 : MG} {x : (Nat × Nat) ⊕ Nat} (hlw : lw.toInt ≤ 1000) (hhi : hi.toInt ≤ 1000) (hd : 1 ≤ d) (hx : 215 ≤ nx) (hT : TP (A 190) b) (hb : BY b) (he : e ≤ 600) (hP : PST e g0 g x) : mm_Con G l yX11_readNumber cX11_readNumber 6 (some .int) d 0 0 [.ref 188, .int lw, .int hi] nx (mos h g A) (fun o n m => o = .inl (some (.int (rvN (nmS b e x lw hi)))) ∧ n = nx ∧ ∃ g', m = mos h g' A ∧ PST e g0 g' (rpN (nmS b e x lw hi))) := by
  refine mm_start (lo := [some (.ref 188), some (.int lw), some (.int hi), none, none, none]) pn_X11 rfl rfl (Nat.le_of_ble_eq_true rfl) ?_
  rcases x with y | p
  · have h5 : ¬ g 5 = -1 := by rw [hP.2.2.1]; exact nI_m1 (hi := 1000) (by have := hP.2.2.2.2; show ((y.2 : Nat) : Int) ≤ 1000; omega)
    refine mt_aload_n (pc := 0) dX11_readNumber_0 rfl ?_
    refine mt_cV (pc := 1) (n_fineN (d := 0) hx h5) cal_X11_fine vir_X11_fine ml_X11_134 dX11_readNumber_1 (by omega) (mos_o _ _ _) (by first | assumption | (show _ ≤ d; omega)) ⟨(Nat.le_of_ble_eq_true rfl), (Nat.le_of_ble_eq_true rfl)⟩ rfl rfl (Nat.le_of_ble_eq_true rfl) ?_
    refine mt_if_ne (pc := 4) (tgt := 9) dX11_readNumber_4 (by decide) (fun c4 => ?_) (fun c4 => ?_)
    · exact absurd rfl c4
    · skip
      refine mt_iconst (pc := 7) (v := 0) dX11_readNumber_7 (by decide) ?_
      exact mt_iret rfl dX11_readNumber_8 (Nat.le_of_ble_eq_true rfl) (Nat.le_of_ble_eq_true rfl) ⟨rfl, rfl, g, rfl, hP⟩
  · obtain ⟨h5, h4, hp⟩ := hP.2.2
    have hq := sk_le (b := b) hp
    have h3 := hP.e
    have eS : nmS b e (.inr p) lw hi = numS b e p lw hi := rfl
    refine mt_aload_n (pc := 0) dX11_readNumber_0 rfl ?_
    refine mt_cV (pc := 1) (n_fineY (d := 0) hx h5) cal_X11_fine vir_X11_fine ml_X11_134 dX11_readNumber_1 (by omega) (mos_o _ _ _) (by first | assumption | (show _ ≤ d; omega)) ⟨(Nat.le_of_ble_eq_true rfl), (Nat.le_of_ble_eq_true rfl)⟩ rfl rfl (Nat.le_of_ble_eq_true rfl) ?_
    refine mt_if_ne (pc := 4) (tgt := 9) dX11_readNumber_4 (by decide) (fun c4 => ?_) (fun c4 => ?_)
    · skip
      refine mt_aload_n (pc := 9) dX11_readNumber_9 rfl ?_
      refine mt_cV (pc := 10) (n_here (d := 0) hx hT hb h3 he h4 hp) cal_X11_here vir_X11_here ml_X11_117 dX11_readNumber_10 (by omega) (mos_o _ _ _) (by first | assumption | (show _ ≤ d; omega)) ⟨(Nat.le_of_ble_eq_true rfl), (Nat.le_of_ble_eq_true rfl)⟩ rfl rfl (Nat.le_of_ble_eq_true rfl) ?_
      refine mt_istore_n (pc := 13) dX11_readNumber_13 (Nat.le_of_ble_eq_true rfl) rfl ?_
      refine mt_aload_n (pc := 14) dX11_readNumber_14 rfl ?_
      refine mt_mgetI (pc := 15) (x := nI (sk b e p)) gf_X11_111 dX11_readNumber_15 hx rfl rfl ?_
      refine mt_istore (pc := 18) dX11_readNumber_18 (Nat.le_of_ble_eq_true rfl) rfl ?_
      refine mt_iconst (pc := 20) (v := 0) dX11_readNumber_20 (by decide) ?_
      refine mt_istore (pc := 21) dX11_readNumber_21 (Nat.le_of_ble_eq_true rfl) rfl ?_
      refine mt_iload_n (pc := 23) dX11_readNumber_23 rfl ?_
      refine mt_cS (pc := 24) (n_isDigit (d := 0)) cal_X11_isDigit sta_X11_isDigit ml_X11_138 dX11_readNumber_24 (by first | assumption | (show _ ≤ d; omega)) ⟨(Nat.le_of_ble_eq_true rfl), (Nat.le_of_ble_eq_true rfl)⟩ rfl rfl (Nat.le_of_ble_eq_true rfl) ?_
      refine mt_if_ne (pc := 27) (tgt := 41) dX11_readNumber_27 (by decide) (fun c27 => ?_) (fun c27 => ?_)
      · skip
        have hk : isD (pk b e p) := hrk_D.mp (Classical.not_not.mp fun z => c27 (isD_if.mpr z))
        refine l_rnum rfl hd ⟨Nat.zero_le _, Nat.zero_le _⟩ hx hT hb h3 he (e - sk b e p) (sk b e p) 0 0 (by omega) (Or.inl ⟨rfl, by decide⟩) (fun m hm => ?_)
        have hr := dgf_le (b := b) (e - sk b e p) (sk b e p) 0 hq.2
        have hS : numS b e p lw hi = if ((dgf b e (e - sk b e p) (sk b e p) 0).2 : Int) < lw.toInt ∨ hi.toInt < (dgf b e (e - sk b e p) (sk b e p) 0).2 then .inl (2, sk b e p) else .inr ((dgf b e (e - sk b e p) (sk b e p) 0).2, (dgf b e (e - sk b e p) (sk b e p) 0).1) := by rw [numS, if_neg (fun z => z.elim hk.1 hk.2)]
        generalize dgf b e (e - sk b e p) (sk b e p) 0 = R at hr hS hm
        obtain ⟨r, v⟩ := R
        dsimp only at hr hS hm
        have hm9 := mnum_lt hm
        have hmt : (nI m).toInt = (m : Int) := nI_toInt (by omega)
        show mm_T _ _ _ _ (mos h (upd g 4 (nI r)) A) _ _ _ [some (.ref 188), some (.int lw), some (.int hi), some (.int (hrk b e p)), some (.int (nI (sk b e p))), some (.int (nI m))] _
        refine mt_iload (pc := 114) dX11_readNumber_114 rfl ?_
        refine mt_iload_n (pc := 116) dX11_readNumber_116 rfl ?_
        refine mt_icmp_lt (pc := 117) (tgt := 126) dX11_readNumber_117 (by decide) (fun c117 => ?_) (fun c117 => ?_)
        · skip
          have hS2 : numS b e p lw hi = .inl (2, sk b e p) := by
            rw [hS, if_pos]
            have := Int32.lt_iff_toInt_lt.mp c117
            rcases hm with ⟨h1, h2⟩ | ⟨h1, h2⟩ <;> omega
          refine mt_aload_n (pc := 126) dX11_readNumber_126 rfl ?_
          refine mt_iconst (pc := 127) (v := 2) dX11_readNumber_127 (by decide) ?_
          refine mt_iload (pc := 128) dX11_readNumber_128 rfl ?_
          refine mt_cV (pc := 130) (n_wrong (d := 0) hx h5) cal_X11_wrong vir_X11_wrong ml_X11_141 dX11_readNumber_130 (by omega) (mos_o _ _ _) (by first | assumption | (show _ ≤ d; omega)) ⟨(Nat.le_of_ble_eq_true rfl), (Nat.le_of_ble_eq_true rfl)⟩ rfl rfl (Nat.le_of_ble_eq_true rfl) ?_
          refine mt_iconst (pc := 133) (v := 0) dX11_readNumber_133 (by decide) ?_
          exact mt_iret rfl dX11_readNumber_134 (Nat.le_of_ble_eq_true rfl) (Nat.le_of_ble_eq_true rfl) (by rw [eS, hS2]; exact ⟨rfl, rfl, _, rfl, hP.bad _ (by omega)⟩)
        · skip
          refine mt_iload (pc := 120) dX11_readNumber_120 rfl ?_
          refine mt_iload_n (pc := 122) dX11_readNumber_122 rfl ?_
          refine mt_icmp_le (pc := 123) (tgt := 135) dX11_readNumber_123 (by decide) (fun c123 => ?_) (fun c123 => ?_)
          · skip
            have h1 := Int32.le_iff_toInt_le.mp c123
            have h2 := Int32.le_iff_toInt_le.mp (Int32.not_lt.mp c117)
            have hv : m = v := by rcases hm with ⟨h1, h2⟩ | ⟨h1, h2⟩ <;> omega
            subst hv
            refine mt_iload (pc := 135) dX11_readNumber_135 rfl ?_
            exact mt_iret rfl dX11_readNumber_137 (Nat.le_of_ble_eq_true rfl) (Nat.le_of_ble_eq_true rfl) (by rw [eS, hS, if_neg (by omega)]; exact ⟨rfl, rfl, _, rfl, hP.at hr.2⟩)
          · skip
            have hS2 : numS b e p lw hi = .inl (2, sk b e p) := by
              rw [hS, if_pos]
              have := Int32.lt_iff_toInt_lt.mp (Int32.not_le.mp c123)
              rcases hm with ⟨h1, h2⟩ | ⟨h1, h2⟩ <;> omega
            refine mt_aload_n (pc := 126) dX11_readNumber_126 rfl ?_
            refine mt_iconst (pc := 127) (v := 2) dX11_readNumber_127 (by decide) ?_
            refine mt_iload (pc := 128) dX11_readNumber_128 rfl ?_
            refine mt_cV (pc := 130) (n_wrong (d := 0) hx h5) cal_X11_wrong vir_X11_wrong ml_X11_141 dX11_readNumber_130 (by omega) (mos_o _ _ _) (by first | assumption | (show _ ≤ d; omega)) ⟨(Nat.le_of_ble_eq_true rfl), (Nat.le_of_ble_eq_true rfl)⟩ rfl rfl (Nat.le_of_ble_eq_true rfl) ?_
            refine mt_iconst (pc := 133) (v := 0) dX11_readNumber_133 (by decide) ?_
            exact mt_iret rfl dX11_readNumber_134 (Nat.le_of_ble_eq_true rfl) (Nat.le_of_ble_eq_true rfl) (by rw [eS, hS2]; exact ⟨rfl, rfl, _, rfl, hP.bad _ (by omega)⟩)
      · skip
        have hk : ¬ isD (pk b e p) := fun z => isD_if.mp c27 (hrk_D.mpr z)
        refine mt_aload_n (pc := 30) dX11_readNumber_30 rfl ?_
        refine mt_iconst (pc := 31) (v := 1) dX11_readNumber_31 (by decide) ?_
        refine mt_aload_n (pc := 32) dX11_readNumber_32 rfl ?_
        refine mt_mgetI (pc := 33) (x := nI (sk b e p)) gf_X11_111 dX11_readNumber_33 hx rfl rfl ?_
        refine mt_cV (pc := 36) (n_wrong (d := 0) hx h5) cal_X11_wrong vir_X11_wrong ml_X11_141 dX11_readNumber_36 (by omega) (mos_o _ _ _) (by first | assumption | (show _ ≤ d; omega)) ⟨(Nat.le_of_ble_eq_true rfl), (Nat.le_of_ble_eq_true rfl)⟩ rfl rfl (Nat.le_of_ble_eq_true rfl) ?_
        refine mt_iconst (pc := 39) (v := 0) dX11_readNumber_39 (by decide) ?_
        exact mt_iret rfl dX11_readNumber_40 (Nat.le_of_ble_eq_true rfl) (Nat.le_of_ble_eq_true rfl) (by
          have e2 : numS b e p lw hi = .inl (1, sk b e p) := by rw [numS, if_pos (Classical.or_iff_not_imp_left.mpr fun h1 => Classical.not_not.mp fun h2 => hk ⟨h1, h2⟩)]
          rw [eS, e2]
          exact ⟨rfl, rfl, _, rfl, hP.bad _ (by omega)⟩)
    · exact absurd c4 (by decide)
def sgS (b : Nat → Int32) (e : Nat) (x : (Nat × Nat) ⊕ Nat) (c : Int32) : (Nat × Nat) ⊕ Nat := sbind x fun p => signS b e p c
theorem n_sign {e : Nat} {c : Int32} {g0 : MG} {x : (Nat × Nat) ⊕ Nat} (hc0 : ¬ c = 0) (hc1 : ¬ c = -1) (hd : 1 ≤ d) (hx : 215 ≤ nx) (hT : TP (A 190) b) (hb : BY b) (he : e ≤ 600) (hP : PST e g0 g x) : mm_Con G l yX11_sign cX11_sign 2 none d 0 0 [.ref 188, .int c] nx (mos h g A) (fun o n m => o = .inl none ∧ n = nx ∧ ∃ g', m = mos h g' A ∧ PST e g0 g' (sgS b e x c)) := by
  refine mm_start (lo := [some (.ref 188), some (.int c)]) pn_X11 rfl rfl (Nat.le_of_ble_eq_true rfl) ?_
  rcases x with y | p
  · have h5 : ¬ g 5 = -1 := by rw [hP.2.2.1]; exact nI_m1 (hi := 1000) (by have := hP.2.2.2.2; show ((y.2 : Nat) : Int) ≤ 1000; omega)
    refine mt_aload_n (pc := 0) dX11_sign_0 rfl ?_
    refine mt_cV (pc := 1) (n_fineN (d := 0) hx h5) cal_X11_fine vir_X11_fine ml_X11_134 dX11_sign_1 (by omega) (mos_o _ _ _) (by first | assumption | (show _ ≤ d; omega)) ⟨(Nat.le_of_ble_eq_true rfl), (Nat.le_of_ble_eq_true rfl)⟩ rfl rfl (Nat.le_of_ble_eq_true rfl) ?_
    refine mt_if_eq (pc := 4) (tgt := 24) dX11_sign_4 (by decide) (fun c4 => ?_) (fun c4 => ?_)
    · skip
      refine mt_aload_n (pc := 24) dX11_sign_24 rfl ?_
      refine mt_cV (pc := 25) (n_fineN (d := 0) hx h5) cal_X11_fine vir_X11_fine ml_X11_134 dX11_sign_25 (by omega) (mos_o _ _ _) (by first | assumption | (show _ ≤ d; omega)) ⟨(Nat.le_of_ble_eq_true rfl), (Nat.le_of_ble_eq_true rfl)⟩ rfl rfl (Nat.le_of_ble_eq_true rfl) ?_
      refine mt_if_eq (pc := 28) (tgt := 41) dX11_sign_28 (by decide) (fun c28 => ?_) (fun c28 => ?_)
      · skip
        exact mt_vret rfl dX11_sign_41 (Nat.le_of_ble_eq_true rfl) (Nat.le_of_ble_eq_true rfl) ⟨rfl, rfl, g, rfl, hP⟩
      · exact absurd rfl c28
    · exact absurd rfl c4
  · obtain ⟨h5, h4, hp⟩ := hP.2.2
    have hq := sk_le (b := b) hp
    have h3 := hP.e
    refine mt_aload_n (pc := 0) dX11_sign_0 rfl ?_
    refine mt_cV (pc := 1) (n_fineY (d := 0) hx h5) cal_X11_fine vir_X11_fine ml_X11_134 dX11_sign_1 (by omega) (mos_o _ _ _) (by first | assumption | (show _ ≤ d; omega)) ⟨(Nat.le_of_ble_eq_true rfl), (Nat.le_of_ble_eq_true rfl)⟩ rfl rfl (Nat.le_of_ble_eq_true rfl) ?_
    refine mt_if_eq (pc := 4) (tgt := 24) dX11_sign_4 (by decide) (fun c4 => ?_) (fun c4 => ?_)
    · exact absurd c4 (by decide)
    · skip
      refine mt_aload_n (pc := 7) dX11_sign_7 rfl ?_
      refine mt_cV (pc := 8) (n_here (d := 0) hx hT hb h3 he h4 hp) cal_X11_here vir_X11_here ml_X11_117 dX11_sign_8 (by omega) (mos_o _ _ _) (by first | assumption | (show _ ≤ d; omega)) ⟨(Nat.le_of_ble_eq_true rfl), (Nat.le_of_ble_eq_true rfl)⟩ rfl rfl (Nat.le_of_ble_eq_true rfl) ?_
      refine mt_iload_n (pc := 11) dX11_sign_11 rfl ?_
      refine mt_icmp_eq (pc := 12) (tgt := 24) dX11_sign_12 (by decide) (fun c12 => ?_) (fun c12 => ?_)
      · skip
        have hk2 : pk b e p = c := (hrk_pk hc0 hc1).mp c12
        have e2 : sgS b e (.inr p) c = .inr (sk b e p + 1) := if_pos hk2
        refine mt_aload_n (pc := 24) dX11_sign_24 rfl ?_
        refine mt_cV (pc := 25) (n_fineY (d := 0) hx h5) cal_X11_fine vir_X11_fine ml_X11_134 dX11_sign_25 (by omega) (mos_o _ _ _) (by first | assumption | (show _ ≤ d; omega)) ⟨(Nat.le_of_ble_eq_true rfl), (Nat.le_of_ble_eq_true rfl)⟩ rfl rfl (Nat.le_of_ble_eq_true rfl) ?_
        refine mt_if_eq (pc := 28) (tgt := 41) dX11_sign_28 (by decide) (fun c28 => ?_) (fun c28 => ?_)
        · exact absurd c28 (by decide)
        · skip
          refine mt_aload_n (pc := 31) dX11_sign_31 rfl ?_
          refine mt_dup (pc := 32) dX11_sign_32 rfl ?_
          refine mt_mgetI (pc := 33) (x := nI (sk b e p)) gf_X11_111 dX11_sign_33 hx rfl rfl ?_
          refine mt_iconst (pc := 36) (v := 1) dX11_sign_36 (by decide) ?_
          refine mt_iaddN (pc := 37) (a := sk b e p) (b := 1) dX11_sign_37 rfl rfl ?_
          refine mt_mput (pc := 38) pf_X11_111 dX11_sign_38 hx rfl ?_
          exact mt_vret rfl dX11_sign_41 (Nat.le_of_ble_eq_true rfl) (Nat.le_of_ble_eq_true rfl) (by
            rw [e2, upd_upd]
            have hlt : sk b e p < e := by
              by_cases hz : sk b e p < e
              · exact hz
              · rw [pk, if_neg hz] at hk2
                exact absurd hk2.symm hc1
            exact ⟨rfl, rfl, _, rfl, hP.at hlt⟩)
      · skip
        have hk2 : ¬ pk b e p = c := fun z => c12 ((hrk_pk hc0 hc1).mpr z)
        have e2 : sgS b e (.inr p) c = .inl (1, sk b e p) := if_neg hk2
        refine mt_aload_n (pc := 15) dX11_sign_15 rfl ?_
        refine mt_iconst (pc := 16) (v := 1) dX11_sign_16 (by decide) ?_
        refine mt_aload_n (pc := 17) dX11_sign_17 rfl ?_
        refine mt_mgetI (pc := 18) (x := nI (sk b e p)) gf_X11_111 dX11_sign_18 hx rfl rfl ?_
        refine mt_cV (pc := 21) (n_wrong (d := 0) hx h5) cal_X11_wrong vir_X11_wrong ml_X11_141 dX11_sign_21 (by omega) (mos_o _ _ _) (by first | assumption | (show _ ≤ d; omega)) ⟨(Nat.le_of_ble_eq_true rfl), (Nat.le_of_ble_eq_true rfl)⟩ rfl rfl (Nat.le_of_ble_eq_true rfl) ?_
        refine mt_aload_n (pc := 24) dX11_sign_24 rfl ?_
        refine mt_cV (pc := 25) (n_fineN (d := 0) hx (show ¬ nI (sk b e p) = -1 from nI_m1 (hi := 1000) (by show ((sk b e p : Nat) : Int) ≤ 1000; omega))) cal_X11_fine vir_X11_fine ml_X11_134 dX11_sign_25 (by omega) (mos_o _ _ _) (by first | assumption | (show _ ≤ d; omega)) ⟨(Nat.le_of_ble_eq_true rfl), (Nat.le_of_ble_eq_true rfl)⟩ rfl rfl (Nat.le_of_ble_eq_true rfl) ?_
        refine mt_if_eq (pc := 28) (tgt := 41) dX11_sign_28 (by decide) (fun c28 => ?_) (fun c28 => ?_)
        · skip
          exact mt_vret rfl dX11_sign_41 (Nat.le_of_ble_eq_true rfl) (Nat.le_of_ble_eq_true rfl) (by rw [e2]; exact ⟨rfl, rfl, _, rfl, hP.bad _ (by omega)⟩)
        · exact absurd rfl c28
theorem n_begins {n : Int32} (hx : 215 ≤ nx) : mm_Con G l yX11_begins cX11_begins 2 none d 0 0 [.ref 188, .int n] nx (mos h g A) (mm_ret none nx (mos h (upd (upd (upd (upd (upd (upd g 2 0) 8 (-1)) 3 n) 4 0) 5 (-1)) 7 0) A)) := by
  refine mm_start (lo := [some (.ref 188), some (.int n)]) pn_X11 rfl rfl (Nat.le_of_ble_eq_true rfl) ?_
  refine mt_aload_n (pc := 0) dX11_begins_0 rfl ?_
  refine mt_iconst (pc := 1) (v := 0) dX11_begins_1 (by decide) ?_
  refine mt_mput (pc := 2) pf_X11_102 dX11_begins_2 hx rfl ?_
  refine mt_aload_n (pc := 5) dX11_begins_5 rfl ?_
  refine mt_iconst (pc := 6) (v := (-1)) dX11_begins_6 (by decide) ?_
  refine mt_mput (pc := 7) pf_X11_17 dX11_begins_7 hx rfl ?_
  refine mt_aload_n (pc := 10) dX11_begins_10 rfl ?_
  refine mt_iload_n (pc := 11) dX11_begins_11 rfl ?_
  refine mt_mput (pc := 12) pf_X11_114 dX11_begins_12 hx rfl ?_
  refine mt_aload_n (pc := 15) dX11_begins_15 rfl ?_
  refine mt_iconst (pc := 16) (v := 0) dX11_begins_16 (by decide) ?_
  refine mt_mput (pc := 17) pf_X11_111 dX11_begins_17 hx rfl ?_
  refine mt_aload_n (pc := 20) dX11_begins_20 rfl ?_
  refine mt_iconst (pc := 21) (v := (-1)) dX11_begins_21 (by decide) ?_
  refine mt_mput (pc := 22) pf_X11_105 dX11_begins_22 hx rfl ?_
  refine mt_aload_n (pc := 25) dX11_begins_25 rfl ?_
  refine mt_iconst (pc := 26) (v := 0) dX11_begins_26 (by decide) ?_
  refine mt_mput (pc := 27) pf_X11_145 dX11_begins_27 hx rfl ?_
  exact mt_vret rfl dX11_begins_30 (Nat.le_of_ble_eq_true rfl) (Nat.le_of_ble_eq_true rfl) ⟨rfl, rfl, rfl⟩
theorem n_result {v : Int32} (hd : 1 ≤ d) (hx : 215 ≤ nx) : mm_Con G l yX11_result cX11_result 2 (some .int) d 0 0 [.ref 188, .int v] nx (mos h g A) (mm_ret (some (.int (if g 5 = -1 then v else g 6 - 10))) nx (mos h (upd g 8 (g 5)) A)) := by
  refine mm_start (lo := [some (.ref 188), some (.int v)]) pn_X11 rfl rfl (Nat.le_of_ble_eq_true rfl) ?_
  by_cases h5 : g 5 = -1
  · rw [if_pos h5]
    refine mt_aload_n (pc := 0) dX11_result_0 rfl ?_
    refine mt_aload_n (pc := 1) dX11_result_1 rfl ?_
    refine mt_mget (pc := 2) gf_X11_105 dX11_result_2 hx rfl ?_
    refine mt_mput (pc := 5) pf_X11_17 dX11_result_5 hx rfl ?_
    refine mt_aload_n (pc := 8) dX11_result_8 rfl ?_
    refine mt_cV (pc := 9) (n_fineY (d := 0) hx h5) cal_X11_fine vir_X11_fine ml_X11_134 dX11_result_9 (by omega) (mos_o _ _ _) (by first | assumption | (show _ ≤ d; omega)) ⟨(Nat.le_of_ble_eq_true rfl), (Nat.le_of_ble_eq_true rfl)⟩ rfl rfl (Nat.le_of_ble_eq_true rfl) ?_
    refine mt_if_eq (pc := 12) (tgt := 19) dX11_result_12 (by decide) (fun c12 => ?_) (fun c12 => ?_)
    · exact absurd c12 (by decide)
    · skip
      refine mt_iload_n (pc := 15) dX11_result_15 rfl ?_
      refine mt_goto (pc := 16) (tgt := 26) dX11_result_16 (by decide) ?_
      exact mt_iret rfl dX11_result_26 (Nat.le_of_ble_eq_true rfl) (Nat.le_of_ble_eq_true rfl) ⟨rfl, rfl, rfl⟩
  · rw [if_neg h5]
    refine mt_aload_n (pc := 0) dX11_result_0 rfl ?_
    refine mt_aload_n (pc := 1) dX11_result_1 rfl ?_
    refine mt_mget (pc := 2) gf_X11_105 dX11_result_2 hx rfl ?_
    refine mt_mput (pc := 5) pf_X11_17 dX11_result_5 hx rfl ?_
    refine mt_aload_n (pc := 8) dX11_result_8 rfl ?_
    refine mt_cV (pc := 9) (n_fineN (d := 0) hx h5) cal_X11_fine vir_X11_fine ml_X11_134 dX11_result_9 (by omega) (mos_o _ _ _) (by first | assumption | (show _ ≤ d; omega)) ⟨(Nat.le_of_ble_eq_true rfl), (Nat.le_of_ble_eq_true rfl)⟩ rfl rfl (Nat.le_of_ble_eq_true rfl) ?_
    refine mt_if_eq (pc := 12) (tgt := 19) dX11_result_12 (by decide) (fun c12 => ?_) (fun c12 => ?_)
    · skip
      refine mt_aload_n (pc := 19) dX11_result_19 rfl ?_
      refine mt_mget (pc := 20) gf_X11_108 dX11_result_20 hx rfl ?_
      refine mt_bipush (pc := 23) (v := 10) dX11_result_23 (by decide) ?_
      refine mt_isub (pc := 25) dX11_result_25 ?_
      exact mt_iret rfl dX11_result_26 (Nat.le_of_ble_eq_true rfl) (Nat.le_of_ble_eq_true rfl) ⟨rfl, rfl, rfl⟩
    · exact absurd rfl c12
end MPA
