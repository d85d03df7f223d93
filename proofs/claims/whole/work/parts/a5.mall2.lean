/-! The reference: all. -/
theorem cmp0 {y : Nat} (hy : y < 2 ^ 63) : lg_cmp (lN y) 0 = 0 ↔ y = 0 := by
  unfold lg_cmp
  constructor
  · intro h
    by_cases h1 : lN y > 0
    · rw [if_pos h1] at h
      cases h
    · rw [if_neg h1] at h
      by_cases h2 : lN y = 0
      · exact (pk_lEQ hy (by decide)).mp h2
      · rw [if_neg h2] at h
        cases h
  · intro h
    subst h
    rfl
section MALL
variable {G : mm_G} {l : Launch} {d nx : Nat} {h : Nat → mm_E} {g : MG} {A : MA} {Po : mm_P}
theorem l_least {a b : Nat} {pp : Int32} : ∀ (m x y : Nat) (w : Option Value), y ≤ m → x < 2 ^ 62 → y < 2 ^ 62 → Nat.gcd x y = Nat.gcd a b → (∀ w', mm_T (G, l, yX11_least, 11, some .long, d, 0, 0, Po, nx) RX11 cX11_least nx h 0 0 31 [some (.long (lN a)), none, some (.long (lN b)), none, some (.int pp), some (.long (lN (Nat.gcd a b))), none, some (.long (lN 0)), none, w', none] []) → mm_T (G, l, yX11_least, 11, some .long, d, 0, 0, Po, nx) RX11 cX11_least nx h 0 0 6 [some (.long (lN a)), none, some (.long (lN b)), none, some (.int pp), some (.long (lN x)), none, some (.long (lN y)), none, w, none] [] := by
  intro m
  induction m with
  | zero =>
    intro x y w hm hx hy hg kk
    obtain rfl : y = 0 := by omega
    rw [Nat.gcd_zero_right] at hg
    subst hg
    refine mt_lload (pc := 6) dX11_least_6 rfl ?_
    refine mt_lconst (pc := 8) (v := 0) dX11_least_8 (by decide) ?_
    refine mt_lcmp (pc := 9) dX11_least_9 ?_
    refine mt_if_eq (pc := 10) (tgt := 31) dX11_least_10 (by decide) (fun c10 => ?_) (fun c10 => ?_)
    · exact kk w
    · exact absurd ((cmp0 (by decide)).mpr rfl) c10
  | succ m ih =>
    intro x y w hm hx hy hg kk
    by_cases h0 : y = 0
    · subst h0
      rw [Nat.gcd_zero_right] at hg
      subst hg
      refine mt_lload (pc := 6) dX11_least_6 rfl ?_
      refine mt_lconst (pc := 8) (v := 0) dX11_least_8 (by decide) ?_
      refine mt_lcmp (pc := 9) dX11_least_9 ?_
      refine mt_if_eq (pc := 10) (tgt := 31) dX11_least_10 (by decide) (fun c10 => ?_) (fun c10 => ?_)
      · exact kk w
      · exact absurd ((cmp0 (by decide)).mpr rfl) c10
    · have hpos : 0 < y := Nat.pos_of_ne_zero h0
      have hmod := Nat.mod_lt x hpos
      refine mt_lload (pc := 6) dX11_least_6 rfl ?_
      refine mt_lconst (pc := 8) (v := 0) dX11_least_8 (by decide) ?_
      refine mt_lcmp (pc := 9) dX11_least_9 ?_
      refine mt_if_eq (pc := 10) (tgt := 31) dX11_least_10 (by decide) (fun c10 => ?_) (fun c10 => ?_)
      · exact absurd ((cmp0 (by omega)).mp c10) h0
      · skip
        refine mt_lload (pc := 13) dX11_least_13 rfl ?_
        refine mt_lload (pc := 15) dX11_least_15 rfl ?_
        refine mt_lrem (pc := 17) dX11_least_17 (fun z => h0 ((pk_lEQ (by omega) (by decide)).mp z)) ?_
        rw [pk_lRem (by omega) hpos (by omega)]
        refine mt_lstore (pc := 18) dX11_least_18 (Nat.le_of_ble_eq_true rfl) rfl ?_
        refine mt_lload (pc := 20) dX11_least_20 rfl ?_
        refine mt_lstore (pc := 22) dX11_least_22 (Nat.le_of_ble_eq_true rfl) rfl ?_
        refine mt_lload (pc := 24) dX11_least_24 rfl ?_
        refine mt_lstore (pc := 26) dX11_least_26 (Nat.le_of_ble_eq_true rfl) rfl ?_
        refine mt_goto (pc := 28) (tgt := 6) dX11_least_28 (by decide) ?_
        exact ih y (x % y) _ (by omega) hy (by omega) (by rw [← hg, Nat.gcd_comm x y, Nat.gcd_rec y x, Nat.gcd_comm]) kk
theorem n_least {a b : Nat} {pp : Int32} (ha : a < 2 ^ 62) (hb : b < 2 ^ 62) (hb0 : 0 < b) : mm_Con G l yX11_least cX11_least 11 (some .long) d 0 0 [.long (lN a), .long (lN b), .int pp] nx h (mm_ret (some (.long (lN (if pp = 0 then a / Nat.gcd a b else b / Nat.gcd a b)))) nx h) := by
  have hg : 0 < Nat.gcd a b := Nat.gcd_pos_of_pos_right a hb0
  have hg2 : Nat.gcd a b ≤ b := Nat.gcd_le_right a hb0
  refine mm_start (lo := [some (.long (lN a)), none, some (.long (lN b)), none, some (.int pp), none, none, none, none, none, none]) pn_X11 rfl rfl (Nat.le_of_ble_eq_true rfl) ?_
  refine mt_lload_n (pc := 0) dX11_least_0 rfl ?_
  refine mt_lstore (pc := 1) dX11_least_1 (Nat.le_of_ble_eq_true rfl) rfl ?_
  refine mt_lload_n (pc := 3) dX11_least_3 rfl ?_
  refine mt_lstore (pc := 4) dX11_least_4 (Nat.le_of_ble_eq_true rfl) rfl ?_
  refine l_least b a b none (Nat.le_refl _) ha hb rfl (fun w' => ?_)
  refine mt_iload (pc := 31) dX11_least_31 rfl ?_
  refine mt_if_ne (pc := 33) (tgt := 40) dX11_least_33 (by decide) (fun c33 => ?_) (fun c33 => ?_)
  · refine mt_lload_n (pc := 40) dX11_least_40 rfl ?_
    refine mt_lload (pc := 41) dX11_least_41 rfl ?_
    refine mt_ldiv (pc := 43) dX11_least_43 (fun z => by have := (pk_lEQ (a := Nat.gcd a b) (b := 0) (by omega) (by decide)).mp z; omega) ?_
    rw [pk_lDiv (by omega) hg (by omega)]
    exact mt_lret rfl dX11_least_44 (Nat.le_of_ble_eq_true rfl) (Nat.le_of_ble_eq_true rfl) ⟨by rw [if_neg c33], rfl, rfl⟩
  · refine mt_lload_n (pc := 36) dX11_least_36 rfl ?_
    refine mt_goto (pc := 37) (tgt := 41) dX11_least_37 (by decide) ?_
    refine mt_lload (pc := 41) dX11_least_41 rfl ?_
    refine mt_ldiv (pc := 43) dX11_least_43 (fun z => by have := (pk_lEQ (a := Nat.gcd a b) (b := 0) (by omega) (by decide)).mp z; omega) ?_
    rw [pk_lDiv (by omega) hg (by omega)]
    exact mt_lret rfl dX11_least_44 (Nat.le_of_ble_eq_true rfl) (Nat.le_of_ble_eq_true rfl) ⟨by rw [if_pos c33], rfl, rfl⟩
def P_mall (r : Nat ⊕ Int64) (nx : Nat) (h : Nat → mm_E) (g : MG) (A : MA) : mm_P := fun o n m => n = nx ∧ match r with
  | .inl x => o = .inl (some (.long 0)) ∧ m = mos h (upd g 0 1) (updR A 189 (upd (A 189) x (A 189 x + 1)))
  | .inr v => o = .inl (some (.long v)) ∧ ∃ F, m = mos (hset h 213 (bkE F)) (upd g 0 0) A
theorem jdn {c : Nat} (hc : c < 14) : (13 - nI c : Int32) + (-1) = 13 - nI (c + 1) := by
  have : ∀ c, c < 14 → (13 - nI c : Int32) + (-1) = 13 - nI (c + 1) := by decide +kernel
  exact this c hc
theorem updL_eq {F : Nat → Int64} {k : Nat} {x : Int64} : vp_updL F k x k = x := if_pos rfl
theorem updL_ne {F : Nat → Int64} {k j : Nat} {x : Int64} (h : j ≠ k) : vp_updL F k x j = F j := if_neg h
theorem n_all {nn kk qq pp : Int32} {F0 : Nat → Int64} (hd : 1 ≤ d) (hx : 215 ≤ nx) (hF : h 213 = bkE F0) : mm_Con G l yX11_all cX11_all 10 (some .long) d 0 0 [.ref 188, .int nn, .int kk, .int qq, .int pp] nx (mos h g A) (P_mall (allR nn kk qq pp) nx h g A) := by
  by_cases hc : (¬ nn < 0 ∧ ¬ 12 < nn) ∧ (¬ kk < 0 ∧ ¬ 13 < kk) ∧ (¬ qq < 0 ∧ ¬ 16 < qq) ∧ (¬ pp < 0 ∧ ¬ 1 < pp)
  · obtain ⟨h1, h2, h3, h4⟩ := id hc
    have er : allR nn kk qq pp = .inr (lN (if pp = 0 then (allN nn.toNatClampNeg kk.toNatClampNeg qq.toNatClampNeg).1 else (allN nn.toNatClampNeg kk.toNatClampNeg qq.toNatClampNeg).2)) := if_pos hc
    rw [er]
    obtain ⟨n, -, hn, rfl⟩ := okR_nI (lo := 0) (hi := 12) h1 (by decide) (by decide)
    obtain ⟨k, -, hk, rfl⟩ := okR_nI (lo := 0) (hi := 13) h2 (by decide) (by decide)
    obtain ⟨q, -, hq, rfl⟩ := okR_nI (lo := 0) (hi := 16) h3 (by decide) (by decide)
    rw [nI_clamp (by omega), nI_clamp (by omega), nI_clamp (by omega), all_gcd hn, ← up_all hn hk]
    have hU : upN q n k (14 - k) < 2 ^ 62 := by
      have := up_le (k := k) hq hn (14 - k)
      have h9 : (14 - k) * 2 ^ 48 ≤ 14 * 2 ^ 48 := Nat.mul_le_mul_right _ (by omega)
      have h8 : 14 * 2 ^ 48 < 2 ^ 62 := by decide
      omega
    have hBb : ∀ i, i ≤ 12 → (16 : Nat) ^ i < 2 ^ 62 := fun i hi => Nat.lt_of_le_of_lt (Nat.pow_le_pow_right (by decide) hi) (by decide)
    obtain ⟨r, hr⟩ : ∃ r : Nat ⊕ Int64, r = .inr (lN (if pp = 0 then upN q n k (14 - k) / Nat.gcd (upN q n k (14 - k)) (16 ^ n) else 16 ^ n / Nat.gcd (upN q n k (14 - k)) (16 ^ n))) := ⟨_, rfl⟩
    have hr2 : r = .inr (lN (if pp = 0 then (upN q n k (14 - k) / Nat.gcd (upN q n k (14 - k)) (16 ^ n), 16 ^ n / Nat.gcd (upN q n k (14 - k)) (16 ^ n)).1 else (upN q n k (14 - k) / Nat.gcd (upN q n k (14 - k)) (16 ^ n), 16 ^ n / Nat.gcd (upN q n k (14 - k)) (16 ^ n)).2)) := hr
    rw [← hr2]
    have fin : ∀ v F, r = .inr v → P_mall r nx h g A (.inl (some (.long v))) nx (mos (hset h 213 (bkE F)) (upd g 0 0) A) := fun v F e => by
      rw [e]
      exact ⟨rfl, rfl, F, rfl⟩
    refine mm_start (lo := [some (.ref 188), some (.int (nI n)), some (.int (nI k)), some (.int (nI q)), some (.int pp), none, none, none, none, none]) pn_X11 rfl rfl (Nat.le_of_ble_eq_true rfl) ?_
    rw [show mos h g A = mos (hset h 213 (bkE F0)) g A by rw [hset_self hF]]
    refine mt_aload_n (pc := 0) dX11_all_0 rfl ?_
    refine mt_iconst (pc := 1) (v := 0) dX11_all_1 (by decide) ?_
    refine mt_mput (pc := 2) pf_X11_3 dX11_all_2 hx rfl ?_
    refine mt_aload_n (pc := 5) dX11_all_5 rfl ?_
    refine mt_iload_n (pc := 6) dX11_all_6 rfl ?_
    refine mt_iconst (pc := 7) (v := 0) dX11_all_7 (by decide) ?_
    refine mt_bipush (pc := 8) (v := 12) dX11_all_8 (by decide) ?_
    refine mt_cS (pc := 10) (n_within (d := 0)) cal_X11_within sta_X11_within ml_X11_348 dX11_all_10 (by first | assumption | (show _ ≤ d; omega)) ⟨(Nat.le_of_ble_eq_true rfl), (Nat.le_of_ble_eq_true rfl)⟩ rfl rfl (Nat.le_of_ble_eq_true rfl) ?_
    rw [in_w h1]
    refine mt_if_eq (pc := 13) (tgt := 50) dX11_all_13 (by decide) (fun c13 => ?_) (fun c13 => ?_)
    · exact absurd c13 (by decide)
    · skip
      refine mt_iload_n (pc := 16) dX11_all_16 rfl ?_
      refine mt_iconst (pc := 17) (v := 0) dX11_all_17 (by decide) ?_
      refine mt_bipush (pc := 18) (v := 13) dX11_all_18 (by decide) ?_
      refine mt_cS (pc := 20) (n_within (d := 0)) cal_X11_within sta_X11_within ml_X11_348 dX11_all_20 (by first | assumption | (show _ ≤ d; omega)) ⟨(Nat.le_of_ble_eq_true rfl), (Nat.le_of_ble_eq_true rfl)⟩ rfl rfl (Nat.le_of_ble_eq_true rfl) ?_
      rw [in_w h2]
      refine mt_if_eq (pc := 23) (tgt := 50) dX11_all_23 (by decide) (fun c23 => ?_) (fun c23 => ?_)
      · exact absurd c23 (by decide)
      · skip
        refine mt_iload_n (pc := 26) dX11_all_26 rfl ?_
        refine mt_iconst (pc := 27) (v := 0) dX11_all_27 (by decide) ?_
        refine mt_bipush (pc := 28) (v := 16) dX11_all_28 (by decide) ?_
        refine mt_cS (pc := 30) (n_within (d := 0)) cal_X11_within sta_X11_within ml_X11_348 dX11_all_30 (by first | assumption | (show _ ≤ d; omega)) ⟨(Nat.le_of_ble_eq_true rfl), (Nat.le_of_ble_eq_true rfl)⟩ rfl rfl (Nat.le_of_ble_eq_true rfl) ?_
        rw [in_w h3]
        refine mt_if_eq (pc := 33) (tgt := 50) dX11_all_33 (by decide) (fun c33 => ?_) (fun c33 => ?_)
        · exact absurd c33 (by decide)
        · skip
          refine mt_iload (pc := 36) dX11_all_36 rfl ?_
          refine mt_iconst (pc := 38) (v := 0) dX11_all_38 (by decide) ?_
          refine mt_iconst (pc := 39) (v := 1) dX11_all_39 (by decide) ?_
          refine mt_cS (pc := 40) (n_within (d := 0)) cal_X11_within sta_X11_within ml_X11_348 dX11_all_40 (by first | assumption | (show _ ≤ d; omega)) ⟨(Nat.le_of_ble_eq_true rfl), (Nat.le_of_ble_eq_true rfl)⟩ rfl rfl (Nat.le_of_ble_eq_true rfl) ?_
          rw [in_w h4]
          refine mt_if_eq (pc := 43) (tgt := 50) dX11_all_43 (by decide) (fun c43 => ?_) (fun c43 => ?_)
          · exact absurd c43 (by decide)
          · skip
            refine mt_iconst (pc := 46) (v := 1) dX11_all_46 (by decide) ?_
            refine mt_goto (pc := 47) (tgt := 51) dX11_all_47 (by decide) ?_
            refine mt_iconst (pc := 51) (v := 1) dX11_all_51 (by decide) ?_
            refine mt_iconst (pc := 52) (v := 1) dX11_all_52 (by decide) ?_
            refine mt_cV (pc := 53) (n_mayY (d := 0) (q := 1) hx rfl (by decide)) cal_X11_may vir_X11_may ml_X11_190 dX11_all_53 (by omega) (mos_o _ _ _) (by first | assumption | (show _ ≤ d; omega)) ⟨(Nat.le_of_ble_eq_true rfl), (Nat.le_of_ble_eq_true rfl)⟩ rfl rfl (Nat.le_of_ble_eq_true rfl) ?_
            refine mt_if_ne (pc := 56) (tgt := 61) dX11_all_56 (by decide) (fun c56 => ?_) (fun c56 => ?_)
            · skip
              refine mt_iconst (pc := 61) (v := 0) dX11_all_61 (by decide) ?_
              refine mt_istore (pc := 62) dX11_all_62 (Nat.le_of_ble_eq_true rfl) rfl ?_
              refine mt_forE (pc := 64) (α := Nat → Int64) (H := fun c (F : Nat → Int64) => mos (hset h 213 (bkE F)) (upd g 0 0) A) (L := fun c (F : Nat → Int64) => [some (.ref 188), some (.int (nI n)), some (.int (nI k)), some (.int (nI q)), some (.int pp), some (.int (nI c)), none, none, none, none]) (I := fun c (F : Nat → Int64) => ∀ t, t < c → F t = lN (dpN q 0 t)) 14 (fun c F hc fc nc => ?_) (fun F fc => ?_) F0 (fun t ht => absurd ht (Nat.not_lt_zero t))
              · skip
                refine mt_iload (pc := 64) dX11_all_64 rfl ?_
                refine mt_bipush (pc := 66) (v := 14) dX11_all_66 (by decide) ?_
                refine mt_icmp_ge (pc := 68) (tgt := 94) dX11_all_68 (by decide) (fun c68 => ?_) (fun c68 => ?_)
                · exact absurd c68 (nI_ge (b := 14) hc (by decide))
                · skip
                  refine mt_aload_n (pc := 71) dX11_all_71 rfl ?_
                  refine mt_mget (pc := 72) gf_X11_89 dX11_all_72 hx rfl ?_
                  refine mt_iload (pc := 75) dX11_all_75 rfl ?_
                  refine mt_iload (pc := 77) dX11_all_77 rfl ?_
                  refine mt_if_ne (pc := 79) (tgt := 86) dX11_all_79 (by decide) (fun c79 => ?_) (fun c79 => ?_)
                  · skip
                    have ez : ¬ c = 0 := fun z => c79 (by rw [z]; rfl)
                    refine mt_lconst (pc := 86) (v := 0) dX11_all_86 (by decide) ?_
                    refine mt_mlast (pc := 87) (j := c) dX11_all_87 hx rfl (by omega) ?_
                    refine mt_iinc (pc := 88) (c9 := 1) dX11_all_88 rfl (by decide) (Nat.le_of_ble_eq_true rfl) rfl ?_
                    refine mt_goto (pc := 91) (tgt := 64) dX11_all_91 (by decide) ?_
                    rw [show (nI c + 1 : Int32) = nI (c + 1) from nI_1 c]
                    refine nc _ (fun t ht => ?_)
                    by_cases z : t = c
                    · subst z
                      rw [updL_eq]
                      show _ = lN (if t = 0 then 1 else 0)
                      rw [if_neg ez]
                      rfl
                    · rw [updL_ne z]
                      exact fc t (by omega)
                  · skip
                    have ez : c = 0 := (nI_eq (by omega) (by decide)).mp c79
                    refine mt_lconst (pc := 82) (v := 1) dX11_all_82 (by decide) ?_
                    refine mt_goto (pc := 83) (tgt := 87) dX11_all_83 (by decide) ?_
                    refine mt_mlast (pc := 87) (j := c) dX11_all_87 hx rfl (by omega) ?_
                    refine mt_iinc (pc := 88) (c9 := 1) dX11_all_88 rfl (by decide) (Nat.le_of_ble_eq_true rfl) rfl ?_
                    refine mt_goto (pc := 91) (tgt := 64) dX11_all_91 (by decide) ?_
                    rw [show (nI c + 1 : Int32) = nI (c + 1) from nI_1 c]
                    refine nc _ (fun t ht => ?_)
                    by_cases z : t = c
                    · subst z
                      rw [updL_eq]
                      show _ = lN (if t = 0 then 1 else 0)
                      rw [if_pos ez]
                      rfl
                    · rw [updL_ne z]
                      exact fc t (by omega)
              · skip
                refine mt_iload (pc := 64) dX11_all_64 rfl ?_
                refine mt_bipush (pc := 66) (v := 14) dX11_all_66 (by decide) ?_
                refine mt_icmp_ge (pc := 68) (tgt := 94) dX11_all_68 (by decide) (fun c68 => ?_) (fun c68 => ?_)
                · skip
                  refine mt_lconst (pc := 94) (v := 1) dX11_all_94 (by decide) ?_
                  refine mt_lstore (pc := 95) dX11_all_95 (Nat.le_of_ble_eq_true rfl) rfl ?_
                  refine mt_iconst (pc := 97) (v := 0) dX11_all_97 (by decide) ?_
                  refine mt_istore (pc := 98) dX11_all_98 (Nat.le_of_ble_eq_true rfl) rfl ?_
                  refine mt_forE (pc := 100) (α := Nat → Int64) (H := fun i (F : Nat → Int64) => mos (hset h 213 (bkE F)) (upd g 0 0) A) (L := fun i (F : Nat → Int64) => [some (.ref 188), some (.int (nI n)), some (.int (nI k)), some (.int (nI q)), some (.int pp), some (.long (lN (16 ^ i))), none, some (.int (nI i)), none, none]) (I := fun i (F : Nat → Int64) => ∀ t, t < 14 → F t = lN (dpN q i t)) n (fun i F hi fi ni => ?_) (fun F fi => ?_) F fc
                  · skip
                    refine mt_iload (pc := 100) dX11_all_100 rfl ?_
                    refine mt_iload_n (pc := 102) dX11_all_102 rfl ?_
                    refine mt_icmp_ge (pc := 103) (tgt := 177) dX11_all_103 (by decide) (fun c103 => ?_) (fun c103 => ?_)
                    · exact absurd c103 (nI_ge hi (by first | omega | decide))
                    · skip
                      refine mt_bipush (pc := 106) (v := 13) dX11_all_106 (by decide) ?_
                      refine mt_istore (pc := 108) dX11_all_108 (Nat.le_of_ble_eq_true rfl) rfl ?_
                      refine mt_forE (pc := 110) (α := Nat → Int64) (H := fun c (F2 : Nat → Int64) => mos (hset h 213 (bkE F2)) (upd g 0 0) A) (L := fun c (F2 : Nat → Int64) => [some (.ref 188), some (.int (nI n)), some (.int (nI k)), some (.int (nI q)), some (.int pp), some (.long (lN (16 ^ i))), none, some (.int (nI i)), some (.int (13 - nI c)), none]) (I := fun c (F2 : Nat → Int64) => ∀ t, t < 14 → F2 t = lN (if 13 < t + c then dpN q (i + 1) t else dpN q i t)) 14 (fun c F2 hc fc nc => ?_) (fun F2 fc => ?_) F (fun t ht => by rw [if_neg (by omega)]; exact fi t ht)
                      · skip
                        have ej : (13 - nI c : Int32) = nI (13 - c) := pk_sub (a := 13) (by omega)
                        rw [ej]
                        refine mt_iload (pc := 110) dX11_all_110 rfl ?_
                        refine mt_if_lt (pc := 112) (tgt := 163) dX11_all_112 (by decide) (fun c112 => ?_) (fun c112 => ?_)
                        · exact absurd c112 (nI_pos (by omega))
                        · skip
                          refine mt_aload_n (pc := 115) dX11_all_115 rfl ?_
                          refine mt_mget (pc := 116) gf_X11_89 dX11_all_116 hx rfl ?_
                          refine mt_iload (pc := 119) dX11_all_119 rfl ?_
                          refine mt_aload_n (pc := 121) dX11_all_121 rfl ?_
                          refine mt_mget (pc := 122) gf_X11_89 dX11_all_122 hx rfl ?_
                          refine mt_iload (pc := 125) dX11_all_125 rfl ?_
                          refine mt_mlald (pc := 127) (j := 13 - c) (x := lN (dpN q i (13 - c))) dX11_all_127 hx rfl (by omega) (by rw [fc _ (by omega), if_neg (by omega)]) ?_
                          refine mt_bipush (pc := 128) (v := 16) dX11_all_128 (by decide) ?_
                          refine mt_iload_n (pc := 130) dX11_all_130 rfl ?_
                          refine mt_isub (pc := 131) dX11_all_131 ?_
                          rw [show (16 - nI q : Int32) = nI (16 - q) from pk_sub (a := 16) hq]
                          refine mt_i2l (pc := 132) dX11_all_132 rfl ?_
                          rw [nI_l (by omega)]
                          refine mt_lmul (pc := 133) dX11_all_133 ?_
                          rw [lN_mul]
                          refine mt_iload (pc := 134) dX11_all_134 rfl ?_
                          refine mt_if_le (pc := 136) (tgt := 154) dX11_all_136 (by decide) (fun c136 => ?_) (fun c136 => ?_)
                          · skip
                            have z0 : 13 - c = 0 := by
                              rcases Nat.eq_zero_or_pos (13 - c) with z | z
                              · exact z
                              · exact absurd c136 (nI_ge (a := 0) z (by omega))
                            refine mt_lconst (pc := 154) (v := 0) dX11_all_154 (by decide) ?_
                            rw [show (0 : Int64) = lN 0 from rfl]
                            refine mt_ladd (pc := 155) dX11_all_155 ?_
                            rw [lN_add]
                            refine mt_mlast (pc := 156) (j := 13 - c) dX11_all_156 hx rfl (by omega) ?_
                            refine mt_iinc (pc := 157) (c9 := (-1)) dX11_all_157 rfl (by decide) (Nat.le_of_ble_eq_true rfl) rfl ?_
                            refine mt_goto (pc := 160) (tgt := 110) dX11_all_160 (by decide) ?_
                            rw [← ej, jdn hc]
                            refine nc _ (fun t ht => ?_)
                            by_cases z : t = 13 - c
                            · rw [z, updL_eq, if_pos (by omega)]
                              show _ = lN (dpN q i (13 - c) * (16 - q) + (if 0 < 13 - c then dpN q i (13 - c - 1) * q else 0))
                              rw [if_neg (by omega)]
                            · rw [updL_ne z, fc t ht]
                              by_cases y : 13 < t + c
                              · rw [if_pos y, if_pos (by omega)]
                              · rw [if_neg y, if_neg (by omega)]
                          · skip
                            have z0 : 0 < 13 - c := Nat.pos_of_ne_zero fun z => c136 (by rw [z]; exact Int32.le_refl _)
                            refine mt_aload_n (pc := 139) dX11_all_139 rfl ?_
                            refine mt_mget (pc := 140) gf_X11_89 dX11_all_140 hx rfl ?_
                            refine mt_iload (pc := 143) dX11_all_143 rfl ?_
                            refine mt_iconst (pc := 145) (v := 1) dX11_all_145 (by decide) ?_
                            refine mt_isub (pc := 146) dX11_all_146 ?_
                            rw [show (nI (13 - c) - 1 : Int32) = nI (13 - c - 1) from pk_sub (b := 1) z0]
                            refine mt_mlald (pc := 147) (j := 13 - c - 1) (x := lN (dpN q i (13 - c - 1))) dX11_all_147 hx rfl (by omega) (by rw [fc _ (by omega), if_neg (by omega)]) ?_
                            refine mt_iload_n (pc := 148) dX11_all_148 rfl ?_
                            refine mt_i2l (pc := 149) dX11_all_149 rfl ?_
                            rw [nI_l (by omega)]
                            refine mt_lmul (pc := 150) dX11_all_150 ?_
                            rw [lN_mul]
                            refine mt_goto (pc := 151) (tgt := 155) dX11_all_151 (by decide) ?_
                            refine mt_ladd (pc := 155) dX11_all_155 ?_
                            rw [lN_add]
                            refine mt_mlast (pc := 156) (j := 13 - c) dX11_all_156 hx rfl (by omega) ?_
                            refine mt_iinc (pc := 157) (c9 := (-1)) dX11_all_157 rfl (by decide) (Nat.le_of_ble_eq_true rfl) rfl ?_
                            refine mt_goto (pc := 160) (tgt := 110) dX11_all_160 (by decide) ?_
                            rw [← ej, jdn hc]
                            refine nc _ (fun t ht => ?_)
                            by_cases z : t = 13 - c
                            · rw [z, updL_eq, if_pos (by omega)]
                              show _ = lN (dpN q i (13 - c) * (16 - q) + (if 0 < 13 - c then dpN q i (13 - c - 1) * q else 0))
                              rw [if_pos z0]
                            · rw [updL_ne z, fc t ht]
                              by_cases y : 13 < t + c
                              · rw [if_pos y, if_pos (by omega)]
                              · rw [if_neg y, if_neg (by omega)]
                      · skip
                        refine mt_iload (pc := 110) dX11_all_110 rfl ?_
                        refine mt_if_lt (pc := 112) (tgt := 163) dX11_all_112 (by decide) (fun c112 => ?_) (fun c112 => ?_)
                        · skip
                          refine mt_lload (pc := 163) dX11_all_163 rfl ?_
                          refine mt_ldc2 (pc := 165) kc_X11_398 dX11_all_165 ?_
                          refine mt_lmul (pc := 168) dX11_all_168 ?_
                          rw [show (16 : Int64) = lN 16 from rfl, lN_mul, ← Nat.pow_succ]
                          refine mt_lstore (pc := 169) dX11_all_169 (Nat.le_of_ble_eq_true rfl) rfl ?_
                          refine mt_iinc (pc := 171) (c9 := 1) dX11_all_171 rfl (by decide) (Nat.le_of_ble_eq_true rfl) rfl ?_
                          refine mt_goto (pc := 174) (tgt := 100) dX11_all_174 (by decide) ?_
                          rw [show (nI i + 1 : Int32) = nI (i + 1) from nI_1 i]
                          exact mt_forget 8 (ni F2 (fun t ht => by have := fc t ht; rw [if_pos (by omega)] at this; exact this))
                        · exact absurd (by decide) c112
                  · skip
                    refine mt_iload (pc := 100) dX11_all_100 rfl ?_
                    refine mt_iload_n (pc := 102) dX11_all_102 rfl ?_
                    refine mt_icmp_ge (pc := 103) (tgt := 177) dX11_all_103 (by decide) (fun c103 => ?_) (fun c103 => ?_)
                    · skip
                      refine mt_lconst (pc := 177) (v := 0) dX11_all_177 (by decide) ?_
                      refine mt_lstore (pc := 178) dX11_all_178 (Nat.le_of_ble_eq_true rfl) rfl ?_
                      refine mt_iload_n (pc := 180) dX11_all_180 rfl ?_
                      refine mt_istore (pc := 181) dX11_all_181 (Nat.le_of_ble_eq_true rfl) rfl ?_
                      refine mt_for (pc := 183) (H := fun c => mos (hset h 213 (bkE F)) (upd g 0 0) A) (L := fun c => [some (.ref 188), some (.int (nI n)), some (.int (nI k)), some (.int (nI q)), some (.int pp), some (.long (lN (16 ^ n))), none, some (.long (lN (upN q n k c))), none, some (.int (nI (k + c)))]) (14 - k) (fun c hc nc => ?_) ?_
                      · skip
                        refine mt_iload (pc := 183) dX11_all_183 rfl ?_
                        refine mt_bipush (pc := 185) (v := 14) dX11_all_185 (by decide) ?_
                        refine mt_icmp_ge (pc := 187) (tgt := 208) dX11_all_187 (by decide) (fun c187 => ?_) (fun c187 => ?_)
                        · exact absurd c187 (nI_ge (b := 14) (by omega) (by decide))
                        · skip
                          refine mt_lload (pc := 190) dX11_all_190 rfl ?_
                          refine mt_aload_n (pc := 192) dX11_all_192 rfl ?_
                          refine mt_mget (pc := 193) gf_X11_89 dX11_all_193 hx rfl ?_
                          refine mt_iload (pc := 196) dX11_all_196 rfl ?_
                          refine mt_mlald (pc := 198) (j := k + c) (x := lN (dpN q n (k + c))) dX11_all_198 hx rfl (by omega) (fi _ (by omega)) ?_
                          refine mt_ladd (pc := 199) dX11_all_199 ?_
                          rw [lN_add]
                          refine mt_lstore (pc := 200) dX11_all_200 (Nat.le_of_ble_eq_true rfl) rfl ?_
                          refine mt_iinc (pc := 202) (c9 := 1) dX11_all_202 rfl (by decide) (Nat.le_of_ble_eq_true rfl) rfl ?_
                          refine mt_goto (pc := 205) (tgt := 183) dX11_all_205 (by decide) ?_
                          rw [show (nI (k + c) + 1 : Int32) = nI (k + (c + 1)) from nI_1 (k + c)]
                          exact nc
                      · skip
                        refine mt_iload (pc := 183) dX11_all_183 rfl ?_
                        refine mt_bipush (pc := 185) (v := 14) dX11_all_185 (by decide) ?_
                        refine mt_icmp_ge (pc := 187) (tgt := 208) dX11_all_187 (by decide) (fun c187 => ?_) (fun c187 => ?_)
                        · skip
                          refine mt_lload (pc := 208) dX11_all_208 rfl ?_
                          refine mt_lload (pc := 210) dX11_all_210 rfl ?_
                          refine mt_iload (pc := 212) dX11_all_212 rfl ?_
                          refine mt_cS (pc := 214) (n_least (d := 0) hU (hBb n hn) (Nat.pow_pos (by decide))) cal_X11_least sta_X11_least ml_X11_400 dX11_all_214 (by first | assumption | (show _ ≤ d; omega)) ⟨(Nat.le_of_ble_eq_true rfl), (Nat.le_of_ble_eq_true rfl)⟩ rfl rfl (Nat.le_of_ble_eq_true rfl) ?_
                          exact mt_lret rfl dX11_all_217 (Nat.le_of_ble_eq_true rfl) (Nat.le_of_ble_eq_true rfl) (fin _ _ hr)
                        · exact absurd (nI_le (a := 14) (by omega) (by omega)) c187
                    · exact absurd (nI_le (Nat.le_refl _) (by first | omega | decide)) c103
                · exact absurd (nI_le (a := 14) (b := 14) (by decide) (by decide)) c68
            · exact absurd c56 (by decide)
  · have er : allR nn kk qq pp = .inl 1 := if_neg hc
    rw [er]
    have fin : ∀ m, m = mos h (upd (upd g 0 0) 0 1) (updR A 189 (upd (A 189) 1 (A 189 1 + 1))) → P_mall (.inl 1) nx h g A (.inl (some (.long 0))) nx m := fun m hm => ⟨rfl, rfl, by rw [hm, upd_upd]⟩
    refine mm_start (lo := [some (.ref 188), some (.int nn), some (.int kk), some (.int qq), some (.int pp), none, none, none, none, none]) pn_X11 rfl rfl (Nat.le_of_ble_eq_true rfl) ?_
    refine mt_aload_n (pc := 0) dX11_all_0 rfl ?_
    refine mt_iconst (pc := 1) (v := 0) dX11_all_1 (by decide) ?_
    refine mt_mput (pc := 2) pf_X11_3 dX11_all_2 hx rfl ?_
    refine mt_aload_n (pc := 5) dX11_all_5 rfl ?_
    refine mt_iload_n (pc := 6) dX11_all_6 rfl ?_
    refine mt_iconst (pc := 7) (v := 0) dX11_all_7 (by decide) ?_
    refine mt_bipush (pc := 8) (v := 12) dX11_all_8 (by decide) ?_
    refine mt_cS (pc := 10) (n_within (d := 0)) cal_X11_within sta_X11_within ml_X11_348 dX11_all_10 (by first | assumption | (show _ ≤ d; omega)) ⟨(Nat.le_of_ble_eq_true rfl), (Nat.le_of_ble_eq_true rfl)⟩ rfl rfl (Nat.le_of_ble_eq_true rfl) ?_
    refine mt_if_eq (pc := 13) (tgt := 50) dX11_all_13 (by decide) (fun c13 => ?_) (fun c13 => ?_)
    · skip
      have n1 := w_0 c13
      refine mt_iconst (pc := 50) (v := 0) dX11_all_50 (by decide) ?_
      refine mt_iconst (pc := 51) (v := 1) dX11_all_51 (by decide) ?_
      refine mt_iconst (pc := 52) (v := 1) dX11_all_52 (by decide) ?_
      refine mt_cV (pc := 53) (n_mayN (d := 0) (q := 1) hx (by decide) rfl rfl (by decide)) cal_X11_may vir_X11_may ml_X11_190 dX11_all_53 (by omega) (mos_o _ _ _) (by first | assumption | (show _ ≤ d; omega)) ⟨(Nat.le_of_ble_eq_true rfl), (Nat.le_of_ble_eq_true rfl)⟩ rfl rfl (Nat.le_of_ble_eq_true rfl) ?_
      refine mt_if_ne (pc := 56) (tgt := 61) dX11_all_56 (by decide) (fun c56 => ?_) (fun c56 => ?_)
      · exact absurd rfl c56
      · skip
        refine mt_lconst (pc := 59) (v := 0) dX11_all_59 (by decide) ?_
        exact mt_lret rfl dX11_all_60 (Nat.le_of_ble_eq_true rfl) (Nat.le_of_ble_eq_true rfl) (fin _ rfl)
    · skip
      have h1 := w_1 c13
      refine mt_iload_n (pc := 16) dX11_all_16 rfl ?_
      refine mt_iconst (pc := 17) (v := 0) dX11_all_17 (by decide) ?_
      refine mt_bipush (pc := 18) (v := 13) dX11_all_18 (by decide) ?_
      refine mt_cS (pc := 20) (n_within (d := 0)) cal_X11_within sta_X11_within ml_X11_348 dX11_all_20 (by first | assumption | (show _ ≤ d; omega)) ⟨(Nat.le_of_ble_eq_true rfl), (Nat.le_of_ble_eq_true rfl)⟩ rfl rfl (Nat.le_of_ble_eq_true rfl) ?_
      refine mt_if_eq (pc := 23) (tgt := 50) dX11_all_23 (by decide) (fun c23 => ?_) (fun c23 => ?_)
      · skip
        refine mt_iconst (pc := 50) (v := 0) dX11_all_50 (by decide) ?_
        refine mt_iconst (pc := 51) (v := 1) dX11_all_51 (by decide) ?_
        refine mt_iconst (pc := 52) (v := 1) dX11_all_52 (by decide) ?_
        refine mt_cV (pc := 53) (n_mayN (d := 0) (q := 1) hx (by decide) rfl rfl (by decide)) cal_X11_may vir_X11_may ml_X11_190 dX11_all_53 (by omega) (mos_o _ _ _) (by first | assumption | (show _ ≤ d; omega)) ⟨(Nat.le_of_ble_eq_true rfl), (Nat.le_of_ble_eq_true rfl)⟩ rfl rfl (Nat.le_of_ble_eq_true rfl) ?_
        refine mt_if_ne (pc := 56) (tgt := 61) dX11_all_56 (by decide) (fun c56 => ?_) (fun c56 => ?_)
        · exact absurd rfl c56
        · skip
          refine mt_lconst (pc := 59) (v := 0) dX11_all_59 (by decide) ?_
          exact mt_lret rfl dX11_all_60 (Nat.le_of_ble_eq_true rfl) (Nat.le_of_ble_eq_true rfl) (fin _ rfl)
      · skip
        have h2 := w_1 c23
        refine mt_iload_n (pc := 26) dX11_all_26 rfl ?_
        refine mt_iconst (pc := 27) (v := 0) dX11_all_27 (by decide) ?_
        refine mt_bipush (pc := 28) (v := 16) dX11_all_28 (by decide) ?_
        refine mt_cS (pc := 30) (n_within (d := 0)) cal_X11_within sta_X11_within ml_X11_348 dX11_all_30 (by first | assumption | (show _ ≤ d; omega)) ⟨(Nat.le_of_ble_eq_true rfl), (Nat.le_of_ble_eq_true rfl)⟩ rfl rfl (Nat.le_of_ble_eq_true rfl) ?_
        refine mt_if_eq (pc := 33) (tgt := 50) dX11_all_33 (by decide) (fun c33 => ?_) (fun c33 => ?_)
        · skip
          refine mt_iconst (pc := 50) (v := 0) dX11_all_50 (by decide) ?_
          refine mt_iconst (pc := 51) (v := 1) dX11_all_51 (by decide) ?_
          refine mt_iconst (pc := 52) (v := 1) dX11_all_52 (by decide) ?_
          refine mt_cV (pc := 53) (n_mayN (d := 0) (q := 1) hx (by decide) rfl rfl (by decide)) cal_X11_may vir_X11_may ml_X11_190 dX11_all_53 (by omega) (mos_o _ _ _) (by first | assumption | (show _ ≤ d; omega)) ⟨(Nat.le_of_ble_eq_true rfl), (Nat.le_of_ble_eq_true rfl)⟩ rfl rfl (Nat.le_of_ble_eq_true rfl) ?_
          refine mt_if_ne (pc := 56) (tgt := 61) dX11_all_56 (by decide) (fun c56 => ?_) (fun c56 => ?_)
          · exact absurd rfl c56
          · skip
            refine mt_lconst (pc := 59) (v := 0) dX11_all_59 (by decide) ?_
            exact mt_lret rfl dX11_all_60 (Nat.le_of_ble_eq_true rfl) (Nat.le_of_ble_eq_true rfl) (fin _ rfl)
        · skip
          have h3 := w_1 c33
          refine mt_iload (pc := 36) dX11_all_36 rfl ?_
          refine mt_iconst (pc := 38) (v := 0) dX11_all_38 (by decide) ?_
          refine mt_iconst (pc := 39) (v := 1) dX11_all_39 (by decide) ?_
          refine mt_cS (pc := 40) (n_within (d := 0)) cal_X11_within sta_X11_within ml_X11_348 dX11_all_40 (by first | assumption | (show _ ≤ d; omega)) ⟨(Nat.le_of_ble_eq_true rfl), (Nat.le_of_ble_eq_true rfl)⟩ rfl rfl (Nat.le_of_ble_eq_true rfl) ?_
          refine mt_if_eq (pc := 43) (tgt := 50) dX11_all_43 (by decide) (fun c43 => ?_) (fun c43 => ?_)
          · skip
            refine mt_iconst (pc := 50) (v := 0) dX11_all_50 (by decide) ?_
            refine mt_iconst (pc := 51) (v := 1) dX11_all_51 (by decide) ?_
            refine mt_iconst (pc := 52) (v := 1) dX11_all_52 (by decide) ?_
            refine mt_cV (pc := 53) (n_mayN (d := 0) (q := 1) hx (by decide) rfl rfl (by decide)) cal_X11_may vir_X11_may ml_X11_190 dX11_all_53 (by omega) (mos_o _ _ _) (by first | assumption | (show _ ≤ d; omega)) ⟨(Nat.le_of_ble_eq_true rfl), (Nat.le_of_ble_eq_true rfl)⟩ rfl rfl (Nat.le_of_ble_eq_true rfl) ?_
            refine mt_if_ne (pc := 56) (tgt := 61) dX11_all_56 (by decide) (fun c56 => ?_) (fun c56 => ?_)
            · exact absurd rfl c56
            · skip
              refine mt_lconst (pc := 59) (v := 0) dX11_all_59 (by decide) ?_
              exact mt_lret rfl dX11_all_60 (Nat.le_of_ble_eq_true rfl) (Nat.le_of_ble_eq_true rfl) (fin _ rfl)
          · exact absurd ⟨h1, h2, h3, w_1 c43⟩ hc
end MALL
