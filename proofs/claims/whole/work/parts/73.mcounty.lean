/-! The reference reads a county. -/
theorem updR_updR (F : MA) (i : Nat) (f f' : Nat → Int32) : updR (updR F i f) i f' = updR F i f' := by
  funext j
  by_cases hj : j = i
  · subst hj
    rw [updR_eq, updR_eq]
  · rw [updR_ne hj, updR_ne hj, updR_ne hj]
theorem updR_self {F : MA} {i : Nat} {f : Nat → Int32} (h : F i = f) : updR F i f = F := by
  funext j
  by_cases hj : j = i
  · subst hj
    rw [updR_eq, h]
  · rw [updR_ne hj]
/-- slabs, souls, kin as the reference holds them -/
def MCN (k : CS) (S2 S3 K : Nat → Int32) : Prop := k.1 ≤ 8 ∧ k.2.1 ≤ 6 ∧
  (∀ p, p < k.1 → S2 (2 * p) = k.2.2.1 p ∧ S2 (2 * p + 1) = k.2.2.2.1 p ∧ (∃ u, k.2.2.2.1 p = nI u ∧ u ≤ 60) ∧ ∃ j, k.2.2.2.2.1 p = nI j ∧ j < 2 ^ k.2.1) ∧
  (∀ a, a < k.2.1 → S3 (2 * a) = k.2.2.2.2.2.1 a ∧ S3 (2 * a + 1) = k.2.2.2.2.2.2 a ∧ (∃ u, k.2.2.2.2.2.1 a = nI u ∧ u ≤ 9) ∧ ∃ u, k.2.2.2.2.2.2 a = nI u ∧ u ≤ 99) ∧
  ∀ a, a < 6 → ∃ K', K a = nI K' ∧ K' < 2 ^ k.1 ∧ ∀ p, p < k.1 → K' / 2 ^ p % 2 = (k.2.2.2.2.1 p).toNatClampNeg / 2 ^ a % 2
/-- a county of nothing -/
theorem MCN_0 {k : CS} {S2 S3 K : Nat → Int32} (h1 : k.1 = 0) (h2 : k.2.1 = 0) (hK : ∀ a, a < 6 → K a = 0) : MCN k S2 S3 K :=
  ⟨by omega, by omega, fun p hp => by omega, fun a ha => by omega, fun a ha => ⟨0, hK a ha, by rw [h1]; decide, fun p hp => by omega⟩⟩
theorem pow_mono {a b : Nat} (h : a ≤ b) : 2 ^ a ≤ 2 ^ b := Nat.pow_le_pow_right (by decide) h
theorem bit_hi {n k p : Nat} (h : n < 2 ^ k) (hp : k ≤ p) : n / 2 ^ p % 2 = 0 := by
  rw [Nat.div_eq_of_lt (Nat.lt_of_lt_of_le h (pow_mono hp))]
theorem MCN_slab {k : CS} {S2 S3 K : Nat → Int32} {x u : Nat} (h : MCN k S2 S3 K) (hk : k.1 < 8) (hu : u ≤ 60) : MCN (k.1 + 1, k.2.1, upd k.2.2.1 k.1 (nI x), upd k.2.2.2.1 k.1 (nI u), upd k.2.2.2.2.1 k.1 0, k.2.2.2.2.2.1, k.2.2.2.2.2.2) (upd (upd S2 (2 * k.1) (nI x)) (2 * k.1 + 1) (nI u)) S3 K := by
  obtain ⟨h1, h2, h3, h4, h5⟩ := h
  refine ⟨by dsimp only; omega, h2, fun p hp => ?_, h4, fun a ha => ?_⟩
  · dsimp only at hp ⊢
    by_cases hq : p = k.1
    · subst hq
      refine ⟨by rw [upd_ne (by omega), upd_eq, upd_eq], by rw [upd_eq, upd_eq], ⟨u, by rw [upd_eq], hu⟩, 0, by rw [upd_eq]; rfl, Nat.two_pow_pos _⟩
    · have := h3 p (by omega)
      repeat rw [upd_ne (by omega)]
      exact this
  · obtain ⟨K', a1, a2, a3⟩ := h5 a ha
    refine ⟨K', a1, Nat.lt_of_lt_of_le a2 (pow_mono (by dsimp only; omega)), fun p hp => ?_⟩
    dsimp only at hp ⊢
    by_cases hq : p = k.1
    · subst hq
      rw [upd_eq, bit_hi a2 (Nat.le_refl _)]
      show 0 = 0 / 2 ^ a % 2
      rw [Nat.zero_div]
    · rw [upd_ne hq]
      exact a3 p (by omega)
theorem MCN_soul {k : CS} {S2 S3 K : Nat → Int32} {x u : Nat} (h : MCN k S2 S3 K) (hk : k.2.1 < 6) (hx : x ≤ 9) (hu : u ≤ 99) : MCN (k.1, k.2.1 + 1, k.2.2.1, k.2.2.2.1, k.2.2.2.2.1, upd k.2.2.2.2.2.1 k.2.1 (nI x), upd k.2.2.2.2.2.2 k.2.1 (nI u)) S2 (upd (upd S3 (2 * k.2.1) (nI x)) (2 * k.2.1 + 1) (nI u)) K := by
  obtain ⟨h1, h2, h3, h4, h5⟩ := h
  refine ⟨h1, by dsimp only; omega, fun p hp => ?_, fun a ha => ?_, h5⟩
  · obtain ⟨a1, a2, a3, j, a4, a5⟩ := h3 p hp
    exact ⟨a1, a2, a3, j, a4, Nat.lt_of_lt_of_le a5 (pow_mono (by dsimp only; omega))⟩
  · dsimp only at ha ⊢
    by_cases hq : a = k.2.1
    · subst hq
      exact ⟨by rw [upd_ne (by omega), upd_eq, upd_eq], by rw [upd_eq, upd_eq], ⟨x, by rw [upd_eq], hx⟩, u, by rw [upd_eq], hu⟩
    · have := h4 a (by omega)
      repeat rw [upd_ne (by omega)]
      exact this
theorem or_lt {a b k : Nat} (h1 : a < 2 ^ k) (h2 : b < k) : a ||| 2 ^ b < 2 ^ k := Nat.or_lt_two_pow h1 (Nat.pow_lt_pow_right (by decide) h2)
theorem or_bit2 {a b p : Nat} : (a ||| 2 ^ b) / 2 ^ p % 2 = if p = b then 1 else a / 2 ^ p % 2 := by
  have h1 : ∀ n : Nat, n / 2 ^ p % 2 = (n.testBit p).toNat := fun n => by rw [Nat.toNat_testBit]
  rw [h1, h1, Nat.testBit_or, Nat.testBit_two_pow]
  by_cases hq : p = b
  · subst hq
    simp
  · rw [if_neg hq]
    simp [Ne.symm hq]
theorem MCN_kin {k : CS} {S2 S3 K : Nat → Int32} {a p : Nat} (h : MCN k S2 S3 K) (ha : a < k.2.1) (hp : p < k.1) : MCN (k.1, k.2.1, k.2.2.1, k.2.2.2.1, upd k.2.2.2.2.1 p (k.2.2.2.2.1 p ||| ((1 : Int32) <<< (nI a &&& 31))), k.2.2.2.2.2.1, k.2.2.2.2.2.2) S2 S3 (upd K a (K a ||| ((1 : Int32) <<< (nI p &&& 31)))) := by
  obtain ⟨h1, h2, h3, h4, h5⟩ := h
  obtain ⟨-, -, -, j, j1, j2⟩ := h3 p hp
  have e1 : k.2.2.2.2.1 p ||| ((1 : Int32) <<< (nI a &&& 31)) = nI (j ||| 2 ^ a) := by rw [j1, shl1 a (by omega), fa_or]
  have j3 : j ||| 2 ^ a < 2 ^ k.2.1 := or_lt j2 ha
  have j4 : 2 ^ k.2.1 ≤ 64 := pow_mono (b := 6) h2
  refine ⟨h1, h2, fun q hq => ?_, h4, fun c hc => ?_⟩
  · obtain ⟨a1, a2, a3, i, a4, a5⟩ := h3 q hq
    refine ⟨a1, a2, a3, ?_⟩
    dsimp only
    by_cases hz : q = p
    · subst hz
      exact ⟨j ||| 2 ^ a, by rw [upd_eq, e1], j3⟩
    · exact ⟨i, by rw [upd_ne hz]; exact a4, a5⟩
  · obtain ⟨K', k1, k2, k3⟩ := h5 c hc
    have hj9 : (k.2.2.2.2.1 p).toNatClampNeg = j := by rw [j1, nI_clamp (by omega)]
    dsimp only
    by_cases hz : c = a
    · subst hz
      refine ⟨K' ||| 2 ^ p, by rw [upd_eq, k1, shl1 p (by omega), fa_or], or_lt k2 hp, fun q hq => ?_⟩
      rw [or_bit2]
      by_cases hy : q = p
      · subst hy
        rw [if_pos rfl, upd_eq, e1, nI_clamp (by omega), or_bit2, if_pos rfl]
      · rw [if_neg hy, upd_ne hy]
        exact k3 q hq
    · refine ⟨K', by rw [upd_ne hz]; exact k1, k2, fun q hq => ?_⟩
      by_cases hy : q = p
      · subst hy
        rw [upd_eq, e1, nI_clamp (by omega), or_bit2, if_neg hz, k3 q hq, hj9]
      · rw [upd_ne hy]
        exact k3 q hq
theorem nmS_hi {b : Nat → Int32} {e : Nat} {x : (Nat × Nat) ⊕ Nat} {lw hi : Int32} {v r : Nat} (he : ∀ p, x = .inr p → p ≤ e) (h : nmS b e x lw hi = .inr (v, r)) : (v : Int) ≤ hi.toInt ∧ r ≤ e := by
  rcases x with y | p
  · cases h
  · have := numS_le (he p rfl) h
    exact ⟨this.2.2, this.1⟩
section MCO
variable {G : mm_G} {l : Launch} {d nx : Nat} {h : Nat → mm_E} {g : MG} {A : MA} {b : Nat → Int32}
theorem n_startsAnew (hx : 215 ≤ nx) : mm_Con G l yX11_startsAnew cX11_startsAnew 2 none d 0 0 [.ref 188] nx (mos h g A) (mm_ret none nx (mos h (upd (upd g 16 0) 17 0) (updR A 193 (fun q => if q < 6 then 0 else A 193 q)))) := by
  have e0 : updR A 193 (fun q => if q < 0 then 0 else A 193 q) = A := by
    funext q
    by_cases hq : q = 193
    · subst hq
      rw [updR_eq]
      rfl
    · rw [updR_ne hq]
  refine mm_start (lo := [some (.ref 188), none]) pn_X11 rfl rfl (Nat.le_of_ble_eq_true rfl) ?_
  refine mt_aload_n (pc := 0) dX11_startsAnew_0 rfl ?_
  refine mt_iconst (pc := 1) (v := 0) dX11_startsAnew_1 (by decide) ?_
  refine mt_mput (pc := 2) pf_X11_148 dX11_startsAnew_2 hx rfl ?_
  refine mt_aload_n (pc := 5) dX11_startsAnew_5 rfl ?_
  refine mt_iconst (pc := 6) (v := 0) dX11_startsAnew_6 (by decide) ?_
  refine mt_mput (pc := 7) pf_X11_151 dX11_startsAnew_7 hx rfl ?_
  refine mt_iconst (pc := 10) (v := 0) dX11_startsAnew_10 (by decide) ?_
  refine mt_istore_n (pc := 11) dX11_startsAnew_11 (Nat.le_of_ble_eq_true rfl) rfl ?_
  rw [show ∀ z : MG, mos h z A = mos h z (updR A 193 (fun q => if q < 0 then 0 else A 193 q)) from fun z => by rw [e0]]
  refine mt_for (pc := 12) (H := fun c => mos h (upd (upd g 16 0) 17 0) (updR A 193 (fun q => if q < c then 0 else A 193 q))) (L := fun c => [some (.ref 188), some (.int (nI c))]) 6 (fun c hc nc => ?_) ?_
  · skip
    refine mt_iload_n (pc := 12) dX11_startsAnew_12 rfl ?_
    refine mt_bipush (pc := 13) (v := 6) dX11_startsAnew_13 (by decide) ?_
    refine mt_icmp_ge (pc := 15) (tgt := 31) dX11_startsAnew_15 (by decide) (fun c15 => ?_) (fun c15 => ?_)
    · exact absurd c15 (nI_ge hc (by first | omega | decide))
    · skip
      refine mt_aload_n (pc := 18) dX11_startsAnew_18 rfl ?_
      refine mt_mget (pc := 19) gf_X11_29 dX11_startsAnew_19 hx rfl ?_
      refine mt_iload_n (pc := 22) dX11_startsAnew_22 rfl ?_
      refine mt_iconst (pc := 23) (v := 0) dX11_startsAnew_23 (by decide) ?_
      refine mt_mast (pc := 24) (i := 193) (j := c) dX11_startsAnew_24 hx rfl rfl (by show _ < 6; omega) ?_
      refine mt_iinc (pc := 25) (c9 := 1) dX11_startsAnew_25 rfl (by decide) (Nat.le_of_ble_eq_true rfl) rfl ?_
      refine mt_goto (pc := 28) (tgt := 12) dX11_startsAnew_28 (by decide) ?_
      rw [show (nI c + 1 : Int32) = nI (c + 1) from nI_1 c]
      refine mt_heq ?_ nc
      rw [updR_eq, updR_updR]
      congr 2
      funext z
      by_cases hz : z = c
      · subst hz
        rw [upd_eq, if_pos (by omega)]
      · rw [upd_ne hz]
        by_cases hz2 : z < c
        · rw [if_pos hz2, if_pos (by omega)]
        · rw [if_neg hz2, if_neg (by omega)]
  · skip
    refine mt_iload_n (pc := 12) dX11_startsAnew_12 rfl ?_
    refine mt_bipush (pc := 13) (v := 6) dX11_startsAnew_13 (by decide) ?_
    refine mt_icmp_ge (pc := 15) (tgt := 31) dX11_startsAnew_15 (by decide) (fun c15 => ?_) (fun c15 => ?_)
    · skip
      exact mt_vret rfl dX11_startsAnew_31 (Nat.le_of_ble_eq_true rfl) (Nat.le_of_ble_eq_true rfl) ⟨rfl, rfl, rfl⟩
    · exact absurd (nI_le (Nat.le_refl _) (by first | omega | decide)) c15
theorem n_isRow {w : Int32} (hd : 5 ≤ d) : mm_Con G l yX11_isRow cX11_isRow 1 (some .boolean) d 0 0 [.int w] nx h (mm_ret (some (.int (if w = nI (ofN 1) ∨ w = nI (ofN 2) ∨ w = nI (ofN 3) then 1 else 0))) nx h) := by
  refine mm_start (lo := [some (.int w)]) pn_X11 rfl rfl (Nat.le_of_ble_eq_true rfl) ?_
  refine mt_iload_n (pc := 0) dX11_isRow_0 rfl ?_
  refine mt_ldcS (pc := 1) (j := 1) (tx := "slab") (by decide +kernel) dX11_isRow_1 ?_
  refine mt_cS (pc := 3) (n_of (d := 4) (j := 1) (Nat.le_refl 4) (by decide) (by decide) (by decide)) cal_X11_of sta_X11_of ml_X11_180 dX11_isRow_3 (by first | assumption | (show _ ≤ d; omega)) ⟨(Nat.le_of_ble_eq_true rfl), (Nat.le_of_ble_eq_true rfl)⟩ rfl rfl (Nat.le_of_ble_eq_true rfl) ?_
  refine mt_icmp_eq (pc := 6) (tgt := 27) dX11_isRow_6 (by decide) (fun c6 => ?_) (fun c6 => ?_)
  · skip
    refine mt_iconst (pc := 27) (v := 1) dX11_isRow_27 (by decide) ?_
    refine mt_goto (pc := 28) (tgt := 32) dX11_isRow_28 (by decide) ?_
    exact mt_zret rfl (by first | exact Or.inl rfl | exact Or.inr rfl) dX11_isRow_32 (Nat.le_of_ble_eq_true rfl) (Nat.le_of_ble_eq_true rfl) ⟨by simp [*], rfl, rfl⟩
  · skip
    refine mt_iload_n (pc := 9) dX11_isRow_9 rfl ?_
    refine mt_ldcS (pc := 10) (j := 2) (tx := "soul") (by decide +kernel) dX11_isRow_10 ?_
    refine mt_cS (pc := 12) (n_of (d := 4) (j := 2) (Nat.le_refl 4) (by decide) (by decide) (by decide)) cal_X11_of sta_X11_of ml_X11_180 dX11_isRow_12 (by first | assumption | (show _ ≤ d; omega)) ⟨(Nat.le_of_ble_eq_true rfl), (Nat.le_of_ble_eq_true rfl)⟩ rfl rfl (Nat.le_of_ble_eq_true rfl) ?_
    refine mt_icmp_eq (pc := 15) (tgt := 27) dX11_isRow_15 (by decide) (fun c15 => ?_) (fun c15 => ?_)
    · skip
      refine mt_iconst (pc := 27) (v := 1) dX11_isRow_27 (by decide) ?_
      refine mt_goto (pc := 28) (tgt := 32) dX11_isRow_28 (by decide) ?_
      exact mt_zret rfl (by first | exact Or.inl rfl | exact Or.inr rfl) dX11_isRow_32 (Nat.le_of_ble_eq_true rfl) (Nat.le_of_ble_eq_true rfl) ⟨by simp [*], rfl, rfl⟩
    · skip
      refine mt_iload_n (pc := 18) dX11_isRow_18 rfl ?_
      refine mt_ldcS (pc := 19) (j := 3) (tx := "kin") (by decide +kernel) dX11_isRow_19 ?_
      refine mt_cS (pc := 21) (n_of (d := 4) (j := 3) (Nat.le_refl 4) (by decide) (by decide) (by decide)) cal_X11_of sta_X11_of ml_X11_180 dX11_isRow_21 (by first | assumption | (show _ ≤ d; omega)) ⟨(Nat.le_of_ble_eq_true rfl), (Nat.le_of_ble_eq_true rfl)⟩ rfl rfl (Nat.le_of_ble_eq_true rfl) ?_
      refine mt_icmp_ne (pc := 24) (tgt := 31) dX11_isRow_24 (by decide) (fun c24 => ?_) (fun c24 => ?_)
      · skip
        refine mt_iconst (pc := 31) (v := 0) dX11_isRow_31 (by decide) ?_
        exact mt_zret rfl (by first | exact Or.inl rfl | exact Or.inr rfl) dX11_isRow_32 (Nat.le_of_ble_eq_true rfl) (Nat.le_of_ble_eq_true rfl) ⟨by rw [if_neg (fun z => z.elim c6 (fun z => z.elim c15 c24))], rfl, rfl⟩
      · skip
        refine mt_iconst (pc := 27) (v := 1) dX11_isRow_27 (by decide) ?_
        refine mt_goto (pc := 28) (tgt := 32) dX11_isRow_28 (by decide) ?_
        exact mt_zret rfl (by first | exact Or.inl rfl | exact Or.inr rfl) dX11_isRow_32 (Nat.le_of_ble_eq_true rfl) (Nat.le_of_ble_eq_true rfl) ⟨by rw [if_pos (Or.inr (Or.inr c24))], rfl, rfl⟩
theorem n_rowSlab {e r : Nat} {w : Int32} {g0 : MG} {k1 : Nat} (hw : w = nI (ofN 1)) (hd : 5 ≤ d) (hx : 215 ≤ nx) (hT : TP (A 190) b) (hb : BY b) (he : e ≤ 600) (hP : PST e g0 g (.inr r)) (hk : k1 < 8) (h16 : g0 16 = nI k1) : mm_Con G l yX11_readRow cX11_readRow 4 none d 0 0 [.ref 188, .int w] nx (mos h g A) (fun o n m => o = .inl none ∧ n = nx ∧ ∃ g', m = mos h (upd g' 16 (nI (k1 + 1))) (updR A 191 (upd (upd (A 191) (2 * k1) (rvN (nmS b e (.inr r) 0 5))) (2 * k1 + 1) (rvN (nmS b e (rpN (nmS b e (.inr r) 0 5)) 0 60)))) ∧ PST e g0 g' (rpN (nmS b e (rpN (nmS b e (.inr r) 0 5)) 0 60))) := by
  have t1 : g 16 = nI k1 := (hP.1 16 (by decide) (by decide) (by decide)).trans h16
  refine mm_start (lo := [some (.ref 188), some (.int w), none, none]) pn_X11 rfl rfl (Nat.le_of_ble_eq_true rfl) ?_
  refine mt_iload_n (pc := 0) dX11_readRow_0 rfl ?_
  refine mt_ldcS (pc := 1) (j := 1) (tx := "slab") (by decide +kernel) dX11_readRow_1 ?_
  refine mt_cS (pc := 3) (n_of (d := 4) (j := 1) (Nat.le_refl 4) (by decide) (by decide) (by decide)) cal_X11_of sta_X11_of ml_X11_180 dX11_readRow_3 (by first | assumption | (show _ ≤ d; omega)) ⟨(Nat.le_of_ble_eq_true rfl), (Nat.le_of_ble_eq_true rfl)⟩ rfl rfl (Nat.le_of_ble_eq_true rfl) ?_
  refine mt_icmp_ne (pc := 6) (tgt := 59) dX11_readRow_6 (by decide) (fun c6 => ?_) (fun c6 => ?_)
  · exact absurd hw c6
  · skip
    refine mt_aload_n (pc := 9) dX11_readRow_9 rfl ?_
    refine mt_mget (pc := 10) gf_X11_23 dX11_readRow_10 hx rfl ?_
    refine mt_iconst (pc := 13) (v := 2) dX11_readRow_13 (by decide) ?_
    refine mt_aload_n (pc := 14) dX11_readRow_14 rfl ?_
    refine mt_mgetI (pc := 15) (x := nI k1) gf_X11_148 dX11_readRow_15 hx rfl t1 ?_
    refine mt_imulN (pc := 18) (a := 2) (b := k1) dX11_readRow_18 rfl rfl ?_
    refine mt_aload_n (pc := 19) dX11_readRow_19 rfl ?_
    refine mt_iconst (pc := 20) (v := 0) dX11_readRow_20 (by decide) ?_
    refine mt_iconst (pc := 21) (v := 5) dX11_readRow_21 (by decide) ?_
    refine mt_aV (pc := 22) (n_rnum (d := 1) (by decide) (by decide) (Nat.le_refl 1) hx hT hb he hP) cal_X11_readNumber vir_X11_readNumber ml_X11_186 dX11_readRow_22 (by omega) (mos_o _ _ _) (by first | assumption | (show _ ≤ d; omega)) ⟨(Nat.le_of_ble_eq_true rfl), (Nat.le_of_ble_eq_true rfl)⟩ rfl rfl (Nat.le_of_ble_eq_true rfl) ?_ ?_
    · rintro x9 n9 k9 h9
      simp at h9
    · rintro v9 n9 k9 ⟨⟨⟩, rfl, g1, rfl, hP1⟩
      refine ⟨rfl, ?_⟩
      have t2 : g1 16 = nI k1 := (hP1.1 16 (by decide) (by decide) (by decide)).trans h16
      refine mt_mast (pc := 25) (i := 191) (j := 2 * k1) dX11_readRow_25 hx rfl rfl (by show _ < 16; omega) ?_
      refine mt_aload_n (pc := 26) dX11_readRow_26 rfl ?_
      refine mt_mget (pc := 27) gf_X11_23 dX11_readRow_27 hx rfl ?_
      refine mt_iconst (pc := 30) (v := 2) dX11_readRow_30 (by decide) ?_
      refine mt_aload_n (pc := 31) dX11_readRow_31 rfl ?_
      refine mt_mgetI (pc := 32) (x := nI k1) gf_X11_148 dX11_readRow_32 hx rfl t2 ?_
      refine mt_imulN (pc := 35) (a := 2) (b := k1) dX11_readRow_35 rfl rfl ?_
      refine mt_iconst (pc := 36) (v := 1) dX11_readRow_36 (by decide) ?_
      refine mt_iaddN (pc := 37) (a := 2 * k1) (b := 1) dX11_readRow_37 rfl rfl ?_
      refine mt_aload_n (pc := 38) dX11_readRow_38 rfl ?_
      refine mt_iconst (pc := 39) (v := 0) dX11_readRow_39 (by decide) ?_
      refine mt_bipush (pc := 40) (v := 60) dX11_readRow_40 (by decide) ?_
      refine mt_aV (pc := 42) (n_rnum (d := 1) (A := updR A 191 (upd (A 191) (2 * k1) (rvN (nmS b e (.inr r) 0 5)))) (by decide) (by decide) (Nat.le_refl 1) hx hT hb he hP1) cal_X11_readNumber vir_X11_readNumber ml_X11_186 dX11_readRow_42 (by omega) (mos_o _ _ _) (by first | assumption | (show _ ≤ d; omega)) ⟨(Nat.le_of_ble_eq_true rfl), (Nat.le_of_ble_eq_true rfl)⟩ rfl rfl (Nat.le_of_ble_eq_true rfl) ?_ ?_
      · rintro x9 n9 k9 h9
        simp at h9
      · rintro v9 n9 k9 ⟨⟨⟩, rfl, g2, rfl, hP2⟩
        refine ⟨rfl, ?_⟩
        have t3 : g2 16 = nI k1 := (hP2.1 16 (by decide) (by decide) (by decide)).trans h16
        refine mt_mast (pc := 45) (i := 191) (j := (2 * k1) + 1) dX11_readRow_45 hx rfl rfl (by show _ < 16; omega) ?_
        refine mt_aload_n (pc := 46) dX11_readRow_46 rfl ?_
        refine mt_dup (pc := 47) dX11_readRow_47 rfl ?_
        refine mt_mgetI (pc := 48) (x := nI k1) gf_X11_148 dX11_readRow_48 hx rfl t3 ?_
        refine mt_iconst (pc := 51) (v := 1) dX11_readRow_51 (by decide) ?_
        refine mt_iaddN (pc := 52) (a := k1) (b := 1) dX11_readRow_52 rfl rfl ?_
        refine mt_mput (pc := 53) pf_X11_148 dX11_readRow_53 hx rfl ?_
        refine mt_goto (pc := 56) (tgt := 162) dX11_readRow_56 (by decide) ?_
        exact mt_vret rfl dX11_readRow_162 (Nat.le_of_ble_eq_true rfl) (Nat.le_of_ble_eq_true rfl) ⟨rfl, rfl, g2, by rw [updR_eq, updR_updR], hP2⟩
theorem n_rowSoul {e r : Nat} {w : Int32} {g0 : MG} {k1 : Nat} (hw1 : ¬ w = nI (ofN 1)) (hw : w = nI (ofN 2)) (hd : 5 ≤ d) (hx : 215 ≤ nx) (hT : TP (A 190) b) (hb : BY b) (he : e ≤ 600) (hP : PST e g0 g (.inr r)) (hk : k1 < 6) (h17 : g0 17 = nI k1) : mm_Con G l yX11_readRow cX11_readRow 4 none d 0 0 [.ref 188, .int w] nx (mos h g A) (fun o n m => o = .inl none ∧ n = nx ∧ ∃ g', m = mos h (upd g' 17 (nI (k1 + 1))) (updR A 192 (upd (upd (A 192) (2 * k1) (rvN (nmS b e (.inr r) 0 9))) (2 * k1 + 1) (rvN (nmS b e (rpN (nmS b e (.inr r) 0 9)) 0 99)))) ∧ PST e g0 g' (rpN (nmS b e (rpN (nmS b e (.inr r) 0 9)) 0 99))) := by
  have t1 : g 17 = nI k1 := (hP.1 17 (by decide) (by decide) (by decide)).trans h17
  refine mm_start (lo := [some (.ref 188), some (.int w), none, none]) pn_X11 rfl rfl (Nat.le_of_ble_eq_true rfl) ?_
  refine mt_iload_n (pc := 0) dX11_readRow_0 rfl ?_
  refine mt_ldcS (pc := 1) (j := 1) (tx := "slab") (by decide +kernel) dX11_readRow_1 ?_
  refine mt_cS (pc := 3) (n_of (d := 4) (j := 1) (Nat.le_refl 4) (by decide) (by decide) (by decide)) cal_X11_of sta_X11_of ml_X11_180 dX11_readRow_3 (by first | assumption | (show _ ≤ d; omega)) ⟨(Nat.le_of_ble_eq_true rfl), (Nat.le_of_ble_eq_true rfl)⟩ rfl rfl (Nat.le_of_ble_eq_true rfl) ?_
  refine mt_icmp_ne (pc := 6) (tgt := 59) dX11_readRow_6 (by decide) (fun c6 => ?_) (fun c6 => ?_)
  · skip
    refine mt_iload_n (pc := 59) dX11_readRow_59 rfl ?_
    refine mt_ldcS (pc := 60) (j := 2) (tx := "soul") (by decide +kernel) dX11_readRow_60 ?_
    refine mt_cS (pc := 62) (n_of (d := 4) (j := 2) (Nat.le_refl 4) (by decide) (by decide) (by decide)) cal_X11_of sta_X11_of ml_X11_180 dX11_readRow_62 (by first | assumption | (show _ ≤ d; omega)) ⟨(Nat.le_of_ble_eq_true rfl), (Nat.le_of_ble_eq_true rfl)⟩ rfl rfl (Nat.le_of_ble_eq_true rfl) ?_
    refine mt_icmp_ne (pc := 65) (tgt := 119) dX11_readRow_65 (by decide) (fun c65 => ?_) (fun c65 => ?_)
    · exact absurd hw c65
    · skip
      refine mt_aload_n (pc := 68) dX11_readRow_68 rfl ?_
      refine mt_mget (pc := 69) gf_X11_26 dX11_readRow_69 hx rfl ?_
      refine mt_iconst (pc := 72) (v := 2) dX11_readRow_72 (by decide) ?_
      refine mt_aload_n (pc := 73) dX11_readRow_73 rfl ?_
      refine mt_mgetI (pc := 74) (x := nI k1) gf_X11_151 dX11_readRow_74 hx rfl t1 ?_
      refine mt_imulN (pc := 77) (a := 2) (b := k1) dX11_readRow_77 rfl rfl ?_
      refine mt_aload_n (pc := 78) dX11_readRow_78 rfl ?_
      refine mt_iconst (pc := 79) (v := 0) dX11_readRow_79 (by decide) ?_
      refine mt_bipush (pc := 80) (v := 9) dX11_readRow_80 (by decide) ?_
      refine mt_aV (pc := 82) (n_rnum (d := 1) (by decide) (by decide) (Nat.le_refl 1) hx hT hb he hP) cal_X11_readNumber vir_X11_readNumber ml_X11_186 dX11_readRow_82 (by omega) (mos_o _ _ _) (by first | assumption | (show _ ≤ d; omega)) ⟨(Nat.le_of_ble_eq_true rfl), (Nat.le_of_ble_eq_true rfl)⟩ rfl rfl (Nat.le_of_ble_eq_true rfl) ?_ ?_
      · rintro x9 n9 k9 h9
        simp at h9
      · rintro v9 n9 k9 ⟨⟨⟩, rfl, g1, rfl, hP1⟩
        refine ⟨rfl, ?_⟩
        have t2 : g1 17 = nI k1 := (hP1.1 17 (by decide) (by decide) (by decide)).trans h17
        refine mt_mast (pc := 85) (i := 192) (j := 2 * k1) dX11_readRow_85 hx rfl rfl (by show _ < 12; omega) ?_
        refine mt_aload_n (pc := 86) dX11_readRow_86 rfl ?_
        refine mt_mget (pc := 87) gf_X11_26 dX11_readRow_87 hx rfl ?_
        refine mt_iconst (pc := 90) (v := 2) dX11_readRow_90 (by decide) ?_
        refine mt_aload_n (pc := 91) dX11_readRow_91 rfl ?_
        refine mt_mgetI (pc := 92) (x := nI k1) gf_X11_151 dX11_readRow_92 hx rfl t2 ?_
        refine mt_imulN (pc := 95) (a := 2) (b := k1) dX11_readRow_95 rfl rfl ?_
        refine mt_iconst (pc := 96) (v := 1) dX11_readRow_96 (by decide) ?_
        refine mt_iaddN (pc := 97) (a := 2 * k1) (b := 1) dX11_readRow_97 rfl rfl ?_
        refine mt_aload_n (pc := 98) dX11_readRow_98 rfl ?_
        refine mt_iconst (pc := 99) (v := 0) dX11_readRow_99 (by decide) ?_
        refine mt_bipush (pc := 100) (v := 99) dX11_readRow_100 (by decide) ?_
        refine mt_aV (pc := 102) (n_rnum (d := 1) (A := updR A 192 (upd (A 192) (2 * k1) (rvN (nmS b e (.inr r) 0 9)))) (by decide) (by decide) (Nat.le_refl 1) hx hT hb he hP1) cal_X11_readNumber vir_X11_readNumber ml_X11_186 dX11_readRow_102 (by omega) (mos_o _ _ _) (by first | assumption | (show _ ≤ d; omega)) ⟨(Nat.le_of_ble_eq_true rfl), (Nat.le_of_ble_eq_true rfl)⟩ rfl rfl (Nat.le_of_ble_eq_true rfl) ?_ ?_
        · rintro x9 n9 k9 h9
          simp at h9
        · rintro v9 n9 k9 ⟨⟨⟩, rfl, g2, rfl, hP2⟩
          refine ⟨rfl, ?_⟩
          have t3 : g2 17 = nI k1 := (hP2.1 17 (by decide) (by decide) (by decide)).trans h17
          refine mt_mast (pc := 105) (i := 192) (j := (2 * k1) + 1) dX11_readRow_105 hx rfl rfl (by show _ < 12; omega) ?_
          refine mt_aload_n (pc := 106) dX11_readRow_106 rfl ?_
          refine mt_dup (pc := 107) dX11_readRow_107 rfl ?_
          refine mt_mgetI (pc := 108) (x := nI k1) gf_X11_151 dX11_readRow_108 hx rfl t3 ?_
          refine mt_iconst (pc := 111) (v := 1) dX11_readRow_111 (by decide) ?_
          refine mt_iaddN (pc := 112) (a := k1) (b := 1) dX11_readRow_112 rfl rfl ?_
          refine mt_mput (pc := 113) pf_X11_151 dX11_readRow_113 hx rfl ?_
          refine mt_goto (pc := 116) (tgt := 162) dX11_readRow_116 (by decide) ?_
          exact mt_vret rfl dX11_readRow_162 (Nat.le_of_ble_eq_true rfl) (Nat.le_of_ble_eq_true rfl) ⟨rfl, rfl, g2, by rw [updR_eq, updR_updR], hP2⟩
  · exact absurd c6 hw1
theorem sub1_hi {n : Nat} (h : n ≤ 10) : (nI n - 1 : Int32).toInt ≤ 1000 ∧ (nI n - 1 : Int32).toInt = (n : Int) - 1 := by
  have : (nI n - nI 1 : Int32).toInt = (n : Int) - 1 := pk_sub_toInt (by omega) (by omega)
  exact ⟨by rw [show (nI n - 1 : Int32).toInt = (n : Int) - 1 from this]; omega, this⟩
theorem n_rowKin {e r : Nat} {w : Int32} {g0 : MG} {k1 k2 : Nat} (hw1 : ¬ w = nI (ofN 1)) (hw : ¬ w = nI (ofN 2)) (hd : 5 ≤ d) (hx : 215 ≤ nx) (hT : TP (A 190) b) (hb : BY b) (he : e ≤ 600) (hP : PST e g0 g (.inr r)) (hk1 : k1 ≤ 8) (hk2 : k2 ≤ 6) (h16 : g0 16 = nI k1) (h17 : g0 17 = nI k2) : mm_Con G l yX11_readRow cX11_readRow 4 none d 0 0 [.ref 188, .int w] nx (mos h g A) (fun o n m => o = .inl none ∧ n = nx ∧ ∃ g' K, m = mos h g' (updR A 193 K) ∧ PST e g0 g' (rpN (nmS b e (rpN (nmS b e (.inr r) 0 (nI k2 - 1))) 0 (nI k1 - 1))) ∧ ∀ a p r2 r3, nmS b e (.inr r) 0 (nI k2 - 1) = .inr (a, r2) → nmS b e (rpN (nmS b e (.inr r) 0 (nI k2 - 1))) 0 (nI k1 - 1) = .inr (p, r3) → K = upd (A 193) a (A 193 a ||| ((1 : Int32) <<< (nI p &&& 31)))) := by
  have t1 : g 17 = nI k2 := (hP.1 17 (by decide) (by decide) (by decide)).trans h17
  have u1 := sub1_hi (n := k1) (by omega)
  have u2 := sub1_hi (n := k2) (by omega)
  have hA0 : ∀ z : MG, mos h z (updR A 193 (A 193)) = mos h z A := fun z => by rw [updR_self rfl]
  refine mm_start (lo := [some (.ref 188), some (.int w), none, none]) pn_X11 rfl rfl (Nat.le_of_ble_eq_true rfl) ?_
  refine mt_iload_n (pc := 0) dX11_readRow_0 rfl ?_
  refine mt_ldcS (pc := 1) (j := 1) (tx := "slab") (by decide +kernel) dX11_readRow_1 ?_
  refine mt_cS (pc := 3) (n_of (d := 4) (j := 1) (Nat.le_refl 4) (by decide) (by decide) (by decide)) cal_X11_of sta_X11_of ml_X11_180 dX11_readRow_3 (by first | assumption | (show _ ≤ d; omega)) ⟨(Nat.le_of_ble_eq_true rfl), (Nat.le_of_ble_eq_true rfl)⟩ rfl rfl (Nat.le_of_ble_eq_true rfl) ?_
  refine mt_icmp_ne (pc := 6) (tgt := 59) dX11_readRow_6 (by decide) (fun c6 => ?_) (fun c6 => ?_)
  · skip
    refine mt_iload_n (pc := 59) dX11_readRow_59 rfl ?_
    refine mt_ldcS (pc := 60) (j := 2) (tx := "soul") (by decide +kernel) dX11_readRow_60 ?_
    refine mt_cS (pc := 62) (n_of (d := 4) (j := 2) (Nat.le_refl 4) (by decide) (by decide) (by decide)) cal_X11_of sta_X11_of ml_X11_180 dX11_readRow_62 (by first | assumption | (show _ ≤ d; omega)) ⟨(Nat.le_of_ble_eq_true rfl), (Nat.le_of_ble_eq_true rfl)⟩ rfl rfl (Nat.le_of_ble_eq_true rfl) ?_
    refine mt_icmp_ne (pc := 65) (tgt := 119) dX11_readRow_65 (by decide) (fun c65 => ?_) (fun c65 => ?_)
    · skip
      refine mt_aload_n (pc := 119) dX11_readRow_119 rfl ?_
      refine mt_iconst (pc := 120) (v := 0) dX11_readRow_120 (by decide) ?_
      refine mt_aload_n (pc := 121) dX11_readRow_121 rfl ?_
      refine mt_mgetI (pc := 122) (x := nI k2) gf_X11_151 dX11_readRow_122 hx rfl t1 ?_
      refine mt_iconst (pc := 125) (v := 1) dX11_readRow_125 (by decide) ?_
      refine mt_isub (pc := 126) dX11_readRow_126 ?_
      refine mt_aV (pc := 127) (n_rnum (d := 1) (by decide) u2.1 (Nat.le_refl 1) hx hT hb he hP) cal_X11_readNumber vir_X11_readNumber ml_X11_186 dX11_readRow_127 (by omega) (mos_o _ _ _) (by first | assumption | (show _ ≤ d; omega)) ⟨(Nat.le_of_ble_eq_true rfl), (Nat.le_of_ble_eq_true rfl)⟩ rfl rfl (Nat.le_of_ble_eq_true rfl) ?_ ?_
      · rintro x9 n9 k9 h9
        simp at h9
      · rintro v9 n9 k9 ⟨⟨⟩, rfl, g1, rfl, hP1⟩
        refine ⟨rfl, ?_⟩
        have t2 : g1 16 = nI k1 := (hP1.1 16 (by decide) (by decide) (by decide)).trans h16
        refine mt_istore_n (pc := 130) dX11_readRow_130 (Nat.le_of_ble_eq_true rfl) rfl ?_
        refine mt_aload_n (pc := 131) dX11_readRow_131 rfl ?_
        refine mt_iconst (pc := 132) (v := 0) dX11_readRow_132 (by decide) ?_
        refine mt_aload_n (pc := 133) dX11_readRow_133 rfl ?_
        refine mt_mgetI (pc := 134) (x := nI k1) gf_X11_148 dX11_readRow_134 hx rfl t2 ?_
        refine mt_iconst (pc := 137) (v := 1) dX11_readRow_137 (by decide) ?_
        refine mt_isub (pc := 138) dX11_readRow_138 ?_
        refine mt_aV (pc := 139) (n_rnum (d := 1) (by decide) u1.1 (Nat.le_refl 1) hx hT hb he hP1) cal_X11_readNumber vir_X11_readNumber ml_X11_186 dX11_readRow_139 (by omega) (mos_o _ _ _) (by first | assumption | (show _ ≤ d; omega)) ⟨(Nat.le_of_ble_eq_true rfl), (Nat.le_of_ble_eq_true rfl)⟩ rfl rfl (Nat.le_of_ble_eq_true rfl) ?_ ?_
        · rintro x9 n9 k9 h9
          simp at h9
        · rintro v9 n9 k9 ⟨⟨⟩, rfl, g2, rfl, hP2⟩
          refine ⟨rfl, ?_⟩
          refine mt_istore_n (pc := 142) dX11_readRow_142 (Nat.le_of_ble_eq_true rfl) rfl ?_
          rcases hX : nmS b e (.inr r) 0 (nI k2 - 1) with y | ⟨a, r2⟩
          · rw [hX] at hP2
            have h5 : ¬ g2 5 = -1 := by rw [hP2.2.2.1]; exact nI_m1 (hi := 1000) (by have := hP2.2.2.2.2; show ((y.2 : Nat) : Int) ≤ 1000; omega)
            refine mt_aload_n (pc := 143) dX11_readRow_143 rfl ?_
            refine mt_cV (pc := 144) (n_fineN (d := 0) hx h5) cal_X11_fine vir_X11_fine ml_X11_134 dX11_readRow_144 (by omega) (mos_o _ _ _) (by show _ ≤ d; omega) ⟨Nat.zero_le _, Nat.zero_le _⟩ rfl rfl (Nat.le_of_ble_eq_true rfl) ?_
            refine mt_if_eq (pc := 147) (tgt := 162) dX11_readRow_147 (by decide) (fun c147 => ?_) (fun c147 => ?_)
            · exact mt_vret rfl dX11_readRow_162 (Nat.le_of_ble_eq_true rfl) (Nat.le_of_ble_eq_true rfl) ⟨rfl, rfl, g2, A 193, (hA0 g2).symm, hP2, fun a p r2 r3 z _ => by cases z⟩
            · exact absurd rfl c147
          have ha := (nmS_hi (fun p hp => by cases hp; exact hP.2.2.2.2) hX).1
          have ha6 : a < 6 := by rw [u2.2] at ha; omega
          rw [hX] at hP2
          rcases hY : nmS b e (rpN (.inr (a, r2))) 0 (nI k1 - 1) with y | ⟨p, r3⟩
          · rw [hY] at hP2
            have h5 : ¬ g2 5 = -1 := by rw [hP2.2.2.1]; exact nI_m1 (hi := 1000) (by have := hP2.2.2.2.2; show ((y.2 : Nat) : Int) ≤ 1000; omega)
            refine mt_aload_n (pc := 143) dX11_readRow_143 rfl ?_
            refine mt_cV (pc := 144) (n_fineN (d := 0) hx h5) cal_X11_fine vir_X11_fine ml_X11_134 dX11_readRow_144 (by omega) (mos_o _ _ _) (by show _ ≤ d; omega) ⟨Nat.zero_le _, Nat.zero_le _⟩ rfl rfl (Nat.le_of_ble_eq_true rfl) ?_
            refine mt_if_eq (pc := 147) (tgt := 162) dX11_readRow_147 (by decide) (fun c147 => ?_) (fun c147 => ?_)
            · exact mt_vret rfl dX11_readRow_162 (Nat.le_of_ble_eq_true rfl) (Nat.le_of_ble_eq_true rfl) ⟨rfl, rfl, g2, A 193, (hA0 g2).symm, hP2, fun a p r2 r3 _ z => by cases z⟩
            · exact absurd rfl c147
          rw [hY] at hP2
          refine mt_aload_n (pc := 143) dX11_readRow_143 rfl ?_
          refine mt_cV (pc := 144) (n_fineY (d := 0) hx hP2.2.2.1) cal_X11_fine vir_X11_fine ml_X11_134 dX11_readRow_144 (by omega) (mos_o _ _ _) (by first | assumption | (show _ ≤ d; omega)) ⟨(Nat.le_of_ble_eq_true rfl), (Nat.le_of_ble_eq_true rfl)⟩ rfl rfl (Nat.le_of_ble_eq_true rfl) ?_
          refine mt_if_eq (pc := 147) (tgt := 162) dX11_readRow_147 (by decide) (fun c147 => ?_) (fun c147 => ?_)
          · exact absurd c147 (by decide)
          · skip
            refine mt_aload_n (pc := 150) dX11_readRow_150 rfl ?_
            refine mt_mget (pc := 151) gf_X11_29 dX11_readRow_151 hx rfl ?_
            refine mt_iload_n (pc := 154) dX11_readRow_154 rfl ?_
            refine mt_dup2 (pc := 155) dX11_readRow_155 rfl rfl ?_
            refine mt_mald (pc := 156) (i := 193) (j := a) dX11_readRow_156 hx rfl rfl (by show _ < 6; omega) rfl ?_
            refine mt_iconst (pc := 157) (v := 1) dX11_readRow_157 (by decide) ?_
            refine mt_iload_n (pc := 158) dX11_readRow_158 rfl ?_
            refine mt_ishl (pc := 159) dX11_readRow_159 ?_
            refine mt_ior (pc := 160) dX11_readRow_160 ?_
            refine mt_mast (pc := 161) (i := 193) (j := a) dX11_readRow_161 hx rfl rfl (by show _ < 6; omega) ?_
            exact mt_vret rfl dX11_readRow_162 (Nat.le_of_ble_eq_true rfl) (Nat.le_of_ble_eq_true rfl) ⟨rfl, rfl, g2, _, rfl, hP2, fun a' p' r2' r3' z1 z2 => by cases z1; cases z2; rfl⟩
    · exact absurd c65 hw
  · exact absurd c6 hw1
end MCO
