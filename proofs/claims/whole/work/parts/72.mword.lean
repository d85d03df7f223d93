/-! The reference's words: five bits a letter. -/
def pwF (f : Nat → Nat) : Nat → Nat
  | 0 => 0
  | n + 1 => pwF f n * 32 + f n
theorem pwF_inj {f f' : Nat → Nat} : ∀ n m, (∀ i, i < n → 1 ≤ f i ∧ f i < 32) → (∀ i, i < m → 1 ≤ f' i ∧ f' i < 32) → pwF f n = pwF f' m → n = m ∧ ∀ i, i < n → f i = f' i
  | 0, 0, _, _, _ => ⟨rfl, fun i hi => absurd hi (Nat.not_lt_zero i)⟩
  | 0, m + 1, _, h2, h3 => by
    have := h2 m (by omega)
    simp only [pwF] at h3
    omega
  | n + 1, 0, h1, _, h3 => by
    have := h1 n (by omega)
    simp only [pwF] at h3
    omega
  | n + 1, m + 1, h1, h2, h3 => by
    have a1 := h1 n (by omega)
    have a2 := h2 m (by omega)
    simp only [pwF] at h3
    obtain ⟨h4, h5⟩ := pwF_inj (f := f) (f' := f') n m (fun i hi => h1 i (by omega)) (fun i hi => h2 i (by omega)) (by omega)
    subst h4
    refine ⟨rfl, fun i hi => ?_⟩
    rcases Nat.lt_or_ge i n with h6 | h6
    · exact h5 i h6
    · obtain rfl : i = n := by omega
      omega
theorem pwF_congr {f f' : Nat → Nat} : ∀ n, (∀ i, i < n → f i = f' i) → pwF f n = pwF f' n
  | 0, _ => rfl
  | n + 1, h => by
    simp only [pwF]
    rw [pwF_congr n (fun i hi => h i (by omega)), h n (by omega)]
theorem pwF_lt {f : Nat → Nat} : ∀ n, (∀ i, i < n → f i < 32) → pwF f n < 32 ^ n
  | 0, _ => by simp only [pwF]; decide
  | n + 1, h => by
    have h1 := pwF_lt (f := f) n (fun i hi => h i (by omega))
    have h2 := h n (by omega)
    simp only [pwF, Nat.pow_succ]
    omega
def lc (x : Int32) : Nat := x.toNatClampNeg - 96
theorem isL_val {x : Int32} (hx : isL x) : ∃ c : Nat, 1 ≤ c ∧ c ≤ 26 ∧ x = nI (96 + c) := by
  obtain ⟨h1, h2⟩ := hx
  obtain ⟨j, hj, rfl⟩ := nI_of2 (x := x) (M := 122) (n := 122) (by decide) (fun z => h1 (Int32.lt_trans z (by decide))) (Int32.not_lt.mp h2)
  have : ¬ j < 97 := fun z => h1 (nI_lt z (by decide))
  exact ⟨j - 96, by omega, by omega, by rw [show 96 + (j - 96) = j by omega]⟩
theorem lc_nI {c : Nat} (hc : c ≤ 26) : lc (nI (96 + c)) = c := by
  simp only [lc]
  rw [nI_clamp (by omega)]
  omega
theorem lc_L {x : Int32} (hx : isL x) : 1 ≤ lc x ∧ lc x < 32 ∧ x = nI (96 + lc x) := by
  obtain ⟨c, h1, h2, rfl⟩ := isL_val hx
  rw [lc_nI h2]
  exact ⟨h1, by omega, rfl⟩
theorem lc_inj {x y : Int32} (hx : isL x) (hy : isL y) (h : lc x = lc y) : x = y := by rw [(lc_L hx).2.2, (lc_L hy).2.2, h]
/-- a text of the constants, packed; a word on the tape, packed -/
def ofN (j : Nat) : Nat := pwF (fun i => lc ((mm_tb.getD j []).getD i 0)) (mm_tl.getD j 0)
def wvI (b : Nat → Int32) (q r : Nat) : Int32 := if 6 < r - q then 0 else nI (pwF (fun i => lc (b (q + i))) (r - q))
theorem tx_L : ∀ j, j < 18 → 1 ≤ j → ∀ i, i < mm_tl.getD j 0 → isL ((mm_tb.getD j []).getD i 0) := by decide +kernel
theorem wv_of {b : Nat → Int32} {q r j : Nat} (hqr : q ≤ r) (hL : ∀ i, q ≤ i → i < r → isL (b i)) (hj1 : 1 ≤ j) (hj2 : j < 18) (hl : mm_tl.getD j 0 ≤ 6) (hl1 : 1 ≤ mm_tl.getD j 0) : wvI b q r = nI (ofN j) ↔ WD b q r j := by
  have ho : ofN j < 32 ^ mm_tl.getD j 0 := pwF_lt _ (fun i hi => (lc_L (tx_L j hj2 hj1 i hi)).2.1)
  have ho2 : ofN j < 2 ^ 30 := Nat.lt_of_lt_of_le ho (Nat.le_trans (Nat.pow_le_pow_right (by decide) hl) (by decide))
  have ho3 : ofN j ≠ 0 := by
    unfold ofN
    obtain ⟨m, hm⟩ : ∃ m, mm_tl.getD j 0 = m + 1 := ⟨mm_tl.getD j 0 - 1, by omega⟩
    have := (lc_L (tx_L j hj2 hj1 m (by omega))).1
    rw [hm]
    simp only [pwF]
    omega
  unfold wvI WD
  by_cases h6 : 6 < r - q
  · rw [if_pos h6]
    constructor
    · intro h
      exact absurd (show nI 0 = nI (ofN j) from h) (fun z => by
        have := (nI_eq (by decide) (by omega)).mp z
        omega)
    · intro h
      omega
  · rw [if_neg h6]
    have hw : pwF (fun i => lc (b (q + i))) (r - q) < 2 ^ 30 := Nat.lt_of_lt_of_le (pwF_lt _ (fun i hi => (lc_L (hL _ (by omega) (by omega))).2.1)) (Nat.le_trans (Nat.pow_le_pow_right (by decide) (show r - q ≤ 6 by omega)) (by decide))
    rw [nI_eq (by omega) (by omega)]
    constructor
    · intro h
      obtain ⟨h1, h2⟩ := pwF_inj _ _ (fun i hi => ⟨(lc_L (hL (q + i) (by omega) (by omega))).1, (lc_L (hL (q + i) (by omega) (by omega))).2.1⟩) (fun i hi => ⟨(lc_L (tx_L j hj2 hj1 i hi)).1, (lc_L (tx_L j hj2 hj1 i hi)).2.1⟩) h
      exact ⟨by omega, fun i hi => lc_inj (hL _ (by omega) (by omega)) (tx_L j hj2 hj1 i hi) (h2 i (by omega))⟩
    · rintro ⟨h1, h2⟩
      rw [show r - q = mm_tl.getD j 0 by omega]
      exact pwF_congr _ (fun i hi => by rw [h2 i hi])
theorem ltf_L {b : Nat → Int32} {e : Nat} : ∀ k p i, p ≤ i → i < ltf b e k p → isL (b i)
  | 0, p, i, h1, h2 => by simp only [ltf] at h2; omega
  | k + 1, p, i, h1, h2 => by
    simp only [ltf] at h2
    split at h2
    · next hc =>
      rcases Nat.lt_or_ge p i with h3 | h3
      · exact ltf_L k (p + 1) i h3 h2
      · obtain rfl : i = p := by omega
        exact hc.2
    · omega
theorem lt_L {b : Nat → Int32} {e p i : Nat} (h1 : p ≤ i) (h2 : i < lt b e p) : isL (b i) := ltf_L _ _ _ h1 h2
theorem lt_nx {b : Nat → Int32} {e : Nat} : ∀ k p, p + k = e → ltf b e k p < e → ¬ isL (b (ltf b e k p))
  | 0, p, h1, h2 => by simp only [ltf] at h2; omega
  | k + 1, p, h1, h2 => by
    simp only [ltf] at h2 ⊢
    split
    · next hc => rw [if_pos hc] at h2; exact lt_nx k (p + 1) (by omega) h2
    · next hc => exact fun z => hc ⟨by omega, z⟩
/-- a word stands here: its first letters, and no letter behind them -/
theorem lt_eq {b : Nat → Int32} {e q m : Nat} (hq : q + m ≤ e) (h1 : ∀ i, i < m → isL (b (q + i))) (h2 : q + m < e → ¬ isL (b (q + m))) : lt b e q = q + m := by
  have hle := lt_le (b := b) (e := e) (q := q) (by omega)
  rcases Nat.lt_trichotomy (lt b e q) (q + m) with h3 | h3 | h3
  · refine absurd ?_ (lt_nx (b := b) (e - q) q (by omega) (show lt b e q < e by omega))
    have := h1 (lt b e q - q) (by omega)
    rwa [show q + (lt b e q - q) = lt b e q by omega] at this
  · exact h3
  · exact absurd (lt_L (b := b) (e := e) (p := q) (i := q + m) (by omega) h3) (h2 (by omega))
theorem pack1 {v c : Nat} (hv : v < 2 ^ 25) (hc : c < 32) : (nI v <<< ((5 : Int32) &&& 31)) ||| nI c = nI (v * 32 + c) := by
  rw [pk_shlN (n := v) _ 5 (by decide) (by omega), fa_or]
  congr 1
  have := Nat.two_pow_add_eq_or_of_lt (i := 5) (b := c) (by omega) v
  rw [show v * 2 ^ 5 = 2 ^ 5 * v by omega, ← this]
section MWD
variable {G : mm_G} {l : Launch} {d nx : Nat} {h : Nat → mm_E} {g : MG} {A : MA} {b : Nat → Int32}
theorem n_of {j : Nat} (hd : 4 ≤ d) (hj1 : 1 ≤ j) (hj2 : j < 18) (hl : mm_tl.getD j 0 ≤ 6) : mm_Con G l yX11_of cX11_of 3 (some .int) d 0 0 [.ref (1000000 + j)] nx h (mm_ret (some (.int (nI (ofN j)))) nx h) := by
  refine mm_start (lo := [some (.ref ((1000000 + j))), none, none]) pn_X11 rfl rfl (Nat.le_of_ble_eq_true rfl) ?_
  refine mt_iconst (pc := 0) (v := 0) dX11_of_0 (by decide) ?_
  refine mt_istore_n (pc := 1) dX11_of_1 (Nat.le_of_ble_eq_true rfl) rfl ?_
  refine mt_iconst (pc := 2) (v := 0) dX11_of_2 (by decide) ?_
  refine mt_istore_n (pc := 3) dX11_of_3 (Nat.le_of_ble_eq_true rfl) rfl ?_
  refine mt_for (pc := 4) (H := fun i => h) (L := fun i => [some (.ref ((1000000 + j))), some (.int (nI (pwF (fun z => lc ((mm_tb.getD j []).getD z 0)) i))), some (.int (nI i))]) (mm_tl.getD j 0) (fun i hi ni => ?_) ?_
  · skip
    refine mt_iload_n (pc := 4) dX11_of_4 rfl ?_
    refine mt_aload_n (pc := 5) dX11_of_5 rfl ?_
    refine mt_cX (pc := 6) (c_length (d := 3) (by omega) (by omega)) cal_J0_length_8abf5 virJ_length ml_X11_125 dX11_of_6 (by omega) (by show 3 + 1 ≤ d; omega) ⟨Nat.zero_le _, Nat.zero_le _⟩ rfl rfl (Nat.le_of_ble_eq_true rfl) ?_
    refine mt_icmp_ge (pc := 9) (tgt := 31) dX11_of_9 (by decide) (fun c9 => ?_) (fun c9 => ?_)
    · exact absurd c9 (nI_ge hi (by first | omega | decide))
    · skip
      refine mt_iload_n (pc := 12) dX11_of_12 rfl ?_
      refine mt_iconst (pc := 13) (v := 5) dX11_of_13 (by decide) ?_
      refine mt_ishl (pc := 14) dX11_of_14 ?_
      refine mt_aload_n (pc := 15) dX11_of_15 rfl ?_
      refine mt_iload_n (pc := 16) dX11_of_16 rfl ?_
      refine mt_cX (pc := 17) (c_charAt (d := 3) (i := i) (Nat.le_refl 3) (by omega) hi) cal_J0_charAt_5068e virJ_charAt ml_X11_130 dX11_of_17 (by omega) (by show 3 + 1 ≤ d; omega) ⟨Nat.zero_le _, Nat.zero_le _⟩ rfl rfl (Nat.le_of_ble_eq_true rfl) ?_
      rw [show (some (Value.int ((mm_tb.getD j []).getD i 0))).toList = [.int (nI (96 + lc ((mm_tb.getD j []).getD i 0)))] by rw [← (lc_L (tx_L j hj2 hj1 i hi)).2.2]; rfl]
      refine mt_bipush (pc := 20) (v := 96) dX11_of_20 (by decide) ?_
      refine mt_isubN (pc := 22) (a := 96 + lc ((mm_tb.getD j []).getD i 0)) (b := 96) dX11_of_22 rfl rfl (by omega) ?_
      refine mt_ior (pc := 23) dX11_of_23 ?_
      rw [show 96 + lc ((mm_tb.getD j []).getD i 0) - 96 = lc ((mm_tb.getD j []).getD i 0) by omega, pack1 (Nat.lt_of_lt_of_le (pwF_lt i (fun z hz => (lc_L (tx_L j hj2 hj1 z (by omega))).2.1)) (Nat.le_trans (Nat.pow_le_pow_right (by decide) (show i ≤ 5 by omega)) (by decide))) (lc_L (tx_L j hj2 hj1 i hi)).2.1]
      refine mt_istore_n (pc := 24) dX11_of_24 (Nat.le_of_ble_eq_true rfl) rfl ?_
      refine mt_iinc (pc := 25) (c9 := 1) dX11_of_25 rfl (by decide) (Nat.le_of_ble_eq_true rfl) rfl ?_
      refine mt_goto (pc := 28) (tgt := 4) dX11_of_28 (by decide) ?_
      rw [show (nI i + 1 : Int32) = nI (i + 1) from nI_1 i]
      first
        | exact ni
        | exact mt_fg (by repeat (first | exact trivial | refine ⟨rfl, ?_⟩ | rfl)) ni
  · skip
    refine mt_iload_n (pc := 4) dX11_of_4 rfl ?_
    refine mt_aload_n (pc := 5) dX11_of_5 rfl ?_
    refine mt_cX (pc := 6) (c_length (d := 3) (by omega) (by omega)) cal_J0_length_8abf5 virJ_length ml_X11_125 dX11_of_6 (by omega) (by show 3 + 1 ≤ d; omega) ⟨Nat.zero_le _, Nat.zero_le _⟩ rfl rfl (Nat.le_of_ble_eq_true rfl) ?_
    refine mt_icmp_ge (pc := 9) (tgt := 31) dX11_of_9 (by decide) (fun c9 => ?_) (fun c9 => ?_)
    · skip
      refine mt_iload_n (pc := 31) dX11_of_31 rfl ?_
      exact mt_iret rfl dX11_of_32 (Nat.le_of_ble_eq_true rfl) (Nat.le_of_ble_eq_true rfl) ⟨rfl, rfl, rfl⟩
    · exact absurd (nI_le (Nat.le_refl _) (by first | omega | decide)) c9
def wlI (b : Nat → Int32) (q k : Nat) : Int32 := if 6 < k then 0 else nI (pwF (fun i => lc (b (q + i))) k)
theorem n_word {e p : Nat} (hd : 1 ≤ d) (hx : 215 ≤ nx) (hT : TP (A 190) b) (hb : BY b) (h3 : g 3 = nI e) (he : e ≤ 600) (h4 : g 4 = nI p) (hp : p ≤ e) : mm_Con G l yX11_word cX11_word 4 (some .int) d 0 0 [.ref 188] nx (mos h g A) (mm_ret (some (.int (wvI b (sk b e p) (lt b e (sk b e p))))) nx (mos h (upd g 4 (nI (sk b e p))) A)) := by
  have hq := sk_le (b := b) hp
  have hr := lt_le (b := b) hq.2
  have e1 : wvI b (sk b e p) (lt b e (sk b e p)) = wlI b (sk b e p) (lt b e (sk b e p) - sk b e p) := rfl
  have hL : ∀ i, i < lt b e (sk b e p) - sk b e p → isL (b (sk b e p + i)) := fun i hi => lt_L (e := e) (p := sk b e p) (by omega) (by omega)
  have hN : sk b e p + (lt b e (sk b e p) - sk b e p) < e → ¬ isL (b (sk b e p + (lt b e (sk b e p) - sk b e p))) := fun z => by
    rw [show sk b e p + (lt b e (sk b e p) - sk b e p) = lt b e (sk b e p) by omega] at z ⊢
    exact lt_nx (e - sk b e p) (sk b e p) (by omega) z
  have hr3 : sk b e p + (lt b e (sk b e p) - sk b e p) ≤ e := by omega
  rw [e1]
  generalize lt b e (sk b e p) - sk b e p = n at hL hN hr3
  have hstep : ∀ k, k < n → (if 6 ≤ k then (0 : Int32) else (wlI b (sk b e p) k <<< ((5 : Int32) &&& 31)) ||| nI (lc (b (sk b e p + k)))) = wlI b (sk b e p) (k + 1) := by
    intro k hk
    by_cases h6 : 6 ≤ k
    · rw [if_pos h6, wlI, if_pos (by omega)]
    · rw [if_neg h6, wlI, if_neg (by omega), wlI, if_neg (by omega), pack1 (Nat.lt_of_lt_of_le (pwF_lt k (fun z hz => (lc_L (hL z (by omega))).2.1)) (Nat.le_trans (Nat.pow_le_pow_right (by decide) (show k ≤ 5 by omega)) (by decide))) (lc_L (hL k hk)).2.1]
      rfl
  refine mm_start (lo := [some (.ref 188), none, none, none]) pn_X11 rfl rfl (Nat.le_of_ble_eq_true rfl) ?_
  refine mt_aload_n (pc := 0) dX11_word_0 rfl ?_
  refine mt_cV (pc := 1) (n_here (d := 0) hx hT hb h3 he h4 hp) cal_X11_here vir_X11_here ml_X11_117 dX11_word_1 (by omega) (mos_o _ _ _) (by first | assumption | (show _ ≤ d; omega)) ⟨(Nat.le_of_ble_eq_true rfl), (Nat.le_of_ble_eq_true rfl)⟩ rfl rfl (Nat.le_of_ble_eq_true rfl) ?_
  refine mt_pop (pc := 4) dX11_word_4 rfl ?_
  refine mt_iconst (pc := 5) (v := 0) dX11_word_5 (by decide) ?_
  refine mt_istore_n (pc := 6) dX11_word_6 (Nat.le_of_ble_eq_true rfl) rfl ?_
  refine mt_iconst (pc := 7) (v := 0) dX11_word_7 (by decide) ?_
  refine mt_istore_n (pc := 8) dX11_word_8 (Nat.le_of_ble_eq_true rfl) rfl ?_
  refine mt_aload_n (pc := 9) dX11_word_9 rfl ?_
  refine mt_mgetI (pc := 10) (x := nI (sk b e p)) gf_X11_111 dX11_word_10 hx rfl rfl ?_
  refine mt_istore_n (pc := 13) dX11_word_13 (Nat.le_of_ble_eq_true rfl) rfl ?_
  show mm_T _ _ _ _ _ _ _ _ [some (.ref 188), some (.int (wlI b (sk b e p) 0)), some (.int (nI 0)), some (.int (nI (sk b e p + 0)))] _
  refine mt_for (pc := 14) (H := fun k => mos h (upd g 4 (nI (sk b e p))) A) (L := fun k => [some (.ref 188), some (.int (wlI b (sk b e p) k)), some (.int (nI k)), some (.int (nI (sk b e p + k)))]) n (fun k hk nk => ?_) ?_
  · skip
    have e9 := hT (sk b e p + k) (by omega)
    have hlk := hL k hk
    have e8 : b (sk b e p + k) &&& 255 = nI (96 + lc (b (sk b e p + k))) := by
      rw [by_p (hb _) (fun z => hlk.1 (Int32.lt_trans z (by decide))), ← (lc_L hlk).2.2]
    have hs := hstep k hk
    refine mt_iload_n (pc := 14) dX11_word_14 rfl ?_
    refine mt_aload_n (pc := 15) dX11_word_15 rfl ?_
    refine mt_mgetI (pc := 16) (x := nI e) gf_X11_114 dX11_word_16 hx rfl h3 ?_
    refine mt_icmp_ge (pc := 19) (tgt := 67) dX11_word_19 (by decide) (fun c19 => ?_) (fun c19 => ?_)
    · exact absurd c19 (nI_ge (show sk b e p + k < e by omega) (by omega))
    · skip
      refine mt_aload_n (pc := 22) dX11_word_22 rfl ?_
      refine mt_mget (pc := 23) gf_X11_20 dX11_word_23 hx rfl ?_
      refine mt_iload_n (pc := 26) dX11_word_26 rfl ?_
      refine mt_mald (pc := 27) (i := 190) (j := sk b e p + k) (x := b (sk b e p + k) &&& 255) dX11_word_27 hx rfl rfl (by show _ < 600; omega) e9 ?_
      refine mt_cS (pc := 28) (n_isSmall (d := 0)) cal_X11_isSmall sta_X11_isSmall ml_X11_121 dX11_word_28 (by first | assumption | (show _ ≤ d; omega)) ⟨(Nat.le_of_ble_eq_true rfl), (Nat.le_of_ble_eq_true rfl)⟩ rfl rfl (Nat.le_of_ble_eq_true rfl) ?_
      refine mt_if_eq (pc := 31) (tgt := 67) dX11_word_31 (by decide) (fun c31 => ?_) (fun c31 => ?_)
      · exact absurd (isL_if.mp c31) (fun z => z ((by_L (hb _)).mpr hlk))
      · skip
        refine mt_iload_n (pc := 34) dX11_word_34 rfl ?_
        refine mt_bipush (pc := 35) (v := 6) dX11_word_35 (by decide) ?_
        refine mt_icmp_ge (pc := 37) (tgt := 56) dX11_word_37 (by decide) (fun c37 => ?_) (fun c37 => ?_)
        · skip
          rw [if_pos (show 6 ≤ k from Nat.le_of_not_lt fun z => nI_ge (b := 6) z (by decide) c37)] at hs
          refine mt_iconst (pc := 56) (v := 0) dX11_word_56 (by decide) ?_
          refine mt_istore_n (pc := 57) dX11_word_57 (Nat.le_of_ble_eq_true rfl) rfl ?_
          refine mt_iinc (pc := 58) (c9 := 1) dX11_word_58 rfl (by decide) (Nat.le_of_ble_eq_true rfl) rfl ?_
          refine mt_iinc (pc := 61) (c9 := 1) dX11_word_61 rfl (by decide) (Nat.le_of_ble_eq_true rfl) rfl ?_
          refine mt_goto (pc := 64) (tgt := 14) dX11_word_64 (by decide) ?_
          rw [show (nI k + 1 : Int32) = nI (k + 1) from nI_1 k, show (nI (sk b e p + k) + 1 : Int32) = nI (sk b e p + k + 1) from nI_1 _]
          rw [← hs] at nk
          exact nk
        · skip
          rw [if_neg (show ¬ 6 ≤ k from fun z => c37 (nI_le (a := 6) z (by omega)))] at hs
          refine mt_iload_n (pc := 40) dX11_word_40 rfl ?_
          refine mt_iconst (pc := 41) (v := 5) dX11_word_41 (by decide) ?_
          refine mt_ishl (pc := 42) dX11_word_42 ?_
          refine mt_aload_n (pc := 43) dX11_word_43 rfl ?_
          refine mt_mget (pc := 44) gf_X11_20 dX11_word_44 hx rfl ?_
          refine mt_iload_n (pc := 47) dX11_word_47 rfl ?_
          refine mt_mald (pc := 48) (i := 190) (j := sk b e p + k) (x := nI (96 + lc (b (sk b e p + k)))) dX11_word_48 hx rfl rfl (by show _ < 600; omega) (e9.trans e8) ?_
          refine mt_bipush (pc := 49) (v := 96) dX11_word_49 (by decide) ?_
          refine mt_isubN (pc := 51) (a := 96 + lc (b (sk b e p + k))) (b := 96) dX11_word_51 rfl rfl (by omega) ?_
          refine mt_ior (pc := 52) dX11_word_52 ?_
          rw [show 96 + lc (b (sk b e p + k)) - 96 = lc (b (sk b e p + k)) by omega]
          refine mt_goto (pc := 53) (tgt := 57) dX11_word_53 (by decide) ?_
          refine mt_istore_n (pc := 57) dX11_word_57 (Nat.le_of_ble_eq_true rfl) rfl ?_
          refine mt_iinc (pc := 58) (c9 := 1) dX11_word_58 rfl (by decide) (Nat.le_of_ble_eq_true rfl) rfl ?_
          refine mt_iinc (pc := 61) (c9 := 1) dX11_word_61 rfl (by decide) (Nat.le_of_ble_eq_true rfl) rfl ?_
          refine mt_goto (pc := 64) (tgt := 14) dX11_word_64 (by decide) ?_
          rw [show (nI k + 1 : Int32) = nI (k + 1) from nI_1 k, show (nI (sk b e p + k) + 1 : Int32) = nI (sk b e p + k + 1) from nI_1 _]
          rw [← hs] at nk
          exact nk
  · skip
    refine mt_iload_n (pc := 14) dX11_word_14 rfl ?_
    refine mt_aload_n (pc := 15) dX11_word_15 rfl ?_
    refine mt_mgetI (pc := 16) (x := nI e) gf_X11_114 dX11_word_16 hx rfl h3 ?_
    refine mt_icmp_ge (pc := 19) (tgt := 67) dX11_word_19 (by decide) (fun c19 => ?_) (fun c19 => ?_)
    · skip
      refine mt_iload_n (pc := 67) dX11_word_67 rfl ?_
      refine mt_bipush (pc := 68) (v := 6) dX11_word_68 (by decide) ?_
      refine mt_icmp_le (pc := 70) (tgt := 77) dX11_word_70 (by decide) (fun c70 => ?_) (fun c70 => ?_)
      · skip
        refine mt_iload_n (pc := 77) dX11_word_77 rfl ?_
        exact mt_iret rfl dX11_word_78 (Nat.le_of_ble_eq_true rfl) (Nat.le_of_ble_eq_true rfl) ⟨rfl, rfl, rfl⟩
      · skip
        have e7 : wlI b (sk b e p) n = 0 := if_pos (Nat.lt_of_not_le fun z => c70 (nI_le (b := 6) z (by decide)))
        refine mt_iconst (pc := 73) (v := 0) dX11_word_73 (by decide) ?_
        refine mt_goto (pc := 74) (tgt := 78) dX11_word_74 (by decide) ?_
        exact mt_iret rfl dX11_word_78 (Nat.le_of_ble_eq_true rfl) (Nat.le_of_ble_eq_true rfl) ⟨by rw [e7], rfl, rfl⟩
    · skip
      refine mt_aload_n (pc := 22) dX11_word_22 rfl ?_
      refine mt_mget (pc := 23) gf_X11_20 dX11_word_23 hx rfl ?_
      refine mt_iload_n (pc := 26) dX11_word_26 rfl ?_
      refine mt_mald (pc := 27) (i := 190) (j := sk b e p + n) (x := b (sk b e p + n) &&& 255) dX11_word_27 hx rfl rfl (by show _ < 600; exact Nat.lt_of_lt_of_le (Nat.lt_of_not_le fun z => c19 (nI_le z (by omega))) he) (hT (sk b e p + n) (Nat.lt_of_lt_of_le (Nat.lt_of_not_le fun z => c19 (nI_le z (by omega))) he)) ?_
      refine mt_cS (pc := 28) (n_isSmall (d := 0)) cal_X11_isSmall sta_X11_isSmall ml_X11_121 dX11_word_28 (by first | assumption | (show _ ≤ d; omega)) ⟨(Nat.le_of_ble_eq_true rfl), (Nat.le_of_ble_eq_true rfl)⟩ rfl rfl (Nat.le_of_ble_eq_true rfl) ?_
      refine mt_if_eq (pc := 31) (tgt := 67) dX11_word_31 (by decide) (fun c31 => ?_) (fun c31 => ?_)
      · skip
        refine mt_iload_n (pc := 67) dX11_word_67 rfl ?_
        refine mt_bipush (pc := 68) (v := 6) dX11_word_68 (by decide) ?_
        refine mt_icmp_le (pc := 70) (tgt := 77) dX11_word_70 (by decide) (fun c70 => ?_) (fun c70 => ?_)
        · skip
          refine mt_iload_n (pc := 77) dX11_word_77 rfl ?_
          exact mt_iret rfl dX11_word_78 (Nat.le_of_ble_eq_true rfl) (Nat.le_of_ble_eq_true rfl) ⟨rfl, rfl, rfl⟩
        · skip
          have e7 : wlI b (sk b e p) n = 0 := if_pos (Nat.lt_of_not_le fun z => c70 (nI_le (b := 6) z (by decide)))
          refine mt_iconst (pc := 73) (v := 0) dX11_word_73 (by decide) ?_
          refine mt_goto (pc := 74) (tgt := 78) dX11_word_74 (by decide) ?_
          exact mt_iret rfl dX11_word_78 (Nat.le_of_ble_eq_true rfl) (Nat.le_of_ble_eq_true rfl) ⟨by rw [e7], rfl, rfl⟩
      · exact absurd ((by_L (hb _)).mp (Classical.not_not.mp fun z => c31 (isL_if.mpr z))) (hN (Nat.lt_of_not_le fun z => c19 (nI_le z (by omega))))
theorem n_stands {e p j : Nat} (hd : 4 ≤ d) (hx : 215 ≤ nx) (hT : TP (A 190) b) (hb : BY b) (h3 : g 3 = nI e) (he : e ≤ 600) (h4 : g 4 = nI p) (hp : p ≤ e) (hj1 : 1 ≤ j) (hj2 : j < 18) : mm_Con G l yX11_standsHere cX11_standsHere 3 (some .boolean) d 0 0 [.ref 188, .ref ((1000000 + j))] nx (mos h g A) (mm_ret (some (.int (wdi b (sk b e p) (lt b e (sk b e p)) j))) nx (mos h (upd g 4 (nI (sk b e p))) A)) := by
  have hq := sk_le (b := b) hp
  have hr := lt_le (b := b) hq.2
  have htl : mm_tl.getD j 0 < 100 := tl_ok j (by omega)
  refine mm_start (lo := [some (.ref 188), some (.ref ((1000000 + j))), none]) pn_X11 rfl rfl (Nat.le_of_ble_eq_true rfl) ?_
  refine mt_aload_n (pc := 0) dX11_standsHere_0 rfl ?_
  refine mt_cV (pc := 1) (n_here (d := 0) hx hT hb h3 he h4 hp) cal_X11_here vir_X11_here ml_X11_117 dX11_standsHere_1 (by omega) (mos_o _ _ _) (by first | assumption | (show _ ≤ d; omega)) ⟨(Nat.le_of_ble_eq_true rfl), (Nat.le_of_ble_eq_true rfl)⟩ rfl rfl (Nat.le_of_ble_eq_true rfl) ?_
  refine mt_pop (pc := 4) dX11_standsHere_4 rfl ?_
  refine mt_iconst (pc := 5) (v := 0) dX11_standsHere_5 (by decide) ?_
  refine mt_istore_n (pc := 6) dX11_standsHere_6 (Nat.le_of_ble_eq_true rfl) rfl ?_
  refine mt_forE (pc := 7) (α := Unit) (H := fun i (a : Unit) => mos h (upd g 4 (nI (sk b e p))) A) (L := fun i (a : Unit) => [some (.ref 188), some (.ref ((1000000 + j))), some (.int (nI i))]) (I := fun i (a : Unit) => sk b e p + i ≤ e ∧ ∀ z, z < i → b (sk b e p + z) = (mm_tb.getD j []).getD z 0) (mm_tl.getD j 0) (fun i a hi fi ni => ?_) (fun a fi => ?_) (()) (⟨hq.2, fun z hz => absurd hz (Nat.not_lt_zero z)⟩)
  · skip
    refine mt_iload_n (pc := 7) dX11_standsHere_7 rfl ?_
    refine mt_aload_n (pc := 8) dX11_standsHere_8 rfl ?_
    refine mt_cX (pc := 9) (c_length (d := 3) (by omega) (by omega)) cal_J0_length_8abf5 virJ_length ml_X11_125 dX11_standsHere_9 (by omega) (by show 3 + 1 ≤ d; omega) ⟨Nat.zero_le _, Nat.zero_le _⟩ rfl rfl (Nat.le_of_ble_eq_true rfl) ?_
    refine mt_icmp_ge (pc := 12) (tgt := 55) dX11_standsHere_12 (by decide) (fun c12 => ?_) (fun c12 => ?_)
    · exact absurd c12 (nI_ge hi (by first | omega | decide))
    · skip
      refine mt_aload_n (pc := 15) dX11_standsHere_15 rfl ?_
      refine mt_mgetI (pc := 16) (x := nI (sk b e p)) gf_X11_111 dX11_standsHere_16 hx rfl rfl ?_
      refine mt_iload_n (pc := 19) dX11_standsHere_19 rfl ?_
      refine mt_iaddN (pc := 20) (a := sk b e p) (b := i) dX11_standsHere_20 rfl rfl ?_
      refine mt_aload_n (pc := 21) dX11_standsHere_21 rfl ?_
      refine mt_mgetI (pc := 22) (x := nI e) gf_X11_114 dX11_standsHere_22 hx rfl h3 ?_
      refine mt_icmp_ge (pc := 25) (tgt := 47) dX11_standsHere_25 (by decide) (fun c25 => ?_) (fun c25 => ?_)
      · skip
        have hno : ¬ WD b (sk b e p) (lt b e (sk b e p)) j := fun z => by
          have := z.1
          exact nI_ge (show sk b e p + i < e by omega) (by omega) c25
        refine mt_iconst (pc := 47) (v := 0) dX11_standsHere_47 (by decide) ?_
        exact mt_zret rfl (by first | exact Or.inl rfl | exact Or.inr rfl) dX11_standsHere_48 (Nat.le_of_ble_eq_true rfl) (Nat.le_of_ble_eq_true rfl) ⟨by rw [wdi, if_neg hno], rfl, rfl⟩
      · skip
        have hlt : sk b e p + i < e := Nat.lt_of_not_le fun z => c25 (nI_le z (by omega))
        refine mt_aload_n (pc := 28) dX11_standsHere_28 rfl ?_
        refine mt_mget (pc := 29) gf_X11_20 dX11_standsHere_29 hx rfl ?_
        refine mt_aload_n (pc := 32) dX11_standsHere_32 rfl ?_
        refine mt_mgetI (pc := 33) (x := nI (sk b e p)) gf_X11_111 dX11_standsHere_33 hx rfl rfl ?_
        refine mt_iload_n (pc := 36) dX11_standsHere_36 rfl ?_
        refine mt_iaddN (pc := 37) (a := sk b e p) (b := i) dX11_standsHere_37 rfl rfl ?_
        refine mt_mald (pc := 38) (i := 190) (j := (sk b e p) + i) (x := b (sk b e p + i) &&& 255) dX11_standsHere_38 hx rfl rfl (by show _ < 600; omega) (hT (sk b e p + i) (by omega)) ?_
        refine mt_aload_n (pc := 39) dX11_standsHere_39 rfl ?_
        refine mt_iload_n (pc := 40) dX11_standsHere_40 rfl ?_
        refine mt_cX (pc := 41) (c_charAt (d := 3) (i := i) (Nat.le_refl 3) (by omega) hi) cal_J0_charAt_5068e virJ_charAt ml_X11_130 dX11_standsHere_41 (by omega) (by show 3 + 1 ≤ d; omega) ⟨Nat.zero_le _, Nat.zero_le _⟩ rfl rfl (Nat.le_of_ble_eq_true rfl) ?_
        refine mt_icmp_eq (pc := 44) (tgt := 49) dX11_standsHere_44 (by decide) (fun c44 => ?_) (fun c44 => ?_)
        · skip
          have hyes : b (sk b e p + i) = (mm_tb.getD j []).getD i 0 := by
            have h2 := tx_L j hj2 hj1 i hi
            have h4 : isL (b (sk b e p + i)) := (by_L (hb _)).mp (by rw [c44]; exact h2)
            rw [← c44, by_p (hb _) (fun y => h4.1 (Int32.lt_trans y (by decide)))]
          refine mt_iinc (pc := 49) (c9 := 1) dX11_standsHere_49 rfl (by decide) (Nat.le_of_ble_eq_true rfl) rfl ?_
          refine mt_goto (pc := 52) (tgt := 7) dX11_standsHere_52 (by decide) ?_
          rw [show (nI i + 1 : Int32) = nI (i + 1) from nI_1 i]
          exact ni () ⟨by omega, fun z hz => by
            rcases Nat.lt_or_ge z i with h9 | h9
            · exact fi.2 z h9
            · obtain rfl : z = i := by omega
              exact hyes⟩
        · skip
          have hno : ¬ WD b (sk b e p) (lt b e (sk b e p)) j := fun z => by
            have h1 := z.2 i hi
            have h2 := tx_L j hj2 hj1 i hi
            exact c44 (by rw [by_p (hb _) (by rw [h1]; exact fun y => h2.1 (Int32.lt_trans y (by decide))), h1])
          refine mt_iconst (pc := 47) (v := 0) dX11_standsHere_47 (by decide) ?_
          exact mt_zret rfl (by first | exact Or.inl rfl | exact Or.inr rfl) dX11_standsHere_48 (Nat.le_of_ble_eq_true rfl) (Nat.le_of_ble_eq_true rfl) ⟨by rw [wdi, if_neg hno], rfl, rfl⟩
  · skip
    refine mt_iload_n (pc := 7) dX11_standsHere_7 rfl ?_
    refine mt_aload_n (pc := 8) dX11_standsHere_8 rfl ?_
    refine mt_cX (pc := 9) (c_length (d := 3) (by omega) (by omega)) cal_J0_length_8abf5 virJ_length ml_X11_125 dX11_standsHere_9 (by omega) (by show 3 + 1 ≤ d; omega) ⟨Nat.zero_le _, Nat.zero_le _⟩ rfl rfl (Nat.le_of_ble_eq_true rfl) ?_
    refine mt_icmp_ge (pc := 12) (tgt := 55) dX11_standsHere_12 (by decide) (fun c12 => ?_) (fun c12 => ?_)
    · skip
      refine mt_aload_n (pc := 55) dX11_standsHere_55 rfl ?_
      refine mt_mgetI (pc := 56) (x := nI (sk b e p)) gf_X11_111 dX11_standsHere_56 hx rfl rfl ?_
      refine mt_aload_n (pc := 59) dX11_standsHere_59 rfl ?_
      refine mt_cX (pc := 60) (c_length (d := 3) (by omega) (by omega)) cal_J0_length_8abf5 virJ_length ml_X11_125 dX11_standsHere_60 (by omega) (by show 3 + 1 ≤ d; omega) ⟨Nat.zero_le _, Nat.zero_le _⟩ rfl rfl (Nat.le_of_ble_eq_true rfl) ?_
      refine mt_iaddN (pc := 63) (a := sk b e p) (b := mm_tl.getD j 0) dX11_standsHere_63 rfl rfl ?_
      refine mt_aload_n (pc := 64) dX11_standsHere_64 rfl ?_
      refine mt_mgetI (pc := 65) (x := nI e) gf_X11_114 dX11_standsHere_65 hx rfl h3 ?_
      refine mt_icmp_ge (pc := 68) (tgt := 91) dX11_standsHere_68 (by decide) (fun c68 => ?_) (fun c68 => ?_)
      · skip
        have hge : ¬ sk b e p + mm_tl.getD j 0 < e := fun z => nI_ge z (by omega) c68
        refine mt_iconst (pc := 91) (v := 1) dX11_standsHere_91 (by decide) ?_
        refine mt_goto (pc := 92) (tgt := 96) dX11_standsHere_92 (by decide) ?_
        exact mt_zret rfl (by first | exact Or.inl rfl | exact Or.inr rfl) dX11_standsHere_96 (Nat.le_of_ble_eq_true rfl) (Nat.le_of_ble_eq_true rfl) ⟨by rw [wdi, if_pos ⟨lt_eq fi.1 (fun i hi => by rw [fi.2 i hi]; exact tx_L j hj2 hj1 i hi) (fun z => absurd z hge), fi.2⟩], rfl, rfl⟩
      · skip
        have hlt : sk b e p + mm_tl.getD j 0 < e := Nat.lt_of_not_le fun z => c68 (nI_le z (by omega))
        refine mt_aload_n (pc := 71) dX11_standsHere_71 rfl ?_
        refine mt_mget (pc := 72) gf_X11_20 dX11_standsHere_72 hx rfl ?_
        refine mt_aload_n (pc := 75) dX11_standsHere_75 rfl ?_
        refine mt_mgetI (pc := 76) (x := nI (sk b e p)) gf_X11_111 dX11_standsHere_76 hx rfl rfl ?_
        refine mt_aload_n (pc := 79) dX11_standsHere_79 rfl ?_
        refine mt_cX (pc := 80) (c_length (d := 3) (by omega) (by omega)) cal_J0_length_8abf5 virJ_length ml_X11_125 dX11_standsHere_80 (by omega) (by show 3 + 1 ≤ d; omega) ⟨Nat.zero_le _, Nat.zero_le _⟩ rfl rfl (Nat.le_of_ble_eq_true rfl) ?_
        refine mt_iaddN (pc := 83) (a := sk b e p) (b := mm_tl.getD j 0) dX11_standsHere_83 rfl rfl ?_
        refine mt_mald (pc := 84) (i := 190) (j := (sk b e p) + (mm_tl.getD j 0)) (x := b (sk b e p + mm_tl.getD j 0) &&& 255) dX11_standsHere_84 hx rfl rfl (by show _ < 600; omega) (hT (sk b e p + mm_tl.getD j 0) (by omega)) ?_
        refine mt_cS (pc := 85) (n_isSmall (d := 0)) cal_X11_isSmall sta_X11_isSmall ml_X11_121 dX11_standsHere_85 (by first | assumption | (show _ ≤ d; omega)) ⟨(Nat.le_of_ble_eq_true rfl), (Nat.le_of_ble_eq_true rfl)⟩ rfl rfl (Nat.le_of_ble_eq_true rfl) ?_
        refine mt_if_ne (pc := 88) (tgt := 95) dX11_standsHere_88 (by decide) (fun c88 => ?_) (fun c88 => ?_)
        · skip
          have hno : ¬ WD b (sk b e p) (lt b e (sk b e p)) j := fun z => by
            have h1 := lt_nx (b := b) (e - sk b e p) (sk b e p) (by omega) (show lt b e (sk b e p) < e by rw [z.1]; exact hlt)
            have h2 : lt b e (sk b e p) = sk b e p + mm_tl.getD j 0 := z.1
            exact h1 ((by_L (hb _)).mp (Classical.not_not.mp fun y => c88 (isL_if.mpr (by rw [← h2]; exact y))))
          refine mt_iconst (pc := 95) (v := 0) dX11_standsHere_95 (by decide) ?_
          exact mt_zret rfl (by first | exact Or.inl rfl | exact Or.inr rfl) dX11_standsHere_96 (Nat.le_of_ble_eq_true rfl) (Nat.le_of_ble_eq_true rfl) ⟨by rw [wdi, if_neg hno], rfl, rfl⟩
        · skip
          have hL9 : ¬ isL (b (sk b e p + mm_tl.getD j 0)) := fun z => isL_if.mp c88 ((by_L (hb _)).mpr z)
          refine mt_iconst (pc := 91) (v := 1) dX11_standsHere_91 (by decide) ?_
          refine mt_goto (pc := 92) (tgt := 96) dX11_standsHere_92 (by decide) ?_
          exact mt_zret rfl (by first | exact Or.inl rfl | exact Or.inr rfl) dX11_standsHere_96 (Nat.le_of_ble_eq_true rfl) (Nat.le_of_ble_eq_true rfl) ⟨by rw [wdi, if_pos ⟨lt_eq fi.1 (fun i hi => by rw [fi.2 i hi]; exact tx_L j hj2 hj1 i hi) (fun _ => hL9), fi.2⟩], rfl, rfl⟩
    · exact absurd (nI_le (Nat.le_refl _) (by first | omega | decide)) c12
end MWD
