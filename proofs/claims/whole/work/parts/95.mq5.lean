/-! The reference's questions: saint, candles. -/
def snK (v w : Int32) : Nat → P3 := gfl (fun q s => snS v w (q / 2) (q % 2) s) (0, -1, 0)
theorem snK_s (v w : Int32) (c : Nat) : snK v w (c + 1) = snS v w (c / 2) (c % 2) (snK v w c) := rfl
theorem snF_K (v w : Int32) : snF v w 2 = snK v w 4 := by
  have a : snF v w 2 = snS v w 1 1 (snS v w 1 0 (snS v w 0 1 (snS v w 0 0 (0, -1, 0)))) := by simp only [snF, snI, gfl]
  have b : snK v w 4 = snS v w 1 1 (snS v w 1 0 (snS v w 0 1 (snS v w 0 0 (0, -1, 0)))) := by simp only [snK, gfl, Nat.reduceDiv, Nat.reduceMod]
  rw [a, b]
theorem hb_0 {v w : Int32} {i j : Nat} (hi : i < 2) (hj : j < 2) : (if nI i = nI j then (if nI i = 0 then v else w) else if nI i = 0 then 0 else v + w) = hsF v w (nI i) (nI j) := by
  rcases (show i = 0 ∨ i = 1 by omega) with rfl | rfl <;> rcases (show j = 0 ∨ j = 1 by omega) with rfl | rfl <;> rfl
theorem hb_1 {v w : Int32} {i j : Nat} (hi : i < 2) (hj : j < 2) : (if 1 - nI i = nI j then (if 1 - nI i = 0 then v else w) else if 1 - nI i = 0 then 0 else v + w) = hsF v w (1 - nI i) (nI j) := by
  rcases (show i = 0 ∨ i = 1 by omega) with rfl | rfl <;> rcases (show j = 0 ∨ j = 1 by omega) with rfl | rfl <;> rfl
theorem sn_inv (v w : Int32) : ∀ c, c ≤ 4 → ((snK v w c).2.1 = -1 ∧ (snK v w c).2.2 = 0) ∨ ∃ i j, i < 2 ∧ j < 2 ∧ (snK v w c).2.1 = nI (10 * i + j) ∧ (snK v w c).2.2 = hsF v w (nI i) (nI j) + hsF v w (nI j) (nI i)
  | 0, _ => Or.inl ⟨rfl, rfl⟩
  | c + 1, hc => by
    have ih := sn_inv v w c (by omega)
    rw [snK_s]
    generalize snK v w c = s at ih
    unfold snS
    split
    · exact ih
    · split
      · exact ih
      · split
        · refine Or.inr ⟨c / 2, c % 2, by omega, by omega, ?_, rfl⟩
          show 10 * nI (c / 2) + nI (c % 2) = _
          rw [show (10 : Int32) = nI 10 from rfl, pk_mul, nI_add]
        · exact ih
theorem gu_n {k : CS} {f : Nat → Int32} {S : Int32} {b b' : Nat} (hb : b ≤ b') (hb3 : b' ≤ 300) (hf : ∀ a, a < 6 → ∃ u, f (18 + a) = nI u ∧ u ≤ 300) : ∀ m, m ≤ 6 → ∃ u u', guF k f (nI b) S m = nI u ∧ guF k f (nI b') S m = nI u' ∧ u ≤ u' ∧ u' ≤ 300 * m
  | 0, _ => ⟨0, 0, rfl, rfl, Nat.le_refl 0, by decide⟩
  | m + 1, hm => by
    obtain ⟨u, u', h1, h2, h3, h4⟩ := gu_n (k := k) (S := S) hb hb3 hf m (by omega)
    obtain ⟨x, x1, x2⟩ := hf m (by omega)
    show ∃ u u', (if (S >>> (nI m &&& 31)) &&& 1 = 1 then guF k f (nI b) S m + (if nI b < f (18 + m) then nI b else f (18 + m)) else guF k f (nI b) S m) = nI u ∧ (if (S >>> (nI m &&& 31)) &&& 1 = 1 then guF k f (nI b') S m + (if nI b' < f (18 + m) then nI b' else f (18 + m)) else guF k f (nI b') S m) = nI u' ∧ _
    have mn : ∀ y, y ≤ 300 → (if nI y < f (18 + m) then nI y else f (18 + m)) = nI (min y x) := fun y hy => by
      rw [x1]
      by_cases z : y < x
      · rw [if_pos (nI_lt z (by omega)), Nat.min_eq_left (by omega)]
      · rw [if_neg (nI_nlt (by omega) (by omega)), Nat.min_eq_right (by omega)]
    rw [mn b (by omega), mn b' hb3]
    by_cases hS : (S >>> (nI m &&& 31)) &&& 1 = 1
    · rw [if_pos hS, if_pos hS, h1, h2, nI_add, nI_add]
      exact ⟨_, _, rfl, rfl, by omega, by omega⟩
    · rw [if_neg hS, if_neg hS]
      exact ⟨u, u', h1, h2, h3, by omega⟩
theorem cnd_B {k : CS} {f : Nat → Int32} {S n : Int32} : ∀ q b, guF k f (nI b) S k.2.1 ≤ n → guF k f (nI (cndB k f S n q b)) S k.2.1 ≤ n ∧ b ≤ cndB k f S n q b ∧ (cndB k f S n q b < b + q → ¬ guF k f (nI (cndB k f S n q b + 1)) S k.2.1 ≤ n)
  | 0, b, h => ⟨h, Nat.le_refl b, fun z => absurd z (Nat.lt_irrefl b)⟩
  | q + 1, b, h => by
    rw [cndB_s]
    by_cases hc : guF k f (nI (b + 1)) S k.2.1 ≤ n
    · rw [if_pos hc]
      have := cnd_B q (b + 1) hc
      exact ⟨this.1, by omega, fun z => this.2.2 (by omega)⟩
    · rw [if_neg hc]
      exact ⟨h, Nat.le_refl b, fun _ => hc⟩
theorem gu_0 {k : CS} {f : Nat → Int32} {S : Int32} (hf : ∀ a, a < 6 → ∃ u, f (18 + a) = nI u ∧ u ≤ 300) : ∀ m, m ≤ 6 → guF k f (nI 0) S m = 0
  | 0, _ => rfl
  | m + 1, hm => by
    show (if (S >>> (nI m &&& 31)) &&& 1 = 1 then guF k f (nI 0) S m + (if nI 0 < f (18 + m) then nI 0 else f (18 + m)) else guF k f (nI 0) S m) = 0
    rw [gu_0 hf m (by omega)]
    obtain ⟨x, x1, x2⟩ := hf m (by omega)
    by_cases hS : (S >>> (nI m &&& 31)) &&& 1 = 1
    · rw [if_pos hS, x1]
      by_cases z : 0 < x
      · rw [if_pos (nI_lt z (by omega))]
        rfl
      · rw [if_neg (nI_nlt (by omega) (by omega)), show x = 0 by omega]
        rfl
    · rw [if_neg hS]
theorem neg_m : ∀ n, n < 7 → -((1 : Int32) <<< (nI n &&& 31)) = nI (2 ^ n - 1) ^^^ (-1) := by decide +kernel
theorem cnd_S {S : Int32} {n : Nat} (hn : n ≤ 6) : S &&& (-((1 : Int32) <<< (nI n &&& 31))) = 0 ↔ ¬ S < 0 ∧ ¬ nI (2 ^ n) ≤ S := by
  obtain ⟨s, hs, rfl⟩ := wb_of32 S
  have hp : 2 ^ n ≤ 2 ^ 6 := pow_mono hn
  have hp1 := Nat.two_pow_pos n
  constructor
  · intro z
    rw [neg_m n (by omega)] at z
    have := sub_le hs z
    exact ⟨nI_pos (by omega), nI_ge (by omega) (by omega)⟩
  · rintro ⟨z1, z2⟩
    have h31 : s < 2 ^ 31 := Nat.lt_of_not_le fun y => z1 (by
      rw [Int32.lt_iff_toInt_lt]
      show (BitVec.ofNat 32 s).toInt < 0
      rw [BitVec.toInt_eq_toNat_cond, BitVec.toNat_ofNat, Nat.mod_eq_of_lt hs, if_neg (by omega)]
      omega)
    have hlt : s < 2 ^ n := Nat.lt_of_not_le fun y => z2 (nI_le y h31)
    have : ∀ n, n < 7 → ∀ s, s < 64 → s < 2 ^ n → nI s &&& (-((1 : Int32) <<< (nI n &&& 31))) = 0 := by decide +kernel
    exact this n (by omega) s (by omega) hlt
section MQF
variable {G : mm_G} {l : Launch} {d nx : Nat} {h : Nat → mm_E} {g : MG} {A : MA} {k : CS} {cs : List Nat} {f : Nat → Int32} {bk : BS}
theorem n_saint {v w x : Int32} (hd : 2 ≤ d) (hx : 215 ≤ nx) : mm_Con G l yX11_saint cX11_saint 9 (some .int) d 0 0 [.ref 188, .int v, .int w, .int x] nx (mos h g A) (P_mq 1 1 (ifR v 0 99 (ifR w 0 99 (ifR x 0 2 (.inr (snV v w x))))) nx h g A) := by
  by_cases h1 : ¬ v < 0 ∧ ¬ 99 < v
  · rw [ifR_p h1]
    by_cases h2 : ¬ w < 0 ∧ ¬ 99 < w
    · rw [ifR_p h2]
      by_cases h3 : ¬ x < 0 ∧ ¬ 2 < x
      · rw [ifR_p h3]
        obtain ⟨r, hr⟩ : ∃ r : Nat ⊕ Int32, r = .inr (snV v w x) := ⟨_, rfl⟩
        rw [← hr]
        unfold snV at hr
        rw [snF_K] at hr
        refine mm_start (lo := [some (.ref 188), some (.int v), some (.int w), some (.int x), none, none, none, none, none]) pn_X11 rfl rfl (Nat.le_of_ble_eq_true rfl) ?_
        refine mt_aload_n (pc := 0) dX11_saint_0 rfl ?_
        refine mt_iconst (pc := 1) (v := 0) dX11_saint_1 (by decide) ?_
        refine mt_mput (pc := 2) pf_X11_3 dX11_saint_2 hx rfl ?_
        refine mt_aload_n (pc := 5) dX11_saint_5 rfl ?_
        refine mt_iload_n (pc := 6) dX11_saint_6 rfl ?_
        refine mt_iconst (pc := 7) (v := 0) dX11_saint_7 (by decide) ?_
        refine mt_bipush (pc := 8) (v := 99) dX11_saint_8 (by decide) ?_
        refine mt_cS (pc := 10) (n_within) cal_X11_within sta_X11_within ml_X11_348 dX11_saint_10 (by first | assumption | (show _ ≤ d; omega)) ⟨(Nat.le_of_ble_eq_true rfl), (Nat.le_of_ble_eq_true rfl)⟩ rfl rfl (Nat.le_of_ble_eq_true rfl) ?_
        rw [in_w h1]
        refine mt_if_eq (pc := 13) (tgt := 39) dX11_saint_13 (by decide) (fun c13 => ?_) (fun c13 => ?_)
        · exact absurd c13 (by decide)
        · skip
          refine mt_iload_n (pc := 16) dX11_saint_16 rfl ?_
          refine mt_iconst (pc := 17) (v := 0) dX11_saint_17 (by decide) ?_
          refine mt_bipush (pc := 18) (v := 99) dX11_saint_18 (by decide) ?_
          refine mt_cS (pc := 20) (n_within) cal_X11_within sta_X11_within ml_X11_348 dX11_saint_20 (by first | assumption | (show _ ≤ d; omega)) ⟨(Nat.le_of_ble_eq_true rfl), (Nat.le_of_ble_eq_true rfl)⟩ rfl rfl (Nat.le_of_ble_eq_true rfl) ?_
          rw [in_w h2]
          refine mt_if_eq (pc := 23) (tgt := 39) dX11_saint_23 (by decide) (fun c23 => ?_) (fun c23 => ?_)
          · exact absurd c23 (by decide)
          · skip
            refine mt_iload_n (pc := 26) dX11_saint_26 rfl ?_
            refine mt_iconst (pc := 27) (v := 0) dX11_saint_27 (by decide) ?_
            refine mt_iconst (pc := 28) (v := 2) dX11_saint_28 (by decide) ?_
            refine mt_cS (pc := 29) (n_within) cal_X11_within sta_X11_within ml_X11_348 dX11_saint_29 (by first | assumption | (show _ ≤ d; omega)) ⟨(Nat.le_of_ble_eq_true rfl), (Nat.le_of_ble_eq_true rfl)⟩ rfl rfl (Nat.le_of_ble_eq_true rfl) ?_
            rw [in_w h3]
            refine mt_if_eq (pc := 32) (tgt := 39) dX11_saint_32 (by decide) (fun c32 => ?_) (fun c32 => ?_)
            · exact absurd c32 (by decide)
            · skip
              refine mt_iconst (pc := 35) (v := 1) dX11_saint_35 (by decide) ?_
              refine mt_goto (pc := 36) (tgt := 40) dX11_saint_36 (by decide) ?_
              refine mt_iconst (pc := 40) (v := 1) dX11_saint_40 (by decide) ?_
              refine mt_iconst (pc := 41) (v := 1) dX11_saint_41 (by decide) ?_
              refine mt_cV (pc := 42) (n_mayY (d := 0) (q := 1) hx rfl (by decide)) cal_X11_may vir_X11_may ml_X11_190 dX11_saint_42 (by omega) (mos_o _ _ _) (by first | assumption | (show _ ≤ d; omega)) ⟨(Nat.le_of_ble_eq_true rfl), (Nat.le_of_ble_eq_true rfl)⟩ rfl rfl (Nat.le_of_ble_eq_true rfl) ?_
              refine mt_if_ne (pc := 45) (tgt := 50) dX11_saint_45 (by decide) (fun c45 => ?_) (fun c45 => ?_)
              · skip
                refine mt_iconst (pc := 50) (v := 0) dX11_saint_50 (by decide) ?_
                refine mt_istore (pc := 51) dX11_saint_51 (Nat.le_of_ble_eq_true rfl) rfl ?_
                refine mt_iconst (pc := 53) (v := (-1)) dX11_saint_53 (by decide) ?_
                refine mt_istore (pc := 54) dX11_saint_54 (Nat.le_of_ble_eq_true rfl) rfl ?_
                refine mt_iconst (pc := 56) (v := 0) dX11_saint_56 (by decide) ?_
                refine mt_istore (pc := 57) dX11_saint_57 (Nat.le_of_ble_eq_true rfl) rfl ?_
                refine mt_for (pc := 59) (H := fun c => mos h (upd g 0 0) A) (L := fun c => [some (.ref 188), some (.int v), some (.int w), some (.int x), some (.int ((snK v w c).1)), some (.int ((snK v w c).2.1)), some (.int (nI c)), none, none]) 4 (fun c hc nc => ?_) ?_
                · skip
                  rw [snK_s] at nc
                  generalize snK v w c = s at nc ⊢
                  unfold snS at nc
                  refine mt_iload (pc := 59) dX11_saint_59 rfl ?_
                  refine mt_iconst (pc := 61) (v := 4) dX11_saint_61 (by decide) ?_
                  refine mt_icmp_ge (pc := 62) (tgt := 156) dX11_saint_62 (by decide) (fun c62 => ?_) (fun c62 => ?_)
                  · exact absurd c62 (nI_ge hc (by first | omega | decide))
                  · skip
                    refine mt_iload (pc := 65) dX11_saint_65 rfl ?_
                    refine mt_iconst (pc := 67) (v := 2) dX11_saint_67 (by decide) ?_
                    refine mt_idivN (pc := 68) (a := c) (b := 2) dX11_saint_68 rfl rfl (by omega) (by omega) (by omega) ?_
                    refine mt_istore (pc := 69) dX11_saint_69 (Nat.le_of_ble_eq_true rfl) rfl ?_
                    refine mt_iload (pc := 71) dX11_saint_71 rfl ?_
                    refine mt_iconst (pc := 73) (v := 2) dX11_saint_73 (by decide) ?_
                    refine mt_iremN (pc := 74) (a := c) (b := 2) dX11_saint_74 rfl rfl (by omega) (by omega) (by omega) ?_
                    refine mt_istore (pc := 75) dX11_saint_75 (Nat.le_of_ble_eq_true rfl) rfl ?_
                    refine mt_iconst (pc := 77) (v := 1) dX11_saint_77 (by decide) ?_
                    refine mt_iload (pc := 78) dX11_saint_78 rfl ?_
                    refine mt_isub (pc := 80) dX11_saint_80 ?_
                    refine mt_iload (pc := 81) dX11_saint_81 rfl ?_
                    refine mt_iload_n (pc := 83) dX11_saint_83 rfl ?_
                    refine mt_iload_n (pc := 84) dX11_saint_84 rfl ?_
                    refine mt_cS (pc := 85) (n_hasBy) cal_X11_hasBy sta_X11_hasBy ml_X11_403 dX11_saint_85 (by first | assumption | (show _ ≤ d; omega)) ⟨(Nat.le_of_ble_eq_true rfl), (Nat.le_of_ble_eq_true rfl)⟩ rfl rfl (Nat.le_of_ble_eq_true rfl) ?_
                    rw [hb_1 (by omega) (by omega)]
                    refine mt_iload (pc := 88) dX11_saint_88 rfl ?_
                    refine mt_iload (pc := 90) dX11_saint_90 rfl ?_
                    refine mt_iload_n (pc := 92) dX11_saint_92 rfl ?_
                    refine mt_iload_n (pc := 93) dX11_saint_93 rfl ?_
                    refine mt_cS (pc := 94) (n_hasBy) cal_X11_hasBy sta_X11_hasBy ml_X11_403 dX11_saint_94 (by first | assumption | (show _ ≤ d; omega)) ⟨(Nat.le_of_ble_eq_true rfl), (Nat.le_of_ble_eq_true rfl)⟩ rfl rfl (Nat.le_of_ble_eq_true rfl) ?_
                    rw [hb_0 (by omega) (by omega)]
                    refine mt_icmp_gt (pc := 97) (tgt := 150) dX11_saint_97 (by decide) (fun c97 => ?_) (fun c97 => ?_)
                    · skip
                      rw [if_pos c97] at nc
                      refine mt_iinc (pc := 150) (c9 := 1) dX11_saint_150 rfl (by decide) (Nat.le_of_ble_eq_true rfl) rfl ?_
                      refine mt_goto (pc := 153) (tgt := 59) dX11_saint_153 (by decide) ?_
                      rw [show (nI c + 1 : Int32) = nI (c + 1) from nI_1 c]
                      exact mt_forget 7 (mt_forget 8 nc)
                    · skip
                      rw [if_neg c97] at nc
                      refine mt_iconst (pc := 100) (v := 1) dX11_saint_100 (by decide) ?_
                      refine mt_iload (pc := 101) dX11_saint_101 rfl ?_
                      refine mt_isub (pc := 103) dX11_saint_103 ?_
                      refine mt_iload (pc := 104) dX11_saint_104 rfl ?_
                      refine mt_iload_n (pc := 106) dX11_saint_106 rfl ?_
                      refine mt_iload_n (pc := 107) dX11_saint_107 rfl ?_
                      refine mt_cS (pc := 108) (n_hasBy) cal_X11_hasBy sta_X11_hasBy ml_X11_403 dX11_saint_108 (by first | assumption | (show _ ≤ d; omega)) ⟨(Nat.le_of_ble_eq_true rfl), (Nat.le_of_ble_eq_true rfl)⟩ rfl rfl (Nat.le_of_ble_eq_true rfl) ?_
                      rw [hb_1 (by omega) (by omega)]
                      refine mt_iload (pc := 111) dX11_saint_111 rfl ?_
                      refine mt_iload (pc := 113) dX11_saint_113 rfl ?_
                      refine mt_iload_n (pc := 115) dX11_saint_115 rfl ?_
                      refine mt_iload_n (pc := 116) dX11_saint_116 rfl ?_
                      refine mt_cS (pc := 117) (n_hasBy) cal_X11_hasBy sta_X11_hasBy ml_X11_403 dX11_saint_117 (by first | assumption | (show _ ≤ d; omega)) ⟨(Nat.le_of_ble_eq_true rfl), (Nat.le_of_ble_eq_true rfl)⟩ rfl rfl (Nat.le_of_ble_eq_true rfl) ?_
                      rw [hb_0 (by omega) (by omega)]
                      refine mt_icmp_le (pc := 120) (tgt := 126) dX11_saint_120 (by decide) (fun c120 => ?_) (fun c120 => ?_)
                      · skip
                        rw [if_neg (Int32.not_lt.mpr c120)] at nc
                        refine mt_iinc (pc := 126) (c9 := 1) dX11_saint_126 rfl (by decide) (Nat.le_of_ble_eq_true rfl) rfl ?_
                        refine mt_iload (pc := 129) dX11_saint_129 rfl ?_
                        refine mt_iconst (pc := 131) (v := (-1)) dX11_saint_131 (by decide) ?_
                        refine mt_icmp_ne (pc := 132) (tgt := 146) dX11_saint_132 (by decide) (fun c132 => ?_) (fun c132 => ?_)
                        · skip
                          rw [if_neg c132] at nc
                          refine mt_iload (pc := 146) dX11_saint_146 rfl ?_
                          refine mt_istore (pc := 148) dX11_saint_148 (Nat.le_of_ble_eq_true rfl) rfl ?_
                          refine mt_iinc (pc := 150) (c9 := 1) dX11_saint_150 rfl (by decide) (Nat.le_of_ble_eq_true rfl) rfl ?_
                          refine mt_goto (pc := 153) (tgt := 59) dX11_saint_153 (by decide) ?_
                          rw [show (nI c + 1 : Int32) = nI (c + 1) from nI_1 c]
                          exact mt_forget 7 (mt_forget 8 nc)
                        · skip
                          rw [if_pos c132] at nc
                          refine mt_bipush (pc := 135) (v := 10) dX11_saint_135 (by decide) ?_
                          refine mt_iload (pc := 137) dX11_saint_137 rfl ?_
                          refine mt_imul (pc := 139) dX11_saint_139 ?_
                          refine mt_iload (pc := 140) dX11_saint_140 rfl ?_
                          refine mt_iadd (pc := 142) dX11_saint_142 ?_
                          refine mt_goto (pc := 143) (tgt := 148) dX11_saint_143 (by decide) ?_
                          refine mt_istore (pc := 148) dX11_saint_148 (Nat.le_of_ble_eq_true rfl) rfl ?_
                          refine mt_iinc (pc := 150) (c9 := 1) dX11_saint_150 rfl (by decide) (Nat.le_of_ble_eq_true rfl) rfl ?_
                          refine mt_goto (pc := 153) (tgt := 59) dX11_saint_153 (by decide) ?_
                          rw [show (nI c + 1 : Int32) = nI (c + 1) from nI_1 c]
                          exact mt_forget 7 (mt_forget 8 nc)
                      · skip
                        rw [if_pos (Int32.not_le.mp c120)] at nc
                        refine mt_goto (pc := 123) (tgt := 150) dX11_saint_123 (by decide) ?_
                        refine mt_iinc (pc := 150) (c9 := 1) dX11_saint_150 rfl (by decide) (Nat.le_of_ble_eq_true rfl) rfl ?_
                        refine mt_goto (pc := 153) (tgt := 59) dX11_saint_153 (by decide) ?_
                        rw [show (nI c + 1 : Int32) = nI (c + 1) from nI_1 c]
                        exact mt_forget 7 (mt_forget 8 nc)
                · skip
                  have inv := sn_inv v w 4 (Nat.le_refl 4)
                  generalize snK v w 4 = s at inv hr ⊢
                  refine mt_iload (pc := 59) dX11_saint_59 rfl ?_
                  refine mt_iconst (pc := 61) (v := 4) dX11_saint_61 (by decide) ?_
                  refine mt_icmp_ge (pc := 62) (tgt := 156) dX11_saint_62 (by decide) (fun c62 => ?_) (fun c62 => ?_)
                  · skip
                    refine mt_iload_n (pc := 156) dX11_saint_156 rfl ?_
                    refine mt_if_ne (pc := 157) (tgt := 165) dX11_saint_157 (by decide) (fun c157 => ?_) (fun c157 => ?_)
                    · skip
                      refine mt_iload_n (pc := 165) dX11_saint_165 rfl ?_
                      refine mt_iconst (pc := 166) (v := 1) dX11_saint_166 (by decide) ?_
                      refine mt_icmp_ne (pc := 167) (tgt := 175) dX11_saint_167 (by decide) (fun c167 => ?_) (fun c167 => ?_)
                      · skip
                        refine mt_iload (pc := 175) dX11_saint_175 rfl ?_
                        refine mt_iconst (pc := 177) (v := (-1)) dX11_saint_177 (by decide) ?_
                        refine mt_icmp_ne (pc := 178) (tgt := 185) dX11_saint_178 (by decide) (fun c178 => ?_) (fun c178 => ?_)
                        · skip
                          obtain ⟨i, j, i1, i2, i3, i4⟩ := inv.resolve_left (fun z => c178 z.1)
                          rw [i3]
                          refine mt_iload (pc := 185) dX11_saint_185 rfl ?_
                          refine mt_bipush (pc := 187) (v := 10) dX11_saint_187 (by decide) ?_
                          refine mt_idivN (pc := 189) (a := 10 * i + j) (b := 10) dX11_saint_189 rfl rfl (by omega) (by omega) (by omega) ?_
                          refine mt_iload (pc := 190) dX11_saint_190 rfl ?_
                          refine mt_bipush (pc := 192) (v := 10) dX11_saint_192 (by decide) ?_
                          refine mt_iremN (pc := 194) (a := 10 * i + j) (b := 10) dX11_saint_194 rfl rfl (by omega) (by omega) (by omega) ?_
                          refine mt_iload_n (pc := 195) dX11_saint_195 rfl ?_
                          refine mt_iload_n (pc := 196) dX11_saint_196 rfl ?_
                          rw [show (10 * i + j) / 10 = i by omega, show (10 * i + j) % 10 = j by omega]
                          refine mt_cS (pc := 197) (n_hasBy) cal_X11_hasBy sta_X11_hasBy ml_X11_403 dX11_saint_197 (by first | assumption | (show _ ≤ d; omega)) ⟨(Nat.le_of_ble_eq_true rfl), (Nat.le_of_ble_eq_true rfl)⟩ rfl rfl (Nat.le_of_ble_eq_true rfl) ?_
                          rw [hb_0 i1 i2]
                          refine mt_iload (pc := 200) dX11_saint_200 rfl ?_
                          refine mt_bipush (pc := 202) (v := 10) dX11_saint_202 (by decide) ?_
                          refine mt_iremN (pc := 204) (a := 10 * i + j) (b := 10) dX11_saint_204 rfl rfl (by omega) (by omega) (by omega) ?_
                          refine mt_iload (pc := 205) dX11_saint_205 rfl ?_
                          refine mt_bipush (pc := 207) (v := 10) dX11_saint_207 (by decide) ?_
                          refine mt_idivN (pc := 209) (a := 10 * i + j) (b := 10) dX11_saint_209 rfl rfl (by omega) (by omega) (by omega) ?_
                          refine mt_iload_n (pc := 210) dX11_saint_210 rfl ?_
                          refine mt_iload_n (pc := 211) dX11_saint_211 rfl ?_
                          rw [show (10 * i + j) / 10 = i by omega, show (10 * i + j) % 10 = j by omega]
                          refine mt_cS (pc := 212) (n_hasBy) cal_X11_hasBy sta_X11_hasBy ml_X11_403 dX11_saint_212 (by first | assumption | (show _ ≤ d; omega)) ⟨(Nat.le_of_ble_eq_true rfl), (Nat.le_of_ble_eq_true rfl)⟩ rfl rfl (Nat.le_of_ble_eq_true rfl) ?_
                          rw [hb_0 i2 i1]
                          refine mt_iadd (pc := 215) dX11_saint_215 ?_
                          exact mt_iret rfl dX11_saint_216 (Nat.le_of_ble_eq_true rfl) (Nat.le_of_ble_eq_true rfl) (P_mqv (c0 := 1) (c1 := 1) (r := r) (by rw [hr, if_neg c157, if_neg c167, i4]) GQ_0 AQ_rf)
                        · skip
                          have e0 : s.2.2 = 0 := by
                            rcases inv with z | ⟨i, j, i1, i2, i3, i4⟩
                            · exact z.2
                            · rw [i3] at c178
                              exact absurd c178 (nI_m1 (hi := 1000) (by show ((10 * i + j : Nat) : Int) ≤ 1000; omega))
                          refine mt_iconst (pc := 181) (v := 0) dX11_saint_181 (by decide) ?_
                          refine mt_goto (pc := 182) (tgt := 216) dX11_saint_182 (by decide) ?_
                          exact mt_iret rfl dX11_saint_216 (Nat.le_of_ble_eq_true rfl) (Nat.le_of_ble_eq_true rfl) (P_mqv (c0 := 1) (c1 := 1) (r := r) (by rw [hr, if_neg c157, if_neg c167, e0]) GQ_0 AQ_rf)
                      · skip
                        refine mt_iload (pc := 170) dX11_saint_170 rfl ?_
                        refine mt_goto (pc := 172) (tgt := 216) dX11_saint_172 (by decide) ?_
                        exact mt_iret rfl dX11_saint_216 (Nat.le_of_ble_eq_true rfl) (Nat.le_of_ble_eq_true rfl) (P_mqv (c0 := 1) (c1 := 1) (r := r) (by rw [hr, if_neg c157, if_pos c167]) GQ_0 AQ_rf)
                    · skip
                      refine mt_iload (pc := 160) dX11_saint_160 rfl ?_
                      refine mt_goto (pc := 162) (tgt := 216) dX11_saint_162 (by decide) ?_
                      exact mt_iret rfl dX11_saint_216 (Nat.le_of_ble_eq_true rfl) (Nat.le_of_ble_eq_true rfl) (P_mqv (c0 := 1) (c1 := 1) (r := r) (by rw [hr, if_pos c157]) GQ_0 AQ_rf)
                  · exact absurd (nI_le (Nat.le_refl _) (by first | omega | decide)) c62
              · exact absurd c45 (by decide)
      · rw [ifR_n h3]
        refine mm_start (lo := [some (.ref 188), some (.int v), some (.int w), some (.int x), none, none, none, none, none]) pn_X11 rfl rfl (Nat.le_of_ble_eq_true rfl) ?_
        refine mt_aload_n (pc := 0) dX11_saint_0 rfl ?_
        refine mt_iconst (pc := 1) (v := 0) dX11_saint_1 (by decide) ?_
        refine mt_mput (pc := 2) pf_X11_3 dX11_saint_2 hx rfl ?_
        refine mt_aload_n (pc := 5) dX11_saint_5 rfl ?_
        refine mt_iload_n (pc := 6) dX11_saint_6 rfl ?_
        refine mt_iconst (pc := 7) (v := 0) dX11_saint_7 (by decide) ?_
        refine mt_bipush (pc := 8) (v := 99) dX11_saint_8 (by decide) ?_
        refine mt_cS (pc := 10) (n_within) cal_X11_within sta_X11_within ml_X11_348 dX11_saint_10 (by first | assumption | (show _ ≤ d; omega)) ⟨(Nat.le_of_ble_eq_true rfl), (Nat.le_of_ble_eq_true rfl)⟩ rfl rfl (Nat.le_of_ble_eq_true rfl) ?_
        rw [in_w h1]
        refine mt_if_eq (pc := 13) (tgt := 39) dX11_saint_13 (by decide) (fun c13 => ?_) (fun c13 => ?_)
        · exact absurd c13 (by decide)
        · skip
          refine mt_iload_n (pc := 16) dX11_saint_16 rfl ?_
          refine mt_iconst (pc := 17) (v := 0) dX11_saint_17 (by decide) ?_
          refine mt_bipush (pc := 18) (v := 99) dX11_saint_18 (by decide) ?_
          refine mt_cS (pc := 20) (n_within) cal_X11_within sta_X11_within ml_X11_348 dX11_saint_20 (by first | assumption | (show _ ≤ d; omega)) ⟨(Nat.le_of_ble_eq_true rfl), (Nat.le_of_ble_eq_true rfl)⟩ rfl rfl (Nat.le_of_ble_eq_true rfl) ?_
          rw [in_w h2]
          refine mt_if_eq (pc := 23) (tgt := 39) dX11_saint_23 (by decide) (fun c23 => ?_) (fun c23 => ?_)
          · exact absurd c23 (by decide)
          · skip
            refine mt_iload_n (pc := 26) dX11_saint_26 rfl ?_
            refine mt_iconst (pc := 27) (v := 0) dX11_saint_27 (by decide) ?_
            refine mt_iconst (pc := 28) (v := 2) dX11_saint_28 (by decide) ?_
            refine mt_cS (pc := 29) (n_within) cal_X11_within sta_X11_within ml_X11_348 dX11_saint_29 (by first | assumption | (show _ ≤ d; omega)) ⟨(Nat.le_of_ble_eq_true rfl), (Nat.le_of_ble_eq_true rfl)⟩ rfl rfl (Nat.le_of_ble_eq_true rfl) ?_
            rw [in_nw h3]
            refine mt_if_eq (pc := 32) (tgt := 39) dX11_saint_32 (by decide) (fun c32 => ?_) (fun c32 => ?_)
            · skip
              refine mt_iconst (pc := 39) (v := 0) dX11_saint_39 (by decide) ?_
              refine mt_iconst (pc := 40) (v := 1) dX11_saint_40 (by decide) ?_
              refine mt_iconst (pc := 41) (v := 1) dX11_saint_41 (by decide) ?_
              refine mt_cV (pc := 42) (n_mayN (d := 0) (q := 1) hx (by decide) rfl rfl (by decide)) cal_X11_may vir_X11_may ml_X11_190 dX11_saint_42 (by omega) (mos_o _ _ _) (by first | assumption | (show _ ≤ d; omega)) ⟨(Nat.le_of_ble_eq_true rfl), (Nat.le_of_ble_eq_true rfl)⟩ rfl rfl (Nat.le_of_ble_eq_true rfl) ?_
              refine mt_if_ne (pc := 45) (tgt := 50) dX11_saint_45 (by decide) (fun c45 => ?_) (fun c45 => ?_)
              · exact absurd rfl c45
              · skip
                refine mt_iconst (pc := 48) (v := 0) dX11_saint_48 (by decide) ?_
                exact mt_iret rfl dX11_saint_49 (Nat.le_of_ble_eq_true rfl) (Nat.le_of_ble_eq_true rfl) (P_mq1 (c0 := 1) (c1 := 1) (r := .inl 1) rfl)
            · exact absurd rfl c32
    · rw [ifR_n h2]
      refine mm_start (lo := [some (.ref 188), some (.int v), some (.int w), some (.int x), none, none, none, none, none]) pn_X11 rfl rfl (Nat.le_of_ble_eq_true rfl) ?_
      refine mt_aload_n (pc := 0) dX11_saint_0 rfl ?_
      refine mt_iconst (pc := 1) (v := 0) dX11_saint_1 (by decide) ?_
      refine mt_mput (pc := 2) pf_X11_3 dX11_saint_2 hx rfl ?_
      refine mt_aload_n (pc := 5) dX11_saint_5 rfl ?_
      refine mt_iload_n (pc := 6) dX11_saint_6 rfl ?_
      refine mt_iconst (pc := 7) (v := 0) dX11_saint_7 (by decide) ?_
      refine mt_bipush (pc := 8) (v := 99) dX11_saint_8 (by decide) ?_
      refine mt_cS (pc := 10) (n_within) cal_X11_within sta_X11_within ml_X11_348 dX11_saint_10 (by first | assumption | (show _ ≤ d; omega)) ⟨(Nat.le_of_ble_eq_true rfl), (Nat.le_of_ble_eq_true rfl)⟩ rfl rfl (Nat.le_of_ble_eq_true rfl) ?_
      rw [in_w h1]
      refine mt_if_eq (pc := 13) (tgt := 39) dX11_saint_13 (by decide) (fun c13 => ?_) (fun c13 => ?_)
      · exact absurd c13 (by decide)
      · skip
        refine mt_iload_n (pc := 16) dX11_saint_16 rfl ?_
        refine mt_iconst (pc := 17) (v := 0) dX11_saint_17 (by decide) ?_
        refine mt_bipush (pc := 18) (v := 99) dX11_saint_18 (by decide) ?_
        refine mt_cS (pc := 20) (n_within) cal_X11_within sta_X11_within ml_X11_348 dX11_saint_20 (by first | assumption | (show _ ≤ d; omega)) ⟨(Nat.le_of_ble_eq_true rfl), (Nat.le_of_ble_eq_true rfl)⟩ rfl rfl (Nat.le_of_ble_eq_true rfl) ?_
        rw [in_nw h2]
        refine mt_if_eq (pc := 23) (tgt := 39) dX11_saint_23 (by decide) (fun c23 => ?_) (fun c23 => ?_)
        · skip
          refine mt_iconst (pc := 39) (v := 0) dX11_saint_39 (by decide) ?_
          refine mt_iconst (pc := 40) (v := 1) dX11_saint_40 (by decide) ?_
          refine mt_iconst (pc := 41) (v := 1) dX11_saint_41 (by decide) ?_
          refine mt_cV (pc := 42) (n_mayN (d := 0) (q := 1) hx (by decide) rfl rfl (by decide)) cal_X11_may vir_X11_may ml_X11_190 dX11_saint_42 (by omega) (mos_o _ _ _) (by first | assumption | (show _ ≤ d; omega)) ⟨(Nat.le_of_ble_eq_true rfl), (Nat.le_of_ble_eq_true rfl)⟩ rfl rfl (Nat.le_of_ble_eq_true rfl) ?_
          refine mt_if_ne (pc := 45) (tgt := 50) dX11_saint_45 (by decide) (fun c45 => ?_) (fun c45 => ?_)
          · exact absurd rfl c45
          · skip
            refine mt_iconst (pc := 48) (v := 0) dX11_saint_48 (by decide) ?_
            exact mt_iret rfl dX11_saint_49 (Nat.le_of_ble_eq_true rfl) (Nat.le_of_ble_eq_true rfl) (P_mq1 (c0 := 1) (c1 := 1) (r := .inl 1) rfl)
        · exact absurd rfl c23
  · rw [ifR_n h1]
    refine mm_start (lo := [some (.ref 188), some (.int v), some (.int w), some (.int x), none, none, none, none, none]) pn_X11 rfl rfl (Nat.le_of_ble_eq_true rfl) ?_
    refine mt_aload_n (pc := 0) dX11_saint_0 rfl ?_
    refine mt_iconst (pc := 1) (v := 0) dX11_saint_1 (by decide) ?_
    refine mt_mput (pc := 2) pf_X11_3 dX11_saint_2 hx rfl ?_
    refine mt_aload_n (pc := 5) dX11_saint_5 rfl ?_
    refine mt_iload_n (pc := 6) dX11_saint_6 rfl ?_
    refine mt_iconst (pc := 7) (v := 0) dX11_saint_7 (by decide) ?_
    refine mt_bipush (pc := 8) (v := 99) dX11_saint_8 (by decide) ?_
    refine mt_cS (pc := 10) (n_within) cal_X11_within sta_X11_within ml_X11_348 dX11_saint_10 (by first | assumption | (show _ ≤ d; omega)) ⟨(Nat.le_of_ble_eq_true rfl), (Nat.le_of_ble_eq_true rfl)⟩ rfl rfl (Nat.le_of_ble_eq_true rfl) ?_
    rw [in_nw h1]
    refine mt_if_eq (pc := 13) (tgt := 39) dX11_saint_13 (by decide) (fun c13 => ?_) (fun c13 => ?_)
    · skip
      refine mt_iconst (pc := 39) (v := 0) dX11_saint_39 (by decide) ?_
      refine mt_iconst (pc := 40) (v := 1) dX11_saint_40 (by decide) ?_
      refine mt_iconst (pc := 41) (v := 1) dX11_saint_41 (by decide) ?_
      refine mt_cV (pc := 42) (n_mayN (d := 0) (q := 1) hx (by decide) rfl rfl (by decide)) cal_X11_may vir_X11_may ml_X11_190 dX11_saint_42 (by omega) (mos_o _ _ _) (by first | assumption | (show _ ≤ d; omega)) ⟨(Nat.le_of_ble_eq_true rfl), (Nat.le_of_ble_eq_true rfl)⟩ rfl rfl (Nat.le_of_ble_eq_true rfl) ?_
      refine mt_if_ne (pc := 45) (tgt := 50) dX11_saint_45 (by decide) (fun c45 => ?_) (fun c45 => ?_)
      · exact absurd rfl c45
      · skip
        refine mt_iconst (pc := 48) (v := 0) dX11_saint_48 (by decide) ?_
        exact mt_iret rfl dX11_saint_49 (Nat.le_of_ble_eq_true rfl) (Nat.le_of_ble_eq_true rfl) (P_mq1 (c0 := 1) (c1 := 1) (r := .inl 1) rfl)
    · exact absurd rfl c13
theorem gu_s (k : CS) (f : Nat → Int32) (b S : Int32) (a : Nat) : guF k f b S (a + 1) = if (S >>> (nI a &&& 31)) &&& 1 = 1 then guF k f b S a + (if b < f (18 + a) then b else f (18 + a)) else guF k f b S a := rfl
theorem n_candlesBy {S b : Int32} (hd : 1 ≤ d) (hx : 215 ≤ nx) (hQ : MQs k cs g A) (hR : RR (A 205) f) : mm_Con G l yX11_candlesBy cX11_candlesBy 5 (some .int) d 0 0 [.ref 188, .int S, .int b] nx (mos h g A) (mm_ret (some (.int (guF k f b S k.2.1))) nx (mos h g A)) := by
  obtain ⟨h18, h19, hM, hL⟩ := id hQ
  have hk2 := hM.2.1
  refine mm_start (lo := [some (.ref 188), some (.int S), some (.int b), none, none]) pn_X11 rfl rfl (Nat.le_of_ble_eq_true rfl) ?_
  obtain ⟨r, hr⟩ : ∃ r : Int32, r = guF k f b S k.2.1 := ⟨_, rfl⟩
  rw [← hr]
  refine mt_iconst (pc := 0) (v := 0) dX11_candlesBy_0 (by decide) ?_
  refine mt_istore_n (pc := 1) dX11_candlesBy_1 (Nat.le_of_ble_eq_true rfl) rfl ?_
  refine mt_iconst (pc := 2) (v := 0) dX11_candlesBy_2 (by decide) ?_
  refine mt_istore (pc := 3) dX11_candlesBy_3 (Nat.le_of_ble_eq_true rfl) rfl ?_
  refine mt_for (pc := 5) (H := fun c => mos h g A) (L := fun c => [some (.ref 188), some (.int S), some (.int b), some (.int (guF k f b S c)), some (.int (nI c))]) (k.2.1) (fun c hc nc => ?_) ?_
  · skip
    rw [gu_s] at nc
    obtain ⟨z, z1, z2⟩ := pk_andE (S >>> (nI c &&& 31)) (m := 1) 1 (by decide)
    refine mt_iload (pc := 5) dX11_candlesBy_5 rfl ?_
    refine mt_aload_n (pc := 7) dX11_candlesBy_7 rfl ?_
    refine mt_mgetI (pc := 8) (x := nI k.2.1) gf_X11_157 dX11_candlesBy_8 hx rfl h19 ?_
    refine mt_icmp_ge (pc := 11) (tgt := 44) dX11_candlesBy_11 (by decide) (fun c11 => ?_) (fun c11 => ?_)
    · exact absurd c11 (nI_ge hc (by first | omega | decide))
    · skip
      refine mt_iload_n (pc := 14) dX11_candlesBy_14 rfl ?_
      refine mt_iload_n (pc := 15) dX11_candlesBy_15 rfl ?_
      refine mt_iload (pc := 16) dX11_candlesBy_16 rfl ?_
      refine mt_ishr (pc := 18) dX11_candlesBy_18 ?_
      refine mt_iconst (pc := 19) (v := 1) dX11_candlesBy_19 (by decide) ?_
      refine mt_iand (pc := 20) dX11_candlesBy_20 ?_
      refine mt_aload_n (pc := 21) dX11_candlesBy_21 rfl ?_
      refine mt_mget (pc := 22) gf_X11_65 dX11_candlesBy_22 hx rfl ?_
      refine mt_bipush (pc := 25) (v := 22) dX11_candlesBy_25 (by decide) ?_
      refine mt_iload (pc := 27) dX11_candlesBy_27 rfl ?_
      refine mt_iaddN (pc := 29) (a := 22) (b := c) dX11_candlesBy_29 rfl rfl ?_
      refine mt_mald (pc := 30) (i := 205) (j := 22 + c) (x := f (18 + c)) dX11_candlesBy_30 hx rfl rfl (by show _ < 91; omega) (hR.2.2.2.1 c (by omega)) ?_
      refine mt_iload_n (pc := 31) dX11_candlesBy_31 rfl ?_
      refine mt_cS (pc := 32) (n_held (d := 0)) cal_X11_held sta_X11_held ml_X11_331 dX11_candlesBy_32 (by first | assumption | (show _ ≤ d; omega)) ⟨(Nat.le_of_ble_eq_true rfl), (Nat.le_of_ble_eq_true rfl)⟩ rfl rfl (Nat.le_of_ble_eq_true rfl) ?_
      have ez : guF k f b S c + ((S >>> (nI c &&& 31)) &&& 1) * (if b < f (18 + c) then b else f (18 + c)) = (if (S >>> (nI c &&& 31)) &&& 1 = 1 then guF k f b S c + (if b < f (18 + c) then b else f (18 + c)) else guF k f b S c) := by
        rw [z2]
        rcases (show z = 0 ∨ z = 1 by omega) with rfl | rfl
        · rw [show nI 0 = (0 : Int32) from rfl, zero_mul32, add_0, if_neg (show ¬ (0 : Int32) = 1 by decide)]
        · rw [show nI 1 = (1 : Int32) from rfl, one_mul32, if_pos (show (1 : Int32) = 1 from rfl)]
      refine mt_imul (pc := 35) dX11_candlesBy_35 ?_
      refine mt_iadd (pc := 36) dX11_candlesBy_36 ?_
      rw [ez]
      refine mt_istore_n (pc := 37) dX11_candlesBy_37 (Nat.le_of_ble_eq_true rfl) rfl ?_
      refine mt_iinc (pc := 38) (c9 := 1) dX11_candlesBy_38 rfl (by decide) (Nat.le_of_ble_eq_true rfl) rfl ?_
      refine mt_goto (pc := 41) (tgt := 5) dX11_candlesBy_41 (by decide) ?_
      rw [show (nI c + 1 : Int32) = nI (c + 1) from nI_1 c]
      first
        | exact nc
        | exact mt_fg (by repeat (first | exact trivial | refine ⟨rfl, ?_⟩ | rfl)) nc
  · skip
    refine mt_iload (pc := 5) dX11_candlesBy_5 rfl ?_
    refine mt_aload_n (pc := 7) dX11_candlesBy_7 rfl ?_
    refine mt_mgetI (pc := 8) (x := nI k.2.1) gf_X11_157 dX11_candlesBy_8 hx rfl h19 ?_
    refine mt_icmp_ge (pc := 11) (tgt := 44) dX11_candlesBy_11 (by decide) (fun c11 => ?_) (fun c11 => ?_)
    · skip
      refine mt_iload_n (pc := 44) dX11_candlesBy_44 rfl ?_
      exact mt_iret rfl dX11_candlesBy_45 (Nat.le_of_ble_eq_true rfl) (Nat.le_of_ble_eq_true rfl) ⟨by rw [hr], rfl, rfl⟩
    · exact absurd (nI_le (Nat.le_refl _) (by first | omega | decide)) c11
theorem n_candles {a S nn : Int32} (hd : 4 ≤ d) (hx : 215 ≤ nx) (hQ : MQs k cs g A) (hR : RR (A 205) f) (hI : RI k f) : mm_Con G l yX11_candles cX11_candles 5 (some .int) d 0 0 [.ref 188, .int a, .int S, .int nn] nx (mos h g A) (P_mq 1 2 (cndR k f a S nn) nx h g A) := by
  obtain ⟨h18, h19, hM, hL⟩ := id hQ
  have hk1 := hM.1
  have hk2 := hM.2.1
  have hQ0 : MQs k cs (upd g 0 0) A := ⟨h18, h19, hM, hL⟩
  by_cases hp : inR a k.2.1
  · by_cases h1 : S &&& (-((1 : Int32) <<< (nI k.2.1 &&& 31))) = 0
    · have h1' := (cnd_S hk2).mp h1
      by_cases h2 : ¬ nn < 0 ∧ ¬ 999 < nn
      · obtain ⟨j, hj, rfl⟩ := inR_of hp (by omega)
        obtain ⟨M, hMM⟩ : ∃ M, M = cndB k f S nn 300 0 := ⟨_, rfl⟩
        obtain ⟨r, hr⟩ : ∃ r : Nat ⊕ Int32, r = .inr (if (S >>> (nI j &&& 31)) &&& 1 = 0 then 0 else if nI M < f (18 + j) then nI M else f (18 + j)) := ⟨_, rfl⟩
        have er : cndR k f (nI j) S nn = r := by
          unfold cndR
          rw [if_pos hp, if_pos h1, ifR_p h2, nI_clamp (by omega), ← hMM, hr]
        rw [er]
        have g0 : guF k f (nI 0) S k.2.1 ≤ nn := by
          rw [gu_0 hI.2.2.2.1 k.2.1 hk2]
          exact Int32.not_lt.mp h2.1
        obtain ⟨b1, -, b3⟩ := cnd_B (k := k) (f := f) (S := S) (n := nn) 300 0 g0
        have bl := cndB_le (k := k) (f := f) (S := S) (n := nn) 300 0
        rw [← hMM] at b1 b3 bl
        refine mm_start (lo := [some (.ref 188), some (.int (nI j)), some (.int S), some (.int nn), none]) pn_X11 rfl rfl (Nat.le_of_ble_eq_true rfl) ?_
        refine mt_aload_n (pc := 0) dX11_candles_0 rfl ?_
        refine mt_iconst (pc := 1) (v := 0) dX11_candles_1 (by decide) ?_
        refine mt_mput (pc := 2) pf_X11_3 dX11_candles_2 hx rfl ?_
        refine mt_aload_n (pc := 5) dX11_candles_5 rfl ?_
        refine mt_iload_n (pc := 6) dX11_candles_6 rfl ?_
        refine mt_iconst (pc := 7) (v := 1) dX11_candles_7 (by decide) ?_
        refine mt_cV (pc := 8) (n_isSoulY (d := 1) (k := k) (Nat.le_refl 1) hx rfl hk2 h19 hp) cal_X11_isSoul vir_X11_isSoul ml_X11_369 dX11_candles_8 (by omega) (mos_o _ _ _) (by first | assumption | (show _ ≤ d; omega)) ⟨(Nat.le_of_ble_eq_true rfl), (Nat.le_of_ble_eq_true rfl)⟩ rfl rfl (Nat.le_of_ble_eq_true rfl) ?_
        refine mt_if_eq (pc := 11) (tgt := 53) dX11_candles_11 (by decide) (fun c11 => ?_) (fun c11 => ?_)
        · exact absurd c11 (by decide)
        · skip
          refine mt_aload_n (pc := 14) dX11_candles_14 rfl ?_
          refine mt_iload_n (pc := 15) dX11_candles_15 rfl ?_
          refine mt_if_lt (pc := 16) (tgt := 44) dX11_candles_16 (by decide) (fun c16 => ?_) (fun c16 => ?_)
          · exact absurd c16 h1'.1
          · skip
            refine mt_iload_n (pc := 19) dX11_candles_19 rfl ?_
            refine mt_iconst (pc := 20) (v := 1) dX11_candles_20 (by decide) ?_
            refine mt_aload_n (pc := 21) dX11_candles_21 rfl ?_
            refine mt_mgetI (pc := 22) (x := nI k.2.1) gf_X11_157 dX11_candles_22 hx rfl h19 ?_
            refine mt_ishl (pc := 25) dX11_candles_25 ?_
            rw [shl1 _ (by omega)]
            refine mt_icmp_ge (pc := 26) (tgt := 44) dX11_candles_26 (by decide) (fun c26 => ?_) (fun c26 => ?_)
            · exact absurd c26 h1'.2
            · skip
              refine mt_iload_n (pc := 29) dX11_candles_29 rfl ?_
              refine mt_iconst (pc := 30) (v := 0) dX11_candles_30 (by decide) ?_
              refine mt_sipush (pc := 31) (v := 999) dX11_candles_31 (by decide) ?_
              refine mt_cS (pc := 34) (n_within) cal_X11_within sta_X11_within ml_X11_348 dX11_candles_34 (by first | assumption | (show _ ≤ d; omega)) ⟨(Nat.le_of_ble_eq_true rfl), (Nat.le_of_ble_eq_true rfl)⟩ rfl rfl (Nat.le_of_ble_eq_true rfl) ?_
              rw [in_w h2]
              refine mt_if_eq (pc := 37) (tgt := 44) dX11_candles_37 (by decide) (fun c37 => ?_) (fun c37 => ?_)
              · exact absurd c37 (by decide)
              · skip
                refine mt_iconst (pc := 40) (v := 1) dX11_candles_40 (by decide) ?_
                refine mt_goto (pc := 41) (tgt := 45) dX11_candles_41 (by decide) ?_
                refine mt_iconst (pc := 45) (v := 2) dX11_candles_45 (by decide) ?_
                refine mt_iconst (pc := 46) (v := 1) dX11_candles_46 (by decide) ?_
                refine mt_cV (pc := 47) (n_mayY (d := 0) (q := 1) hx rfl (by decide)) cal_X11_may vir_X11_may ml_X11_190 dX11_candles_47 (by omega) (mos_o _ _ _) (by first | assumption | (show _ ≤ d; omega)) ⟨(Nat.le_of_ble_eq_true rfl), (Nat.le_of_ble_eq_true rfl)⟩ rfl rfl (Nat.le_of_ble_eq_true rfl) ?_
                refine mt_if_ne (pc := 50) (tgt := 55) dX11_candles_50 (by decide) (fun c50 => ?_) (fun c50 => ?_)
                · skip
                  refine mt_sipush (pc := 55) (v := 300) dX11_candles_55 (by decide) ?_
                  refine mt_istore (pc := 58) dX11_candles_58 (Nat.le_of_ble_eq_true rfl) rfl ?_
                  refine mt_for (pc := 60) (H := fun c => mos h (upd g 0 0) A) (L := fun c => [some (.ref 188), some (.int (nI j)), some (.int S), some (.int nn), some (.int (nI (300 - c)))]) (300 - M) (fun c hc nc => ?_) ?_
                  · skip
                    refine mt_aload_n (pc := 60) dX11_candles_60 rfl ?_
                    refine mt_iload_n (pc := 61) dX11_candles_61 rfl ?_
                    refine mt_iload (pc := 62) dX11_candles_62 rfl ?_
                    refine mt_cV (pc := 64) (n_candlesBy (d := 1) (k := k) (cs := cs) (f := f) (Nat.le_refl 1) hx hQ0 hR) cal_X11_candlesBy vir_X11_candlesBy ml_X11_406 dX11_candles_64 (by omega) (mos_o _ _ _) (by first | assumption | (show _ ≤ d; omega)) ⟨(Nat.le_of_ble_eq_true rfl), (Nat.le_of_ble_eq_true rfl)⟩ rfl rfl (Nat.le_of_ble_eq_true rfl) ?_
                    refine mt_iload_n (pc := 67) dX11_candles_67 rfl ?_
                    refine mt_icmp_le (pc := 68) (tgt := 77) dX11_candles_68 (by decide) (fun c68 => ?_) (fun c68 => ?_)
                    · obtain ⟨u, u', q1, q2, q3, q4⟩ := gu_n (k := k) (S := S) (b := M + 1) (b' := 300 - c) (by omega) (by omega) hI.2.2.2.1 k.2.1 hk2
                      refine absurd (Int32.le_trans ?_ c68) (b3 (by omega))
                      rw [q1, q2]
                      exact nI_le q3 (by omega)
                    · skip
                      refine mt_iinc (pc := 71) (c9 := (-1)) dX11_candles_71 rfl (by decide) (Nat.le_of_ble_eq_true rfl) rfl ?_
                      refine mt_goto (pc := 74) (tgt := 60) dX11_candles_74 (by decide) ?_
                      rw [show (nI (300 - c) + (-1) : Int32) = nI (300 - (c + 1)) by
                        rw [← Int32.sub_eq_add_neg, show (1 : Int32) = nI 1 from rfl, pk_sub (by omega)]
                        congr 1]
                      exact nc
                  · skip
                    rw [show 300 - (300 - M) = M by omega]
                    refine mt_aload_n (pc := 60) dX11_candles_60 rfl ?_
                    refine mt_iload_n (pc := 61) dX11_candles_61 rfl ?_
                    refine mt_iload (pc := 62) dX11_candles_62 rfl ?_
                    refine mt_cV (pc := 64) (n_candlesBy (d := 1) (k := k) (cs := cs) (f := f) (Nat.le_refl 1) hx hQ0 hR) cal_X11_candlesBy vir_X11_candlesBy ml_X11_406 dX11_candles_64 (by omega) (mos_o _ _ _) (by first | assumption | (show _ ≤ d; omega)) ⟨(Nat.le_of_ble_eq_true rfl), (Nat.le_of_ble_eq_true rfl)⟩ rfl rfl (Nat.le_of_ble_eq_true rfl) ?_
                    refine mt_iload_n (pc := 67) dX11_candles_67 rfl ?_
                    refine mt_icmp_le (pc := 68) (tgt := 77) dX11_candles_68 (by decide) (fun c68 => ?_) (fun c68 => ?_)
                    · skip
                      refine mt_iload_n (pc := 77) dX11_candles_77 rfl ?_
                      refine mt_iload_n (pc := 78) dX11_candles_78 rfl ?_
                      refine mt_ishr (pc := 79) dX11_candles_79 ?_
                      refine mt_iconst (pc := 80) (v := 1) dX11_candles_80 (by decide) ?_
                      refine mt_iand (pc := 81) dX11_candles_81 ?_
                      refine mt_if_ne (pc := 82) (tgt := 89) dX11_candles_82 (by decide) (fun c82 => ?_) (fun c82 => ?_)
                      · skip
                        refine mt_aload_n (pc := 89) dX11_candles_89 rfl ?_
                        refine mt_mget (pc := 90) gf_X11_65 dX11_candles_90 hx rfl ?_
                        refine mt_bipush (pc := 93) (v := 22) dX11_candles_93 (by decide) ?_
                        refine mt_iload_n (pc := 95) dX11_candles_95 rfl ?_
                        refine mt_iaddN (pc := 96) (a := 22) (b := j) dX11_candles_96 rfl rfl ?_
                        refine mt_mald (pc := 97) (i := 205) (j := 22 + j) (x := f (18 + j)) dX11_candles_97 hx rfl rfl (by show _ < 91; omega) (hR.2.2.2.1 j (by omega)) ?_
                        refine mt_iload (pc := 98) dX11_candles_98 rfl ?_
                        refine mt_cS (pc := 100) (n_held) cal_X11_held sta_X11_held ml_X11_331 dX11_candles_100 (by first | assumption | (show _ ≤ d; omega)) ⟨(Nat.le_of_ble_eq_true rfl), (Nat.le_of_ble_eq_true rfl)⟩ rfl rfl (Nat.le_of_ble_eq_true rfl) ?_
                        exact mt_iret rfl dX11_candles_103 (Nat.le_of_ble_eq_true rfl) (Nat.le_of_ble_eq_true rfl) (P_mqv (c0 := 1) (c1 := 2) (r := r) (by rw [hr, if_neg c82]) GQ_0 AQ_rf)
                      · skip
                        have e0 := c82
                        refine mt_iconst (pc := 85) (v := 0) dX11_candles_85 (by decide) ?_
                        refine mt_goto (pc := 86) (tgt := 103) dX11_candles_86 (by decide) ?_
                        exact mt_iret rfl dX11_candles_103 (Nat.le_of_ble_eq_true rfl) (Nat.le_of_ble_eq_true rfl) (P_mqv (c0 := 1) (c1 := 2) (r := r) (by rw [hr, if_pos c82]) GQ_0 AQ_rf)
                    · exact absurd b1 c68
                · exact absurd c50 (by decide)
      · refine mm_start (lo := [some (.ref 188), some (.int a), some (.int S), some (.int nn), none]) pn_X11 rfl rfl (Nat.le_of_ble_eq_true rfl) ?_
        refine mt_aload_n (pc := 0) dX11_candles_0 rfl ?_
        refine mt_iconst (pc := 1) (v := 0) dX11_candles_1 (by decide) ?_
        refine mt_mput (pc := 2) pf_X11_3 dX11_candles_2 hx rfl ?_
        refine mt_aload_n (pc := 5) dX11_candles_5 rfl ?_
        refine mt_iload_n (pc := 6) dX11_candles_6 rfl ?_
        refine mt_iconst (pc := 7) (v := 1) dX11_candles_7 (by decide) ?_
        refine mt_cV (pc := 8) (n_isSoulY (d := 1) (k := k) (Nat.le_refl 1) hx rfl hk2 h19 hp) cal_X11_isSoul vir_X11_isSoul ml_X11_369 dX11_candles_8 (by omega) (mos_o _ _ _) (by first | assumption | (show _ ≤ d; omega)) ⟨(Nat.le_of_ble_eq_true rfl), (Nat.le_of_ble_eq_true rfl)⟩ rfl rfl (Nat.le_of_ble_eq_true rfl) ?_
        refine mt_if_eq (pc := 11) (tgt := 53) dX11_candles_11 (by decide) (fun c11 => ?_) (fun c11 => ?_)
        · exact absurd c11 (by decide)
        · skip
          refine mt_aload_n (pc := 14) dX11_candles_14 rfl ?_
          refine mt_iload_n (pc := 15) dX11_candles_15 rfl ?_
          refine mt_if_lt (pc := 16) (tgt := 44) dX11_candles_16 (by decide) (fun c16 => ?_) (fun c16 => ?_)
          · exact absurd c16 h1'.1
          · skip
            refine mt_iload_n (pc := 19) dX11_candles_19 rfl ?_
            refine mt_iconst (pc := 20) (v := 1) dX11_candles_20 (by decide) ?_
            refine mt_aload_n (pc := 21) dX11_candles_21 rfl ?_
            refine mt_mgetI (pc := 22) (x := nI k.2.1) gf_X11_157 dX11_candles_22 hx rfl h19 ?_
            refine mt_ishl (pc := 25) dX11_candles_25 ?_
            rw [shl1 _ (by omega)]
            refine mt_icmp_ge (pc := 26) (tgt := 44) dX11_candles_26 (by decide) (fun c26 => ?_) (fun c26 => ?_)
            · exact absurd c26 h1'.2
            · skip
              refine mt_iload_n (pc := 29) dX11_candles_29 rfl ?_
              refine mt_iconst (pc := 30) (v := 0) dX11_candles_30 (by decide) ?_
              refine mt_sipush (pc := 31) (v := 999) dX11_candles_31 (by decide) ?_
              refine mt_cS (pc := 34) (n_within) cal_X11_within sta_X11_within ml_X11_348 dX11_candles_34 (by first | assumption | (show _ ≤ d; omega)) ⟨(Nat.le_of_ble_eq_true rfl), (Nat.le_of_ble_eq_true rfl)⟩ rfl rfl (Nat.le_of_ble_eq_true rfl) ?_
              rw [in_nw h2]
              refine mt_if_eq (pc := 37) (tgt := 44) dX11_candles_37 (by decide) (fun c37 => ?_) (fun c37 => ?_)
              · skip
                refine mt_iconst (pc := 44) (v := 0) dX11_candles_44 (by decide) ?_
                refine mt_iconst (pc := 45) (v := 2) dX11_candles_45 (by decide) ?_
                refine mt_iconst (pc := 46) (v := 1) dX11_candles_46 (by decide) ?_
                refine mt_cV (pc := 47) (n_mayN (d := 0) (q := 1) hx (by decide) rfl rfl (by decide)) cal_X11_may vir_X11_may ml_X11_190 dX11_candles_47 (by omega) (mos_o _ _ _) (by first | assumption | (show _ ≤ d; omega)) ⟨(Nat.le_of_ble_eq_true rfl), (Nat.le_of_ble_eq_true rfl)⟩ rfl rfl (Nat.le_of_ble_eq_true rfl) ?_
                refine mt_if_ne (pc := 50) (tgt := 55) dX11_candles_50 (by decide) (fun c50 => ?_) (fun c50 => ?_)
                · exact absurd rfl c50
                · skip
                  refine mt_iconst (pc := 53) (v := 0) dX11_candles_53 (by decide) ?_
                  exact mt_iret rfl dX11_candles_54 (Nat.le_of_ble_eq_true rfl) (Nat.le_of_ble_eq_true rfl) (P_mq1 (c0 := 1) (c1 := 2) (r := cndR k f a S nn) (by unfold cndR; rw [if_pos hp, if_pos h1, ifR_n h2]))
              · exact absurd rfl c37
    · have h1' : ¬ (¬ S < 0 ∧ ¬ nI (2 ^ k.2.1) ≤ S) := fun z => h1 ((cnd_S hk2).mpr z)
      refine mm_start (lo := [some (.ref 188), some (.int a), some (.int S), some (.int nn), none]) pn_X11 rfl rfl (Nat.le_of_ble_eq_true rfl) ?_
      refine mt_aload_n (pc := 0) dX11_candles_0 rfl ?_
      refine mt_iconst (pc := 1) (v := 0) dX11_candles_1 (by decide) ?_
      refine mt_mput (pc := 2) pf_X11_3 dX11_candles_2 hx rfl ?_
      refine mt_aload_n (pc := 5) dX11_candles_5 rfl ?_
      refine mt_iload_n (pc := 6) dX11_candles_6 rfl ?_
      refine mt_iconst (pc := 7) (v := 1) dX11_candles_7 (by decide) ?_
      refine mt_cV (pc := 8) (n_isSoulY (d := 1) (k := k) (Nat.le_refl 1) hx rfl hk2 h19 hp) cal_X11_isSoul vir_X11_isSoul ml_X11_369 dX11_candles_8 (by omega) (mos_o _ _ _) (by first | assumption | (show _ ≤ d; omega)) ⟨(Nat.le_of_ble_eq_true rfl), (Nat.le_of_ble_eq_true rfl)⟩ rfl rfl (Nat.le_of_ble_eq_true rfl) ?_
      refine mt_if_eq (pc := 11) (tgt := 53) dX11_candles_11 (by decide) (fun c11 => ?_) (fun c11 => ?_)
      · exact absurd c11 (by decide)
      · skip
        refine mt_aload_n (pc := 14) dX11_candles_14 rfl ?_
        refine mt_iload_n (pc := 15) dX11_candles_15 rfl ?_
        refine mt_if_lt (pc := 16) (tgt := 44) dX11_candles_16 (by decide) (fun c16 => ?_) (fun c16 => ?_)
        · skip
          refine mt_iconst (pc := 44) (v := 0) dX11_candles_44 (by decide) ?_
          refine mt_iconst (pc := 45) (v := 2) dX11_candles_45 (by decide) ?_
          refine mt_iconst (pc := 46) (v := 1) dX11_candles_46 (by decide) ?_
          refine mt_cV (pc := 47) (n_mayN (d := 0) (q := 1) hx (by decide) rfl rfl (by decide)) cal_X11_may vir_X11_may ml_X11_190 dX11_candles_47 (by omega) (mos_o _ _ _) (by first | assumption | (show _ ≤ d; omega)) ⟨(Nat.le_of_ble_eq_true rfl), (Nat.le_of_ble_eq_true rfl)⟩ rfl rfl (Nat.le_of_ble_eq_true rfl) ?_
          refine mt_if_ne (pc := 50) (tgt := 55) dX11_candles_50 (by decide) (fun c50 => ?_) (fun c50 => ?_)
          · exact absurd rfl c50
          · skip
            refine mt_iconst (pc := 53) (v := 0) dX11_candles_53 (by decide) ?_
            exact mt_iret rfl dX11_candles_54 (Nat.le_of_ble_eq_true rfl) (Nat.le_of_ble_eq_true rfl) (P_mq1 (c0 := 1) (c1 := 2) (r := cndR k f a S nn) (by unfold cndR; rw [if_pos hp, if_neg h1]))
        · skip
          refine mt_iload_n (pc := 19) dX11_candles_19 rfl ?_
          refine mt_iconst (pc := 20) (v := 1) dX11_candles_20 (by decide) ?_
          refine mt_aload_n (pc := 21) dX11_candles_21 rfl ?_
          refine mt_mgetI (pc := 22) (x := nI k.2.1) gf_X11_157 dX11_candles_22 hx rfl h19 ?_
          refine mt_ishl (pc := 25) dX11_candles_25 ?_
          rw [shl1 _ (by omega)]
          refine mt_icmp_ge (pc := 26) (tgt := 44) dX11_candles_26 (by decide) (fun c26 => ?_) (fun c26 => ?_)
          · skip
            refine mt_iconst (pc := 44) (v := 0) dX11_candles_44 (by decide) ?_
            refine mt_iconst (pc := 45) (v := 2) dX11_candles_45 (by decide) ?_
            refine mt_iconst (pc := 46) (v := 1) dX11_candles_46 (by decide) ?_
            refine mt_cV (pc := 47) (n_mayN (d := 0) (q := 1) hx (by decide) rfl rfl (by decide)) cal_X11_may vir_X11_may ml_X11_190 dX11_candles_47 (by omega) (mos_o _ _ _) (by first | assumption | (show _ ≤ d; omega)) ⟨(Nat.le_of_ble_eq_true rfl), (Nat.le_of_ble_eq_true rfl)⟩ rfl rfl (Nat.le_of_ble_eq_true rfl) ?_
            refine mt_if_ne (pc := 50) (tgt := 55) dX11_candles_50 (by decide) (fun c50 => ?_) (fun c50 => ?_)
            · exact absurd rfl c50
            · skip
              refine mt_iconst (pc := 53) (v := 0) dX11_candles_53 (by decide) ?_
              exact mt_iret rfl dX11_candles_54 (Nat.le_of_ble_eq_true rfl) (Nat.le_of_ble_eq_true rfl) (P_mq1 (c0 := 1) (c1 := 2) (r := cndR k f a S nn) (by unfold cndR; rw [if_pos hp, if_neg h1]))
          · exact absurd ⟨c16, c26⟩ h1'
  · refine mm_start (lo := [some (.ref 188), some (.int a), some (.int S), some (.int nn), none]) pn_X11 rfl rfl (Nat.le_of_ble_eq_true rfl) ?_
    refine mt_aload_n (pc := 0) dX11_candles_0 rfl ?_
    refine mt_iconst (pc := 1) (v := 0) dX11_candles_1 (by decide) ?_
    refine mt_mput (pc := 2) pf_X11_3 dX11_candles_2 hx rfl ?_
    refine mt_aload_n (pc := 5) dX11_candles_5 rfl ?_
    refine mt_iload_n (pc := 6) dX11_candles_6 rfl ?_
    refine mt_iconst (pc := 7) (v := 1) dX11_candles_7 (by decide) ?_
    refine mt_cV (pc := 8) (n_isSoulN (d := 1) (k := k) (Nat.le_refl 1) hx rfl hk2 h19 (by decide) hp) cal_X11_isSoul vir_X11_isSoul ml_X11_369 dX11_candles_8 (by omega) (mos_o _ _ _) (by first | assumption | (show _ ≤ d; omega)) ⟨(Nat.le_of_ble_eq_true rfl), (Nat.le_of_ble_eq_true rfl)⟩ rfl rfl (Nat.le_of_ble_eq_true rfl) ?_
    refine mt_if_eq (pc := 11) (tgt := 53) dX11_candles_11 (by decide) (fun c11 => ?_) (fun c11 => ?_)
    · skip
      refine mt_iconst (pc := 53) (v := 0) dX11_candles_53 (by decide) ?_
      exact mt_iret rfl dX11_candles_54 (Nat.le_of_ble_eq_true rfl) (Nat.le_of_ble_eq_true rfl) (P_mq0 (c0 := 1) (c1 := 2) (r := cndR k f a S nn) (by unfold cndR; rw [if_neg hp]))
    · exact absurd rfl c11
end MQF
