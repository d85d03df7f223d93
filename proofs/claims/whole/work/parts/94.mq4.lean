/-! The reference's questions: cheapest, clears, comes. -/
theorem ob_oa {k : CS} {cs : List Nat} {f : Nat → Int32} {s : Nat} (hn : nlo f ≤ 10) (hs : s < 2 ^ nlo f) : oaF k cs f (nI s) (nlo f) = obF (owF k cs f) s := by
  have hp : 2 ^ nlo f ≤ 2 ^ 10 := pow_mono hn
  have h1 : ∀ n, n ≤ nlo f → oaF k cs f (nI s) n = fld (fun i acc => if s / 2 ^ i % 2 = 1 then acc + owF k cs f i else acc) 0 n := fun n hn2 => by
    unfold oaF
    refine fld_cg n (fun i x hi => ?_)
    rw [bit32 (by omega) (by omega)]
    rcases Nat.mod_two_eq_zero_or_one (s / 2 ^ i) with z | z
    · rw [z, if_neg (by decide), show nI 0 = (0 : Int32) from rfl, zero_mul32, add_0]
    · rw [z, if_pos rfl, show nI 1 = (1 : Int32) from rfl, one_mul32]
      unfold owF
      rw [if_pos (by omega)]
  have h2 : ∀ q, nlo f + q ≤ 10 → fld (fun i acc => if s / 2 ^ i % 2 = 1 then acc + owF k cs f i else acc) 0 (nlo f + q) = fld (fun i acc => if s / 2 ^ i % 2 = 1 then acc + owF k cs f i else acc) 0 (nlo f) := fun q => by
    induction q with
    | zero => intro _; rfl
    | succ q ih =>
      intro hq
      show (if s / 2 ^ (nlo f + q) % 2 = 1 then _ else fld (fun i acc => if s / 2 ^ i % 2 = 1 then acc + owF k cs f i else acc) 0 (nlo f + q)) = _
      rw [if_neg (by rw [bit_hi hs (by omega)]; decide)]
      exact ih (by omega)
  rw [h1 _ (Nat.le_refl _)]
  unfold obF
  have := h2 (10 - nlo f) (by omega)
  rw [show nlo f + (10 - nlo f) = 10 by omega] at this
  exact this.symm
theorem clr_s (o : Nat → Int32) (own pu : Int32) (s : Nat) : clrF o own pu (s + 1) = if (nI (s + 1) &&& (own ^^^ (-1))) = 0 ∧ ¬ pu < obF o (s + 1) ∧ mrC o (s + 1) (clrF o own pu s) then s + 1 else clrF o own pu s := rfl
theorem sub_le {s m : Nat} (hs : s < 2 ^ 32) (h : (nI s &&& (nI m ^^^ (-1))) = 0) : s ≤ m := by
  have h1 : ∀ i, s.testBit i = true → m.testBit i = true := fun i hi => by
    have hi32 : i < 32 := Nat.lt_of_not_le fun z => by
      rw [Nat.testBit_lt_two_pow (Nat.lt_of_lt_of_le hs (pow_mono (show 32 ≤ i by omega)))] at hi
      cases hi
    have h2 := congrArg (fun x : Int32 => x.toBitVec.getLsbD i) h
    have e : (nI s &&& (nI m ^^^ (-1))).toBitVec = BitVec.ofNat 32 s &&& (BitVec.ofNat 32 m ^^^ BitVec.allOnes 32) := rfl
    simp only [e, BitVec.getLsbD_and, BitVec.getLsbD_xor, BitVec.getLsbD_allOnes, BitVec.getLsbD_ofNat, hi32, decide_true, Bool.true_and, Bool.xor_true, hi] at h2
    rw [show (0 : Int32).toBitVec.getLsbD i = false from by show (0#32).getLsbD i = false; simp] at h2
    simpa using h2
  have h3 : s &&& m = s := and_sub.mpr h1
  rw [← h3]
  exact Nat.and_le_right
theorem clr_hi {o : Nat → Int32} {pu : Int32} {m : Nat} (hm : m < 2 ^ 30) : ∀ q, m + q < 2 ^ 30 → clrF o (nI m) pu (m + q) = clrF o (nI m) pu m
  | 0, _ => rfl
  | q + 1, hq => by
    rw [show m + (q + 1) = (m + q) + 1 by omega, clr_s, if_neg (fun z => ?_)]
    · exact clr_hi hm q (by omega)
    · have := sub_le (by omega) z.1
      omega
theorem com_s (o : Nat → Int32) (n : Int32) (s : Nat) : comF o n (s + 1) = if obF o s = n then comF o n s + 1 else comF o n s := rfl
theorem pop_le (s : Nat) : popc s 10 ≤ 10 := by
  have : ∀ n, popc s n ≤ n := fun n => by
    induction n with
    | zero => exact Nat.le_refl 0
    | succ n ih =>
      have h2 := Nat.mod_lt (s / 2 ^ n) (show 0 < 2 by decide)
      show popc s n + s / 2 ^ n % 2 ≤ n + 1
      omega
  exact this 10
theorem mt_leq {M : mm_M} {own : String} {cc : ByteArray} {nx : Nat} {h : Nat → mm_E} {kc ks pc : Nat} {lo lo' : List (Option Value)} {st : List Value} (e : lo' = lo) (kk : mm_T M own cc nx h kc ks pc lo' st) : mm_T M own cc nx h kc ks pc lo st := e ▸ kk
theorem ob_0 (o : Nat → Int32) : obF o 0 = 0 := by
  unfold obF
  have : ∀ n, fld (fun i acc => if 0 / 2 ^ i % 2 = 1 then acc + o i else acc) 0 n = 0 := fun n => by
    induction n with
    | zero => rfl
    | succ n ih =>
      show (if 0 / 2 ^ n % 2 = 1 then _ else fld (fun i acc => if 0 / 2 ^ i % 2 = 1 then acc + o i else acc) 0 n) = 0
      rw [Nat.zero_div, if_neg (by decide)]
      exact ih
  exact this 10
section MQE
variable {G : mm_G} {l : Launch} {d nx : Nat} {h : Nat → mm_E} {g : MG} {A : MA} {k : CS} {cs : List Nat} {f : Nat → Int32} {bk : BS}
theorem n_ones {s : Nat} (hs : s < 1024) : mm_Con G l yX11_ones cX11_ones 3 (some .int) d 0 0 [.int (nI s)] nx h (mm_ret (some (.int (nI (popc s 10)))) nx h) := by
  refine mm_start (lo := [some (.int (nI s)), none, none]) pn_X11 rfl rfl (Nat.le_of_ble_eq_true rfl) ?_
  refine mt_iconst (pc := 0) (v := 0) dX11_ones_0 (by decide) ?_
  refine mt_istore_n (pc := 1) dX11_ones_1 (Nat.le_of_ble_eq_true rfl) rfl ?_
  refine mt_iconst (pc := 2) (v := 0) dX11_ones_2 (by decide) ?_
  refine mt_istore_n (pc := 3) dX11_ones_3 (Nat.le_of_ble_eq_true rfl) rfl ?_
  refine mt_for (pc := 4) (H := fun c => h) (L := fun c => [some (.int (nI s)), some (.int (nI (popc s c))), some (.int (nI c))]) 10 (fun c hc nc => ?_) ?_
  · skip
    refine mt_iload_n (pc := 4) dX11_ones_4 rfl ?_
    refine mt_bipush (pc := 5) (v := 10) dX11_ones_5 (by decide) ?_
    refine mt_icmp_ge (pc := 7) (tgt := 24) dX11_ones_7 (by decide) (fun c7 => ?_) (fun c7 => ?_)
    · exact absurd c7 (nI_ge hc (by first | omega | decide))
    · skip
      refine mt_iload_n (pc := 10) dX11_ones_10 rfl ?_
      refine mt_iload_n (pc := 11) dX11_ones_11 rfl ?_
      refine mt_iload_n (pc := 12) dX11_ones_12 rfl ?_
      refine mt_ishr (pc := 13) dX11_ones_13 ?_
      refine mt_iconst (pc := 14) (v := 1) dX11_ones_14 (by decide) ?_
      refine mt_iand (pc := 15) dX11_ones_15 ?_
      rw [bit32 (by omega) (by omega)]
      refine mt_iadd (pc := 16) dX11_ones_16 ?_
      rw [nI_add]
      refine mt_istore_n (pc := 17) dX11_ones_17 (Nat.le_of_ble_eq_true rfl) rfl ?_
      refine mt_iinc (pc := 18) (c9 := 1) dX11_ones_18 rfl (by decide) (Nat.le_of_ble_eq_true rfl) rfl ?_
      refine mt_goto (pc := 21) (tgt := 4) dX11_ones_21 (by decide) ?_
      rw [show (nI c + 1 : Int32) = nI (c + 1) from nI_1 c]
      first
        | exact nc
        | exact mt_fg (by repeat (first | exact trivial | refine ⟨rfl, ?_⟩ | rfl)) nc
  · skip
    refine mt_iload_n (pc := 4) dX11_ones_4 rfl ?_
    refine mt_bipush (pc := 5) (v := 10) dX11_ones_5 (by decide) ?_
    refine mt_icmp_ge (pc := 7) (tgt := 24) dX11_ones_7 (by decide) (fun c7 => ?_) (fun c7 => ?_)
    · skip
      refine mt_iload_n (pc := 24) dX11_ones_24 rfl ?_
      exact mt_iret rfl dX11_ones_25 (Nat.le_of_ble_eq_true rfl) (Nat.le_of_ble_eq_true rfl) ⟨rfl, rfl, rfl⟩
    · exact absurd (nI_le (Nat.le_refl _) (by first | omega | decide)) c7
theorem n_cheapest {a kd am tt : Int32} (hd : 4 ≤ d) (hx : 215 ≤ nx) (hQ : MQs k cs g A) (hR : RR (A 205) f) (hI : RI k f) : mm_Con G l yX11_cheapest cX11_cheapest 9 (some .int) d 0 0 [.ref 188, .int a, .int kd, .int am, .int tt] nx (mos h g A) (P_mq 1 2 (if inR a k.2.1 then ifR kd 0 5 (ifR am 1 60 (ifR tt 1 40 (.inr (cheF k cs f a.toNatClampNeg kd am tt k.1).1))) else .inl 0) nx h g A) := by
  obtain ⟨h18, h19, hM, hL⟩ := id hQ
  have hk1 := hM.1
  have hk2 := hM.2.1
  obtain ⟨hn10, e3, -⟩ := hI.nl
  by_cases hp : inR a k.2.1
  · rw [if_pos hp]
    by_cases h1 : ¬ kd < 0 ∧ ¬ 5 < kd
    · rw [ifR_p h1]
      by_cases h2 : ¬ am < 1 ∧ ¬ 60 < am
      · rw [ifR_p h2]
        by_cases h3 : ¬ tt < 1 ∧ ¬ 40 < tt
        · rw [ifR_p h3]
          obtain ⟨j, hj, rfl⟩ := inR_of hp (by omega)
          rw [nI_clamp (by omega)]
          obtain ⟨r, hr⟩ : ∃ r : Nat ⊕ Int32, r = .inr (cheF k cs f j kd am tt k.1).1 := ⟨_, rfl⟩
          rw [← hr]
          refine mm_start (lo := [some (.ref 188), some (.int (nI j)), some (.int kd), some (.int am), some (.int tt), none, none, none, none]) pn_X11 rfl rfl (Nat.le_of_ble_eq_true rfl) ?_
          refine mt_aload_n (pc := 0) dX11_cheapest_0 rfl ?_
          refine mt_iconst (pc := 1) (v := 0) dX11_cheapest_1 (by decide) ?_
          refine mt_mput (pc := 2) pf_X11_3 dX11_cheapest_2 hx rfl ?_
          refine mt_aload_n (pc := 5) dX11_cheapest_5 rfl ?_
          refine mt_iload_n (pc := 6) dX11_cheapest_6 rfl ?_
          refine mt_iconst (pc := 7) (v := 1) dX11_cheapest_7 (by decide) ?_
          refine mt_cV (pc := 8) (n_isSoulY (d := 1) (k := k) (Nat.le_refl 1) hx rfl hk2 h19 hp) cal_X11_isSoul vir_X11_isSoul ml_X11_369 dX11_cheapest_8 (by omega) (mos_o _ _ _) (by first | assumption | (show _ ≤ d; omega)) ⟨(Nat.le_of_ble_eq_true rfl), (Nat.le_of_ble_eq_true rfl)⟩ rfl rfl (Nat.le_of_ble_eq_true rfl) ?_
          refine mt_if_eq (pc := 11) (tgt := 58) dX11_cheapest_11 (by decide) (fun c11 => ?_) (fun c11 => ?_)
          · exact absurd c11 (by decide)
          · skip
            refine mt_aload_n (pc := 14) dX11_cheapest_14 rfl ?_
            refine mt_iload_n (pc := 15) dX11_cheapest_15 rfl ?_
            refine mt_iconst (pc := 16) (v := 0) dX11_cheapest_16 (by decide) ?_
            refine mt_iconst (pc := 17) (v := 5) dX11_cheapest_17 (by decide) ?_
            refine mt_cS (pc := 18) (n_within) cal_X11_within sta_X11_within ml_X11_348 dX11_cheapest_18 (by first | assumption | (show _ ≤ d; omega)) ⟨(Nat.le_of_ble_eq_true rfl), (Nat.le_of_ble_eq_true rfl)⟩ rfl rfl (Nat.le_of_ble_eq_true rfl) ?_
            rw [in_w h1]
            refine mt_if_eq (pc := 21) (tgt := 49) dX11_cheapest_21 (by decide) (fun c21 => ?_) (fun c21 => ?_)
            · exact absurd c21 (by decide)
            · skip
              refine mt_iload_n (pc := 24) dX11_cheapest_24 rfl ?_
              refine mt_iconst (pc := 25) (v := 1) dX11_cheapest_25 (by decide) ?_
              refine mt_bipush (pc := 26) (v := 60) dX11_cheapest_26 (by decide) ?_
              refine mt_cS (pc := 28) (n_within) cal_X11_within sta_X11_within ml_X11_348 dX11_cheapest_28 (by first | assumption | (show _ ≤ d; omega)) ⟨(Nat.le_of_ble_eq_true rfl), (Nat.le_of_ble_eq_true rfl)⟩ rfl rfl (Nat.le_of_ble_eq_true rfl) ?_
              rw [in_w h2]
              refine mt_if_eq (pc := 31) (tgt := 49) dX11_cheapest_31 (by decide) (fun c31 => ?_) (fun c31 => ?_)
              · exact absurd c31 (by decide)
              · skip
                refine mt_iload (pc := 34) dX11_cheapest_34 rfl ?_
                refine mt_iconst (pc := 36) (v := 1) dX11_cheapest_36 (by decide) ?_
                refine mt_bipush (pc := 37) (v := 40) dX11_cheapest_37 (by decide) ?_
                refine mt_cS (pc := 39) (n_within) cal_X11_within sta_X11_within ml_X11_348 dX11_cheapest_39 (by first | assumption | (show _ ≤ d; omega)) ⟨(Nat.le_of_ble_eq_true rfl), (Nat.le_of_ble_eq_true rfl)⟩ rfl rfl (Nat.le_of_ble_eq_true rfl) ?_
                rw [in_w h3]
                refine mt_if_eq (pc := 42) (tgt := 49) dX11_cheapest_42 (by decide) (fun c42 => ?_) (fun c42 => ?_)
                · exact absurd c42 (by decide)
                · skip
                  refine mt_iconst (pc := 45) (v := 1) dX11_cheapest_45 (by decide) ?_
                  refine mt_goto (pc := 46) (tgt := 50) dX11_cheapest_46 (by decide) ?_
                  refine mt_iconst (pc := 50) (v := 2) dX11_cheapest_50 (by decide) ?_
                  refine mt_iconst (pc := 51) (v := 1) dX11_cheapest_51 (by decide) ?_
                  refine mt_cV (pc := 52) (n_mayY (d := 0) (q := 1) hx rfl (by decide)) cal_X11_may vir_X11_may ml_X11_190 dX11_cheapest_52 (by omega) (mos_o _ _ _) (by first | assumption | (show _ ≤ d; omega)) ⟨(Nat.le_of_ble_eq_true rfl), (Nat.le_of_ble_eq_true rfl)⟩ rfl rfl (Nat.le_of_ble_eq_true rfl) ?_
                  refine mt_if_ne (pc := 55) (tgt := 60) dX11_cheapest_55 (by decide) (fun c55 => ?_) (fun c55 => ?_)
                  · skip
                    refine mt_aload_n (pc := 60) dX11_cheapest_60 rfl ?_
                    refine mt_aV (pc := 61) (n_takeR (d := 1) (f := f) (Nat.le_refl 1) hx hR hn10) cal_X11_take vir_X11_take ml_X11_293 dX11_cheapest_61 (by omega) (mos_o _ _ _) (by first | assumption | (show _ ≤ d; omega)) ⟨(Nat.le_of_ble_eq_true rfl), (Nat.le_of_ble_eq_true rfl)⟩ rfl rfl (Nat.le_of_ble_eq_true rfl) ?_ ?_
                    · rintro x9 n9 k9 h9
                      obtain ⟨⟨⟩, -⟩ := h9
                    · rintro v9 n9 k9 ⟨⟨⟩, rfl, S, rfl, hS⟩
                      refine ⟨rfl, ?_⟩
                      have hS' : RR (updR A 206 S 206) f := by rw [updR_eq]; exact hS
                      refine mt_iconst (pc := 64) (v := (-1)) dX11_cheapest_64 (by decide) ?_
                      refine mt_istore (pc := 65) dX11_cheapest_65 (Nat.le_of_ble_eq_true rfl) rfl ?_
                      refine mt_iconst (pc := 67) (v := (-1)) dX11_cheapest_67 (by decide) ?_
                      refine mt_istore (pc := 68) dX11_cheapest_68 (Nat.le_of_ble_eq_true rfl) rfl ?_
                      refine mt_iconst (pc := 70) (v := 0) dX11_cheapest_70 (by decide) ?_
                      refine mt_istore (pc := 71) dX11_cheapest_71 (Nat.le_of_ble_eq_true rfl) rfl ?_
                      refine mt_forE (pc := 73) (α := MA × Int32) (H := fun c (w : MA × Int32) => mos h (upd g 0 0) w.1) (L := fun c (w : MA × Int32) => [some (.ref 188), some (.int (nI j)), some (.int kd), some (.int am), some (.int tt), some (.int ((cheF k cs f j kd am tt c).1)), some (.int (w.2)), some (.int (nI c)), none]) (I := fun c (w : MA × Int32) => SC (updR A 206 S) w.1 ∧ (¬ (cheF k cs f j kd am tt c).1 = -1 → w.2 = (cheF k cs f j kd am tt c).2)) (k.1) (fun c w hc fc nc => ?_) (fun w fc => ?_) ((updR A 206 S, -1)) (⟨SC_rf, fun z => absurd rfl z⟩)
                      · skip
                        obtain ⟨w, y⟩ := w
                        obtain ⟨fc, fy⟩ := fc
                        dsimp only at fc fy ⊢
                        rw [che_s] at nc
                        generalize cheF k cs f j kd am tt c = v at nc fy ⊢
                        have hRa : RR (w 206) f := by rw [fc 206 (by decide) (by decide)]; exact hS'
                        have hMa : MCN k (w 194) (w 195) (w 196) := by rw [fc 194 (by decide) (by decide), fc 195 (by decide) (by decide), fc 196 (by decide) (by decide)]; exact hM
                        have hLa : MLR cs (upd g 0 0 26) (w 199) (w 200) := by rw [fc 199 (by decide) (by decide), fc 200 (by decide) (by decide)]; exact hL
                        refine mt_iload (pc := 73) dX11_cheapest_73 rfl ?_
                        refine mt_aload_n (pc := 75) dX11_cheapest_75 rfl ?_
                        refine mt_mgetI (pc := 76) (x := nI k.1) gf_X11_154 dX11_cheapest_76 hx rfl h18 ?_
                        refine mt_icmp_ge (pc := 79) (tgt := 191) dX11_cheapest_79 (by decide) (fun c79 => ?_) (fun c79 => ?_)
                        · exact absurd c79 (nI_ge hc (by first | omega | decide))
                        · skip
                          refine mt_aload_n (pc := 82) dX11_cheapest_82 rfl ?_
                          refine mt_mget (pc := 83) gf_X11_32 dX11_cheapest_83 hx rfl ?_
                          refine mt_iconst (pc := 86) (v := 2) dX11_cheapest_86 (by decide) ?_
                          refine mt_iload (pc := 87) dX11_cheapest_87 rfl ?_
                          refine mt_imulN (pc := 89) (a := 2) (b := c) dX11_cheapest_89 rfl rfl ?_
                          refine mt_mald (pc := 90) (i := 194) (j := 2 * c) (x := k.2.2.1 c) dX11_cheapest_90 hx rfl rfl (by show _ < 16; omega) ((hMa.2.2.1 c hc).1) ?_
                          refine mt_iload_n (pc := 91) dX11_cheapest_91 rfl ?_
                          refine mt_icmp_ne (pc := 92) (tgt := 185) dX11_cheapest_92 (by decide) (fun c92 => ?_) (fun c92 => ?_)
                          · skip
                            rw [if_neg (fun z => c92 z.1)] at nc
                            refine mt_iinc (pc := 185) (c9 := 1) dX11_cheapest_185 rfl (by decide) (Nat.le_of_ble_eq_true rfl) rfl ?_
                            refine mt_goto (pc := 188) (tgt := 73) dX11_cheapest_188 (by decide) ?_
                            rw [show (nI c + 1 : Int32) = nI (c + 1) from nI_1 c]
                            exact nc (w, y) ⟨fc, fy⟩
                          · skip
                            subst c92
                            refine mt_aload_n (pc := 95) dX11_cheapest_95 rfl ?_
                            refine mt_iload_n (pc := 96) dX11_cheapest_96 rfl ?_
                            refine mt_iload (pc := 97) dX11_cheapest_97 rfl ?_
                            refine mt_iload_n (pc := 99) dX11_cheapest_99 rfl ?_
                            refine mt_cV (pc := 100) (n_canLend (d := 1) (k := k) (f := f) (Nat.le_refl 1) hx hMa hRa (by omega) hc) cal_X11_canLend vir_X11_canLend ml_X11_325 dX11_cheapest_100 (by omega) (mos_o _ _ _) (by first | assumption | (show _ ≤ d; omega)) ⟨(Nat.le_of_ble_eq_true rfl), (Nat.le_of_ble_eq_true rfl)⟩ rfl rfl (Nat.le_of_ble_eq_true rfl) ?_
                            refine mt_if_ne (pc := 103) (tgt := 109) dX11_cheapest_103 (by decide) (fun c103 => ?_) (fun c103 => ?_)
                            · skip
                              have yes : clC k f j c am := Classical.not_not.mp fun z => c103 (if_neg z)
                              rw [if_pos ⟨rfl, yes⟩] at nc
                              refine mt_aload_n (pc := 109) dX11_cheapest_109 rfl ?_
                              refine mt_iload_n (pc := 110) dX11_cheapest_110 rfl ?_
                              refine mt_iload (pc := 111) dX11_cheapest_111 rfl ?_
                              refine mt_iload_n (pc := 113) dX11_cheapest_113 rfl ?_
                              refine mt_aload_n (pc := 114) dX11_cheapest_114 rfl ?_
                              refine mt_mget (pc := 115) gf_X11_38 dX11_cheapest_115 hx rfl ?_
                              refine mt_iload_n (pc := 118) dX11_cheapest_118 rfl ?_
                              refine mt_mald (pc := 119) (i := 196) (j := j) (x := w 196 j) dX11_cheapest_119 hx rfl rfl (by show _ < 6; omega) rfl ?_
                              refine mt_iload (pc := 120) dX11_cheapest_120 rfl ?_
                              refine mt_ishr (pc := 122) dX11_cheapest_122 ?_
                              refine mt_iconst (pc := 123) (v := 1) dX11_cheapest_123 (by decide) ?_
                              refine mt_iand (pc := 124) dX11_cheapest_124 ?_
                              rw [kin_eq hMa (by omega) hc]
                              refine mt_aload_n (pc := 125) dX11_cheapest_125 rfl ?_
                              refine mt_mget (pc := 126) gf_X11_68 dX11_cheapest_126 hx rfl ?_
                              refine mt_bipush (pc := 129) (v := 16) dX11_cheapest_129 (by decide) ?_
                              refine mt_iload_n (pc := 131) dX11_cheapest_131 rfl ?_
                              refine mt_iaddN (pc := 132) (a := 16) (b := j) dX11_cheapest_132 rfl rfl ?_
                              refine mt_mald (pc := 133) (i := 206) (j := 16 + j) (x := f (12 + j)) dX11_cheapest_133 hx rfl rfl (by show _ < 91; omega) (hRa.2.2.1 j (by omega)) ?_
                              refine mt_aload_n (pc := 134) dX11_cheapest_134 rfl ?_
                              refine mt_mget (pc := 135) gf_X11_68 dX11_cheapest_135 hx rfl ?_
                              refine mt_iconst (pc := 138) (v := 0) dX11_cheapest_138 (by decide) ?_
                              refine mt_iload (pc := 139) dX11_cheapest_139 rfl ?_
                              refine mt_iaddN (pc := 141) (a := 0) (b := c) dX11_cheapest_141 rfl rfl ?_
                              refine mt_mald (pc := 142) (i := 206) (j := c) (x := f (4 + c)) dX11_cheapest_142 hx rfl (by rw [Nat.zero_add]) (by show _ < 91; omega) (hRa.1 c (by omega)) ?_
                              refine mt_iload_n (pc := 143) dX11_cheapest_143 rfl ?_
                              refine mt_isub (pc := 144) dX11_cheapest_144 ?_
                              refine mt_aload_n (pc := 145) dX11_cheapest_145 rfl ?_
                              refine mt_mget (pc := 146) gf_X11_68 dX11_cheapest_146 hx rfl ?_
                              refine mt_bipush (pc := 149) (v := 90) dX11_cheapest_149 (by decide) ?_
                              refine mt_mald (pc := 151) (i := 206) (j := 90) (x := f 0) dX11_cheapest_151 hx rfl rfl (by show _ < 91; omega) (hRa.2.2.2.2.2.2.2) ?_
                              refine mt_iload (pc := 152) dX11_cheapest_152 rfl ?_
                              refine mt_iadd (pc := 154) dX11_cheapest_154 ?_
                              refine mt_iload_n (pc := 155) dX11_cheapest_155 rfl ?_
                              refine mt_aV (pc := 156) (n_owesOf (d := 3) (cs := cs) (Nat.le_refl 3) hx hLa) cal_X11_owesOf vir_X11_owesOf ml_X11_317 dX11_cheapest_156 (by omega) (mos_o _ _ _) (by first | assumption | (show _ ≤ d; omega)) ⟨(Nat.le_of_ble_eq_true rfl), (Nat.le_of_ble_eq_true rfl)⟩ rfl rfl (Nat.le_of_ble_eq_true rfl) ?_ ?_
                              · rintro x9 n9 k9 h9
                                obtain ⟨⟨⟩, -⟩ := h9
                              · rintro v9 n9 k9 ⟨⟨⟩, rfl, A1, rfl, hSC⟩
                                refine ⟨rfl, ?_⟩
                                have ev : clamp (lawV cs (factF am tt (k.2.2.1 c) (kinN k j c) (f (12 + j)) (f (4 + c) - am) (f 0 + tt) (nI j))) = cheV k cs f j c am tt := rfl
                                rw [ev]
                                refine mt_istore (pc := 159) dX11_cheapest_159 (Nat.le_of_ble_eq_true rfl) rfl ?_
                                refine mt_iload (pc := 161) dX11_cheapest_161 rfl ?_
                                refine mt_iconst (pc := 163) (v := (-1)) dX11_cheapest_163 (by decide) ?_
                                refine mt_icmp_eq (pc := 164) (tgt := 177) dX11_cheapest_164 (by decide) (fun c164 => ?_) (fun c164 => ?_)
                                · skip
                                  rw [if_pos (Or.inl c164)] at nc
                                  refine mt_iload (pc := 177) dX11_cheapest_177 rfl ?_
                                  refine mt_istore (pc := 179) dX11_cheapest_179 (Nat.le_of_ble_eq_true rfl) rfl ?_
                                  refine mt_iload (pc := 181) dX11_cheapest_181 rfl ?_
                                  refine mt_istore (pc := 183) dX11_cheapest_183 (Nat.le_of_ble_eq_true rfl) rfl ?_
                                  refine mt_iinc (pc := 185) (c9 := 1) dX11_cheapest_185 rfl (by decide) (Nat.le_of_ble_eq_true rfl) rfl ?_
                                  refine mt_goto (pc := 188) (tgt := 73) dX11_cheapest_188 (by decide) ?_
                                  rw [show (nI c + 1 : Int32) = nI (c + 1) from nI_1 c]
                                  exact mt_forget 8 (nc (A1, cheV k cs f j c am tt) ⟨fc.trans hSC, fun _ => rfl⟩)
                                · skip
                                  refine mt_iload (pc := 167) dX11_cheapest_167 rfl ?_
                                  refine mt_iload (pc := 169) dX11_cheapest_169 rfl ?_
                                  refine mt_icmp_lt (pc := 171) (tgt := 177) dX11_cheapest_171 (by decide) (fun c171 => ?_) (fun c171 => ?_)
                                  · skip
                                    rw [fy c164] at c171
                                    rw [if_pos (Or.inr c171)] at nc
                                    refine mt_iload (pc := 177) dX11_cheapest_177 rfl ?_
                                    refine mt_istore (pc := 179) dX11_cheapest_179 (Nat.le_of_ble_eq_true rfl) rfl ?_
                                    refine mt_iload (pc := 181) dX11_cheapest_181 rfl ?_
                                    refine mt_istore (pc := 183) dX11_cheapest_183 (Nat.le_of_ble_eq_true rfl) rfl ?_
                                    refine mt_iinc (pc := 185) (c9 := 1) dX11_cheapest_185 rfl (by decide) (Nat.le_of_ble_eq_true rfl) rfl ?_
                                    refine mt_goto (pc := 188) (tgt := 73) dX11_cheapest_188 (by decide) ?_
                                    rw [show (nI c + 1 : Int32) = nI (c + 1) from nI_1 c]
                                    exact mt_forget 8 (nc (A1, cheV k cs f j c am tt) ⟨fc.trans hSC, fun _ => rfl⟩)
                                  · skip
                                    rw [fy c164] at c171
                                    rw [if_neg (fun z => z.elim c164 c171)] at nc
                                    refine mt_goto (pc := 174) (tgt := 185) dX11_cheapest_174 (by decide) ?_
                                    refine mt_iinc (pc := 185) (c9 := 1) dX11_cheapest_185 rfl (by decide) (Nat.le_of_ble_eq_true rfl) rfl ?_
                                    refine mt_goto (pc := 188) (tgt := 73) dX11_cheapest_188 (by decide) ?_
                                    rw [show (nI c + 1 : Int32) = nI (c + 1) from nI_1 c]
                                    exact mt_forget 8 (nc (A1, y) ⟨fc.trans hSC, fy⟩)
                            · skip
                              have no : ¬ clC k f j c am := fun z => by rw [if_pos z] at c103; exact absurd c103 (by decide)
                              rw [if_neg (fun z => no z.2)] at nc
                              refine mt_goto (pc := 106) (tgt := 185) dX11_cheapest_106 (by decide) ?_
                              refine mt_iinc (pc := 185) (c9 := 1) dX11_cheapest_185 rfl (by decide) (Nat.le_of_ble_eq_true rfl) rfl ?_
                              refine mt_goto (pc := 188) (tgt := 73) dX11_cheapest_188 (by decide) ?_
                              rw [show (nI c + 1 : Int32) = nI (c + 1) from nI_1 c]
                              exact nc (w, y) ⟨fc, fy⟩
                      · skip
                        refine mt_iload (pc := 73) dX11_cheapest_73 rfl ?_
                        refine mt_aload_n (pc := 75) dX11_cheapest_75 rfl ?_
                        refine mt_mgetI (pc := 76) (x := nI k.1) gf_X11_154 dX11_cheapest_76 hx rfl h18 ?_
                        refine mt_icmp_ge (pc := 79) (tgt := 191) dX11_cheapest_79 (by decide) (fun c79 => ?_) (fun c79 => ?_)
                        · skip
                          refine mt_iload (pc := 191) dX11_cheapest_191 rfl ?_
                          exact mt_iret rfl dX11_cheapest_193 (Nat.le_of_ble_eq_true rfl) (Nat.le_of_ble_eq_true rfl) (P_mqv (c0 := 1) (c1 := 2) (r := r) hr GQ_0 (SD_u.trans fc.1.sd).aq)
                        · exact absurd (nI_le (Nat.le_refl _) (by first | omega | decide)) c79
                  · exact absurd c55 (by decide)
        · rw [ifR_n h3]
          refine mm_start (lo := [some (.ref 188), some (.int a), some (.int kd), some (.int am), some (.int tt), none, none, none, none]) pn_X11 rfl rfl (Nat.le_of_ble_eq_true rfl) ?_
          refine mt_aload_n (pc := 0) dX11_cheapest_0 rfl ?_
          refine mt_iconst (pc := 1) (v := 0) dX11_cheapest_1 (by decide) ?_
          refine mt_mput (pc := 2) pf_X11_3 dX11_cheapest_2 hx rfl ?_
          refine mt_aload_n (pc := 5) dX11_cheapest_5 rfl ?_
          refine mt_iload_n (pc := 6) dX11_cheapest_6 rfl ?_
          refine mt_iconst (pc := 7) (v := 1) dX11_cheapest_7 (by decide) ?_
          refine mt_cV (pc := 8) (n_isSoulY (d := 1) (k := k) (Nat.le_refl 1) hx rfl hk2 h19 hp) cal_X11_isSoul vir_X11_isSoul ml_X11_369 dX11_cheapest_8 (by omega) (mos_o _ _ _) (by first | assumption | (show _ ≤ d; omega)) ⟨(Nat.le_of_ble_eq_true rfl), (Nat.le_of_ble_eq_true rfl)⟩ rfl rfl (Nat.le_of_ble_eq_true rfl) ?_
          refine mt_if_eq (pc := 11) (tgt := 58) dX11_cheapest_11 (by decide) (fun c11 => ?_) (fun c11 => ?_)
          · exact absurd c11 (by decide)
          · skip
            refine mt_aload_n (pc := 14) dX11_cheapest_14 rfl ?_
            refine mt_iload_n (pc := 15) dX11_cheapest_15 rfl ?_
            refine mt_iconst (pc := 16) (v := 0) dX11_cheapest_16 (by decide) ?_
            refine mt_iconst (pc := 17) (v := 5) dX11_cheapest_17 (by decide) ?_
            refine mt_cS (pc := 18) (n_within) cal_X11_within sta_X11_within ml_X11_348 dX11_cheapest_18 (by first | assumption | (show _ ≤ d; omega)) ⟨(Nat.le_of_ble_eq_true rfl), (Nat.le_of_ble_eq_true rfl)⟩ rfl rfl (Nat.le_of_ble_eq_true rfl) ?_
            rw [in_w h1]
            refine mt_if_eq (pc := 21) (tgt := 49) dX11_cheapest_21 (by decide) (fun c21 => ?_) (fun c21 => ?_)
            · exact absurd c21 (by decide)
            · skip
              refine mt_iload_n (pc := 24) dX11_cheapest_24 rfl ?_
              refine mt_iconst (pc := 25) (v := 1) dX11_cheapest_25 (by decide) ?_
              refine mt_bipush (pc := 26) (v := 60) dX11_cheapest_26 (by decide) ?_
              refine mt_cS (pc := 28) (n_within) cal_X11_within sta_X11_within ml_X11_348 dX11_cheapest_28 (by first | assumption | (show _ ≤ d; omega)) ⟨(Nat.le_of_ble_eq_true rfl), (Nat.le_of_ble_eq_true rfl)⟩ rfl rfl (Nat.le_of_ble_eq_true rfl) ?_
              rw [in_w h2]
              refine mt_if_eq (pc := 31) (tgt := 49) dX11_cheapest_31 (by decide) (fun c31 => ?_) (fun c31 => ?_)
              · exact absurd c31 (by decide)
              · skip
                refine mt_iload (pc := 34) dX11_cheapest_34 rfl ?_
                refine mt_iconst (pc := 36) (v := 1) dX11_cheapest_36 (by decide) ?_
                refine mt_bipush (pc := 37) (v := 40) dX11_cheapest_37 (by decide) ?_
                refine mt_cS (pc := 39) (n_within) cal_X11_within sta_X11_within ml_X11_348 dX11_cheapest_39 (by first | assumption | (show _ ≤ d; omega)) ⟨(Nat.le_of_ble_eq_true rfl), (Nat.le_of_ble_eq_true rfl)⟩ rfl rfl (Nat.le_of_ble_eq_true rfl) ?_
                rw [in_nw h3]
                refine mt_if_eq (pc := 42) (tgt := 49) dX11_cheapest_42 (by decide) (fun c42 => ?_) (fun c42 => ?_)
                · skip
                  refine mt_iconst (pc := 49) (v := 0) dX11_cheapest_49 (by decide) ?_
                  refine mt_iconst (pc := 50) (v := 2) dX11_cheapest_50 (by decide) ?_
                  refine mt_iconst (pc := 51) (v := 1) dX11_cheapest_51 (by decide) ?_
                  refine mt_cV (pc := 52) (n_mayN (d := 0) (q := 1) hx (by decide) rfl rfl (by decide)) cal_X11_may vir_X11_may ml_X11_190 dX11_cheapest_52 (by omega) (mos_o _ _ _) (by first | assumption | (show _ ≤ d; omega)) ⟨(Nat.le_of_ble_eq_true rfl), (Nat.le_of_ble_eq_true rfl)⟩ rfl rfl (Nat.le_of_ble_eq_true rfl) ?_
                  refine mt_if_ne (pc := 55) (tgt := 60) dX11_cheapest_55 (by decide) (fun c55 => ?_) (fun c55 => ?_)
                  · exact absurd rfl c55
                  · skip
                    refine mt_iconst (pc := 58) (v := 0) dX11_cheapest_58 (by decide) ?_
                    exact mt_iret rfl dX11_cheapest_59 (Nat.le_of_ble_eq_true rfl) (Nat.le_of_ble_eq_true rfl) (P_mq1 (c0 := 1) (c1 := 2) (r := .inl 1) rfl)
                · exact absurd rfl c42
      · rw [ifR_n h2]
        refine mm_start (lo := [some (.ref 188), some (.int a), some (.int kd), some (.int am), some (.int tt), none, none, none, none]) pn_X11 rfl rfl (Nat.le_of_ble_eq_true rfl) ?_
        refine mt_aload_n (pc := 0) dX11_cheapest_0 rfl ?_
        refine mt_iconst (pc := 1) (v := 0) dX11_cheapest_1 (by decide) ?_
        refine mt_mput (pc := 2) pf_X11_3 dX11_cheapest_2 hx rfl ?_
        refine mt_aload_n (pc := 5) dX11_cheapest_5 rfl ?_
        refine mt_iload_n (pc := 6) dX11_cheapest_6 rfl ?_
        refine mt_iconst (pc := 7) (v := 1) dX11_cheapest_7 (by decide) ?_
        refine mt_cV (pc := 8) (n_isSoulY (d := 1) (k := k) (Nat.le_refl 1) hx rfl hk2 h19 hp) cal_X11_isSoul vir_X11_isSoul ml_X11_369 dX11_cheapest_8 (by omega) (mos_o _ _ _) (by first | assumption | (show _ ≤ d; omega)) ⟨(Nat.le_of_ble_eq_true rfl), (Nat.le_of_ble_eq_true rfl)⟩ rfl rfl (Nat.le_of_ble_eq_true rfl) ?_
        refine mt_if_eq (pc := 11) (tgt := 58) dX11_cheapest_11 (by decide) (fun c11 => ?_) (fun c11 => ?_)
        · exact absurd c11 (by decide)
        · skip
          refine mt_aload_n (pc := 14) dX11_cheapest_14 rfl ?_
          refine mt_iload_n (pc := 15) dX11_cheapest_15 rfl ?_
          refine mt_iconst (pc := 16) (v := 0) dX11_cheapest_16 (by decide) ?_
          refine mt_iconst (pc := 17) (v := 5) dX11_cheapest_17 (by decide) ?_
          refine mt_cS (pc := 18) (n_within) cal_X11_within sta_X11_within ml_X11_348 dX11_cheapest_18 (by first | assumption | (show _ ≤ d; omega)) ⟨(Nat.le_of_ble_eq_true rfl), (Nat.le_of_ble_eq_true rfl)⟩ rfl rfl (Nat.le_of_ble_eq_true rfl) ?_
          rw [in_w h1]
          refine mt_if_eq (pc := 21) (tgt := 49) dX11_cheapest_21 (by decide) (fun c21 => ?_) (fun c21 => ?_)
          · exact absurd c21 (by decide)
          · skip
            refine mt_iload_n (pc := 24) dX11_cheapest_24 rfl ?_
            refine mt_iconst (pc := 25) (v := 1) dX11_cheapest_25 (by decide) ?_
            refine mt_bipush (pc := 26) (v := 60) dX11_cheapest_26 (by decide) ?_
            refine mt_cS (pc := 28) (n_within) cal_X11_within sta_X11_within ml_X11_348 dX11_cheapest_28 (by first | assumption | (show _ ≤ d; omega)) ⟨(Nat.le_of_ble_eq_true rfl), (Nat.le_of_ble_eq_true rfl)⟩ rfl rfl (Nat.le_of_ble_eq_true rfl) ?_
            rw [in_nw h2]
            refine mt_if_eq (pc := 31) (tgt := 49) dX11_cheapest_31 (by decide) (fun c31 => ?_) (fun c31 => ?_)
            · skip
              refine mt_iconst (pc := 49) (v := 0) dX11_cheapest_49 (by decide) ?_
              refine mt_iconst (pc := 50) (v := 2) dX11_cheapest_50 (by decide) ?_
              refine mt_iconst (pc := 51) (v := 1) dX11_cheapest_51 (by decide) ?_
              refine mt_cV (pc := 52) (n_mayN (d := 0) (q := 1) hx (by decide) rfl rfl (by decide)) cal_X11_may vir_X11_may ml_X11_190 dX11_cheapest_52 (by omega) (mos_o _ _ _) (by first | assumption | (show _ ≤ d; omega)) ⟨(Nat.le_of_ble_eq_true rfl), (Nat.le_of_ble_eq_true rfl)⟩ rfl rfl (Nat.le_of_ble_eq_true rfl) ?_
              refine mt_if_ne (pc := 55) (tgt := 60) dX11_cheapest_55 (by decide) (fun c55 => ?_) (fun c55 => ?_)
              · exact absurd rfl c55
              · skip
                refine mt_iconst (pc := 58) (v := 0) dX11_cheapest_58 (by decide) ?_
                exact mt_iret rfl dX11_cheapest_59 (Nat.le_of_ble_eq_true rfl) (Nat.le_of_ble_eq_true rfl) (P_mq1 (c0 := 1) (c1 := 2) (r := .inl 1) rfl)
            · exact absurd rfl c31
    · rw [ifR_n h1]
      refine mm_start (lo := [some (.ref 188), some (.int a), some (.int kd), some (.int am), some (.int tt), none, none, none, none]) pn_X11 rfl rfl (Nat.le_of_ble_eq_true rfl) ?_
      refine mt_aload_n (pc := 0) dX11_cheapest_0 rfl ?_
      refine mt_iconst (pc := 1) (v := 0) dX11_cheapest_1 (by decide) ?_
      refine mt_mput (pc := 2) pf_X11_3 dX11_cheapest_2 hx rfl ?_
      refine mt_aload_n (pc := 5) dX11_cheapest_5 rfl ?_
      refine mt_iload_n (pc := 6) dX11_cheapest_6 rfl ?_
      refine mt_iconst (pc := 7) (v := 1) dX11_cheapest_7 (by decide) ?_
      refine mt_cV (pc := 8) (n_isSoulY (d := 1) (k := k) (Nat.le_refl 1) hx rfl hk2 h19 hp) cal_X11_isSoul vir_X11_isSoul ml_X11_369 dX11_cheapest_8 (by omega) (mos_o _ _ _) (by first | assumption | (show _ ≤ d; omega)) ⟨(Nat.le_of_ble_eq_true rfl), (Nat.le_of_ble_eq_true rfl)⟩ rfl rfl (Nat.le_of_ble_eq_true rfl) ?_
      refine mt_if_eq (pc := 11) (tgt := 58) dX11_cheapest_11 (by decide) (fun c11 => ?_) (fun c11 => ?_)
      · exact absurd c11 (by decide)
      · skip
        refine mt_aload_n (pc := 14) dX11_cheapest_14 rfl ?_
        refine mt_iload_n (pc := 15) dX11_cheapest_15 rfl ?_
        refine mt_iconst (pc := 16) (v := 0) dX11_cheapest_16 (by decide) ?_
        refine mt_iconst (pc := 17) (v := 5) dX11_cheapest_17 (by decide) ?_
        refine mt_cS (pc := 18) (n_within) cal_X11_within sta_X11_within ml_X11_348 dX11_cheapest_18 (by first | assumption | (show _ ≤ d; omega)) ⟨(Nat.le_of_ble_eq_true rfl), (Nat.le_of_ble_eq_true rfl)⟩ rfl rfl (Nat.le_of_ble_eq_true rfl) ?_
        rw [in_nw h1]
        refine mt_if_eq (pc := 21) (tgt := 49) dX11_cheapest_21 (by decide) (fun c21 => ?_) (fun c21 => ?_)
        · skip
          refine mt_iconst (pc := 49) (v := 0) dX11_cheapest_49 (by decide) ?_
          refine mt_iconst (pc := 50) (v := 2) dX11_cheapest_50 (by decide) ?_
          refine mt_iconst (pc := 51) (v := 1) dX11_cheapest_51 (by decide) ?_
          refine mt_cV (pc := 52) (n_mayN (d := 0) (q := 1) hx (by decide) rfl rfl (by decide)) cal_X11_may vir_X11_may ml_X11_190 dX11_cheapest_52 (by omega) (mos_o _ _ _) (by first | assumption | (show _ ≤ d; omega)) ⟨(Nat.le_of_ble_eq_true rfl), (Nat.le_of_ble_eq_true rfl)⟩ rfl rfl (Nat.le_of_ble_eq_true rfl) ?_
          refine mt_if_ne (pc := 55) (tgt := 60) dX11_cheapest_55 (by decide) (fun c55 => ?_) (fun c55 => ?_)
          · exact absurd rfl c55
          · skip
            refine mt_iconst (pc := 58) (v := 0) dX11_cheapest_58 (by decide) ?_
            exact mt_iret rfl dX11_cheapest_59 (Nat.le_of_ble_eq_true rfl) (Nat.le_of_ble_eq_true rfl) (P_mq1 (c0 := 1) (c1 := 2) (r := .inl 1) rfl)
        · exact absurd rfl c21
  · rw [if_neg hp]
    refine mm_start (lo := [some (.ref 188), some (.int a), some (.int kd), some (.int am), some (.int tt), none, none, none, none]) pn_X11 rfl rfl (Nat.le_of_ble_eq_true rfl) ?_
    refine mt_aload_n (pc := 0) dX11_cheapest_0 rfl ?_
    refine mt_iconst (pc := 1) (v := 0) dX11_cheapest_1 (by decide) ?_
    refine mt_mput (pc := 2) pf_X11_3 dX11_cheapest_2 hx rfl ?_
    refine mt_aload_n (pc := 5) dX11_cheapest_5 rfl ?_
    refine mt_iload_n (pc := 6) dX11_cheapest_6 rfl ?_
    refine mt_iconst (pc := 7) (v := 1) dX11_cheapest_7 (by decide) ?_
    refine mt_cV (pc := 8) (n_isSoulN (d := 1) (k := k) (Nat.le_refl 1) hx rfl hk2 h19 (by decide) hp) cal_X11_isSoul vir_X11_isSoul ml_X11_369 dX11_cheapest_8 (by omega) (mos_o _ _ _) (by first | assumption | (show _ ≤ d; omega)) ⟨(Nat.le_of_ble_eq_true rfl), (Nat.le_of_ble_eq_true rfl)⟩ rfl rfl (Nat.le_of_ble_eq_true rfl) ?_
    refine mt_if_eq (pc := 11) (tgt := 58) dX11_cheapest_11 (by decide) (fun c11 => ?_) (fun c11 => ?_)
    · skip
      refine mt_iconst (pc := 58) (v := 0) dX11_cheapest_58 (by decide) ?_
      exact mt_iret rfl dX11_cheapest_59 (Nat.le_of_ble_eq_true rfl) (Nat.le_of_ble_eq_true rfl) (P_mq0 (c0 := 1) (c1 := 2) (r := .inl 0) rfl)
    · exact absurd rfl c11
theorem n_clears {a : Int32} (hd : 6 ≤ d) (hx : 215 ≤ nx) (hQ : MQs k cs g A) (hR : RR (A 205) f) (hI : RI k f) : mm_Con G l yX11_clears cX11_clears 7 (some .int) d 0 0 [.ref 188, .int a] nx (mos h g A) (P_mq 1 1 (if inR a k.2.1 then .inr (nI (clrF (owF k cs f) (lwF f 0 a) (f (18 + a.toNatClampNeg)) (2 ^ nlo f - 1))) else .inl 0) nx h g A) := by
  obtain ⟨h18, h19, hM, hL⟩ := id hQ
  have hk1 := hM.1
  have hk2 := hM.2.1
  obtain ⟨hn10, e3, -⟩ := hI.nl
  by_cases hp : inR a k.2.1
  · rw [if_pos hp]
    obtain ⟨j, hj, rfl⟩ := inR_of hp (by omega)
    rw [nI_clamp (by omega)]
    obtain ⟨m, m1, m2, -⟩ := lwG_n (f := f) (j := 0) (v := nI j) (nlo f) hn10
    have hp10 : 2 ^ nlo f ≤ 2 ^ 10 := pow_mono hn10
    have hlw : lwF f 0 (nI j) = nI m := m1
    obtain ⟨r, hr⟩ : ∃ r : Nat ⊕ Int32, r = .inr (nI (clrF (owF k cs f) (nI m) (f (18 + j)) m)) := ⟨_, rfl⟩
    have hr2 : r = .inr (nI (clrF (owF k cs f) (lwF f 0 (nI j)) (f (18 + j)) (2 ^ nlo f - 1))) := by
      rw [hr, hlw, ← clr_hi (q := 2 ^ nlo f - 1 - m) (by omega) (by omega), show m + (2 ^ nlo f - 1 - m) = 2 ^ nlo f - 1 by omega]
    rw [← hr2]
    refine mm_start (lo := [some (.ref 188), some (.int (nI j)), none, none, none, none, none]) pn_X11 rfl rfl (Nat.le_of_ble_eq_true rfl) ?_
    refine mt_aload_n (pc := 0) dX11_clears_0 rfl ?_
    refine mt_iconst (pc := 1) (v := 0) dX11_clears_1 (by decide) ?_
    refine mt_mput (pc := 2) pf_X11_3 dX11_clears_2 hx rfl ?_
    refine mt_aload_n (pc := 5) dX11_clears_5 rfl ?_
    refine mt_iload_n (pc := 6) dX11_clears_6 rfl ?_
    refine mt_iconst (pc := 7) (v := 1) dX11_clears_7 (by decide) ?_
    refine mt_cV (pc := 8) (n_isSoulY (d := 1) (k := k) (Nat.le_refl 1) hx rfl hk2 h19 hp) cal_X11_isSoul vir_X11_isSoul ml_X11_369 dX11_clears_8 (by omega) (mos_o _ _ _) (by first | assumption | (show _ ≤ d; omega)) ⟨(Nat.le_of_ble_eq_true rfl), (Nat.le_of_ble_eq_true rfl)⟩ rfl rfl (Nat.le_of_ble_eq_true rfl) ?_
    refine mt_if_ne (pc := 11) (tgt := 16) dX11_clears_11 (by decide) (fun c11 => ?_) (fun c11 => ?_)
    · skip
      refine mt_aload_n (pc := 16) dX11_clears_16 rfl ?_
      refine mt_aV (pc := 17) (n_takeR (d := 1) (f := f) (Nat.le_refl 1) hx hR hn10) cal_X11_take vir_X11_take ml_X11_293 dX11_clears_17 (by omega) (mos_o _ _ _) (by first | assumption | (show _ ≤ d; omega)) ⟨(Nat.le_of_ble_eq_true rfl), (Nat.le_of_ble_eq_true rfl)⟩ rfl rfl (Nat.le_of_ble_eq_true rfl) ?_ ?_
      · rintro x9 n9 k9 h9
        obtain ⟨⟨⟩, -⟩ := h9
      · rintro v9 n9 k9 ⟨⟨⟩, rfl, S, rfl, hS⟩
        refine ⟨rfl, ?_⟩
        have hS' : RR (updR A 206 S 206) f := by rw [updR_eq]; exact hS
        have hQ' : MQs k cs (upd g 0 0) (updR A 206 S) := ⟨h18, h19, hM, hL⟩
        refine mt_aload_n (pc := 20) dX11_clears_20 rfl ?_
        refine mt_iconst (pc := 21) (v := 0) dX11_clears_21 (by decide) ?_
        refine mt_iload_n (pc := 22) dX11_clears_22 rfl ?_
        refine mt_cV (pc := 23) (n_loansBy (d := 1) (k := k) (f := f) (j := 0) (v := nI j) (Nat.le_refl 1) hx (by decide) hS' hI) cal_X11_loansBy vir_X11_loansBy ml_X11_363 dX11_clears_23 (by omega) (mos_o _ _ _) (by first | assumption | (show _ ≤ d; omega)) ⟨(Nat.le_of_ble_eq_true rfl), (Nat.le_of_ble_eq_true rfl)⟩ rfl rfl (Nat.le_of_ble_eq_true rfl) ?_
        rw [hlw]
        refine mt_istore_n (pc := 26) dX11_clears_26 (Nat.le_of_ble_eq_true rfl) rfl ?_
        refine mt_iconst (pc := 27) (v := 0) dX11_clears_27 (by decide) ?_
        refine mt_istore_n (pc := 28) dX11_clears_28 (Nat.le_of_ble_eq_true rfl) rfl ?_
        refine mt_iconst (pc := 29) (v := 0) dX11_clears_29 (by decide) ?_
        refine mt_istore (pc := 30) dX11_clears_30 (Nat.le_of_ble_eq_true rfl) rfl ?_
        refine mt_iconst (pc := 32) (v := 1) dX11_clears_32 (by decide) ?_
        refine mt_istore (pc := 33) dX11_clears_33 (Nat.le_of_ble_eq_true rfl) rfl ?_
        refine mt_leq (lo' := [some (.ref 188), some (.int (nI j)), some (.int (nI m)), some (.int (nI (clrF (owF k cs f) (nI m) (f (18 + j)) 0))), some (.int (obF (owF k cs f) (clrF (owF k cs f) (nI m) (f (18 + j)) 0))), some (.int (nI (0 + 1))), none]) (by rw [show clrF (owF k cs f) (nI m) (f (18 + j)) 0 = 0 from rfl, ob_0]; rfl) ?_
        refine mt_forE (pc := 35) (α := MA) (H := fun c (w : MA) => mos h (upd g 0 0) w) (L := fun c (w : MA) => [some (.ref 188), some (.int (nI j)), some (.int (nI m)), some (.int (nI (clrF (owF k cs f) (nI m) (f (18 + j)) c))), some (.int (obF (owF k cs f) (clrF (owF k cs f) (nI m) (f (18 + j)) c))), some (.int (nI (c + 1))), none]) (I := fun c (w : MA) => SC (updR A 206 S) w) m (fun c w hc fc nc => ?_) (fun w fc => ?_) (updR A 206 S) SC_rf
        · skip
          rw [clr_s] at nc
          have hble := clrF_le (o := owF k cs f) (own := nI m) (pu := f (18 + j)) c
          generalize clrF (owF k cs f) (nI m) (f (18 + j)) c = b at nc hble ⊢
          have hRw : RR (w 206) f := by rw [fc 206 (by decide) (by decide)]; exact hS'
          have hQw : MQs k cs (upd g 0 0) w := hQ'.sc (fun i hi => fc i (by omega) (by omega))
          refine mt_iload (pc := 35) dX11_clears_35 rfl ?_
          refine mt_iload_n (pc := 37) dX11_clears_37 rfl ?_
          refine mt_icmp_gt (pc := 38) (tgt := 122) dX11_clears_38 (by decide) (fun c38 => ?_) (fun c38 => ?_)
          · exact absurd c38 (nI_nlt (by omega) (by omega))
          · skip
            refine mt_iload (pc := 41) dX11_clears_41 rfl ?_
            refine mt_iload_n (pc := 43) dX11_clears_43 rfl ?_
            refine mt_iconst (pc := 44) (v := (-1)) dX11_clears_44 (by decide) ?_
            refine mt_ixor (pc := 45) dX11_clears_45 ?_
            refine mt_iand (pc := 46) dX11_clears_46 ?_
            refine mt_if_eq (pc := 47) (tgt := 53) dX11_clears_47 (by decide) (fun c47 => ?_) (fun c47 => ?_)
            · skip
              refine mt_aload_n (pc := 53) dX11_clears_53 rfl ?_
              refine mt_iload (pc := 54) dX11_clears_54 rfl ?_
              refine mt_aV (pc := 56) (n_owesAll (d := 5) (cs := cs) (k := k) (f := f) (Nat.le_refl 5) hx hQw hRw hI) cal_X11_owesAll vir_X11_owesAll ml_X11_360 dX11_clears_56 (by omega) (mos_o _ _ _) (by first | assumption | (show _ ≤ d; omega)) ⟨(Nat.le_of_ble_eq_true rfl), (Nat.le_of_ble_eq_true rfl)⟩ rfl rfl (Nat.le_of_ble_eq_true rfl) ?_ ?_
              · rintro x9 n9 k9 h9
                obtain ⟨⟨⟩, -⟩ := h9
              · rintro v9 n9 k9 ⟨⟨⟩, rfl, A1, rfl, hSC⟩
                refine ⟨rfl, ?_⟩
                rw [ob_oa hn10 (by omega)]
                have hRa : RR (A1 206) f := by rw [hSC 206 (by decide) (by decide)]; exact hRw
                refine mt_istore (pc := 59) dX11_clears_59 (Nat.le_of_ble_eq_true rfl) rfl ?_
                refine mt_iload (pc := 61) dX11_clears_61 rfl ?_
                refine mt_aload_n (pc := 63) dX11_clears_63 rfl ?_
                refine mt_mget (pc := 64) gf_X11_68 dX11_clears_64 hx rfl ?_
                refine mt_bipush (pc := 67) (v := 22) dX11_clears_67 (by decide) ?_
                refine mt_iload_n (pc := 69) dX11_clears_69 rfl ?_
                refine mt_iaddN (pc := 70) (a := 22) (b := j) dX11_clears_70 rfl rfl ?_
                refine mt_mald (pc := 71) (i := 206) (j := 22 + j) (x := f (18 + j)) dX11_clears_71 hx rfl rfl (by show _ < 91; omega) (hRa.2.2.2.1 j (by omega)) ?_
                refine mt_icmp_gt (pc := 72) (tgt := 116) dX11_clears_72 (by decide) (fun c72 => ?_) (fun c72 => ?_)
                · skip
                  rw [if_neg (fun z => z.2.1 c72)] at nc
                  refine mt_iinc (pc := 116) (c9 := 1) dX11_clears_116 rfl (by decide) (Nat.le_of_ble_eq_true rfl) rfl ?_
                  refine mt_goto (pc := 119) (tgt := 35) dX11_clears_119 (by decide) ?_
                  rw [show (nI (c + 1) + 1 : Int32) = nI (c + 1 + 1) from nI_1 _]
                  first
                    | exact nc w fc
                    | exact mt_forget 6 (nc A1 (fc.trans hSC))
                · skip
                  refine mt_iload (pc := 75) dX11_clears_75 rfl ?_
                  refine mt_cS (pc := 77) (n_ones (d := 0) (s := c + 1) (by omega)) cal_X11_ones sta_X11_ones ml_X11_372 dX11_clears_77 (by first | assumption | (show _ ≤ d; omega)) ⟨(Nat.le_of_ble_eq_true rfl), (Nat.le_of_ble_eq_true rfl)⟩ rfl rfl (Nat.le_of_ble_eq_true rfl) ?_
                  refine mt_iload_n (pc := 80) dX11_clears_80 rfl ?_
                  refine mt_cS (pc := 81) (n_ones (d := 0) (s := b) (by omega)) cal_X11_ones sta_X11_ones ml_X11_372 dX11_clears_81 (by first | assumption | (show _ ≤ d; omega)) ⟨(Nat.le_of_ble_eq_true rfl), (Nat.le_of_ble_eq_true rfl)⟩ rfl rfl (Nat.le_of_ble_eq_true rfl) ?_
                  refine mt_icmp_lt (pc := 84) (tgt := 116) dX11_clears_84 (by decide) (fun c84 => ?_) (fun c84 => ?_)
                  · skip
                    have hlt := (nI_ltI (by have := pop_le (c + 1); omega) (by have := pop_le b; omega)).mp c84
                    rw [if_neg (fun z => z.2.2.elim (fun y => by omega) (fun y => by omega))] at nc
                    refine mt_iinc (pc := 116) (c9 := 1) dX11_clears_116 rfl (by decide) (Nat.le_of_ble_eq_true rfl) rfl ?_
                    refine mt_goto (pc := 119) (tgt := 35) dX11_clears_119 (by decide) ?_
                    rw [show (nI (c + 1) + 1 : Int32) = nI (c + 1 + 1) from nI_1 _]
                    first
                      | exact nc w fc
                      | exact mt_forget 6 (nc A1 (fc.trans hSC))
                  · skip
                    have hnlt : ¬ popc (c + 1) 10 < popc b 10 := fun z => c84 (nI_lt z (by have := pop_le b; omega))
                    refine mt_iload (pc := 87) dX11_clears_87 rfl ?_
                    refine mt_cS (pc := 89) (n_ones (d := 0) (s := c + 1) (by omega)) cal_X11_ones sta_X11_ones ml_X11_372 dX11_clears_89 (by first | assumption | (show _ ≤ d; omega)) ⟨(Nat.le_of_ble_eq_true rfl), (Nat.le_of_ble_eq_true rfl)⟩ rfl rfl (Nat.le_of_ble_eq_true rfl) ?_
                    refine mt_iload_n (pc := 92) dX11_clears_92 rfl ?_
                    refine mt_cS (pc := 93) (n_ones (d := 0) (s := b) (by omega)) cal_X11_ones sta_X11_ones ml_X11_372 dX11_clears_93 (by first | assumption | (show _ ≤ d; omega)) ⟨(Nat.le_of_ble_eq_true rfl), (Nat.le_of_ble_eq_true rfl)⟩ rfl rfl (Nat.le_of_ble_eq_true rfl) ?_
                    refine mt_icmp_ne (pc := 96) (tgt := 109) dX11_clears_96 (by decide) (fun c96 => ?_) (fun c96 => ?_)
                    · skip
                      have hne : ¬ popc (c + 1) 10 = popc b 10 := fun z => c96 (by rw [z])
                      rw [if_pos ⟨c47, c72, Or.inl (by omega)⟩] at nc
                      refine mt_iload (pc := 109) dX11_clears_109 rfl ?_
                      refine mt_istore_n (pc := 111) dX11_clears_111 (Nat.le_of_ble_eq_true rfl) rfl ?_
                      refine mt_iload (pc := 112) dX11_clears_112 rfl ?_
                      refine mt_istore (pc := 114) dX11_clears_114 (Nat.le_of_ble_eq_true rfl) rfl ?_
                      refine mt_iinc (pc := 116) (c9 := 1) dX11_clears_116 rfl (by decide) (Nat.le_of_ble_eq_true rfl) rfl ?_
                      refine mt_goto (pc := 119) (tgt := 35) dX11_clears_119 (by decide) ?_
                      rw [show (nI (c + 1) + 1 : Int32) = nI (c + 1 + 1) from nI_1 _]
                      first
                        | exact nc w fc
                        | exact mt_forget 6 (nc A1 (fc.trans hSC))
                    · skip
                      have heq : popc (c + 1) 10 = popc b 10 := (nI_eq (by have := pop_le (c + 1); omega) (by have := pop_le b; omega)).mp c96
                      refine mt_iload (pc := 99) dX11_clears_99 rfl ?_
                      refine mt_iload (pc := 101) dX11_clears_101 rfl ?_
                      refine mt_icmp_lt (pc := 103) (tgt := 109) dX11_clears_103 (by decide) (fun c103 => ?_) (fun c103 => ?_)
                      · skip
                        rw [if_pos ⟨c47, c72, Or.inr ⟨heq, c103⟩⟩] at nc
                        refine mt_iload (pc := 109) dX11_clears_109 rfl ?_
                        refine mt_istore_n (pc := 111) dX11_clears_111 (Nat.le_of_ble_eq_true rfl) rfl ?_
                        refine mt_iload (pc := 112) dX11_clears_112 rfl ?_
                        refine mt_istore (pc := 114) dX11_clears_114 (Nat.le_of_ble_eq_true rfl) rfl ?_
                        refine mt_iinc (pc := 116) (c9 := 1) dX11_clears_116 rfl (by decide) (Nat.le_of_ble_eq_true rfl) rfl ?_
                        refine mt_goto (pc := 119) (tgt := 35) dX11_clears_119 (by decide) ?_
                        rw [show (nI (c + 1) + 1 : Int32) = nI (c + 1 + 1) from nI_1 _]
                        first
                          | exact nc w fc
                          | exact mt_forget 6 (nc A1 (fc.trans hSC))
                      · skip
                        rw [if_neg (fun z => z.2.2.elim (fun y => by omega) (fun y => c103 y.2))] at nc
                        refine mt_goto (pc := 106) (tgt := 116) dX11_clears_106 (by decide) ?_
                        refine mt_iinc (pc := 116) (c9 := 1) dX11_clears_116 rfl (by decide) (Nat.le_of_ble_eq_true rfl) rfl ?_
                        refine mt_goto (pc := 119) (tgt := 35) dX11_clears_119 (by decide) ?_
                        rw [show (nI (c + 1) + 1 : Int32) = nI (c + 1 + 1) from nI_1 _]
                        first
                          | exact nc w fc
                          | exact mt_forget 6 (nc A1 (fc.trans hSC))
            · skip
              rw [if_neg (fun z => c47 z.1)] at nc
              refine mt_goto (pc := 50) (tgt := 116) dX11_clears_50 (by decide) ?_
              refine mt_iinc (pc := 116) (c9 := 1) dX11_clears_116 rfl (by decide) (Nat.le_of_ble_eq_true rfl) rfl ?_
              refine mt_goto (pc := 119) (tgt := 35) dX11_clears_119 (by decide) ?_
              rw [show (nI (c + 1) + 1 : Int32) = nI (c + 1 + 1) from nI_1 _]
              first
                | exact nc w fc
                | exact mt_forget 6 (nc A1 (fc.trans hSC))
        · skip
          refine mt_iload (pc := 35) dX11_clears_35 rfl ?_
          refine mt_iload_n (pc := 37) dX11_clears_37 rfl ?_
          refine mt_icmp_gt (pc := 38) (tgt := 122) dX11_clears_38 (by decide) (fun c38 => ?_) (fun c38 => ?_)
          · skip
            refine mt_iload_n (pc := 122) dX11_clears_122 rfl ?_
            exact mt_iret rfl dX11_clears_123 (Nat.le_of_ble_eq_true rfl) (Nat.le_of_ble_eq_true rfl) (P_mqv (c0 := 1) (c1 := 1) (r := r) hr GQ_0 (SD_u.trans fc.sd).aq)
          · exact absurd (nI_lt (by omega) (by omega)) c38
    · exact absurd c11 (by decide)
  · rw [if_neg hp]
    refine mm_start (lo := [some (.ref 188), some (.int a), none, none, none, none, none]) pn_X11 rfl rfl (Nat.le_of_ble_eq_true rfl) ?_
    refine mt_aload_n (pc := 0) dX11_clears_0 rfl ?_
    refine mt_iconst (pc := 1) (v := 0) dX11_clears_1 (by decide) ?_
    refine mt_mput (pc := 2) pf_X11_3 dX11_clears_2 hx rfl ?_
    refine mt_aload_n (pc := 5) dX11_clears_5 rfl ?_
    refine mt_iload_n (pc := 6) dX11_clears_6 rfl ?_
    refine mt_iconst (pc := 7) (v := 1) dX11_clears_7 (by decide) ?_
    refine mt_cV (pc := 8) (n_isSoulN (d := 1) (k := k) (Nat.le_refl 1) hx rfl hk2 h19 (by decide) hp) cal_X11_isSoul vir_X11_isSoul ml_X11_369 dX11_clears_8 (by omega) (mos_o _ _ _) (by first | assumption | (show _ ≤ d; omega)) ⟨(Nat.le_of_ble_eq_true rfl), (Nat.le_of_ble_eq_true rfl)⟩ rfl rfl (Nat.le_of_ble_eq_true rfl) ?_
    refine mt_if_ne (pc := 11) (tgt := 16) dX11_clears_11 (by decide) (fun c11 => ?_) (fun c11 => ?_)
    · exact absurd rfl c11
    · skip
      refine mt_iconst (pc := 14) (v := 0) dX11_clears_14 (by decide) ?_
      exact mt_iret rfl dX11_clears_15 (Nat.le_of_ble_eq_true rfl) (Nat.le_of_ble_eq_true rfl) (P_mq0 (c0 := 1) (c1 := 1) (r := .inl 0) rfl)
theorem n_comes {x : Int32} (hd : 6 ≤ d) (hx : 215 ≤ nx) (hQ : MQs k cs g A) (hR : RR (A 205) f) (hI : RI k f) : mm_Con G l yX11_comes cX11_comes 4 (some .int) d 0 0 [.ref 188, .int x] nx (mos h g A) (P_mq 1 1 (ifR x 0 999 (.inr (comF (owF k cs f) x (2 ^ nlo f)))) nx h g A) := by
  obtain ⟨h18, h19, hM, hL⟩ := id hQ
  obtain ⟨hn10, e3, -⟩ := hI.nl
  have hp10 : 2 ^ nlo f ≤ 2 ^ 10 := pow_mono hn10
  have hp1 := Nat.two_pow_pos (nlo f)
  by_cases hok : ¬ x < 0 ∧ ¬ 999 < x
  · rw [ifR_p hok]
    obtain ⟨r, hr⟩ : ∃ r : Nat ⊕ Int32, r = .inr (comF (owF k cs f) x (2 ^ nlo f)) := ⟨_, rfl⟩
    rw [← hr]
    refine mm_start (lo := [some (.ref 188), some (.int x), none, none]) pn_X11 rfl rfl (Nat.le_of_ble_eq_true rfl) ?_
    refine mt_aload_n (pc := 0) dX11_comes_0 rfl ?_
    refine mt_iconst (pc := 1) (v := 0) dX11_comes_1 (by decide) ?_
    refine mt_mput (pc := 2) pf_X11_3 dX11_comes_2 hx rfl ?_
    refine mt_aload_n (pc := 5) dX11_comes_5 rfl ?_
    refine mt_iload_n (pc := 6) dX11_comes_6 rfl ?_
    refine mt_iconst (pc := 7) (v := 0) dX11_comes_7 (by decide) ?_
    refine mt_sipush (pc := 8) (v := 999) dX11_comes_8 (by decide) ?_
    refine mt_cS (pc := 11) (n_within) cal_X11_within sta_X11_within ml_X11_348 dX11_comes_11 (by first | assumption | (show _ ≤ d; omega)) ⟨(Nat.le_of_ble_eq_true rfl), (Nat.le_of_ble_eq_true rfl)⟩ rfl rfl (Nat.le_of_ble_eq_true rfl) ?_
    rw [in_w hok]
    refine mt_iconst (pc := 14) (v := 1) dX11_comes_14 (by decide) ?_
    refine mt_iconst (pc := 15) (v := 1) dX11_comes_15 (by decide) ?_
    refine mt_cV (pc := 16) (n_mayY (d := 0) (q := 1) hx rfl (by decide)) cal_X11_may vir_X11_may ml_X11_190 dX11_comes_16 (by omega) (mos_o _ _ _) (by first | assumption | (show _ ≤ d; omega)) ⟨(Nat.le_of_ble_eq_true rfl), (Nat.le_of_ble_eq_true rfl)⟩ rfl rfl (Nat.le_of_ble_eq_true rfl) ?_
    refine mt_if_ne (pc := 19) (tgt := 24) dX11_comes_19 (by decide) (fun c19 => ?_) (fun c19 => ?_)
    · skip
      refine mt_aload_n (pc := 24) dX11_comes_24 rfl ?_
      refine mt_aV (pc := 25) (n_takeR (d := 1) (f := f) (Nat.le_refl 1) hx hR hn10) cal_X11_take vir_X11_take ml_X11_293 dX11_comes_25 (by omega) (mos_o _ _ _) (by first | assumption | (show _ ≤ d; omega)) ⟨(Nat.le_of_ble_eq_true rfl), (Nat.le_of_ble_eq_true rfl)⟩ rfl rfl (Nat.le_of_ble_eq_true rfl) ?_ ?_
      · rintro x9 n9 k9 h9
        obtain ⟨⟨⟩, -⟩ := h9
      · rintro v9 n9 k9 ⟨⟨⟩, rfl, S, rfl, hS⟩
        refine ⟨rfl, ?_⟩
        have hS' : RR (updR A 206 S 206) f := by rw [updR_eq]; exact hS
        have hQ' : MQs k cs (upd g 0 0) (updR A 206 S) := ⟨h18, h19, hM, hL⟩
        refine mt_iconst (pc := 28) (v := 0) dX11_comes_28 (by decide) ?_
        refine mt_istore_n (pc := 29) dX11_comes_29 (Nat.le_of_ble_eq_true rfl) rfl ?_
        refine mt_iconst (pc := 30) (v := 0) dX11_comes_30 (by decide) ?_
        refine mt_istore_n (pc := 31) dX11_comes_31 (Nat.le_of_ble_eq_true rfl) rfl ?_
        refine mt_forE (pc := 32) (α := MA) (H := fun c (w : MA) => mos h (upd g 0 0) w) (L := fun c (w : MA) => [some (.ref 188), some (.int x), some (.int (comF (owF k cs f) x c)), some (.int (nI c))]) (I := fun c (w : MA) => SC (updR A 206 S) w) (2 ^ nlo f) (fun c w hc fc nc => ?_) (fun w fc => ?_) (updR A 206 S) SC_rf
        · skip
          rw [com_s] at nc
          have hRw : RR (w 206) f := by rw [fc 206 (by decide) (by decide)]; exact hS'
          have hQw : MQs k cs (upd g 0 0) w := hQ'.sc (fun i hi => fc i (by omega) (by omega))
          refine mt_iload_n (pc := 32) dX11_comes_32 rfl ?_
          refine mt_aload_n (pc := 33) dX11_comes_33 rfl ?_
          refine mt_cV (pc := 34) (n_allLoans (d := 0) (k := k) (f := f) hx hRw hI) cal_X11_allLoans vir_X11_allLoans ml_X11_357 dX11_comes_34 (by omega) (mos_o _ _ _) (by first | assumption | (show _ ≤ d; omega)) ⟨(Nat.le_of_ble_eq_true rfl), (Nat.le_of_ble_eq_true rfl)⟩ rfl rfl (Nat.le_of_ble_eq_true rfl) ?_
          refine mt_icmp_gt (pc := 37) (tgt := 63) dX11_comes_37 (by decide) (fun c37 => ?_) (fun c37 => ?_)
          · exact absurd c37 (nI_nlt (by omega) (by omega))
          · skip
            refine mt_iload_n (pc := 40) dX11_comes_40 rfl ?_
            refine mt_aload_n (pc := 41) dX11_comes_41 rfl ?_
            refine mt_iload_n (pc := 42) dX11_comes_42 rfl ?_
            refine mt_aV (pc := 43) (n_owesAll (d := 5) (cs := cs) (k := k) (f := f) (Nat.le_refl 5) hx hQw hRw hI) cal_X11_owesAll vir_X11_owesAll ml_X11_360 dX11_comes_43 (by omega) (mos_o _ _ _) (by first | assumption | (show _ ≤ d; omega)) ⟨(Nat.le_of_ble_eq_true rfl), (Nat.le_of_ble_eq_true rfl)⟩ rfl rfl (Nat.le_of_ble_eq_true rfl) ?_ ?_
            · rintro x9 n9 k9 h9
              obtain ⟨⟨⟩, -⟩ := h9
            · rintro v9 n9 k9 ⟨⟨⟩, rfl, A1, rfl, hSC⟩
              refine ⟨rfl, ?_⟩
              rw [ob_oa hn10 (by omega)]
              refine mt_iload_n (pc := 46) dX11_comes_46 rfl ?_
              refine mt_icmp_ne (pc := 47) (tgt := 54) dX11_comes_47 (by decide) (fun c47 => ?_) (fun c47 => ?_)
              · skip
                rw [if_neg c47] at nc
                refine mt_iconst (pc := 54) (v := 0) dX11_comes_54 (by decide) ?_
                refine mt_iadd (pc := 55) dX11_comes_55 ?_
                rw [add_0]
                refine mt_istore_n (pc := 56) dX11_comes_56 (Nat.le_of_ble_eq_true rfl) rfl ?_
                refine mt_iinc (pc := 57) (c9 := 1) dX11_comes_57 rfl (by decide) (Nat.le_of_ble_eq_true rfl) rfl ?_
                refine mt_goto (pc := 60) (tgt := 32) dX11_comes_60 (by decide) ?_
                rw [show (nI c + 1 : Int32) = nI (c + 1) from nI_1 c]
                exact nc A1 (fc.trans hSC)
              · skip
                rw [if_pos c47] at nc
                refine mt_iconst (pc := 50) (v := 1) dX11_comes_50 (by decide) ?_
                refine mt_goto (pc := 51) (tgt := 55) dX11_comes_51 (by decide) ?_
                refine mt_iadd (pc := 55) dX11_comes_55 ?_
                refine mt_istore_n (pc := 56) dX11_comes_56 (Nat.le_of_ble_eq_true rfl) rfl ?_
                refine mt_iinc (pc := 57) (c9 := 1) dX11_comes_57 rfl (by decide) (Nat.le_of_ble_eq_true rfl) rfl ?_
                refine mt_goto (pc := 60) (tgt := 32) dX11_comes_60 (by decide) ?_
                rw [show (nI c + 1 : Int32) = nI (c + 1) from nI_1 c]
                exact nc A1 (fc.trans hSC)
        · skip
          have hRw : RR (w 206) f := by rw [fc 206 (by decide) (by decide)]; exact hS'
          refine mt_iload_n (pc := 32) dX11_comes_32 rfl ?_
          refine mt_aload_n (pc := 33) dX11_comes_33 rfl ?_
          refine mt_cV (pc := 34) (n_allLoans (d := 0) (k := k) (f := f) hx hRw hI) cal_X11_allLoans vir_X11_allLoans ml_X11_357 dX11_comes_34 (by omega) (mos_o _ _ _) (by first | assumption | (show _ ≤ d; omega)) ⟨(Nat.le_of_ble_eq_true rfl), (Nat.le_of_ble_eq_true rfl)⟩ rfl rfl (Nat.le_of_ble_eq_true rfl) ?_
          refine mt_icmp_gt (pc := 37) (tgt := 63) dX11_comes_37 (by decide) (fun c37 => ?_) (fun c37 => ?_)
          · skip
            refine mt_iload_n (pc := 63) dX11_comes_63 rfl ?_
            exact mt_iret rfl dX11_comes_64 (Nat.le_of_ble_eq_true rfl) (Nat.le_of_ble_eq_true rfl) (P_mqv (c0 := 1) (c1 := 1) (r := r) hr GQ_0 (SD_u.trans fc.sd).aq)
          · exact absurd (nI_lt (by omega) (by omega)) c37
    · exact absurd c19 (by decide)
  · rw [ifR_n hok]
    refine mm_start (lo := [some (.ref 188), some (.int x), none, none]) pn_X11 rfl rfl (Nat.le_of_ble_eq_true rfl) ?_
    refine mt_aload_n (pc := 0) dX11_comes_0 rfl ?_
    refine mt_iconst (pc := 1) (v := 0) dX11_comes_1 (by decide) ?_
    refine mt_mput (pc := 2) pf_X11_3 dX11_comes_2 hx rfl ?_
    refine mt_aload_n (pc := 5) dX11_comes_5 rfl ?_
    refine mt_iload_n (pc := 6) dX11_comes_6 rfl ?_
    refine mt_iconst (pc := 7) (v := 0) dX11_comes_7 (by decide) ?_
    refine mt_sipush (pc := 8) (v := 999) dX11_comes_8 (by decide) ?_
    refine mt_cS (pc := 11) (n_within) cal_X11_within sta_X11_within ml_X11_348 dX11_comes_11 (by first | assumption | (show _ ≤ d; omega)) ⟨(Nat.le_of_ble_eq_true rfl), (Nat.le_of_ble_eq_true rfl)⟩ rfl rfl (Nat.le_of_ble_eq_true rfl) ?_
    rw [in_nw hok]
    refine mt_iconst (pc := 14) (v := 1) dX11_comes_14 (by decide) ?_
    refine mt_iconst (pc := 15) (v := 1) dX11_comes_15 (by decide) ?_
    refine mt_cV (pc := 16) (n_mayN (d := 0) (q := 1) hx (by decide) rfl rfl (by decide)) cal_X11_may vir_X11_may ml_X11_190 dX11_comes_16 (by omega) (mos_o _ _ _) (by first | assumption | (show _ ≤ d; omega)) ⟨(Nat.le_of_ble_eq_true rfl), (Nat.le_of_ble_eq_true rfl)⟩ rfl rfl (Nat.le_of_ble_eq_true rfl) ?_
    refine mt_if_ne (pc := 19) (tgt := 24) dX11_comes_19 (by decide) (fun c19 => ?_) (fun c19 => ?_)
    · exact absurd rfl c19
    · skip
      refine mt_iconst (pc := 22) (v := 0) dX11_comes_22 (by decide) ?_
      exact mt_iret rfl dX11_comes_23 (Nat.le_of_ble_eq_true rfl) (Nat.le_of_ble_eq_true rfl) (P_mq1 (c0 := 1) (c1 := 1) (r := .inl 1) rfl)
end MQE
