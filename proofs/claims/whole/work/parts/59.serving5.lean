/-! Serving: leastMore, begin. -/
section SERV5
variable {G : mm_G} {l : Launch} {d nx : Nat} {h : Nat → mm_E} {n sl : Nat} {A L R : Nat → Nat} {V : VT} {bk : BS} {k : CS} {f : Nat → Int32}
theorem c_leastMore {kd : Int32} (hd : 3 ≤ d) (hx : 187 ≤ nx) (hB : BO h bk) (hn1 : n = bk.1) (hS : SV h n sl A L R) : mm_Con G l yX5_leastMore cX5_leastMore 10 (some .int) d 0 0 [.ref 181, .ref 23, .int kd] nx h (fun o n' m => n' = nx ∧ m = h ∧ ∃ x, o = .inl (some (.int (oI x))) ∧ IsLeast (candM n sl A L R bk kd) (fun s => sumM A s n) x) := by
  obtain ⟨h181, ⟨a, h182, ha⟩, ⟨lo, h183, hlo⟩, ⟨ro, h184, hro⟩, ⟨su, h185, hsu⟩, hn, hsl, hA, hL, hR⟩ := id hS
  have h6 := p2_6 hn
  have hp := Nat.two_pow_pos n
  have hb := hB.1
  refine mm_start (lo := [some (.ref 181), some (.ref 23), some (.int kd), none, none, none, none, none, none, none]) pn_X5 rfl rfl (Nat.le_of_ble_eq_true rfl) ?_
  refine mt_iconst (pc := 0) (v := 1) dX5_leastMore_0 (by decide) ?_
  refine mt_aload_n (pc := 1) dX5_leastMore_1 rfl ?_
  refine mt_get (pc := 2) gf_X5_36 dX5_leastMore_2 (by first | assumption | omega) (by repeat (first | exact hset_eq _ _ _ | assumption | rw [hset_ne (by first | assumption | decide | omega)])) rfl ?_
  refine mt_ishl (pc := 5) dX5_leastMore_5 ?_
  rw [shl1n hn]
  refine mt_iconst (pc := 6) (v := 1) dX5_leastMore_6 (by decide) ?_
  refine mt_isub (pc := 7) dX5_leastMore_7 ?_
  rw [show (1 : Int32) = nI 1 from rfl, pk_sub (by omega)]
  refine mt_istore_n (pc := 8) dX5_leastMore_8 (Nat.le_of_ble_eq_true rfl) rfl ?_
  refine mt_iconst (pc := 9) (v := 0) dX5_leastMore_9 (by decide) ?_
  refine mt_istore (pc := 10) dX5_leastMore_10 (Nat.le_of_ble_eq_true rfl) rfl ?_
  refine mt_iconst (pc := 12) (v := 0) dX5_leastMore_12 (by decide) ?_
  refine mt_istore (pc := 13) dX5_leastMore_13 (Nat.le_of_ble_eq_true rfl) rfl ?_
  refine mt_for (pc := 15) (H := fun i => h) (L := fun i => [some (.ref 181), some (.ref 23), some (.int kd), some (.int (nI (2 ^ n - 1))), some (.int (nI (wtM bk kd i))), some (.int (nI i)), none, none, none, none]) n (fun i hi ni => ?_) ?_
  · skip
    have e1 : wtM bk kd (i + 1) = if bk.2.2.1 i = kd then wtM bk kd i + 2 ^ i else wtM bk kd i := rfl
    rw [e1] at ni
    have hw := wtM_lt (bk := bk) (kd := kd) i
    refine mt_iload (pc := 15) dX5_leastMore_15 rfl ?_
    refine mt_aload_n (pc := 17) dX5_leastMore_17 rfl ?_
    refine mt_get (pc := 18) gf_X5_36 dX5_leastMore_18 (by first | assumption | omega) (by repeat (first | exact hset_eq _ _ _ | assumption | rw [hset_ne (by first | assumption | decide | omega)])) rfl ?_
    refine mt_icmp_ge (pc := 21) (tgt := 49) dX5_leastMore_21 (by decide) (fun c21 => ?_) (fun c21 => ?_)
    · exact absurd c21 (nI_ge hi (by omega))
    · skip
      refine mt_aload_n (pc := 24) dX5_leastMore_24 rfl ?_
      refine mt_iload (pc := 25) dX5_leastMore_25 rfl ?_
      refine mt_cV (pc := 27) (c_bkindOf (d := 1) (i := i) (Nat.le_refl 1) (by omega) (by omega) hB) cal_X0_kindOf vir_X0_kindOf ml_X5_62 dX5_leastMore_27 (by first | assumption | omega) (by repeat (first | exact hset_eq _ _ _ | assumption | rw [hset_ne (by first | assumption | decide | omega)])) (by first | assumption | (show _ ≤ d; omega)) ⟨(Nat.le_of_ble_eq_true rfl), (Nat.le_of_ble_eq_true rfl)⟩ rfl rfl (Nat.le_of_ble_eq_true rfl) ?_
      refine mt_iload_n (pc := 30) dX5_leastMore_30 rfl ?_
      refine mt_icmp_ne (pc := 31) (tgt := 43) dX5_leastMore_31 (by decide) (fun c31 => ?_) (fun c31 => ?_)
      · skip
        rw [if_neg c31] at ni
        refine mt_iinc (pc := 43) (c9 := 1) dX5_leastMore_43 rfl (by decide) (Nat.le_of_ble_eq_true rfl) rfl ?_
        refine mt_goto (pc := 46) (tgt := 15) dX5_leastMore_46 (by decide) ?_
        rw [show (nI i + 1 : Int32) = nI (i + 1) from nI_1 i]
        first
          | exact ni
          | exact mt_fg (by repeat (first | exact trivial | refine ⟨rfl, ?_⟩ | rfl)) ni
      · skip
        rw [if_pos c31] at ni
        refine mt_iload (pc := 34) dX5_leastMore_34 rfl ?_
        refine mt_iconst (pc := 36) (v := 1) dX5_leastMore_36 (by decide) ?_
        refine mt_iload (pc := 37) dX5_leastMore_37 rfl ?_
        refine mt_ishl (pc := 39) dX5_leastMore_39 ?_
        refine mt_ior (pc := 40) dX5_leastMore_40 ?_
        rw [or_bit hw (by omega)]
        refine mt_istore (pc := 41) dX5_leastMore_41 (Nat.le_of_ble_eq_true rfl) rfl ?_
        refine mt_iinc (pc := 43) (c9 := 1) dX5_leastMore_43 rfl (by decide) (Nat.le_of_ble_eq_true rfl) rfl ?_
        refine mt_goto (pc := 46) (tgt := 15) dX5_leastMore_46 (by decide) ?_
        rw [show (nI i + 1 : Int32) = nI (i + 1) from nI_1 i]
        first
          | exact ni
          | exact mt_fg (by repeat (first | exact trivial | refine ⟨rfl, ?_⟩ | rfl)) ni
  · skip
    refine mt_iload (pc := 15) dX5_leastMore_15 rfl ?_
    refine mt_aload_n (pc := 17) dX5_leastMore_17 rfl ?_
    refine mt_get (pc := 18) gf_X5_36 dX5_leastMore_18 (by first | assumption | omega) (by repeat (first | exact hset_eq _ _ _ | assumption | rw [hset_ne (by first | assumption | decide | omega)])) rfl ?_
    refine mt_icmp_ge (pc := 21) (tgt := 49) dX5_leastMore_21 (by decide) (fun c21 => ?_) (fun c21 => ?_)
    · skip
      refine mt_aload_n (pc := 49) dX5_leastMore_49 rfl ?_
      refine mt_iconst (pc := 50) (v := 0) dX5_leastMore_50 (by decide) ?_
      refine mt_aV (pc := 51) (c_reachedFrom (d := 2) (first := 0) (Nat.le_refl 2) hx (by decide) hS) cal_X5_reachedFrom vir_X5_reachedFrom ml_X5_86 dX5_leastMore_51 (by first | assumption | omega) (by repeat (first | exact hset_eq _ _ _ | assumption | rw [hset_ne (by first | assumption | decide | omega)])) (by first | assumption | (show _ ≤ d; omega)) ⟨(Nat.le_of_ble_eq_true rfl), (Nat.le_of_ble_eq_true rfl)⟩ rfl rfl (Nat.le_of_ble_eq_true rfl) ?_ ?_
      · rintro x9 n9 k9 h9
        simp at h9
      · rintro v9 n9 k9 ⟨rfl, rfl, ρ, hv, g1, g2⟩
        cases hv
        have hw := wtM_lt (bk := bk) (kd := kd) n
        refine ⟨rfl, ?_⟩
        refine mt_lstore (pc := 54) dX5_leastMore_54 (Nat.le_of_ble_eq_true rfl) rfl ?_
        refine mt_iconst (pc := 56) (v := (-1)) dX5_leastMore_56 (by decide) ?_
        refine mt_istore (pc := 57) dX5_leastMore_57 (Nat.le_of_ble_eq_true rfl) rfl ?_
        refine mt_iconst (pc := 59) (v := 0) dX5_leastMore_59 (by decide) ?_
        refine mt_istore (pc := 60) dX5_leastMore_60 (Nat.le_of_ble_eq_true rfl) rfl ?_
        refine mt_forget 9 ?_
        refine mt_forE (pc := 62) (α := Option Nat) (H := fun c (x : Option Nat) => _) (L := fun c (x : Option Nat) => [some (.ref 181), some (.ref 23), some (.int kd), some (.int (nI (2 ^ n - 1))), some (.int (nI (wtM bk kd n))), some (.long (lN ρ)), none, some (.int (oI x)), some (.int (nI c)), none]) (I := fun c (x : Option Nat) => IsLeast (fun s => s < c ∧ candM n sl A L R bk kd s) (fun s => sumM A s n) x) (2 ^ n) (fun c x hc fc nc => ?_) (fun x fc => ?_) none (fun s hs => absurd hs.1 (Nat.not_lt_zero s))
        · skip
          have hsum : sumM A c n ≤ n * 60 := sumM_le n hA
          have fin : ∀ x9, IsLeast (fun s => s < c + 1 ∧ candM n sl A L R bk kd s) (fun s => sumM A s n) x9 → ∀ z9 : Option Value, mm_T (G, l, yX5_leastMore, 10, some .int, d, 0, 0, fun o n' m => n' = n9 ∧ m = k9 ∧ ∃ x, o = .inl (some (.int (oI x))) ∧ IsLeast (candM n sl A L R bk kd) (fun s => sumM A s n) x, n9) RX5 cX5_leastMore n9 k9 0 0 129 [some (.ref 181), some (.ref 23), some (.int kd), some (.int (nI (2 ^ n - 1))), some (.int (nI (wtM bk kd n))), some (.long (lN ρ)), none, some (.int (oI x9)), some (.int (nI c)), z9] [] := by
            intro x9 hx9 z9
            refine mt_iinc (pc := 129) (c9 := 1) dX5_leastMore_129 rfl (by decide) (Nat.le_of_ble_eq_true rfl) rfl ?_
            refine mt_goto (pc := 132) (tgt := 62) dX5_leastMore_132 (by decide) ?_
            rw [show (nI c + 1 : Int32) = nI (c + 1) from nI_1 c]
            exact mt_fg (by repeat (first | exact trivial | refine ⟨rfl, ?_⟩ | rfl)) (nc x9 hx9)
          refine mt_iload (pc := 62) dX5_leastMore_62 rfl ?_
          refine mt_iload_n (pc := 64) dX5_leastMore_64 rfl ?_
          refine mt_icmp_gt (pc := 65) (tgt := 135) dX5_leastMore_65 (by decide) (fun c65 => ?_) (fun c65 => ?_)
          · exact absurd c65 (nI_nlt (a := 2 ^ n - 1) (b := c) (by omega) (by omega))
          · skip
            refine mt_aload_n (pc := 68) dX5_leastMore_68 rfl ?_
            refine mt_get (pc := 69) gf_X5_21 dX5_leastMore_69 (by first | assumption | omega) (by repeat (first | exact hset_eq _ _ _ | assumption | rw [hset_ne (by first | assumption | decide | omega)])) rfl ?_
            refine mt_iload (pc := 72) dX5_leastMore_72 rfl ?_
            refine mt_cN (pc := 74) (c_entry (d := 0) (i := nI c) (by omega) h185 (by decide)) cal_X10_entry sta_X10_entry mn_X5_73 dX5_leastMore_74 (by first | assumption | (show _ ≤ d; omega)) ⟨(Nat.le_of_ble_eq_true rfl), (Nat.le_of_ble_eq_true rfl)⟩ rfl rfl (Nat.le_of_ble_eq_true rfl) ?_
            rw [mm_at_nI (by omega) (by decide), hsu c hc]
            refine mt_istore (pc := 77) dX5_leastMore_77 (Nat.le_of_ble_eq_true rfl) rfl ?_
            refine mt_iload (pc := 79) dX5_leastMore_79 rfl ?_
            refine mt_iload (pc := 81) dX5_leastMore_81 rfl ?_
            refine mt_iconst (pc := 83) (v := (-1)) dX5_leastMore_83 (by decide) ?_
            refine mt_ixor (pc := 84) dX5_leastMore_84 ?_
            refine mt_iand (pc := 85) dX5_leastMore_85 ?_
            rw [ma2 c (by omega) _ (by omega)]
            refine mt_if_ne (pc := 86) (tgt := 129) dX5_leastMore_86 (by decide) (fun c86 => ?_) (fun c86 => ?_)
            · exact fin x (IsLeast_s fc (Or.inl fun z => c86 (by rw [(ma8 _ (by omega) c (by omega)).mpr z.2.1]; rfl))) _
            · skip
              have hq1 : c &&& wtM bk kd n = c := (ma8 _ (by omega) c (by omega)).mp ((nI_eq (b := 0) (by have : c &&& (63 - wtM bk kd n) ≤ c := Nat.and_le_left; omega) (by decide)).mp c86)
              refine mt_lload (pc := 89) dX5_leastMore_89 rfl ?_
              refine mt_iload_n (pc := 91) dX5_leastMore_91 rfl ?_
              refine mt_iload (pc := 92) dX5_leastMore_92 rfl ?_
              refine mt_iconst (pc := 94) (v := (-1)) dX5_leastMore_94 (by decide) ?_
              refine mt_ixor (pc := 95) dX5_leastMore_95 ?_
              refine mt_iand (pc := 96) dX5_leastMore_96 ?_
              rw [ma2 _ (by omega) c (by omega), ma7 n (by omega) c (by omega) hc]
              refine mt_lushr (pc := 97) dX5_leastMore_97 rfl ?_
              refine mt_lconst (pc := 98) (v := 1) dX5_leastMore_98 (by decide) ?_
              refine mt_land (pc := 99) dX5_leastMore_99 ?_
              refine mt_lconst (pc := 100) (v := 1) dX5_leastMore_100 (by decide) ?_
              refine mt_lcmp (pc := 101) dX5_leastMore_101 ?_
              refine mt_if_ne (pc := 102) (tgt := 129) dX5_leastMore_102 (by decide) (fun c102 => ?_) (fun c102 => ?_)
              · exact fin x (IsLeast_s fc (Or.inl fun z => c102 ((lcb g1 (by omega)).mpr ((g2 _ (by omega)).mpr z.2.2.1)))) _
              · skip
                have hq2 : rch n A L R 0 sl (2 ^ n - 1 - c) := (g2 _ (by omega)).mp ((lcb g1 (by omega)).mp c102)
                refine mt_iload (pc := 105) dX5_leastMore_105 rfl ?_
                refine mt_bipush (pc := 107) (v := 99) dX5_leastMore_107 (by decide) ?_
                refine mt_icmp_gt (pc := 109) (tgt := 129) dX5_leastMore_109 (by decide) (fun c109 => ?_) (fun c109 => ?_)
                · exact fin x (IsLeast_s fc (Or.inl fun z => nI_nlt (a := 99) z.2.2.2 (by omega) c109)) _
                · skip
                  have hq3 : sumM A c n ≤ 99 := Nat.le_of_not_lt fun z => c109 (nI_lt (a := 99) z (by omega))
                  refine mt_iload (pc := 112) dX5_leastMore_112 rfl ?_
                  refine mt_iconst (pc := 114) (v := (-1)) dX5_leastMore_114 (by decide) ?_
                  refine mt_icmp_eq (pc := 115) (tgt := 125) dX5_leastMore_115 (by decide) (fun c115 => ?_) (fun c115 => ?_)
                  · skip
                    rcases x with _ | x
                    rotate_left
                    · exact absurd c115 (nI_m1 (v := x) (hi := 99) (by obtain ⟨⟨s, hs1, hs2⟩, -⟩ := fc; have := hs1.2.2.2.2; rw [show (99 : Int32).toInt = 99 from rfl]; dsimp only at hs2; omega))
                    refine mt_iload (pc := 125) dX5_leastMore_125 rfl ?_
                    refine mt_istore (pc := 127) dX5_leastMore_127 (Nat.le_of_ble_eq_true rfl) rfl ?_
                    first
                      | exact fin (some (sumM A c n)) (IsLeast_n fc ⟨hc, hq1, hq2, hq3⟩ (Or.inl rfl)) _
                      | exact fin (some (sumM A c n)) (IsLeast_n fc ⟨hc, hq1, hq2, hq3⟩ (Or.inr ⟨x, rfl, Nat.lt_of_not_le fun z => c122 (nI_le z (by omega))⟩)) _
                  · skip
                    rcases x with _ | x
                    · exact absurd rfl c115
                    have hx99 : x ≤ 99 := by obtain ⟨⟨s, hs1, hs2⟩, -⟩ := fc; have := hs1.2.2.2.2; dsimp only at hs2; omega
                    refine mt_iload (pc := 118) dX5_leastMore_118 rfl ?_
                    refine mt_iload (pc := 120) dX5_leastMore_120 rfl ?_
                    refine mt_icmp_ge (pc := 122) (tgt := 129) dX5_leastMore_122 (by decide) (fun c122 => ?_) (fun c122 => ?_)
                    · exact fin (some x) (IsLeast_s fc (Or.inr ⟨x, rfl, Nat.le_of_not_lt fun z => nI_ge z (by omega) c122⟩)) _
                    · skip
                      refine mt_iload (pc := 125) dX5_leastMore_125 rfl ?_
                      refine mt_istore (pc := 127) dX5_leastMore_127 (Nat.le_of_ble_eq_true rfl) rfl ?_
                      first
                        | exact fin (some (sumM A c n)) (IsLeast_n fc ⟨hc, hq1, hq2, hq3⟩ (Or.inl rfl)) _
                        | exact fin (some (sumM A c n)) (IsLeast_n fc ⟨hc, hq1, hq2, hq3⟩ (Or.inr ⟨x, rfl, Nat.lt_of_not_le fun z => c122 (nI_le z (by omega))⟩)) _
        · skip
          refine mt_iload (pc := 62) dX5_leastMore_62 rfl ?_
          refine mt_iload_n (pc := 64) dX5_leastMore_64 rfl ?_
          refine mt_icmp_gt (pc := 65) (tgt := 135) dX5_leastMore_65 (by decide) (fun c65 => ?_) (fun c65 => ?_)
          · skip
            refine mt_iload (pc := 135) dX5_leastMore_135 rfl ?_
            exact mt_iret rfl dX5_leastMore_137 (Nat.le_of_ble_eq_true rfl) (Nat.le_of_ble_eq_true rfl) ⟨rfl, rfl, x, rfl, by
                have e9 : (fun s => s < 2 ^ n ∧ candM n sl A L R bk kd s) = candM n sl A L R bk kd := funext fun s => propext ⟨fun z => z.2, fun z => ⟨z.1, z⟩⟩
                rw [e9] at fc
                exact fc⟩
          · exact absurd (nI_lt (a := 2 ^ n - 1) (b := 2 ^ n) (by omega) (by omega)) c65
    · exact absurd (nI_le (Nat.le_refl _) (by omega)) c21
end SERV5
