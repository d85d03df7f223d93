/-! Serving: leastMore, begin. -/
section SERV5
variable {G : mm_G} {l : Launch} {d nx : Nat} {h : Nat → mm_E} {n sl : Nat} {A L R : Nat → Nat} {V : VT} {bk : BS} {k : CS} {f : Nat → Int32}
theorem c_leastMore {kd : Int32} (hd : 3 ≤ d) (hx : 187 ≤ nx) (hB : BO h bk) (hn1 : n = bk.1) (hS : SV h n sl A L R) : mm_Con G l yX5_leastMore cX5_leastMore 10 (some .int) d 0 0 [.ref 181, .ref 23, .int kd] nx h (fun o n' m => n' = nx ∧ m = h ∧ ∃ x, o = .inl (some (.int (oI x))) ∧ IsLeast (candM n sl A L R bk kd) (fun s => sumM A s n) x) := by
  obtain ⟨h181, ⟨a, h182, ha⟩, ⟨lo, h183, hlo⟩, ⟨ro, h184, hro⟩, ⟨su, h185, hsu⟩, hn, hsl, hA, hL, hR⟩ := id hS
  have h6 := p2_6 hn
  have hp := Nat.two_pow_pos n
  have hb := hB.1
  refine mm_start (lo := [some (.ref 181), some (.ref 23), some (.int kd), none, none, none, none, none, none, none]) pn_X5 rfl rfl (Nat.le_of_ble_eq_true rfl) ?_
  refine mt_iconst (pc := 0) (v := 1) dX5_leastMore_0 (by decide) ?_
  refine mt_aload_n (pc := 1) dX5_leastMore_1 rfl ?_
  refine mt_get (pc := 2) gf_X5_36 dX5_leastMore_2 (by first | assumption | omega) (by repeat (first | exact hset_eq _ _ _ | assumption | rw [hset_ne (by first | assumption | decide | omega)])) rfl ?_
  refine mt_ishl (pc := 5) dX5_leastMore_5 ?_
  rw [shl1n hn]
  refine mt_iconst (pc := 6) (v := 1) dX5_leastMore_6 (by decide) ?_
  refine mt_isub (pc := 7) dX5_leastMore_7 ?_
  rw [show (1 : Int32) = nI 1 from rfl, pk_sub (by omega)]
  refine mt_istore_n (pc := 8) dX5_leastMore_8 (Nat.le_of_ble_eq_true rfl) rfl ?_
  refine mt_iconst (pc := 9) (v := 0) dX5_leastMore_9 (by decide) ?_
  refine mt_istore (pc := 10) dX5_leastMore_10 (Nat.le_of_ble_eq_true rfl) rfl ?_
  refine mt_iconst (pc := 12) (v := 0) dX5_leastMore_12 (by decide) ?_
  refine mt_istore (pc := 13) dX5_leastMore_13 (Nat.le_of_ble_eq_true rfl) rfl ?_
  refine mt_for (pc := 15) (H := fun i => h) (L := fun i => [some (.ref 181), some (.ref 23), some (.int kd), some (.int (nI (2 ^ n - 1))), some (.int (nI (wtM bk kd i))), some (.int (nI i)), none, none, none, none]) n (fun i hi ni => ?_) ?_
  · skip
    have e1 : wtM bk kd (i + 1) = if bk.2.2.1 i = kd then wtM bk kd i + 2 ^ i else wtM bk kd i := rfl
    rw [e1] at ni
    have hw := wtM_lt (bk := bk) (kd := kd) i
    refine mt_iload (pc := 15) dX5_leastMore_15 rfl ?_
    refine mt_aload_n (pc := 17) dX5_leastMore_17 rfl ?_
    refine mt_get (pc := 18) gf_X5_36 dX5_leastMore_18 (by first | assumption | omega) (by repeat (first | exact hset_eq _ _ _ | assumption | rw [hset_ne (by first | assumption | decide | omega)])) rfl ?_
    refine mt_icmp_ge (pc := 21) (tgt := 49) dX5_leastMore_21 (by decide) (fun c21 => ?_) (fun c21 => ?_)
    · exact absurd c21 (nI_ge hi (by omega))
    · skip
      refine mt_aload_n (pc := 24) dX5_leastMore_24 rfl ?_
      refine mt_iload (pc := 25) dX5_leastMore_25 rfl ?_
      refine mt_cV (pc := 27) (c_bkindOf (d := 1) (i := i) (Nat.le_refl 1) (by omega) (by omega) hB) cal_X0_kindOf vir_X0_kindOf ml_X5_62 dX5_leastMore_27 (by first | assumption | omega) (by repeat (first | exact hset_eq _ _ _ | assumption | rw [hset_ne (by first | assumption | decide | omega)])) (by first | assumption | (show _ ≤ d; omega)) ⟨(Nat.le_of_ble_eq_true rfl), (Nat.le_of_ble_eq_true rfl)⟩ rfl rfl (Nat.le_of_ble_eq_true rfl) ?_
      refine mt_iload_n (pc := 30) dX5_leastMore_30 rfl ?_
      refine mt_icmp_ne (pc := 31) (tgt := 43) dX5_leastMore_31 (by decide) (fun c31 => ?_) (fun c31 => ?_)
      · skip
        rw [if_neg c31] at ni
        refine mt_iinc (pc := 43) (c9 := 1) dX5_leastMore_43 rfl (by decide) (Nat.le_of_ble_eq_true rfl) rfl ?_
        refine mt_goto (pc := 46) (tgt := 15) dX5_leastMore_46 (by decide) ?_
        rw [show (nI i + 1 : Int32) = nI (i + 1) from nI_1 i]
        first
          | exact ni
          | exact mt_fg (by repeat (first | exact trivial | refine ⟨rfl, ?_⟩ | rfl)) ni
      · skip
        rw [if_pos c31] at ni
        refine mt_iload (pc := 34) dX5_leastMore_34 rfl ?_
        refine mt_iconst (pc := 36) (v := 1) dX5_leastMore_36 (by decide) ?_
        refine mt_iload (pc := 37) dX5_leastMore_37 rfl ?_
        refine mt_ishl (pc := 39) dX5_leastMore_39 ?_
        refine mt_ior (pc := 40) dX5_leastMore_40 ?_
        rw [or_bit hw (by omega)]
        refine mt_istore (pc := 41) dX5_leastMore_41 (Nat.le_of_ble_eq_true rfl) rfl ?_
        refine mt_iinc (pc := 43) (c9 := 1) dX5_leastMore_43 rfl (by decide) (Nat.le_of_ble_eq_true rfl) rfl ?_
        refine mt_goto (pc := 46) (tgt := 15) dX5_leastMore_46 (by decide) ?_
        rw [show (nI i + 1 : Int32) = nI (i + 1) from nI_1 i]
        first
          | exact ni
          | exact mt_fg (by repeat (first | exact trivial | refine ⟨rfl, ?_⟩ | rfl)) ni
  · skip
    refine mt_iload (pc := 15) dX5_leastMore_15 rfl ?_
    refine mt_aload_n (pc := 17) dX5_leastMore_17 rfl ?_
    refine mt_get (pc := 18) gf_X5_36 dX5_leastMore_18 (by first | assumption | omega) (by repeat (first | exact hset_eq _ _ _ | assumption | rw [hset_ne (by first | assumption | decide | omega)])) rfl ?_
    refine mt_icmp_ge (pc := 21) (tgt := 49) dX5_leastMore_21 (by decide) (fun c21 => ?_) (fun c21 => ?_)
    · skip
      refine mt_aload_n (pc := 49) dX5_leastMore_49 rfl ?_
      refine mt_iconst (pc := 50) (v := 0) dX5_leastMore_50 (by decide) ?_
      refine mt_aV (pc := 51) (c_reachedFrom (d := 2) (first := 0) (Nat.le_refl 2) hx (by decide) hS) cal_X5_reachedFrom vir_X5_reachedFrom ml_X5_86 dX5_leastMore_51 (by first | assumption | omega) (by repeat (first | exact hset_eq _ _ _ | assumption | rw [hset_ne (by first | assumption | decide | omega)])) (by first | assumption | (show _ ≤ d; omega)) ⟨(Nat.le_of_ble_eq_true rfl), (Nat.le_of_ble_eq_true rfl)⟩ rfl rfl (Nat.le_of_ble_eq_true rfl) ?_ ?_
      · rintro x9 n9 k9 h9
        simp at h9
      · rintro v9 n9 k9 ⟨rfl, rfl, ρ, hv, g1, g2⟩
        cases hv
        have hw := wtM_lt (bk := bk) (kd := kd) n
        refine ⟨rfl, ?_⟩
        refine mt_lstore (pc := 54) dX5_leastMore_54 (Nat.le_of_ble_eq_true rfl) rfl ?_
        refine mt_iconst (pc := 56) (v := (-1)) dX5_leastMore_56 (by decide) ?_
        refine mt_istore (pc := 57) dX5_leastMore_57 (Nat.le_of_ble_eq_true rfl) rfl ?_
        refine mt_iconst (pc := 59) (v := 0) dX5_leastMore_59 (by decide) ?_
        refine mt_istore (pc := 60) dX5_leastMore_60 (Nat.le_of_ble_eq_true rfl) rfl ?_
        refine mt_forget 9 ?_
        refine mt_forE (pc := 62) (α := Option Nat) (H := fun c (x : Option Nat) => _) (L := fun c (x : Option Nat) => [some (.ref 181), some (.ref 23), some (.int kd), some (.int (nI (2 ^ n - 1))), some (.int (nI (wtM bk kd n))), some (.long (lN ρ)), none, some (.int (oI x)), some (.int (nI c)), none]) (I := fun c (x : Option Nat) => IsLeast (fun s => s < c ∧ candM n sl A L R bk kd s) (fun s => sumM A s n) x) (2 ^ n) (fun c x hc fc nc => ?_) (fun x fc => ?_) none (fun s hs => absurd hs.1 (Nat.not_lt_zero s))
        · skip
          have hsum : sumM A c n ≤ n * 60 := sumM_le n hA
          have fin : ∀ x9, IsLeast (fun s => s < c + 1 ∧ candM n sl A L R bk kd s) (fun s => sumM A s n) x9 → ∀ z9 : Option Value, mm_T (G, l, yX5_leastMore, 10, some .int, d, 0, 0, fun o n' m => n' = n9 ∧ m = k9 ∧ ∃ x, o = .inl (some (.int (oI x))) ∧ IsLeast (candM n sl A L R bk kd) (fun s => sumM A s n) x, n9) RX5 cX5_leastMore n9 k9 0 0 129 [some (.ref 181), some (.ref 23), some (.int kd), some (.int (nI (2 ^ n - 1))), some (.int (nI (wtM bk kd n))), some (.long (lN ρ)), none, some (.int (oI x9)), some (.int (nI c)), z9] [] := by
            intro x9 hx9 z9
            refine mt_iinc (pc := 129) (c9 := 1) dX5_leastMore_129 rfl (by decide) (Nat.le_of_ble_eq_true rfl) rfl ?_
            refine mt_goto (pc := 132) (tgt := 62) dX5_leastMore_132 (by decide) ?_
            rw [show (nI c + 1 : Int32) = nI (c + 1) from nI_1 c]
            exact mt_fg (by repeat (first | exact trivial | refine ⟨rfl, ?_⟩ | rfl)) (nc x9 hx9)
          refine mt_iload (pc := 62) dX5_leastMore_62 rfl ?_
          refine mt_iload_n (pc := 64) dX5_leastMore_64 rfl ?_
          refine mt_icmp_gt (pc := 65) (tgt := 135) dX5_leastMore_65 (by decide) (fun c65 => ?_) (fun c65 => ?_)
          · exact absurd c65 (nI_nlt (a := 2 ^ n - 1) (b := c) (by omega) (by omega))
          · skip
            refine mt_aload_n (pc := 68) dX5_leastMore_68 rfl ?_
            refine mt_get (pc := 69) gf_X5_21 dX5_leastMore_69 (by first | assumption | omega) (by repeat (first | exact hset_eq _ _ _ | assumption | rw [hset_ne (by first | assumption | decide | omega)])) rfl ?_
            refine mt_iload (pc := 72) dX5_leastMore_72 rfl ?_
            refine mt_cN (pc := 74) (c_entry (d := 0) (i := nI c) (by omega) h185 (by decide)) cal_X10_entry sta_X10_entry mn_X5_73 dX5_leastMore_74 (by first | assumption | (show _ ≤ d; omega)) ⟨(Nat.le_of_ble_eq_true rfl), (Nat.le_of_ble_eq_true rfl)⟩ rfl rfl (Nat.le_of_ble_eq_true rfl) ?_
            rw [mm_at_nI (by omega) (by decide), hsu c hc]
            refine mt_istore (pc := 77) dX5_leastMore_77 (Nat.le_of_ble_eq_true rfl) rfl ?_
            refine mt_iload (pc := 79) dX5_leastMore_79 rfl ?_
            refine mt_iload (pc := 81) dX5_leastMore_81 rfl ?_
            refine mt_iconst (pc := 83) (v := (-1)) dX5_leastMore_83 (by decide) ?_
            refine mt_ixor (pc := 84) dX5_leastMore_84 ?_
            refine mt_iand (pc := 85) dX5_leastMore_85 ?_
            rw [ma2 c (by omega) _ (by omega)]
            refine mt_if_ne (pc := 86) (tgt := 129) dX5_leastMore_86 (by decide) (fun c86 => ?_) (fun c86 => ?_)
            · exact fin x (IsLeast_s fc (Or.inl fun z => c86 (by rw [(ma8 _ (by omega) c (by omega)).mpr z.2.1]; rfl))) _
            · skip
              have hq1 : c &&& wtM bk kd n = c := (ma8 _ (by omega) c (by omega)).mp ((nI_eq (b := 0) (by have : c &&& (63 - wtM bk kd n) ≤ c := Nat.and_le_left; omega) (by decide)).mp c86)
              refine mt_lload (pc := 89) dX5_leastMore_89 rfl ?_
              refine mt_iload_n (pc := 91) dX5_leastMore_91 rfl ?_
              refine mt_iload (pc := 92) dX5_leastMore_92 rfl ?_
              refine mt_iconst (pc := 94) (v := (-1)) dX5_leastMore_94 (by decide) ?_
              refine mt_ixor (pc := 95) dX5_leastMore_95 ?_
              refine mt_iand (pc := 96) dX5_leastMore_96 ?_
              rw [ma2 _ (by omega) c (by omega), ma7 n (by omega) c (by omega) hc]
              refine mt_lushr (pc := 97) dX5_leastMore_97 rfl ?_
              refine mt_lconst (pc := 98) (v := 1) dX5_leastMore_98 (by decide) ?_
              refine mt_land (pc := 99) dX5_leastMore_99 ?_
              refine mt_lconst (pc := 100) (v := 1) dX5_leastMore_100 (by decide) ?_
              refine mt_lcmp (pc := 101) dX5_leastMore_101 ?_
              refine mt_if_ne (pc := 102) (tgt := 129) dX5_leastMore_102 (by decide) (fun c102 => ?_) (fun c102 => ?_)
              · exact fin x (IsLeast_s fc (Or.inl fun z => c102 ((lcb g1 (by omega)).mpr ((g2 _ (by omega)).mpr z.2.2.1)))) _
              · skip
                have hq2 : rch n A L R 0 sl (2 ^ n - 1 - c) := (g2 _ (by omega)).mp ((lcb g1 (by omega)).mp c102)
                refine mt_iload (pc := 105) dX5_leastMore_105 rfl ?_
                refine mt_bipush (pc := 107) (v := 99) dX5_leastMore_107 (by decide) ?_
                refine mt_icmp_gt (pc := 109) (tgt := 129) dX5_leastMore_109 (by decide) (fun c109 => ?_) (fun c109 => ?_)
                · exact fin x (IsLeast_s fc (Or.inl fun z => nI_nlt (a := 99) z.2.2.2 (by omega) c109)) _
                · skip
                  have hq3 : sumM A c n ≤ 99 := Nat.le_of_not_lt fun z => c109 (nI_lt (a := 99) z (by omega))
                  refine mt_iload (pc := 112) dX5_leastMore_112 rfl ?_
                  refine mt_iconst (pc := 114) (v := (-1)) dX5_leastMore_114 (by decide) ?_
                  refine mt_icmp_eq (pc := 115) (tgt := 125) dX5_leastMore_115 (by decide) (fun c115 => ?_) (fun c115 => ?_)
                  · skip
                    rcases x with _ | x
                    rotate_left
                    · exact absurd c115 (nI_m1 (v := x) (hi := 99) (by obtain ⟨⟨s, hs1, hs2⟩, -⟩ := fc; have := hs1.2.2.2.2; rw [show (99 : Int32).toInt = 99 from rfl]; dsimp only at hs2; omega))
                    refine mt_iload (pc := 125) dX5_leastMore_125 rfl ?_
                    refine mt_istore (pc := 127) dX5_leastMore_127 (Nat.le_of_ble_eq_true rfl) rfl ?_
                    first
                      | exact fin (some (sumM A c n)) (IsLeast_n fc ⟨hc, hq1, hq2, hq3⟩ (Or.inl rfl)) _
                      | exact fin (some (sumM A c n)) (IsLeast_n fc ⟨hc, hq1, hq2, hq3⟩ (Or.inr ⟨x, rfl, Nat.lt_of_not_le fun z => c122 (nI_le z (by omega))⟩)) _
                  · skip
                    rcases x with _ | x
                    · exact absurd rfl c115
                    have hx99 : x ≤ 99 := by obtain ⟨⟨s, hs1, hs2⟩, -⟩ := fc; have := hs1.2.2.2.2; dsimp only at hs2; omega
                    refine mt_iload (pc := 118) dX5_leastMore_118 rfl ?_
                    refine mt_iload (pc := 120) dX5_leastMore_120 rfl ?_
                    refine mt_icmp_ge (pc := 122) (tgt := 129) dX5_leastMore_122 (by decide) (fun c122 => ?_) (fun c122 => ?_)
                    · exact fin (some x) (IsLeast_s fc (Or.inr ⟨x, rfl, Nat.le_of_not_lt fun z => nI_ge z (by omega) c122⟩)) _
                    · skip
                      refine mt_iload (pc := 125) dX5_leastMore_125 rfl ?_
                      refine mt_istore (pc := 127) dX5_leastMore_127 (Nat.le_of_ble_eq_true rfl) rfl ?_
                      first
                        | exact fin (some (sumM A c n)) (IsLeast_n fc ⟨hc, hq1, hq2, hq3⟩ (Or.inl rfl)) _
                        | exact fin (some (sumM A c n)) (IsLeast_n fc ⟨hc, hq1, hq2, hq3⟩ (Or.inr ⟨x, rfl, Nat.lt_of_not_le fun z => c122 (nI_le z (by omega))⟩)) _
        · skip
          refine mt_iload (pc := 62) dX5_leastMore_62 rfl ?_
          refine mt_iload_n (pc := 64) dX5_leastMore_64 rfl ?_
          refine mt_icmp_gt (pc := 65) (tgt := 135) dX5_leastMore_65 (by decide) (fun c65 => ?_) (fun c65 => ?_)
          · skip
            refine mt_iload (pc := 135) dX5_leastMore_135 rfl ?_
            exact mt_iret rfl dX5_leastMore_137 (Nat.le_of_ble_eq_true rfl) (Nat.le_of_ble_eq_true rfl) ⟨rfl, rfl, x, rfl, by
                have e9 : (fun s => s < 2 ^ n ∧ candM n sl A L R bk kd s) = candM n sl A L R bk kd := funext fun s => propext ⟨fun z => z.2, fun z => ⟨z.1, z⟩⟩
                rw [e9] at fc
                exact fc⟩
          · exact absurd (nI_lt (a := 2 ^ n - 1) (b := 2 ^ n) (by omega) (by omega)) c65
    · exact absurd (nI_le (Nat.le_refl _) (by omega)) c21
end SERV5
/-- only what Serving keeps has changed -/
def FS (h m : Nat → mm_E) : Prop := ∀ j, j < 181 ∨ 185 < j → m j = h j
theorem CO_fs {h m : Nat → mm_E} {k : CS} (hF : FS h m) (hC : CO h k) : CO m k := by
  obtain ⟨c1, c2, c3, c4, c5, c6, c7⟩ := hC
  exact ⟨(hF 3 (by omega)).trans c1, (hF 4 (by omega)).trans c2, (hF 5 (by omega)).trans c3, (hF 6 (by omega)).trans c4, (hF 7 (by omega)).trans c5, (hF 8 (by omega)).trans c6, c7⟩
theorem BO_fs {h m : Nat → mm_E} {k : BS} (hF : FS h m) (hC : BO h k) : BO m k := by
  obtain ⟨c1, c2, c3, c4, c5⟩ := hC
  exact ⟨(hF 23 (by omega)).trans c1, (hF 24 (by omega)).trans c2, (hF 25 (by omega)).trans c3, (hF 26 (by omega)).trans c4, c5⟩
/-- the shapes of what Serving keeps -/
def SX (h : Nat → mm_E) : Prop := (∃ x y, h 181 = svE x y) ∧ (∃ a, h 182 = iaE 6 a) ∧ (∃ a, h 183 = iaE 8 a) ∧ (∃ a, h 184 = iaE 8 a) ∧ ∃ a, h 185 = iaE 64 a
section SERV6
variable {G : mm_G} {l : Launch} {d nx : Nat} {h : Nat → mm_E} {bk : BS} {k : CS} {f : Nat → Int32} {s r : Nat}
theorem c_svbegin (hd : 3 ≤ d) (hx : 187 ≤ nx) (hX : SX h) (hB : BO h bk) (hK : BKW k bk) (hC : CO h k) (h33 : h 33 = ruE) (hs : s < 181) (hr : r < 181) (hS : h s = stE r) (hR : h r = rwE f) (hU : UW f) : mm_Con G l yX5_begin cX5_begin 6 none d 0 0 [.ref 181, .ref 23, .ref 33, .ref s] nx h (fun o n' m => o = .inl none ∧ n' = nx ∧ FS h m ∧ SV m bk.1 k.1 (amN bk) (fun p => lnM k f bk p bk.1) (rmN f)) := by
  obtain ⟨⟨x, y, h181⟩, ⟨a1, h182⟩, ⟨a2, h183⟩, ⟨a3, h184⟩, a4, h185⟩ := hX
  have hn := hK.1
  have hk1 : k.1 ≤ 8 := hC.2.2.2.2.2.2.1
  have hk2 : k.2.1 ≤ 6 := hC.2.2.2.2.2.2.2
  have b1 := hB.1
  have c1 := hC.1
  have F1 : FS h (hset h 181 (svE (nI bk.1) (nI k.1))) := fun j hj => hset_ne (by omega)
  refine mm_start (lo := [some (.ref 181), some (.ref 23), some (.ref 33), some (.ref s), none, none]) pn_X5 rfl rfl (Nat.le_of_ble_eq_true rfl) ?_
  refine mt_aload_n (pc := 0) dX5_begin_0 rfl ?_
  refine mt_aload_n (pc := 1) dX5_begin_1 rfl ?_
  refine mt_get (pc := 2) gf_X5_24 dX5_begin_2 (by first | assumption | omega) (by repeat (first | exact hset_eq _ _ _ | assumption | rw [hset_ne (by first | assumption | decide | omega)])) rfl ?_
  refine mt_bipush (pc := 5) (v := 6) dX5_begin_5 (by decide) ?_
  refine mt_mmin (pc := 7) ml_X5_30 dX5_begin_7 (by first | assumption | (show _ ≤ d; omega)) ⟨(Nat.le_of_ble_eq_true rfl), (Nat.le_of_ble_eq_true rfl)⟩ (Nat.le_of_ble_eq_true rfl) ?_
  rw [show (if (6 : Int32) < nI bk.1 then (6 : Int32) else nI bk.1) = nI bk.1 from if_neg (nI_nlt (a := 6) (b := bk.1) hn (by decide))]
  first
    | refine mt_puti2 (pc := 10) pf_X5_36 dX5_begin_10 (by first | assumption | omega) (Nat.le_of_ble_eq_true rfl) ?_
    | refine mt_puti (pc := 10) pf_X5_36 dX5_begin_10 (by first | assumption | omega) (by repeat (first | exact hset_eq _ _ _ | assumption | rw [hset_ne (by first | assumption | decide | omega)])) (Nat.le_of_ble_eq_true rfl) ?_
  refine mt_aload_n (pc := 13) dX5_begin_13 rfl ?_
  refine mt_aload_n (pc := 14) dX5_begin_14 rfl ?_
  refine mt_get (pc := 15) gf_X5_37 dX5_begin_15 (by first | assumption | omega) ((hset_ne (by decide)).trans (by assumption)) rfl ?_
  refine mt_get (pc := 18) gf_X5_43 dX5_begin_18 (by first | assumption | omega) ((hset_ne (by decide)).trans (by assumption)) rfl ?_
  refine mt_bipush (pc := 21) (v := 8) dX5_begin_21 (by decide) ?_
  refine mt_mmin (pc := 23) ml_X5_30 dX5_begin_23 (by first | assumption | (show _ ≤ d; omega)) ⟨(Nat.le_of_ble_eq_true rfl), (Nat.le_of_ble_eq_true rfl)⟩ (Nat.le_of_ble_eq_true rfl) ?_
  rw [show (if (8 : Int32) < nI k.1 then (8 : Int32) else nI k.1) = nI k.1 from if_neg (nI_nlt (a := 8) (b := k.1) hk1 (by decide))]
  first
    | refine mt_puti2 (pc := 26) pf_X5_48 dX5_begin_26 (by first | assumption | omega) (Nat.le_of_ble_eq_true rfl) ?_
    | refine mt_puti (pc := 26) pf_X5_48 dX5_begin_26 (by first | assumption | omega) (by repeat (first | exact hset_eq _ _ _ | assumption | rw [hset_ne (by first | assumption | decide | omega)])) (Nat.le_of_ble_eq_true rfl) ?_
  show mm_T _ _ _ _ (hset h 181 (svE (nI bk.1) (nI k.1))) _ _ _ _ _
  have m181 : hset h 181 (svE (nI bk.1) (nI k.1)) 181 = svE (nI bk.1) (nI k.1) := hset_eq _ _ _
  have m182 := (hset_ne (h := h) (i := 181) (e := svE (nI bk.1) (nI k.1)) (show 182 ≠ 181 by decide)).trans h182
  have m183 := (hset_ne (h := h) (i := 181) (e := svE (nI bk.1) (nI k.1)) (show 183 ≠ 181 by decide)).trans h183
  have m184 := (hset_ne (h := h) (i := 181) (e := svE (nI bk.1) (nI k.1)) (show 184 ≠ 181 by decide)).trans h184
  have m185 := (hset_ne (h := h) (i := 181) (e := svE (nI bk.1) (nI k.1)) (show 185 ≠ 181 by decide)).trans h185
  generalize hset h 181 (svE (nI bk.1) (nI k.1)) = m1 at F1 m181 m182 m183 m184 m185
  refine mt_iconst (pc := 29) (v := 0) dX5_begin_29 (by decide) ?_
  refine mt_istore (pc := 30) dX5_begin_30 (Nat.le_of_ble_eq_true rfl) rfl ?_
  refine mt_heq (h' := hset m1 182 (iaE 6 a1)) (hset_self m182).symm ?_
  refine mt_forE (pc := 32) (α := Nat → Int32) (H := fun c (a : Nat → Int32) => hset m1 182 (iaE 6 a)) (L := fun c (a : Nat → Int32) => [some (.ref 181), some (.ref 23), some (.ref 33), some (.ref s), some (.int (nI c)), none]) (I := fun c (a : Nat → Int32) => ∀ i, i < c → a i = nI (amN bk i)) (bk.1) (fun c a hc fc nc => ?_) (fun a fc => ?_) a1 (fun i hi => absurd hi (Nat.not_lt_zero i))
  · skip
    refine mt_iload (pc := 32) dX5_begin_32 rfl ?_
    refine mt_aload_n (pc := 34) dX5_begin_34 rfl ?_
    refine mt_get (pc := 35) gf_X5_36 dX5_begin_35 (by first | assumption | omega) ((hset_ne (by decide)).trans m181) rfl ?_
    refine mt_icmp_ge (pc := 38) (tgt := 62) dX5_begin_38 (by decide) (fun c38 => ?_) (fun c38 => ?_)
    · exact absurd c38 (nI_ge hc (by omega))
    · skip
      refine mt_aload_n (pc := 41) dX5_begin_41 rfl ?_
      refine mt_get (pc := 42) gf_X5_9 dX5_begin_42 (by first | assumption | omega) ((hset_ne (by decide)).trans m181) rfl ?_
      refine mt_iload (pc := 45) dX5_begin_45 rfl ?_
      refine mt_aload_n (pc := 47) dX5_begin_47 rfl ?_
      refine mt_iload (pc := 48) dX5_begin_48 rfl ?_
      refine mt_cV (pc := 50) (c_amountOf (d := 1) (i := c) (Nat.le_refl 1) (by omega) (by omega) (BO_fs (fun j hj => (hset_ne (by omega)).trans (F1 j hj)) hB)) cal_X0_amountOf vir_X0_amountOf ml_X5_49 dX5_begin_50 (by first | assumption | omega) ((hset_ne (by decide)).trans ((F1 23 (by omega)).trans b1)) (by first | assumption | (show _ ≤ d; omega)) ⟨(Nat.le_of_ble_eq_true rfl), (Nat.le_of_ble_eq_true rfl)⟩ rfl rfl (Nat.le_of_ble_eq_true rfl) ?_
      refine mt_cN (pc := 53) (c_setEntry (d := 0) (i := nI c) (by omega) (hset_eq _ _ _) (by decide)) cal_X10_setEntry sta_X10_setEntry mn_X5_53 dX5_begin_53 (by first | assumption | (show _ ≤ d; omega)) ⟨(Nat.le_of_ble_eq_true rfl), (Nat.le_of_ble_eq_true rfl)⟩ rfl rfl (Nat.le_of_ble_eq_true rfl) ?_
      rw [mm_wr_nI (by omega) (by decide), hset_hset]
      refine mt_iinc (pc := 56) (c9 := 1) dX5_begin_56 rfl (by decide) (Nat.le_of_ble_eq_true rfl) rfl ?_
      refine mt_goto (pc := 59) (tgt := 32) dX5_begin_59 (by decide) ?_
      rw [show (nI c + 1 : Int32) = nI (c + 1) from nI_1 c]
      refine nc _ (fun i hi => ?_)
      by_cases hq : i = c
      · subst hq; rw [upd_eq]; exact (hK.2 i hc).2.1
      · rw [upd_ne hq]; exact fc i (by omega)
  · skip
    refine mt_iload (pc := 32) dX5_begin_32 rfl ?_
    refine mt_aload_n (pc := 34) dX5_begin_34 rfl ?_
    refine mt_get (pc := 35) gf_X5_36 dX5_begin_35 (by first | assumption | omega) ((hset_ne (by decide)).trans m181) rfl ?_
    refine mt_icmp_ge (pc := 38) (tgt := 62) dX5_begin_38 (by decide) (fun c38 => ?_) (fun c38 => ?_)
    · skip
      have F2 : FS h (hset m1 182 (iaE 6 a)) := fun j hj => (hset_ne (by omega)).trans (F1 j hj)
      have n181 := (hset_ne (h := m1) (i := 182) (e := iaE 6 a) (show 181 ≠ 182 by decide)).trans m181
      have n182 : hset m1 182 (iaE 6 a) 182 = iaE 6 a := hset_eq _ _ _
      have n183 := (hset_ne (h := m1) (i := 182) (e := iaE 6 a) (show 183 ≠ 182 by decide)).trans m183
      have n184 := (hset_ne (h := m1) (i := 182) (e := iaE 6 a) (show 184 ≠ 182 by decide)).trans m184
      have n185 := (hset_ne (h := m1) (i := 182) (e := iaE 6 a) (show 185 ≠ 182 by decide)).trans m185
      generalize hset m1 182 (iaE 6 a) = m2 at F2 n181 n182 n183 n184 n185
      refine mt_iconst (pc := 62) (v := 0) dX5_begin_62 (by decide) ?_
      refine mt_istore (pc := 63) dX5_begin_63 (Nat.le_of_ble_eq_true rfl) rfl ?_
      refine mt_forE (pc := 65) (α := Nat → mm_E) (H := fun q (m : Nat → mm_E) => m) (L := fun q (m : Nat → mm_E) => [some (.ref 181), some (.ref 23), some (.ref 33), some (.ref s), some (.int (nI q)), none]) (I := fun q (m : Nat → mm_E) => FS h m ∧ m 181 = svE (nI bk.1) (nI k.1) ∧ m 182 = iaE 6 a ∧ (∃ b, m 183 = iaE 8 b ∧ ∀ p, p < q → b p = nI (lnM k f bk p bk.1)) ∧ (∃ b, m 184 = iaE 8 b ∧ ∀ p, p < q → b p = nI (rmN f p)) ∧ ∃ b, m 185 = iaE 64 b) (k.1) (fun q m hq fq nq => ?_) (fun m fq => ?_) m2 (⟨F2, n181, n182, ⟨_, n183, fun p hp => absurd hp (Nat.not_lt_zero p)⟩, ⟨_, n184, fun p hp => absurd hp (Nat.not_lt_zero p)⟩, _, n185⟩)
      · skip
        obtain ⟨g1, g2, g3, ⟨b3, g4, g5⟩, ⟨b4, g6, g7⟩, b5, g8⟩ := fq
        refine mt_iload (pc := 65) dX5_begin_65 rfl ?_
        refine mt_aload_n (pc := 67) dX5_begin_67 rfl ?_
        refine mt_get (pc := 68) gf_X5_48 dX5_begin_68 (by first | assumption | omega) g2 rfl ?_
        refine mt_icmp_ge (pc := 71) (tgt := 186) dX5_begin_71 (by decide) (fun c71 => ?_) (fun c71 => ?_)
        · exact absurd c71 (nI_ge hq (by omega))
        · skip
          refine mt_aload_n (pc := 74) dX5_begin_74 rfl ?_
          refine mt_get (pc := 75) gf_X5_18 dX5_begin_75 (by first | assumption | omega) g2 rfl ?_
          refine mt_iload (pc := 78) dX5_begin_78 rfl ?_
          refine mt_aload_n (pc := 80) dX5_begin_80 rfl ?_
          refine mt_iload (pc := 81) dX5_begin_81 rfl ?_
          refine mt_cV (pc := 83) (c_under (d := 1) (p := q) (Nat.le_refl 1) (by omega) (by omega) (by omega) ((g1 s (by omega)).trans hS) ((g1 r (by omega)).trans hR)) cal_X6_under vir_X6_under ml_X5_57 dX5_begin_83 (by first | assumption | omega) ((g1 s (by omega)).trans hS) (by first | assumption | (show _ ≤ d; omega)) ⟨(Nat.le_of_ble_eq_true rfl), (Nat.le_of_ble_eq_true rfl)⟩ rfl rfl (Nat.le_of_ble_eq_true rfl) ?_
          refine mt_cN (pc := 86) (c_setEntry (d := 0) (i := nI q) (by omega) g6 (by decide)) cal_X10_setEntry sta_X10_setEntry mn_X5_53 dX5_begin_86 (by first | assumption | (show _ ≤ d; omega)) ⟨(Nat.le_of_ble_eq_true rfl), (Nat.le_of_ble_eq_true rfl)⟩ rfl rfl (Nat.le_of_ble_eq_true rfl) ?_
          rw [mm_wr_nI (by omega) (by decide)]
          refine mt_aload_n (pc := 89) dX5_begin_89 rfl ?_
          refine mt_get (pc := 90) gf_X5_15 dX5_begin_90 (by first | assumption | omega) ((hset_ne (by decide)).trans g2) rfl ?_
          refine mt_iload (pc := 93) dX5_begin_93 rfl ?_
          refine mt_iconst (pc := 95) (v := 0) dX5_begin_95 (by decide) ?_
          refine mt_cN (pc := 96) (c_setEntry (d := 0) (i := nI q) (by omega) ((hset_ne (by decide)).trans g4) (by decide)) cal_X10_setEntry sta_X10_setEntry mn_X5_53 dX5_begin_96 (by first | assumption | (show _ ≤ d; omega)) ⟨(Nat.le_of_ble_eq_true rfl), (Nat.le_of_ble_eq_true rfl)⟩ rfl rfl (Nat.le_of_ble_eq_true rfl) ?_
          rw [mm_wr_nI (by omega) (by decide)]
          have F3 : ∀ b, FS h (hset (hset m 184 (iaE 8 (upd b4 q (f (4 + q))))) 183 (iaE 8 b)) := fun b j hj => (hset_ne (by omega)).trans ((hset_ne (by omega)).trans (g1 j hj))
          have p181 : ∀ b, hset (hset m 184 (iaE 8 (upd b4 q (f (4 + q))))) 183 (iaE 8 b) 181 = svE (nI bk.1) (nI k.1) := fun b => (hset_ne (by decide)).trans ((hset_ne (by decide)).trans g2)
          refine mt_iconst (pc := 99) (v := 0) dX5_begin_99 (by decide) ?_
          refine mt_istore (pc := 100) dX5_begin_100 (Nat.le_of_ble_eq_true rfl) rfl ?_
          refine mt_forE (pc := 102) (α := Nat → Int32) (H := fun i (b : Nat → Int32) => hset (hset m 184 (iaE 8 (upd b4 q (f (4 + q))))) 183 (iaE 8 b)) (L := fun i (b : Nat → Int32) => [some (.ref 181), some (.ref 23), some (.ref 33), some (.ref s), some (.int (nI q)), some (.int (nI i))]) (I := fun i (b : Nat → Int32) => b q = nI (lnM k f bk q i) ∧ ∀ p, p < q → b p = nI (lnM k f bk p bk.1)) (bk.1) (fun i b hi fi ni => ?_) (fun b fi => ?_) _ (⟨upd_eq _ _ _, fun p hp => by rw [upd_ne (by omega)]; exact g5 p hp⟩)
          · skip
            obtain ⟨e1, e2⟩ := fi
            have el : lnM k f bk q (i + 1) = if elg k f bk i q then lnM k f bk q i + 2 ^ i else lnM k f bk q i := rfl
            have hlt := lnM_lt (k := k) (f := f) (bk := bk) (p := q) i
            have hso := (hK.2 i hi).1
            refine mt_iload (pc := 102) dX5_begin_102 rfl ?_
            refine mt_aload_n (pc := 104) dX5_begin_104 rfl ?_
            refine mt_get (pc := 105) gf_X5_36 dX5_begin_105 (by first | assumption | omega) (p181 _) rfl ?_
            refine mt_icmp_ge (pc := 108) (tgt := 180) dX5_begin_108 (by decide) (fun c108 => ?_) (fun c108 => ?_)
            · exact absurd c108 (nI_ge hi (by omega))
            · skip
              refine mt_aload_n (pc := 111) dX5_begin_111 rfl ?_
              refine mt_iload (pc := 112) dX5_begin_112 rfl ?_
              refine mt_cV (pc := 114) (c_bkindOf (d := 1) (i := i) (Nat.le_refl 1) (by omega) (by omega) (BO_fs (F3 _) hB)) cal_X0_kindOf vir_X0_kindOf ml_X5_62 dX5_begin_114 (by first | assumption | omega) ((F3 _ 23 (by omega)).trans b1) (by first | assumption | (show _ ≤ d; omega)) ⟨(Nat.le_of_ble_eq_true rfl), (Nat.le_of_ble_eq_true rfl)⟩ rfl rfl (Nat.le_of_ble_eq_true rfl) ?_
              refine mt_aload_n (pc := 117) dX5_begin_117 rfl ?_
              refine mt_get (pc := 118) gf_X5_37 dX5_begin_118 (by first | assumption | omega) ((F3 _ 33 (by omega)).trans h33) rfl ?_
              refine mt_iload (pc := 121) dX5_begin_121 rfl ?_
              refine mt_cV (pc := 123) (c_kindOf (d := 1) (p := q) (Nat.le_refl 1) (by omega) (by omega) (CO_fs (F3 _) hC)) cal_X1_kindOf vir_X1_kindOf ml_X5_65 dX5_begin_123 (by first | assumption | omega) ((F3 _ 3 (by omega)).trans c1) (by first | assumption | (show _ ≤ d; omega)) ⟨(Nat.le_of_ble_eq_true rfl), (Nat.le_of_ble_eq_true rfl)⟩ rfl rfl (Nat.le_of_ble_eq_true rfl) ?_
              refine mt_icmp_ne (pc := 126) (tgt := 174) dX5_begin_126 (by decide) (fun c126 => ?_) (fun c126 => ?_)
              · skip
                rw [if_neg (fun z => c126 z.1)] at el
                refine mt_iinc (pc := 174) (c9 := 1) dX5_begin_174 rfl (by decide) (Nat.le_of_ble_eq_true rfl) rfl ?_
                refine mt_goto (pc := 177) (tgt := 102) dX5_begin_177 (by decide) ?_
                rw [show (nI i + 1 : Int32) = nI (i + 1) from nI_1 i]
                exact ni b ⟨by rw [el]; exact e1, e2⟩
              · skip
                refine mt_aload_n (pc := 129) dX5_begin_129 rfl ?_
                refine mt_aload_n (pc := 130) dX5_begin_130 rfl ?_
                refine mt_aload_n (pc := 131) dX5_begin_131 rfl ?_
                refine mt_iload (pc := 132) dX5_begin_132 rfl ?_
                refine mt_cV (pc := 134) (c_soulOf (d := 1) (i := i) (Nat.le_refl 1) (by omega) (by omega) (BO_fs (F3 _) hB)) cal_X0_soulOf vir_X0_soulOf ml_X5_66 dX5_begin_134 (by first | assumption | omega) ((F3 _ 23 (by omega)).trans b1) (by first | assumption | (show _ ≤ d; omega)) ⟨(Nat.le_of_ble_eq_true rfl), (Nat.le_of_ble_eq_true rfl)⟩ rfl rfl (Nat.le_of_ble_eq_true rfl) ?_
                rw [hso.1]
                refine mt_iload (pc := 137) dX5_begin_137 rfl ?_
                refine mt_aload_n (pc := 139) dX5_begin_139 rfl ?_
                refine mt_iload (pc := 140) dX5_begin_140 rfl ?_
                refine mt_cV (pc := 142) (c_amountOf (d := 1) (i := i) (Nat.le_refl 1) (by omega) (by omega) (BO_fs (F3 _) hB)) cal_X0_amountOf vir_X0_amountOf ml_X5_49 dX5_begin_142 (by first | assumption | omega) ((F3 _ 23 (by omega)).trans b1) (by first | assumption | (show _ ≤ d; omega)) ⟨(Nat.le_of_ble_eq_true rfl), (Nat.le_of_ble_eq_true rfl)⟩ rfl rfl (Nat.le_of_ble_eq_true rfl) ?_
                refine mt_cV (pc := 145) (c_isOpenTo (d := 2) (a := soN bk i) (p := q) (n := bk.2.2.2 i) (Nat.le_refl 2) (by omega) (by omega) (by omega) (CO_fs (F3 _) hC) ((F3 _ 33 (by omega)).trans h33) (by omega) (by omega) ((F3 _ s (by omega)).trans hS) ((F3 _ r (by omega)).trans hR)) cal_X4_isOpenTo vir_X4_isOpenTo ml_X5_69 dX5_begin_145 (by first | assumption | omega) ((F3 _ 33 (by omega)).trans h33) (by first | assumption | (show _ ≤ d; omega)) ⟨(Nat.le_of_ble_eq_true rfl), (Nat.le_of_ble_eq_true rfl)⟩ rfl rfl (Nat.le_of_ble_eq_true rfl) ?_
                refine mt_if_eq (pc := 148) (tgt := 174) dX5_begin_148 (by decide) (fun c148 => ?_) (fun c148 => ?_)
                · skip
                  rw [if_neg (fun z => by rw [if_pos z.2] at c148; exact absurd c148 (by decide))] at el
                  refine mt_iinc (pc := 174) (c9 := 1) dX5_begin_174 rfl (by decide) (Nat.le_of_ble_eq_true rfl) rfl ?_
                  refine mt_goto (pc := 177) (tgt := 102) dX5_begin_177 (by decide) ?_
                  rw [show (nI i + 1 : Int32) = nI (i + 1) from nI_1 i]
                  exact ni b ⟨by rw [el]; exact e1, e2⟩
                · skip
                  rw [if_pos ⟨c126, Classical.not_not.mp fun z => c148 (if_neg z)⟩] at el
                  refine mt_aload_n (pc := 151) dX5_begin_151 rfl ?_
                  refine mt_get (pc := 152) gf_X5_15 dX5_begin_152 (by first | assumption | omega) (p181 _) rfl ?_
                  refine mt_iload (pc := 155) dX5_begin_155 rfl ?_
                  refine mt_aload_n (pc := 157) dX5_begin_157 rfl ?_
                  refine mt_get (pc := 158) gf_X5_15 dX5_begin_158 (by first | assumption | omega) (p181 _) rfl ?_
                  refine mt_iload (pc := 161) dX5_begin_161 rfl ?_
                  refine mt_cN (pc := 163) (c_entry (d := 0) (i := nI q) (by omega) (hset_eq _ _ _) (by decide)) cal_X10_entry sta_X10_entry mn_X5_73 dX5_begin_163 (by first | assumption | (show _ ≤ d; omega)) ⟨(Nat.le_of_ble_eq_true rfl), (Nat.le_of_ble_eq_true rfl)⟩ rfl rfl (Nat.le_of_ble_eq_true rfl) ?_
                  rw [mm_at_nI (by omega) (by decide), e1]
                  refine mt_iconst (pc := 166) (v := 1) dX5_begin_166 (by decide) ?_
                  refine mt_iload (pc := 167) dX5_begin_167 rfl ?_
                  refine mt_ishl (pc := 169) dX5_begin_169 ?_
                  refine mt_ior (pc := 170) dX5_begin_170 ?_
                  rw [or_bit hlt (by omega)]
                  refine mt_cN (pc := 171) (c_setEntry (d := 0) (i := nI q) (by omega) (hset_eq _ _ _) (by decide)) cal_X10_setEntry sta_X10_setEntry mn_X5_53 dX5_begin_171 (by first | assumption | (show _ ≤ d; omega)) ⟨(Nat.le_of_ble_eq_true rfl), (Nat.le_of_ble_eq_true rfl)⟩ rfl rfl (Nat.le_of_ble_eq_true rfl) ?_
                  rw [mm_wr_nI (by omega) (by decide), hset_hset]
                  refine mt_iinc (pc := 174) (c9 := 1) dX5_begin_174 rfl (by decide) (Nat.le_of_ble_eq_true rfl) rfl ?_
                  refine mt_goto (pc := 177) (tgt := 102) dX5_begin_177 (by decide) ?_
                  rw [show (nI i + 1 : Int32) = nI (i + 1) from nI_1 i]
                  exact ni _ ⟨by rw [upd_eq, el], fun p hp => by rw [upd_ne (by omega)]; exact e2 p hp⟩
          · skip
            obtain ⟨e1, e2⟩ := fi
            refine mt_iload (pc := 102) dX5_begin_102 rfl ?_
            refine mt_aload_n (pc := 104) dX5_begin_104 rfl ?_
            refine mt_get (pc := 105) gf_X5_36 dX5_begin_105 (by first | assumption | omega) (p181 _) rfl ?_
            refine mt_icmp_ge (pc := 108) (tgt := 180) dX5_begin_108 (by decide) (fun c108 => ?_) (fun c108 => ?_)
            · skip
              refine mt_iinc (pc := 180) (c9 := 1) dX5_begin_180 rfl (by decide) (Nat.le_of_ble_eq_true rfl) rfl ?_
              refine mt_goto (pc := 183) (tgt := 65) dX5_begin_183 (by decide) ?_
              rw [show (nI q + 1 : Int32) = nI (q + 1) from nI_1 q]
              refine mt_forget 5 (nq _ ⟨F3 b, p181 b, (hset_ne (by decide)).trans ((hset_ne (by decide)).trans g3), ⟨b, hset_eq _ _ _, fun p hp => ?_⟩, ⟨_, (hset_ne (by decide)).trans (hset_eq _ _ _), fun p hp => ?_⟩, b5, (hset_ne (by decide)).trans ((hset_ne (by decide)).trans g8)⟩)
              · by_cases z : p = q
                · subst z; exact e1
                · exact e2 p (by omega)
              · by_cases z : p = q
                · subst z; rw [upd_eq]; exact (hU p (by omega)).1
                · rw [upd_ne z]; exact g7 p (by omega)
            · exact absurd (nI_le (Nat.le_refl _) (by omega)) c108
      · skip
        obtain ⟨g1, g2, g3, ⟨b3, g4, g5⟩, ⟨b4, g6, g7⟩, b5, g8⟩ := fq
        refine mt_iload (pc := 65) dX5_begin_65 rfl ?_
        refine mt_aload_n (pc := 67) dX5_begin_67 rfl ?_
        refine mt_get (pc := 68) gf_X5_48 dX5_begin_68 (by first | assumption | omega) g2 rfl ?_
        refine mt_icmp_ge (pc := 71) (tgt := 186) dX5_begin_71 (by decide) (fun c71 => ?_) (fun c71 => ?_)
        · skip
          refine mt_aload_n (pc := 186) dX5_begin_186 rfl ?_
          refine mt_aV (pc := 187) (c_fillSums (d := 1) (n := bk.1) (A := amN bk) (Nat.le_refl 1) hx hn (fun i hi => (hK.2 i hi).2.2.2) g2 g3 fc g8) cal_X5_fillSums vir_X5_fillSums ml_X5_77 dX5_begin_187 (by first | assumption | omega) g2 (by first | assumption | (show _ ≤ d; omega)) ⟨(Nat.le_of_ble_eq_true rfl), (Nat.le_of_ble_eq_true rfl)⟩ rfl rfl (Nat.le_of_ble_eq_true rfl) ?_ ?_
          · rintro x9 n9 k9 h9
            simp at h9
          · rintro v9 n9 k9 ⟨hv, rfl, b9, rfl, hb9⟩
            cases hv
            refine ⟨rfl, ?_⟩
            exact mt_vret rfl dX5_begin_190 (Nat.le_of_ble_eq_true rfl) (Nat.le_of_ble_eq_true rfl) ⟨rfl, rfl, fun j hj => (hset_ne (by omega)).trans (g1 j hj), (hset_ne (by decide)).trans g2, ⟨a, (hset_ne (by decide)).trans g3, fc⟩, ⟨b3, (hset_ne (by decide)).trans g4, g5⟩, ⟨b4, (hset_ne (by decide)).trans g6, g7⟩, ⟨b9, hset_eq _ _ _, hb9⟩, hn, hk1, fun i hi => (hK.2 i hi).2.2.2, fun p hp => lnM_lt _, fun p hp => (hU p (by omega)).2⟩
        · exact absurd (nI_le (Nat.le_refl _) (by omega)) c71
    · exact absurd (nI_le (Nat.le_refl _) (by omega)) c38
end SERV6
