/-! Serving: what can be served. -/
theorem lcb {ρ s : Nat} (hρ : ρ < 2 ^ 64) (hs : s < 64) : lg_cmp (((lN ρ).toUInt64 >>> ((nI s).toInt64.toUInt64 &&& Int64.toUInt64 63)).toInt64 &&& 1) 1 = 0 ↔ ρ.testBit s = true := by
  rw [wb_bit hρ hs, Nat.testBit_eq_decide_div_mod_eq, decide_eq_true_iff]
  rcases Nat.mod_two_eq_zero_or_one (ρ / 2 ^ s) with h | h
  · rw [h]; decide
  · rw [h]; decide
theorem rch_lt {n : Nat} {A L R : Nat → Nat} {first : Nat} : ∀ q s, rch n A L R first q s → s < 2 ^ n
  | 0, s, h => by rw [show s = 0 from h]; exact Nat.two_pow_pos n
  | q + 1, s, h => by
    rcases h with h | ⟨t, h1, -, part, -, h2, -, -, rfl⟩
    · exact rch_lt q s h
    · exact Nat.or_lt_two_pow h1 h2
/-- the best of the sets that can be served -/
def valM (n : Nat) (A : Nat → Nat) (s : Nat) : Nat := popc s 10 * 1000 + sumM A s n
def IsBest (n sl : Nat) (A L R : Nat → Nat) (first v : Nat) : Prop := (∃ s, rch n A L R first sl s ∧ valM n A s = v) ∧ ∀ s, rch n A L R first sl s → valM n A s ≤ v
theorem popc_le (s : Nat) : ∀ i, popc s i ≤ i
  | 0 => Nat.le_refl 0
  | i + 1 => by have := popc_le s i; rw [popc]; omega
theorem valM_le {n : Nat} {A : Nat → Nat} {s : Nat} (hn : n ≤ 6) (hA : ∀ i, i < n → A i ≤ 60) : valM n A s ≤ 20000 := by
  have h1 := sumM_le (s := s) n hA
  have h2 := popc_le s 10
  unfold valM
  omega
theorem rch_0 {n : Nat} {A L R : Nat → Nat} {first : Nat} : ∀ q, rch n A L R first q 0
  | 0 => rfl
  | q + 1 => Or.inl (rch_0 q)
section SERV2
variable {G : mm_G} {l : Launch} {d nx : Nat} {h : Nat → mm_E} {n sl : Nat} {A L R : Nat → Nat}
theorem c_reachedFrom {first : Nat} (hd : 2 ≤ d) (hx : 187 ≤ nx) (hf : first ≤ 6) (hS : SV h n sl A L R) : mm_Con G l yX5_reachedFrom cX5_reachedFrom 9 (some .long) d 0 0 [.ref 181, .int (nI first)] nx h (fun o n' k => n' = nx ∧ k = h ∧ ∃ ρ, o = .inl (some (.long (lN ρ))) ∧ ρ < 2 ^ 64 ∧ ∀ s, s < 64 → (ρ.testBit s = true ↔ rch n A L R first sl s)) := by
  obtain ⟨h181, ⟨a, h182, ha⟩, ⟨lo, h183, hlo⟩, ⟨ro, h184, hro⟩, ⟨su, h185, hsu⟩, hn, hsl, hA, hL, hR⟩ := id hS
  have h6 := p2_6 hn
  refine mm_start (lo := [some (.ref 181), some (.int (nI first)), none, none, none, none, none, none, none]) pn_X5 rfl rfl (Nat.le_of_ble_eq_true rfl) ?_
  refine mt_lconst (pc := 0) (v := 1) dX5_reachedFrom_0 (by decide) ?_
  refine mt_lstore_n (pc := 1) dX5_reachedFrom_1 (Nat.le_of_ble_eq_true rfl) rfl ?_
  refine mt_iconst (pc := 2) (v := 0) dX5_reachedFrom_2 (by decide) ?_
  refine mt_istore (pc := 3) dX5_reachedFrom_3 (Nat.le_of_ble_eq_true rfl) rfl ?_
  refine mt_forE (pc := 5) (α := Nat) (H := fun q (ρ : Nat) => h) (L := fun q (ρ : Nat) => [some (.ref 181), some (.int (nI first)), some (.long (lN ρ)), none, some (.int (nI q)), none, none, none, none]) (I := fun q (ρ : Nat) => ρ < 2 ^ 64 ∧ ∀ s, s < 64 → (ρ.testBit s = true ↔ rch n A L R first q s)) sl (fun q ρ hq fq nq => ?_) (fun ρ fq => ?_) 1 (⟨by decide, fun s hs => by rw [show (1 : Nat) = 2 ^ 0 from rfl, Nat.testBit_two_pow, decide_eq_true_iff]; exact ⟨fun z => z.symm, fun z => z.symm⟩⟩)
  · skip
    obtain ⟨g1, g2⟩ := fq
    refine mt_iload (pc := 5) dX5_reachedFrom_5 rfl ?_
    refine mt_aload_n (pc := 7) dX5_reachedFrom_7 rfl ?_
    refine mt_get (pc := 8) gf_X5_48 dX5_reachedFrom_8 (by first | assumption | omega) (by repeat (first | exact hset_eq _ _ _ | assumption | rw [hset_ne (by first | assumption | decide | omega)])) rfl ?_
    refine mt_icmp_ge (pc := 11) (tgt := 96) dX5_reachedFrom_11 (by decide) (fun c11 => ?_) (fun c11 => ?_)
    · exact absurd c11 (nI_ge hq (by omega))
    · skip
      refine mt_lload_n (pc := 14) dX5_reachedFrom_14 rfl ?_
      refine mt_lstore (pc := 15) dX5_reachedFrom_15 (Nat.le_of_ble_eq_true rfl) rfl ?_
      refine mt_iconst (pc := 17) (v := 0) dX5_reachedFrom_17 (by decide) ?_
      refine mt_istore (pc := 18) dX5_reachedFrom_18 (Nat.le_of_ble_eq_true rfl) rfl ?_
      refine mt_forE (pc := 20) (α := Nat) (H := fun c (σ : Nat) => h) (L := fun c (σ : Nat) => [some (.ref 181), some (.int (nI first)), some (.long (lN σ)), none, some (.int (nI q)), some (.long (lN ρ)), none, some (.int (nI c)), none]) (I := fun c (σ : Nat) => σ < 2 ^ 64 ∧ ∀ s, s < 64 → (σ.testBit s = true ↔ rch n A L R first q s ∨ ∃ t, t < c ∧ rch n A L R first q t ∧ ∃ part, 0 < part ∧ part < 2 ^ n ∧ sub1 (L q) first t part ∧ sumM A part n ≤ R q ∧ s = t ||| part)) (2 ^ n) (fun c σ hc fc nc => ?_) (fun σ fc => ?_) ρ (⟨g1, fun s hs => by rw [g2 s hs]; exact ⟨Or.inl, fun z => z.elim id (fun ⟨t, z, _⟩ => absurd z (Nat.not_lt_zero t))⟩⟩)
      · skip
        obtain ⟨e1, e2⟩ := fc
        refine mt_iload (pc := 20) dX5_reachedFrom_20 rfl ?_
        refine mt_iconst (pc := 22) (v := 1) dX5_reachedFrom_22 (by decide) ?_
        refine mt_aload_n (pc := 23) dX5_reachedFrom_23 rfl ?_
        refine mt_get (pc := 24) gf_X5_36 dX5_reachedFrom_24 (by first | assumption | omega) (by repeat (first | exact hset_eq _ _ _ | assumption | rw [hset_ne (by first | assumption | decide | omega)])) rfl ?_
        refine mt_ishl (pc := 27) dX5_reachedFrom_27 ?_
        rw [shl1n hn]
        refine mt_icmp_ge (pc := 28) (tgt := 90) dX5_reachedFrom_28 (by decide) (fun c28 => ?_) (fun c28 => ?_)
        · exact absurd c28 (nI_ge hc (by omega))
        · skip
          refine mt_lload (pc := 31) dX5_reachedFrom_31 rfl ?_
          refine mt_iload (pc := 33) dX5_reachedFrom_33 rfl ?_
          refine mt_lushr (pc := 35) dX5_reachedFrom_35 rfl ?_
          refine mt_lconst (pc := 36) (v := 1) dX5_reachedFrom_36 (by decide) ?_
          refine mt_land (pc := 37) dX5_reachedFrom_37 ?_
          refine mt_lconst (pc := 38) (v := 1) dX5_reachedFrom_38 (by decide) ?_
          refine mt_lcmp (pc := 39) dX5_reachedFrom_39 ?_
          refine mt_if_ne (pc := 40) (tgt := 84) dX5_reachedFrom_40 (by decide) (fun c40 => ?_) (fun c40 => ?_)
          · skip
            have hno : ¬ rch n A L R first q c := fun z => c40 ((lcb g1 (by omega)).mpr ((g2 c (by omega)).mpr z))
            refine mt_iinc (pc := 84) (c9 := 1) dX5_reachedFrom_84 rfl (by decide) (Nat.le_of_ble_eq_true rfl) rfl ?_
            refine mt_goto (pc := 87) (tgt := 20) dX5_reachedFrom_87 (by decide) ?_
            rw [show (nI c + 1 : Int32) = nI (c + 1) from nI_1 c]
            refine nc σ ⟨e1, fun s hs => ?_⟩
            rw [e2 s hs]
            constructor
            · rintro (z | ⟨t, z1, z2⟩)
              · exact Or.inl z
              · exact Or.inr ⟨t, by omega, z2⟩
            · rintro (z | ⟨t, z1, z2⟩)
              · exact Or.inl z
              · by_cases hq9 : t = c
                · subst hq9; exact absurd z2.1 hno
                · exact Or.inr ⟨t, by omega, z2⟩
          · skip
            have hyes : rch n A L R first q c := (g2 c (by omega)).mp ((lcb g1 (by omega)).mp c40)
            refine mt_aload_n (pc := 43) dX5_reachedFrom_43 rfl ?_
            refine mt_get (pc := 44) gf_X5_15 dX5_reachedFrom_44 (by first | assumption | omega) (by repeat (first | exact hset_eq _ _ _ | assumption | rw [hset_ne (by first | assumption | decide | omega)])) rfl ?_
            refine mt_iload (pc := 47) dX5_reachedFrom_47 rfl ?_
            refine mt_cN (pc := 49) (c_entry (d := 0) (i := nI q) (by omega) h183 (by decide)) cal_X10_entry sta_X10_entry mn_X5_73 dX5_reachedFrom_49 (by first | assumption | (show _ ≤ d; omega)) ⟨(Nat.le_of_ble_eq_true rfl), (Nat.le_of_ble_eq_true rfl)⟩ rfl rfl (Nat.le_of_ble_eq_true rfl) ?_
            rw [mm_at_nI (by omega) (by decide), hlo q hq]
            refine mt_iconst (pc := 52) (v := 1) dX5_reachedFrom_52 (by decide) ?_
            refine mt_iload_n (pc := 53) dX5_reachedFrom_53 rfl ?_
            refine mt_ishl (pc := 54) dX5_reachedFrom_54 ?_
            refine mt_ineg (pc := 55) dX5_reachedFrom_55 ?_
            refine mt_iand (pc := 56) dX5_reachedFrom_56 ?_
            rw [ma1 (L q) (by have := hL q hq; omega) first (by omega)]
            refine mt_iload (pc := 57) dX5_reachedFrom_57 rfl ?_
            refine mt_iconst (pc := 59) (v := (-1)) dX5_reachedFrom_59 (by decide) ?_
            refine mt_ixor (pc := 60) dX5_reachedFrom_60 ?_
            refine mt_iand (pc := 61) dX5_reachedFrom_61 ?_
            rw [ma2 _ (ma6 (L q) (by have := hL q hq; omega) first (by omega)) c (by omega)]
            refine mt_istore (pc := 62) dX5_reachedFrom_62 (Nat.le_of_ble_eq_true rfl) rfl ?_
            refine mt_lload_n (pc := 64) dX5_reachedFrom_64 rfl ?_
            refine mt_aload_n (pc := 65) dX5_reachedFrom_65 rfl ?_
            refine mt_iload (pc := 66) dX5_reachedFrom_66 rfl ?_
            refine mt_iload (pc := 68) dX5_reachedFrom_68 rfl ?_
            refine mt_aload_n (pc := 70) dX5_reachedFrom_70 rfl ?_
            refine mt_get (pc := 71) gf_X5_18 dX5_reachedFrom_71 (by first | assumption | omega) (by repeat (first | exact hset_eq _ _ _ | assumption | rw [hset_ne (by first | assumption | decide | omega)])) rfl ?_
            refine mt_iload (pc := 74) dX5_reachedFrom_74 rfl ?_
            refine mt_cN (pc := 76) (c_entry (d := 0) (i := nI q) (by omega) h184 (by decide)) cal_X10_entry sta_X10_entry mn_X5_73 dX5_reachedFrom_76 (by first | assumption | (show _ ≤ d; omega)) ⟨(Nat.le_of_ble_eq_true rfl), (Nat.le_of_ble_eq_true rfl)⟩ rfl rfl (Nat.le_of_ble_eq_true rfl) ?_
            rw [mm_at_nI (by omega) (by decide), hro q hq]
            refine mt_aV (pc := 79) (c_joined (d := 1) (t := c) (m := (L q / 2 ^ first * 2 ^ first) &&& (63 - c)) (Nat.le_refl 1) hx (by have := hR q hq; omega) (by omega) (by have : (L q / 2 ^ first * 2 ^ first) &&& (63 - c) ≤ L q / 2 ^ first * 2 ^ first := Nat.and_le_left; have := Nat.div_mul_le_self (L q) (2 ^ first); have := hL q hq; omega) hS) cal_X5_joined vir_X5_joined ml_X5_98 dX5_reachedFrom_79 (by first | assumption | omega) (by repeat (first | exact hset_eq _ _ _ | assumption | rw [hset_ne (by first | assumption | decide | omega)])) (by first | assumption | (show _ ≤ d; omega)) ⟨(Nat.le_of_ble_eq_true rfl), (Nat.le_of_ble_eq_true rfl)⟩ rfl rfl (Nat.le_of_ble_eq_true rfl) ?_ ?_
            · rintro x9 n9 k9 h9
              simp at h9
            · rintro v9 n9 k9 ⟨rfl, rfl, τ, hv, t1, t2⟩
              cases hv
              refine ⟨rfl, ?_⟩
              refine mt_lor (pc := 82) dX5_reachedFrom_82 ?_
              rw [wb_or e1 t1]
              refine mt_lstore_n (pc := 83) dX5_reachedFrom_83 (Nat.le_of_ble_eq_true rfl) rfl ?_
              refine mt_iinc (pc := 84) (c9 := 1) dX5_reachedFrom_84 rfl (by decide) (Nat.le_of_ble_eq_true rfl) rfl ?_
              refine mt_goto (pc := 87) (tgt := 20) dX5_reachedFrom_87 (by decide) ?_
              rw [show (nI c + 1 : Int32) = nI (c + 1) from nI_1 c]
              refine mt_forget 8 (nc (σ ||| τ) ⟨Nat.or_lt_two_pow e1 t1, fun s hs => ?_⟩)
              rw [Nat.testBit_or, Bool.or_eq_true, e2 s hs, t2 s hs]
              constructor
              · rintro ((z | ⟨t, z1, z2⟩) | ⟨part, z1, z2, z3, z4⟩)
                · exact Or.inl z
                · exact Or.inr ⟨t, by omega, z2⟩
                · have := (sub1_m hn (hL q hq) (by omega) hc).mpr z2
                  exact Or.inr ⟨c, by omega, hyes, part, z1, this.1, this.2, z3, z4⟩
              · rintro (z | ⟨t, z1, z2⟩)
                · exact Or.inl (Or.inl z)
                · by_cases hq9 : t = c
                  · subst hq9
                    obtain ⟨-, part, y1, y2, y3, y4, y5⟩ := z2
                    exact Or.inr ⟨part, y1, (sub1_m hn (hL q hq) (by omega) hc).mp ⟨y2, y3⟩, y4, y5⟩
                  · exact Or.inl (Or.inr ⟨t, by omega, z2⟩)
      · skip
        obtain ⟨e1, e2⟩ := fc
        refine mt_iload (pc := 20) dX5_reachedFrom_20 rfl ?_
        refine mt_iconst (pc := 22) (v := 1) dX5_reachedFrom_22 (by decide) ?_
        refine mt_aload_n (pc := 23) dX5_reachedFrom_23 rfl ?_
        refine mt_get (pc := 24) gf_X5_36 dX5_reachedFrom_24 (by first | assumption | omega) (by repeat (first | exact hset_eq _ _ _ | assumption | rw [hset_ne (by first | assumption | decide | omega)])) rfl ?_
        refine mt_ishl (pc := 27) dX5_reachedFrom_27 ?_
        rw [shl1n hn]
        refine mt_icmp_ge (pc := 28) (tgt := 90) dX5_reachedFrom_28 (by decide) (fun c28 => ?_) (fun c28 => ?_)
        · skip
          refine mt_iinc (pc := 90) (c9 := 1) dX5_reachedFrom_90 rfl (by decide) (Nat.le_of_ble_eq_true rfl) rfl ?_
          refine mt_goto (pc := 93) (tgt := 5) dX5_reachedFrom_93 (by decide) ?_
          rw [show (nI q + 1 : Int32) = nI (q + 1) from nI_1 q]
          refine mt_fg (by repeat (first | exact trivial | refine ⟨rfl, ?_⟩ | rfl)) (nq σ ⟨e1, fun s hs => ?_⟩)
          rw [e2 s hs]
          exact Iff.rfl
        · exact absurd (nI_le (Nat.le_refl _) (by omega)) c28
  · skip
    obtain ⟨g1, g2⟩ := fq
    refine mt_iload (pc := 5) dX5_reachedFrom_5 rfl ?_
    refine mt_aload_n (pc := 7) dX5_reachedFrom_7 rfl ?_
    refine mt_get (pc := 8) gf_X5_48 dX5_reachedFrom_8 (by first | assumption | omega) (by repeat (first | exact hset_eq _ _ _ | assumption | rw [hset_ne (by first | assumption | decide | omega)])) rfl ?_
    refine mt_icmp_ge (pc := 11) (tgt := 96) dX5_reachedFrom_11 (by decide) (fun c11 => ?_) (fun c11 => ?_)
    · skip
      refine mt_lload_n (pc := 96) dX5_reachedFrom_96 rfl ?_
      exact mt_lret rfl dX5_reachedFrom_97 (Nat.le_of_ble_eq_true rfl) (Nat.le_of_ble_eq_true rfl) ⟨rfl, rfl, ρ, rfl, g1, g2⟩
    · exact absurd (nI_le (Nat.le_refl _) (by omega)) c11
theorem c_bestFrom {first : Nat} (hd : 3 ≤ d) (hx : 187 ≤ nx) (hf : first ≤ 6) (hS : SV h n sl A L R) : mm_Con G l yX5_bestFrom cX5_bestFrom 6 (some .int) d 0 0 [.ref 181, .int (nI first)] nx h (fun o n' k => n' = nx ∧ k = h ∧ ∃ v, o = .inl (some (.int (nI v))) ∧ v ≤ 20000 ∧ IsBest n sl A L R first v) := by
  obtain ⟨h181, ⟨a, h182, ha⟩, ⟨lo, h183, hlo⟩, ⟨ro, h184, hro⟩, ⟨su, h185, hsu⟩, hn, hsl, hA, hL, hR⟩ := id hS
  have h6 := p2_6 hn
  refine mm_start (lo := [some (.ref 181), some (.int (nI first)), none, none, none, none]) pn_X5 rfl rfl (Nat.le_of_ble_eq_true rfl) ?_
  refine mt_aload_n (pc := 0) dX5_bestFrom_0 rfl ?_
  refine mt_iload_n (pc := 1) dX5_bestFrom_1 rfl ?_
  refine mt_aV (pc := 2) (c_reachedFrom (d := 2) (Nat.le_refl 2) hx hf hS) cal_X5_reachedFrom vir_X5_reachedFrom ml_X5_86 dX5_bestFrom_2 (by first | assumption | omega) (by repeat (first | exact hset_eq _ _ _ | assumption | rw [hset_ne (by first | assumption | decide | omega)])) (by first | assumption | (show _ ≤ d; omega)) ⟨(Nat.le_of_ble_eq_true rfl), (Nat.le_of_ble_eq_true rfl)⟩ rfl rfl (Nat.le_of_ble_eq_true rfl) ?_ ?_
  · rintro x9 n9 k9 h9
    simp at h9
  · rintro v9 n9 k9 ⟨rfl, rfl, ρ, hv, g1, g2⟩
    cases hv
    refine ⟨rfl, ?_⟩
    refine mt_lstore_n (pc := 5) dX5_bestFrom_5 (Nat.le_of_ble_eq_true rfl) rfl ?_
    refine mt_iconst (pc := 6) (v := 0) dX5_bestFrom_6 (by decide) ?_
    refine mt_istore (pc := 7) dX5_bestFrom_7 (Nat.le_of_ble_eq_true rfl) rfl ?_
    refine mt_iconst (pc := 9) (v := 0) dX5_bestFrom_9 (by decide) ?_
    refine mt_istore (pc := 10) dX5_bestFrom_10 (Nat.le_of_ble_eq_true rfl) rfl ?_
    refine mt_forE (pc := 12) (α := Nat) (H := fun c (v : Nat) => _) (L := fun c (v : Nat) => [some (.ref 181), some (.int (nI first)), some (.long (lN ρ)), none, some (.int (nI v)), some (.int (nI c))]) (I := fun c (v : Nat) => v ≤ 20000 ∧ ((v = 0 ∧ c = 0) ∨ ∃ s, s < c ∧ rch n A L R first sl s ∧ valM n A s = v) ∧ ∀ s, s < c → rch n A L R first sl s → valM n A s ≤ v) (2 ^ n) (fun c v hc fc nc => ?_) (fun v fc => ?_) 0 (⟨by decide, Or.inl ⟨rfl, rfl⟩, fun s hs => absurd hs (Nat.not_lt_zero s)⟩)
    · skip
      obtain ⟨e1, e2, e3⟩ := fc
      refine mt_iload (pc := 12) dX5_bestFrom_12 rfl ?_
      refine mt_iconst (pc := 14) (v := 1) dX5_bestFrom_14 (by decide) ?_
      refine mt_aload_n (pc := 15) dX5_bestFrom_15 rfl ?_
      refine mt_get (pc := 16) gf_X5_36 dX5_bestFrom_16 (by first | assumption | omega) (by repeat (first | exact hset_eq _ _ _ | assumption | rw [hset_ne (by first | assumption | decide | omega)])) rfl ?_
      refine mt_ishl (pc := 19) dX5_bestFrom_19 ?_
      rw [shl1n hn]
      refine mt_icmp_ge (pc := 20) (tgt := 66) dX5_bestFrom_20 (by decide) (fun c20 => ?_) (fun c20 => ?_)
      · exact absurd c20 (nI_ge hc (by omega))
      · skip
        refine mt_lload_n (pc := 23) dX5_bestFrom_23 rfl ?_
        refine mt_iload (pc := 24) dX5_bestFrom_24 rfl ?_
        refine mt_lushr (pc := 26) dX5_bestFrom_26 rfl ?_
        refine mt_lconst (pc := 27) (v := 1) dX5_bestFrom_27 (by decide) ?_
        refine mt_land (pc := 28) dX5_bestFrom_28 ?_
        refine mt_lconst (pc := 29) (v := 1) dX5_bestFrom_29 (by decide) ?_
        refine mt_lcmp (pc := 30) dX5_bestFrom_30 ?_
        refine mt_if_ne (pc := 31) (tgt := 60) dX5_bestFrom_31 (by decide) (fun c31 => ?_) (fun c31 => ?_)
        · skip
          have hno : ¬ rch n A L R first sl c := fun z => c31 ((lcb g1 (by omega)).mpr ((g2 c (by omega)).mpr z))
          refine mt_iinc (pc := 60) (c9 := 1) dX5_bestFrom_60 rfl (by decide) (Nat.le_of_ble_eq_true rfl) rfl ?_
          refine mt_goto (pc := 63) (tgt := 12) dX5_bestFrom_63 (by decide) ?_
          rw [show (nI c + 1 : Int32) = nI (c + 1) from nI_1 c]
          refine nc v ⟨e1, ?_, fun s hs hr => ?_⟩
          · rcases e2 with ⟨z1, z2⟩ | ⟨s, z1, z2⟩
            · subst z2
              exact absurd (rch_0 sl) hno
            · exact Or.inr ⟨s, by omega, z2⟩
          · by_cases hq9 : s = c
            · subst hq9; exact absurd hr hno
            · exact e3 s (by omega) hr
        · skip
          have hyes : rch n A L R first sl c := (g2 c (by omega)).mp ((lcb g1 (by omega)).mp c31)
          refine mt_iload (pc := 34) dX5_bestFrom_34 rfl ?_
          refine mt_iload (pc := 36) dX5_bestFrom_36 rfl ?_
          refine mt_cS (pc := 38) (c_bitCount (d := 0) (s := c) (by omega)) cal_J6_bitCount_0f7a4 sta_J6_bitCount_0f7a4 ml_X5_90 dX5_bestFrom_38 (by first | assumption | (show _ ≤ d; omega)) ⟨(Nat.le_of_ble_eq_true rfl), (Nat.le_of_ble_eq_true rfl)⟩ rfl rfl (Nat.le_of_ble_eq_true rfl) ?_
          refine mt_sipush (pc := 41) (v := 1000) dX5_bestFrom_41 (by decide) ?_
          refine mt_imul (pc := 44) dX5_bestFrom_44 ?_
          refine mt_aload_n (pc := 45) dX5_bestFrom_45 rfl ?_
          refine mt_get (pc := 46) gf_X5_21 dX5_bestFrom_46 (by first | assumption | omega) (by repeat (first | exact hset_eq _ _ _ | assumption | rw [hset_ne (by first | assumption | decide | omega)])) rfl ?_
          refine mt_iload (pc := 49) dX5_bestFrom_49 rfl ?_
          refine mt_cN (pc := 51) (c_entry (d := 0) (i := nI c) (by omega) h185 (by decide)) cal_X10_entry sta_X10_entry mn_X5_73 dX5_bestFrom_51 (by first | assumption | (show _ ≤ d; omega)) ⟨(Nat.le_of_ble_eq_true rfl), (Nat.le_of_ble_eq_true rfl)⟩ rfl rfl (Nat.le_of_ble_eq_true rfl) ?_
          rw [mm_at_nI (by omega) (by decide), hsu c hc, show (1000 : Int32) = nI 1000 from rfl, pk_mul]
          refine mt_iadd (pc := 54) dX5_bestFrom_54 ?_
          rw [nI_add]
          rw [show popc c 10 * 1000 + sumM A c n = valM n A c from rfl]
          refine mt_mmax (pc := 55) ml_X5_95 dX5_bestFrom_55 (by first | assumption | (show _ ≤ d; omega)) ⟨(Nat.le_of_ble_eq_true rfl), (Nat.le_of_ble_eq_true rfl)⟩ (Nat.le_of_ble_eq_true rfl) ?_
          have hvl := valM_le (s := c) hn hA
          rw [show (if nI v < nI (valM n A c) then nI (valM n A c) else nI v) = nI (max v (valM n A c)) by
            rcases Nat.lt_or_ge v (valM n A c) with y | y
            · rw [if_pos (nI_lt y (by omega)), Nat.max_eq_right (by omega)]
            · rw [if_neg (nI_nlt y (by omega)), Nat.max_eq_left y]]
          refine mt_istore (pc := 58) dX5_bestFrom_58 (Nat.le_of_ble_eq_true rfl) rfl ?_
          refine mt_iinc (pc := 60) (c9 := 1) dX5_bestFrom_60 rfl (by decide) (Nat.le_of_ble_eq_true rfl) rfl ?_
          refine mt_goto (pc := 63) (tgt := 12) dX5_bestFrom_63 (by decide) ?_
          rw [show (nI c + 1 : Int32) = nI (c + 1) from nI_1 c]
          refine nc (max v (valM n A c)) ⟨by omega, Or.inr ?_, fun s hs hr => ?_⟩
          · rcases Nat.le_total v (valM n A c) with y | y
            · exact ⟨c, by omega, hyes, (Nat.max_eq_right y).symm⟩
            · rcases e2 with ⟨z1, z2⟩ | ⟨s, z1, z2, z3⟩
              · exact ⟨c, by omega, hyes, by omega⟩
              · exact ⟨s, by omega, z2, by rw [z3]; omega⟩
          · by_cases hq9 : s = c
            · subst hq9; exact Nat.le_max_right _ _
            · exact Nat.le_trans (e3 s (by omega) hr) (Nat.le_max_left _ _)
    · skip
      obtain ⟨e1, e2, e3⟩ := fc
      refine mt_iload (pc := 12) dX5_bestFrom_12 rfl ?_
      refine mt_iconst (pc := 14) (v := 1) dX5_bestFrom_14 (by decide) ?_
      refine mt_aload_n (pc := 15) dX5_bestFrom_15 rfl ?_
      refine mt_get (pc := 16) gf_X5_36 dX5_bestFrom_16 (by first | assumption | omega) (by repeat (first | exact hset_eq _ _ _ | assumption | rw [hset_ne (by first | assumption | decide | omega)])) rfl ?_
      refine mt_ishl (pc := 19) dX5_bestFrom_19 ?_
      rw [shl1n hn]
      refine mt_icmp_ge (pc := 20) (tgt := 66) dX5_bestFrom_20 (by decide) (fun c20 => ?_) (fun c20 => ?_)
      · skip
        refine mt_iload (pc := 66) dX5_bestFrom_66 rfl ?_
        exact mt_iret rfl dX5_bestFrom_68 (Nat.le_of_ble_eq_true rfl) (Nat.le_of_ble_eq_true rfl) ⟨rfl, rfl, v, rfl, e1, by
            rcases e2 with ⟨z1, z2⟩ | ⟨s, z1, z2, z3⟩
            · have := Nat.two_pow_pos n; omega
            · exact ⟨s, z2, z3⟩, fun s hs => e3 s (rch_lt _ _ hs) hs⟩
      · exact absurd (nI_le (Nat.le_refl _) (by omega)) c20
theorem c_mostLines (hd : 4 ≤ d) (hx : 187 ≤ nx) (hS : SV h n sl A L R) : mm_Con G l yX5_mostLines cX5_mostLines 1 (some .int) d 0 0 [.ref 181] nx h (fun o n' k => n' = nx ∧ k = h ∧ ∃ v, o = .inl (some (.int (nI (v / 1000)))) ∧ IsBest n sl A L R 0 v) := by
  have h181 := hS.1
  refine mm_start (lo := [some (.ref 181)]) pn_X5 rfl rfl (Nat.le_of_ble_eq_true rfl) ?_
  refine mt_aload_n (pc := 0) dX5_mostLines_0 rfl ?_
  refine mt_iconst (pc := 1) (v := 0) dX5_mostLines_1 (by decide) ?_
  refine mt_aV (pc := 2) (c_bestFrom (d := 3) (first := 0) (Nat.le_refl 3) hx (by decide) hS) cal_X5_bestFrom vir_X5_bestFrom ml_X5_80 dX5_mostLines_2 (by first | assumption | omega) (by repeat (first | exact hset_eq _ _ _ | assumption | rw [hset_ne (by first | assumption | decide | omega)])) (by first | assumption | (show _ ≤ d; omega)) ⟨(Nat.le_of_ble_eq_true rfl), (Nat.le_of_ble_eq_true rfl)⟩ rfl rfl (Nat.le_of_ble_eq_true rfl) ?_ ?_
  · rintro x9 n9 k9 h9
    simp at h9
  · rintro v9 n9 k9 ⟨rfl, rfl, v, hv, g1, g2⟩
    cases hv
    refine ⟨rfl, ?_⟩
    refine mt_sipush (pc := 5) (v := 1000) dX5_mostLines_5 (by decide) ?_
    refine mt_idiv (pc := 8) dX5_mostLines_8 (by decide) ?_
    rw [show (1000 : Int32) = nI 1000 from rfl, pk_div (by omega) (by decide) (by decide)]
    exact mt_iret rfl dX5_mostLines_9 (Nat.le_of_ble_eq_true rfl) (Nat.le_of_ble_eq_true rfl) ⟨rfl, rfl, v, rfl, g2⟩
theorem c_mostAmount (hd : 4 ≤ d) (hx : 187 ≤ nx) (hS : SV h n sl A L R) : mm_Con G l yX5_mostAmount cX5_mostAmount 1 (some .int) d 0 0 [.ref 181] nx h (fun o n' k => n' = nx ∧ k = h ∧ ∃ v, o = .inl (some (.int (nI (v % 1000)))) ∧ IsBest n sl A L R 0 v) := by
  have h181 := hS.1
  refine mm_start (lo := [some (.ref 181)]) pn_X5 rfl rfl (Nat.le_of_ble_eq_true rfl) ?_
  refine mt_aload_n (pc := 0) dX5_mostAmount_0 rfl ?_
  refine mt_iconst (pc := 1) (v := 0) dX5_mostAmount_1 (by decide) ?_
  refine mt_aV (pc := 2) (c_bestFrom (d := 3) (first := 0) (Nat.le_refl 3) hx (by decide) hS) cal_X5_bestFrom vir_X5_bestFrom ml_X5_80 dX5_mostAmount_2 (by first | assumption | omega) (by repeat (first | exact hset_eq _ _ _ | assumption | rw [hset_ne (by first | assumption | decide | omega)])) (by first | assumption | (show _ ≤ d; omega)) ⟨(Nat.le_of_ble_eq_true rfl), (Nat.le_of_ble_eq_true rfl)⟩ rfl rfl (Nat.le_of_ble_eq_true rfl) ?_ ?_
  · rintro x9 n9 k9 h9
    simp at h9
  · rintro v9 n9 k9 ⟨rfl, rfl, v, hv, g1, g2⟩
    cases hv
    refine ⟨rfl, ?_⟩
    refine mt_sipush (pc := 5) (v := 1000) dX5_mostAmount_5 (by decide) ?_
    refine mt_irem (pc := 8) dX5_mostAmount_8 (by decide) ?_
    rw [show (1000 : Int32) = nI 1000 from rfl, pk_rem (by omega) (by decide) (by decide)]
    exact mt_iret rfl dX5_mostAmount_9 (Nat.le_of_ble_eq_true rfl) (Nat.le_of_ble_eq_true rfl) ⟨rfl, rfl, v, rfl, g2⟩
end SERV2
