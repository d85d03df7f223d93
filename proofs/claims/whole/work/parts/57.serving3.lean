/-! Serving: slabOf, leastMore, begin. -/
def updN (R : Nat → Nat) (p x : Nat) : Nat → Nat := fun j => if j = p then x else R j
theorem updN_eq {R : Nat → Nat} {p x : Nat} : updN R p x p = x := if_pos rfl
theorem updN_ne {R : Nat → Nat} {p x j : Nat} (h : j ≠ p) : updN R p x j = R j := if_neg h
abbrev VT : Type := Nat → (Nat → Nat) → Nat
abbrev okS (V : VT) (A L : Nat → Nat) (line best : Nat) (R : Nat → Nat) (p : Nat) : Prop := (L p).testBit line = true ∧ A line ≤ R p ∧ 1000 + A line + V (line + 1) (updN R p (R p - A line)) = best
def lsA (V : VT) (A L : Nat → Nat) (line best : Nat) (R : Nat → Nat) : Nat → Option Nat
  | 0 => none
  | q + 1 => match lsA V A L line best R q with
    | some p => some p
    | none => if okS V A L line best R q then some q else none
theorem lsA_ok {V : VT} {A L : Nat → Nat} {line best : Nat} {R : Nat → Nat} {p : Nat} : ∀ q, lsA V A L line best R q = some p → okS V A L line best R p
  | 0, h => by cases h
  | q + 1, h => by
    unfold lsA at h
    split at h
    · next hq => cases h; exact lsA_ok q hq
    · split at h
      · next hq => cases h; exact hq
      · cases h
def slS (V : VT) (A L : Nat → Nat) (sl : Nat) (R0 : Nat → Nat) : Nat → Nat × Option Nat × (Nat → Nat)
  | 0 => (V 0 R0, none, R0)
  | i + 1 => match lsA V A L i (slS V A L sl R0 i).1 (slS V A L sl R0 i).2.2 sl with
    | some p => ((slS V A L sl R0 i).1 - (1000 + A i), some p, updN (slS V A L sl R0 i).2.2 p ((slS V A L sl R0 i).2.2 p - A i))
    | none => ((slS V A L sl R0 i).1, none, (slS V A L sl R0 i).2.2)
theorem lsA_lt {V : VT} {A L : Nat → Nat} {line best : Nat} {R : Nat → Nat} {p : Nat} : ∀ q, lsA V A L line best R q = some p → p < q
  | 0, h => by cases h
  | q + 1, h => by
    unfold lsA at h
    split at h
    · next hq => cases h; have := lsA_lt q hq; omega
    · split at h
      · cases h; omega
      · cases h
def oI : Option Nat → Int32
  | none => -1
  | some p => nI p
def lsR (R : Nat → Nat) (x : Nat) : Option Nat → (Nat → Nat)
  | some p => updN R p (R p - x)
  | none => R
/-- the best by a function -/
def VOK (n sl : Nat) (A L : Nat → Nat) (V : VT) : Prop := ∀ (first : Nat) (R : Nat → Nat), first ≤ 6 → (∀ p, p < sl → R p ≤ 99) → IsBest n sl A L R first (V first R)
theorem IsBest_u {n sl : Nat} {A L R : Nat → Nat} {first v w : Nat} (h1 : IsBest n sl A L R first v) (h2 : IsBest n sl A L R first w) : v = w := by
  obtain ⟨⟨s, a1, a2⟩, a3⟩ := h1
  obtain ⟨⟨t, b1, b2⟩, b3⟩ := h2
  have := a3 t b1
  have := b3 s a1
  omega
theorem SV_room {h : Nat → mm_E} {n sl p x : Nat} {A L R : Nat → Nat} {a : Nat → Int32} (hS : SV h n sl A L R) (h184 : h 184 = iaE 8 a) (hx : x ≤ 99) : SV (hset h 184 (iaE 8 (upd a p (nI x)))) n sl A L (updN R p x) := by
  obtain ⟨h1, ⟨a1, h2, h3⟩, ⟨a2, h4, h5⟩, ⟨a3, h6, h7⟩, ⟨a4, h8, h9⟩, h10, h11, h12, h13, h14⟩ := hS
  rw [h184] at h6
  cases h6
  refine ⟨(hset_ne (by decide)).trans h1, ⟨a1, (hset_ne (by decide)).trans h2, h3⟩, ⟨a2, (hset_ne (by decide)).trans h4, h5⟩, ⟨_, hset_eq _ _ _, fun j hj => ?_⟩, ⟨a4, (hset_ne (by decide)).trans h8, h9⟩, h10, h11, h12, h13, fun j hj => ?_⟩
  · by_cases hq : j = p
    · subst hq; rw [upd_eq, updN_eq]
    · rw [upd_ne hq, updN_ne hq]; exact h7 j hj
  · by_cases hq : j = p
    · subst hq; rw [updN_eq]; exact hx
    · rw [updN_ne hq]; exact h14 j hj
theorem tb_and1 {x i : Nat} : x / 2 ^ i % 2 = 1 ↔ x.testBit i = true := by rw [Nat.testBit_eq_decide_div_mod_eq, decide_eq_true_iff]
section SERV3
variable {G : mm_G} {l : Launch} {d nx : Nat} {h : Nat → mm_E} {n sl : Nat} {A L R : Nat → Nat} {V : VT}
theorem c_leastSlab {line best : Nat} (hd : 4 ≤ d) (hx : 187 ≤ nx) (hl : line < n) (hb : best ≤ 30000) (hV : VOK n sl A L V) (hS : SV h n sl A L R) : mm_Con G l yX5_leastSlab cX5_leastSlab 6 (some .int) d 0 0 [.ref 181, .int (nI line), .int (nI best)] nx h (fun o n' m => o = .inl (some (.int (oI (lsA V A L line best R sl)))) ∧ n' = nx ∧ (∃ e, m = hset h 184 e) ∧ SV m n sl A L (lsR R (A line) (lsA V A L line best R sl))) := by
  obtain ⟨h181, ⟨a, h182, ha⟩, ⟨lo, h183, hlo⟩, ⟨ro, h184, hro⟩, ⟨su, h185, hsu⟩, hn, hsl, hA, hL, hR⟩ := id hS
  refine mm_start (lo := [some (.ref 181), some (.int (nI line)), some (.int (nI best)), none, none, none]) pn_X5 rfl rfl (Nat.le_of_ble_eq_true rfl) ?_
  refine mt_aload_n (pc := 0) dX5_leastSlab_0 rfl ?_
  refine mt_get (pc := 1) gf_X5_9 dX5_leastSlab_1 (by first | assumption | omega) (by repeat (first | exact hset_eq _ _ _ | assumption | rw [hset_ne (by first | assumption | decide | omega)])) rfl ?_
  refine mt_iload_n (pc := 4) dX5_leastSlab_4 rfl ?_
  refine mt_cN (pc := 5) (c_entry (d := 0) (i := nI line) (by omega) h182 (by decide)) cal_X10_entry sta_X10_entry mn_X5_73 dX5_leastSlab_5 (by first | assumption | (show _ ≤ d; omega)) ⟨(Nat.le_of_ble_eq_true rfl), (Nat.le_of_ble_eq_true rfl)⟩ rfl rfl (Nat.le_of_ble_eq_true rfl) ?_
  rw [mm_at_nI (by omega) (by decide), ha line hl]
  refine mt_istore_n (pc := 8) dX5_leastSlab_8 (Nat.le_of_ble_eq_true rfl) rfl ?_
  refine mt_iconst (pc := 9) (v := 0) dX5_leastSlab_9 (by decide) ?_
  refine mt_istore (pc := 10) dX5_leastSlab_10 (Nat.le_of_ble_eq_true rfl) rfl ?_
  refine mt_heq (h' := hset h 184 (iaE 8 ro)) (hset_self h184).symm ?_
  refine mt_forE (pc := 12) (α := Nat → Int32) (H := fun q (ro2 : Nat → Int32) => hset h 184 (iaE 8 ro2)) (L := fun q (ro2 : Nat → Int32) => [some (.ref 181), some (.int (nI line)), some (.int (nI best)), some (.int (nI (A line))), some (.int (nI q)), none]) (I := fun q (ro2 : Nat → Int32) => SV (hset h 184 (iaE 8 ro2)) n sl A L R ∧ lsA V A L line best R q = none) sl (fun q ro2 hq fq nq => ?_) (fun ro2 fq => ?_) ro (⟨by rw [hset_self h184]; exact hS, rfl⟩)
  · skip
    obtain ⟨g1, g2⟩ := fq
    obtain ⟨b181, ⟨ba, b182, bha⟩, ⟨bl, b183, bhl⟩, ⟨br, b184, bhr⟩, ⟨bs, b185, bhs⟩, -, -, -, -, -⟩ := id g1
    rw [hset_eq] at b184
    cases b184
    have hqs : lsA V A L line best R (q + 1) = if okS V A L line best R q then some q else none := by rw [lsA, g2]
    refine mt_iload (pc := 12) dX5_leastSlab_12 rfl ?_
    refine mt_aload_n (pc := 14) dX5_leastSlab_14 rfl ?_
    refine mt_get (pc := 15) gf_X5_48 dX5_leastSlab_15 (by first | assumption | omega) b181 rfl ?_
    refine mt_icmp_ge (pc := 18) (tgt := 105) dX5_leastSlab_18 (by decide) (fun c18 => ?_) (fun c18 => ?_)
    · exact absurd c18 (nI_ge hq (by omega))
    · skip
      refine mt_aload_n (pc := 21) dX5_leastSlab_21 rfl ?_
      refine mt_get (pc := 22) gf_X5_18 dX5_leastSlab_22 (by first | assumption | omega) b181 rfl ?_
      refine mt_iload (pc := 25) dX5_leastSlab_25 rfl ?_
      refine mt_cN (pc := 27) (c_entry (d := 0) (i := nI q) (by omega) (hset_eq _ _ _) (by decide)) cal_X10_entry sta_X10_entry mn_X5_73 dX5_leastSlab_27 (by first | assumption | (show _ ≤ d; omega)) ⟨(Nat.le_of_ble_eq_true rfl), (Nat.le_of_ble_eq_true rfl)⟩ rfl rfl (Nat.le_of_ble_eq_true rfl) ?_
      rw [mm_at_nI (by omega) (by decide), bhr q hq]
      refine mt_istore (pc := 30) dX5_leastSlab_30 (Nat.le_of_ble_eq_true rfl) rfl ?_
      refine mt_aload_n (pc := 32) dX5_leastSlab_32 rfl ?_
      refine mt_get (pc := 33) gf_X5_15 dX5_leastSlab_33 (by first | assumption | omega) b181 rfl ?_
      refine mt_iload (pc := 36) dX5_leastSlab_36 rfl ?_
      refine mt_cN (pc := 38) (c_entry (d := 0) (i := nI q) (by omega) b183 (by decide)) cal_X10_entry sta_X10_entry mn_X5_73 dX5_leastSlab_38 (by first | assumption | (show _ ≤ d; omega)) ⟨(Nat.le_of_ble_eq_true rfl), (Nat.le_of_ble_eq_true rfl)⟩ rfl rfl (Nat.le_of_ble_eq_true rfl) ?_
      rw [mm_at_nI (by omega) (by decide), bhl q hq]
      refine mt_iload_n (pc := 41) dX5_leastSlab_41 rfl ?_
      refine mt_ishr (pc := 42) dX5_leastSlab_42 ?_
      refine mt_iconst (pc := 43) (v := 1) dX5_leastSlab_43 (by decide) ?_
      refine mt_iand (pc := 44) dX5_leastSlab_44 ?_
      rw [bit32 (by have := hL q hq; have := p2_6 hn; omega) (by omega)]
      refine mt_iconst (pc := 45) (v := 1) dX5_leastSlab_45 (by decide) ?_
      refine mt_icmp_ne (pc := 46) (tgt := 99) dX5_leastSlab_46 (by decide) (fun c46 => ?_) (fun c46 => ?_)
      · skip
        have hno : ¬ okS V A L line best R q := fun z => c46 (by rw [tb_and1.mpr z.1]; rfl)
        rw [if_neg hno] at hqs
        refine mt_iinc (pc := 99) (c9 := 1) dX5_leastSlab_99 rfl (by decide) (Nat.le_of_ble_eq_true rfl) rfl ?_
        refine mt_goto (pc := 102) (tgt := 12) dX5_leastSlab_102 (by decide) ?_
        rw [show (nI q + 1 : Int32) = nI (q + 1) from nI_1 q]
        exact mt_fg (by repeat (first | exact trivial | refine ⟨rfl, ?_⟩ | rfl)) (nq ro2 ⟨g1, hqs⟩)
      · skip
        have hbit : (L q).testBit line = true := tb_and1.mp ((nI_eq (b := 1) (by omega) (by decide)).mp c46)
        refine mt_iload (pc := 49) dX5_leastSlab_49 rfl ?_
        refine mt_iload_n (pc := 51) dX5_leastSlab_51 rfl ?_
        refine mt_icmp_lt (pc := 52) (tgt := 99) dX5_leastSlab_52 (by decide) (fun c52 => ?_) (fun c52 => ?_)
        · skip
          have hno : ¬ okS V A L line best R q := fun z => nI_nlt z.2.1 (by have := hR q hq; omega) c52
          rw [if_neg hno] at hqs
          refine mt_iinc (pc := 99) (c9 := 1) dX5_leastSlab_99 rfl (by decide) (Nat.le_of_ble_eq_true rfl) rfl ?_
          refine mt_goto (pc := 102) (tgt := 12) dX5_leastSlab_102 (by decide) ?_
          rw [show (nI q + 1 : Int32) = nI (q + 1) from nI_1 q]
          exact mt_fg (by repeat (first | exact trivial | refine ⟨rfl, ?_⟩ | rfl)) (nq ro2 ⟨g1, hqs⟩)
        · skip
          have hroom : A line ≤ R q := Nat.le_of_not_lt fun z => c52 (nI_lt z (by have := hA line hl; omega))
          refine mt_aload_n (pc := 55) dX5_leastSlab_55 rfl ?_
          refine mt_get (pc := 56) gf_X5_18 dX5_leastSlab_56 (by first | assumption | omega) b181 rfl ?_
          refine mt_iload (pc := 59) dX5_leastSlab_59 rfl ?_
          refine mt_iload (pc := 61) dX5_leastSlab_61 rfl ?_
          refine mt_iload_n (pc := 63) dX5_leastSlab_63 rfl ?_
          refine mt_isub (pc := 64) dX5_leastSlab_64 ?_
          rw [pk_sub hroom]
          refine mt_cN (pc := 65) (c_setEntry (d := 0) (i := nI q) (by omega) (hset_eq _ _ _) (by decide)) cal_X10_setEntry sta_X10_setEntry mn_X5_53 dX5_leastSlab_65 (by first | assumption | (show _ ≤ d; omega)) ⟨(Nat.le_of_ble_eq_true rfl), (Nat.le_of_ble_eq_true rfl)⟩ rfl rfl (Nat.le_of_ble_eq_true rfl) ?_
          rw [mm_wr_nI (by omega) (by decide), hset_hset]
          have hSq := SV_room (p := q) (x := R q - A line) hS h184 (by have := hR q hq; omega)
          have hSq2 : SV (hset h 184 (iaE 8 (upd ro2 q (nI (R q - A line))))) n sl A L (updN R q (R q - A line)) := by
            have := SV_room (p := q) (x := R q - A line) g1 (hset_eq _ _ _) (by have := hR q hq; omega)
            rw [hset_hset] at this
            exact this
          have hbest := hV (line + 1) (updN R q (R q - A line)) (by omega) (fun j hj => hSq2.2.2.2.2.2.2.2.2.2 j hj)
          refine mt_sipush (pc := 68) (v := 1000) dX5_leastSlab_68 (by decide) ?_
          refine mt_iload_n (pc := 71) dX5_leastSlab_71 rfl ?_
          skip
          refine mt_iadd (pc := 72) dX5_leastSlab_72 ?_
          rw [show (1000 : Int32) = nI 1000 from rfl, nI_add]
          refine mt_aload_n (pc := 73) dX5_leastSlab_73 rfl ?_
          refine mt_iload_n (pc := 74) dX5_leastSlab_74 rfl ?_
          refine mt_iconst (pc := 75) (v := 1) dX5_leastSlab_75 (by decide) ?_
          refine mt_iadd (pc := 76) dX5_leastSlab_76 ?_
          rw [show (nI line + 1 : Int32) = nI (line + 1) from nI_1 line]
          refine mt_aV (pc := 77) (c_bestFrom (d := 3) (first := line + 1) (Nat.le_refl 3) hx (by omega) hSq2) cal_X5_bestFrom vir_X5_bestFrom ml_X5_80 dX5_leastSlab_77 (by first | assumption | omega) hSq2.1 (by first | assumption | (show _ ≤ d; omega)) ⟨(Nat.le_of_ble_eq_true rfl), (Nat.le_of_ble_eq_true rfl)⟩ rfl rfl (Nat.le_of_ble_eq_true rfl) ?_ ?_
          · rintro x9 n9 k9 h9
            simp at h9
          · rintro v9 n9 k9 ⟨rfl, rfl, v, hv, e1, e2⟩
            cases hv
            refine ⟨rfl, ?_⟩
            obtain rfl := IsBest_u e2 hbest
            refine mt_iadd (pc := 80) dX5_leastSlab_80 ?_
            rw [nI_add]
            refine mt_iload_n (pc := 81) dX5_leastSlab_81 rfl ?_
            refine mt_icmp_ne (pc := 82) (tgt := 88) dX5_leastSlab_82 (by decide) (fun c82 => ?_) (fun c82 => ?_)
            · skip
              have hno : ¬ okS V A L line best R q := fun z => c82 (by rw [z.2.2])
              rw [if_neg hno] at hqs
              refine mt_aload_n (pc := 88) dX5_leastSlab_88 rfl ?_
              refine mt_get (pc := 89) gf_X5_18 dX5_leastSlab_89 (by first | assumption | omega) hSq2.1 rfl ?_
              refine mt_iload (pc := 92) dX5_leastSlab_92 rfl ?_
              refine mt_iload (pc := 94) dX5_leastSlab_94 rfl ?_
              refine mt_cN (pc := 96) (c_setEntry (d := 0) (i := nI q) (by omega) (hset_eq _ _ _) (by decide)) cal_X10_setEntry sta_X10_setEntry mn_X5_53 dX5_leastSlab_96 (by first | assumption | (show _ ≤ d; omega)) ⟨(Nat.le_of_ble_eq_true rfl), (Nat.le_of_ble_eq_true rfl)⟩ rfl rfl (Nat.le_of_ble_eq_true rfl) ?_
              rw [mm_wr_nI (by omega) (by decide), hset_hset]
              have hS9 : SV (hset h 184 (iaE 8 (upd (upd ro2 q (nI (R q - A line))) q (nI (R q))))) n sl A L R := by
                have := SV_room (p := q) (x := R q) hSq2 (hset_eq _ _ _) (hR q hq)
                rw [hset_hset] at this
                rw [show updN (updN R q (R q - A line)) q (R q) = R from funext fun j => by by_cases z : j = q <;> simp [updN, z]] at this
                exact this
              refine mt_iinc (pc := 99) (c9 := 1) dX5_leastSlab_99 rfl (by decide) (Nat.le_of_ble_eq_true rfl) rfl ?_
              refine mt_goto (pc := 102) (tgt := 12) dX5_leastSlab_102 (by decide) ?_
              rw [show (nI q + 1 : Int32) = nI (q + 1) from nI_1 q]
              exact mt_fg (by repeat (first | exact trivial | refine ⟨rfl, ?_⟩ | rfl)) (nq _ ⟨hS9, hqs⟩)
            · skip
              have hyes : okS V A L line best R q := ⟨hbit, hroom, (nI_eq (by have := hA line hl; omega) (by omega)).mp c82⟩
              rw [if_pos hyes] at hqs
              have hfin : ∀ z, q + 1 ≤ z → lsA V A L line best R z = some q := by
                intro z
                induction z with
                | zero => intro hz; omega
                | succ z ih =>
                  intro hz
                  rcases Nat.lt_or_eq_of_le hz with y | y
                  · rw [lsA, ih (by omega)]
                  · rw [← y]; exact hqs
              have hres := hfin sl (by omega)
              refine mt_iload (pc := 85) dX5_leastSlab_85 rfl ?_
              exact mt_iret rfl dX5_leastSlab_87 (Nat.le_of_ble_eq_true rfl) (Nat.le_of_ble_eq_true rfl) ⟨by rw [hres]; rfl, rfl, ⟨_, rfl⟩, by rw [hres]; exact hSq2⟩
  · skip
    obtain ⟨g1, g2⟩ := fq
    have b181 := g1.1
    refine mt_iload (pc := 12) dX5_leastSlab_12 rfl ?_
    refine mt_aload_n (pc := 14) dX5_leastSlab_14 rfl ?_
    refine mt_get (pc := 15) gf_X5_48 dX5_leastSlab_15 (by first | assumption | omega) b181 rfl ?_
    refine mt_icmp_ge (pc := 18) (tgt := 105) dX5_leastSlab_18 (by decide) (fun c18 => ?_) (fun c18 => ?_)
    · skip
      refine mt_iconst (pc := 105) (v := (-1)) dX5_leastSlab_105 (by decide) ?_
      exact mt_iret rfl dX5_leastSlab_106 (Nat.le_of_ble_eq_true rfl) (Nat.le_of_ble_eq_true rfl) ⟨by rw [g2]; rfl, rfl, ⟨_, rfl⟩, by rw [g2]; exact g1⟩
    · exact absurd (nI_le (Nat.le_refl _) (by omega)) c18
end SERV3
