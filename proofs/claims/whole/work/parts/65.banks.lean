/-! CryptBank: questions that count. -/
def gfl {α : Type} (g : Nat → α → α) (a : α) : Nat → α
  | 0 => a
  | n + 1 => g n (gfl g a n)
def anyB (P : Nat → Bool) : Nat → Bool
  | 0 => false
  | n + 1 => anyB P n || P n
theorem anyB_t {P : Nat → Bool} : ∀ {n i : Nat}, i < n → P i = true → anyB P n = true
  | 0, i, h, _ => absurd h (Nat.not_lt_zero i)
  | n + 1, i, h, hp => by
    rw [anyB]
    by_cases hq : i = n
    · subst hq; rw [hp, Bool.or_true]
    · rw [anyB_t (show i < n by omega) hp]; rfl
abbrev clC (k : CS) (f : Nat → Int32) (a p : Nat) (n : Int32) : Prop := ¬ 10 ≤ f 3 ∧ openC k f a p n
abbrev P2 : Type := Int32 × Int32
def nigN (f : Nat → Int32) : Nat → Nat → Int32 := gfl (fun _ g => nigF g (nlo g)) f
theorem RC_nigN {f : Nat → Int32} (h : RC f) : ∀ n, RC (nigN f n)
  | 0 => h
  | n + 1 => RC_nig (RC_nigN h n)
def brkS (k : CS) (cs : List Nat) (a : Nat) : Nat → Nat → (Nat → Int32) → Int32
  | 0, _, _ => -1
  | q + 1, i, g => if g (18 + a) < owA k cs g (nI a) (nlo g) then nI i else brkS k cs a q (i + 1) (nigF g (nlo g))
theorem QW.dream {h : Nat → mm_E} {ic rs ne ia : Int32} {k : CS} {cs : List Nat} {bk : BS} {pg : PGS} {g : Nat → Int32} (hQ : QW h ic rs ne ia k cs bk pg) (hg : CN 84 g) : FQ h (hset h 180 (rwE g)) := by
  obtain ⟨-, -, ⟨-, -, ⟨F, a1⟩, S, a2⟩, -, -, -, -, -, -, -, ⟨⟨x, y, s1⟩, ⟨t1, s2⟩, ⟨t2, s3⟩, ⟨t3, s4⟩, t4, s5⟩, ⟨z, a3⟩, o, a4⟩ := hQ
  exact ⟨fun j _ _ c _ => hset_ne c, ⟨F, (hset_ne (by decide)).trans a1⟩, ⟨S, (hset_ne (by decide)).trans a2⟩, ⟨g, hset_eq _ _ _, hg⟩, ⟨⟨x, y, (hset_ne (by decide)).trans s1⟩, ⟨t1, (hset_ne (by decide)).trans s2⟩, ⟨t2, (hset_ne (by decide)).trans s3⟩, ⟨t3, (hset_ne (by decide)).trans s4⟩, t4, (hset_ne (by decide)).trans s5⟩, ⟨z, (hset_ne (by decide)).trans a3⟩, o, (hset_ne (by decide)).trans a4⟩
def richF (k : CS) (f : Nat → Int32) : Nat → P2 := gfl (fun p w => if ¬ f (4 + p) ≤ w.2 then (nI p, f (4 + p)) else w) (-1, -1)
def nextF (f : Nat → Int32) : Nat → P2 := gfl (fun i w => if f (24 + 6 * i + 5) = 1 then w else if w.1 = -1 ∨ f (24 + 6 * i + 4) - f 0 < w.2 then (nI i, f (24 + 6 * i + 4) - f 0) else w) (-1, -1)
def deepF (k : CS) (cs : List Nat) (f : Nat → Int32) : Nat → P2 := gfl (fun i w => if ¬ owI k cs f i ≤ w.2 then (nI i, owI k cs f i) else w) (-1, -1)
def poorF (f : Nat → Int32) : Nat → P2 := gfl (fun a w => if w.1 = -1 ∨ f (18 + a) < w.2 then (nI a, f (18 + a)) else w) (-1, -1)
def anyL (k : CS) (f : Nat → Int32) (a : Nat) : Nat → Bool := anyB (fun p => decide (clC k f a p 1))
def shutF (k : CS) (f : Nat → Int32) : Nat → Int32 := fld (fun a acc => if anyL k f a k.1 = true then acc else acc ||| ((1 : Int32) <<< (nI a &&& 31))) 0
def kindF (k : CS) (f : Nat → Int32) (kd x : Int32) : Nat → Int32 := fld (fun p acc => if k.2.2.1 p = kd then acc + (if x = 0 then f (4 + p) else ltF f 1 (nI p)) else acc) 0
def trusF (k : CS) (f : Nat → Int32) (p : Nat) (n : Int32) : Nat → Int32 := fld (fun a acc => if clC k f a p n then acc ||| ((1 : Int32) <<< (nI a &&& 31)) else acc) 0
def cheV (k : CS) (cs : List Nat) (f : Nat → Int32) (a p : Nat) (n t : Int32) : Int32 := clamp (lawV cs (factF n t (k.2.2.1 p) (kinN k a p) (f (12 + a)) (f (4 + p) - n) (f 0 + t) (nI a)))
def cheF (k : CS) (cs : List Nat) (f : Nat → Int32) (a : Nat) (kd n t : Int32) : Nat → P2 := gfl (fun p w => if k.2.2.1 p = kd ∧ clC k f a p n then (if w.1 = -1 ∨ cheV k cs f a p n t < w.2 then (nI p, cheV k cs f a p n t) else w) else w) (-1, 0)
def ifR (x lo hi : Int32) (r : Nat ⊕ Int32) : Nat ⊕ Int32 := if ¬ x < lo ∧ ¬ hi < x then r else .inl 1
section BANKS
variable {G : mm_G} {l : Launch} {d nx : Nat} {h : Nat → mm_E} {ic rs ne ia : Int32} {k : CS} {cs : List Nat} {bk : BS} {pg : PGS}
theorem c_richest {x : Int32} (hl : l.stackTraces = false) (hd : 10 ≤ d) (hx : 188 ≤ nx) (hQ : QW h ic rs ne ia k cs bk pg) : mm_Con G l yX10_richest cX10_richest 5 (some .int) d 8 48 [.ref 0, .int x] nx h (P_q (ifR x 0 1 (.inr (if x = 0 then (richF k pg.2.1 k.1).1 else (richF k pg.2.1 k.1).2))) ic rs ne ia nx h) := by
  obtain ⟨h0, hC, hA, hLW, hB, h33, hP, ⟨⟨n, hw⟩, hcn⟩, -⟩ := id hQ
  obtain rfl : n = nlo pg.2.1 := (nlo_eq hw).symm
  have c0 := hC.1
  have hk1 : k.1 ≤ 8 := hC.2.2.2.2.2.2.1
  have hk2 : k.2.1 ≤ 6 := hC.2.2.2.2.2.2.2
  obtain ⟨p1, p2, p3, -⟩ := id hP
  have hn := hw.2.1
  refine mm_start (lo := [some (.ref 0), some (.int x), none, none, none]) pn_X10 rfl rfl (Nat.le_of_ble_eq_true rfl) ?_
  refine mt_aload_n (pc := 0) dX10_richest_0 rfl ?_
  refine mt_iload_n (pc := 1) dX10_richest_1 rfl ?_
  refine mt_iconst (pc := 2) (v := 0) dX10_richest_2 (by decide) ?_
  refine mt_iconst (pc := 3) (v := 1) dX10_richest_3 (by decide) ?_
  refine mt_aV (pc := 4) (c_needRange (d := 7) hl (Nat.le_refl 7) (by omega) h0) cal_X10_needRange vir_X10_needRange ml_X10_266 dX10_richest_4 (by first | assumption | omega) (by repeat (first | exact hset_eq _ _ _ | assumption | rw [hset_ne (by first | assumption | decide | omega)])) (by first | assumption | (show _ ≤ d; omega)) ⟨(Nat.le_of_ble_eq_true rfl), (Nat.le_of_ble_eq_true rfl)⟩ rfl rfl (Nat.le_of_ble_eq_true rfl) ?_ ?_
  · rintro x9 n9 k9 h9
    obtain ⟨rfl, rfl, hno, rfl⟩ := h9
    exact P_qx (if_neg hno)
  · rintro v9 n9 k9 ⟨rfl, rfl, hok, rfl⟩
    have er : ifR x 0 1 (.inr (if x = 0 then (richF k pg.2.1 k.1).1 else (richF k pg.2.1 k.1).2)) = .inr (if x = 0 then (richF k pg.2.1 k.1).1 else (richF k pg.2.1 k.1).2) := if_pos hok
    refine ⟨rfl, ?_⟩
    refine mt_iconst (pc := 7) (v := (-1)) dX10_richest_7 (by decide) ?_
    refine mt_istore_n (pc := 8) dX10_richest_8 (Nat.le_of_ble_eq_true rfl) rfl ?_
    refine mt_iconst (pc := 9) (v := (-1)) dX10_richest_9 (by decide) ?_
    refine mt_istore_n (pc := 10) dX10_richest_10 (Nat.le_of_ble_eq_true rfl) rfl ?_
    refine mt_iconst (pc := 11) (v := 0) dX10_richest_11 (by decide) ?_
    refine mt_istore (pc := 12) dX10_richest_12 (Nat.le_of_ble_eq_true rfl) rfl ?_
    refine mt_for (pc := 14) (H := fun i => h) (L := fun i => [some (.ref 0), some (.int x), some (.int ((richF k pg.2.1 i).1)), some (.int ((richF k pg.2.1 i).2)), some (.int (nI i))]) (k.1) (fun i hi ni => ?_) ?_
    · skip
      have e1 : richF k pg.2.1 (i + 1) = if ¬ pg.2.1 (4 + i) ≤ (richF k pg.2.1 i).2 then (nI i, pg.2.1 (4 + i)) else richF k pg.2.1 i := rfl
      refine mt_iload (pc := 14) dX10_richest_14 rfl ?_
      refine mt_aload_n (pc := 16) dX10_richest_16 rfl ?_
      refine mt_get (pc := 17) gf_X10_19 dX10_richest_17 (by first | assumption | omega) (by repeat (first | exact hset_eq _ _ _ | assumption | rw [hset_ne (by first | assumption | decide | omega)])) rfl ?_
      refine mt_get (pc := 20) gf_X10_141 dX10_richest_20 (by first | assumption | omega) (by repeat (first | exact hset_eq _ _ _ | assumption | rw [hset_ne (by first | assumption | decide | omega)])) rfl ?_
      refine mt_icmp_ge (pc := 23) (tgt := 64) dX10_richest_23 (by decide) (fun c23 => ?_) (fun c23 => ?_)
      · exact absurd c23 (nI_ge hi (by omega))
      · skip
        refine mt_aload_n (pc := 26) dX10_richest_26 rfl ?_
        refine mt_get (pc := 27) gf_X10_65 dX10_richest_27 (by first | assumption | omega) (by repeat (first | exact hset_eq _ _ _ | assumption | rw [hset_ne (by first | assumption | decide | omega)])) rfl ?_
        refine mt_get (pc := 30) gf_X10_157 dX10_richest_30 (by first | assumption | omega) (by repeat (first | exact hset_eq _ _ _ | assumption | rw [hset_ne (by first | assumption | decide | omega)])) rfl ?_
        refine mt_iload (pc := 33) dX10_richest_33 rfl ?_
        refine mt_cV (pc := 35) (c_under (d := 1) (p := i) (Nat.le_refl 1) (by omega) (by omega) (by omega) p2 p3) cal_X6_under vir_X6_under ml_X10_229 dX10_richest_35 (by first | assumption | omega) (by repeat (first | exact hset_eq _ _ _ | assumption | rw [hset_ne (by first | assumption | decide | omega)])) (by first | assumption | (show _ ≤ d; omega)) ⟨(Nat.le_of_ble_eq_true rfl), (Nat.le_of_ble_eq_true rfl)⟩ rfl rfl (Nat.le_of_ble_eq_true rfl) ?_
        refine mt_iload_n (pc := 38) dX10_richest_38 rfl ?_
        refine mt_icmp_le (pc := 39) (tgt := 58) dX10_richest_39 (by decide) (fun c39 => ?_) (fun c39 => ?_)
        · skip
          rw [if_neg (fun z => z c39)] at e1
          refine mt_iinc (pc := 58) (c9 := 1) dX10_richest_58 rfl (by decide) (Nat.le_of_ble_eq_true rfl) rfl ?_
          refine mt_goto (pc := 61) (tgt := 14) dX10_richest_61 (by decide) ?_
          rw [e1] at ni
          rw [show (nI i + 1 : Int32) = nI (i + 1) from nI_1 i]
          first
            | exact ni
            | exact mt_fg (by repeat (first | exact trivial | refine ⟨rfl, ?_⟩ | rfl)) ni
        · skip
          rw [if_pos c39] at e1
          refine mt_iload (pc := 42) dX10_richest_42 rfl ?_
          refine mt_istore_n (pc := 44) dX10_richest_44 (Nat.le_of_ble_eq_true rfl) rfl ?_
          refine mt_aload_n (pc := 45) dX10_richest_45 rfl ?_
          refine mt_get (pc := 46) gf_X10_65 dX10_richest_46 (by first | assumption | omega) (by repeat (first | exact hset_eq _ _ _ | assumption | rw [hset_ne (by first | assumption | decide | omega)])) rfl ?_
          refine mt_get (pc := 49) gf_X10_157 dX10_richest_49 (by first | assumption | omega) (by repeat (first | exact hset_eq _ _ _ | assumption | rw [hset_ne (by first | assumption | decide | omega)])) rfl ?_
          refine mt_iload (pc := 52) dX10_richest_52 rfl ?_
          refine mt_cV (pc := 54) (c_under (d := 1) (p := i) (Nat.le_refl 1) (by omega) (by omega) (by omega) p2 p3) cal_X6_under vir_X6_under ml_X10_229 dX10_richest_54 (by first | assumption | omega) (by repeat (first | exact hset_eq _ _ _ | assumption | rw [hset_ne (by first | assumption | decide | omega)])) (by first | assumption | (show _ ≤ d; omega)) ⟨(Nat.le_of_ble_eq_true rfl), (Nat.le_of_ble_eq_true rfl)⟩ rfl rfl (Nat.le_of_ble_eq_true rfl) ?_
          refine mt_istore_n (pc := 57) dX10_richest_57 (Nat.le_of_ble_eq_true rfl) rfl ?_
          refine mt_iinc (pc := 58) (c9 := 1) dX10_richest_58 rfl (by decide) (Nat.le_of_ble_eq_true rfl) rfl ?_
          refine mt_goto (pc := 61) (tgt := 14) dX10_richest_61 (by decide) ?_
          rw [e1] at ni
          rw [show (nI i + 1 : Int32) = nI (i + 1) from nI_1 i]
          first
            | exact ni
            | exact mt_fg (by repeat (first | exact trivial | refine ⟨rfl, ?_⟩ | rfl)) ni
    · skip
      refine mt_iload (pc := 14) dX10_richest_14 rfl ?_
      refine mt_aload_n (pc := 16) dX10_richest_16 rfl ?_
      refine mt_get (pc := 17) gf_X10_19 dX10_richest_17 (by first | assumption | omega) (by repeat (first | exact hset_eq _ _ _ | assumption | rw [hset_ne (by first | assumption | decide | omega)])) rfl ?_
      refine mt_get (pc := 20) gf_X10_141 dX10_richest_20 (by first | assumption | omega) (by repeat (first | exact hset_eq _ _ _ | assumption | rw [hset_ne (by first | assumption | decide | omega)])) rfl ?_
      refine mt_icmp_ge (pc := 23) (tgt := 64) dX10_richest_23 (by decide) (fun c23 => ?_) (fun c23 => ?_)
      · skip
        refine mt_iload_n (pc := 64) dX10_richest_64 rfl ?_
        refine mt_if_ne (pc := 65) (tgt := 72) dX10_richest_65 (by decide) (fun c65 => ?_) (fun c65 => ?_)
        · skip
          replace er := er.trans (congrArg Sum.inr (if_neg c65))
          refine mt_iload_n (pc := 72) dX10_richest_72 rfl ?_
          exact mt_iret rfl dX10_richest_73 (Nat.le_of_ble_eq_true rfl) (Nat.le_of_ble_eq_true rfl) (P_qv (ic := ic) (rs := rs) (ne := ne) (ia := ia) er hQ.fq)
        · skip
          replace er := er.trans (congrArg Sum.inr (if_pos c65))
          refine mt_iload_n (pc := 68) dX10_richest_68 rfl ?_
          refine mt_goto (pc := 69) (tgt := 73) dX10_richest_69 (by decide) ?_
          exact mt_iret rfl dX10_richest_73 (Nat.le_of_ble_eq_true rfl) (Nat.le_of_ble_eq_true rfl) (P_qv (ic := ic) (rs := rs) (ne := ne) (ia := ia) er hQ.fq)
      · exact absurd (nI_le (Nat.le_refl _) (by omega)) c23
theorem c_poorest {x : Int32} (hl : l.stackTraces = false) (hd : 10 ≤ d) (hx : 188 ≤ nx) (hQ : QW h ic rs ne ia k cs bk pg) : mm_Con G l yX10_poorest cX10_poorest 6 (some .int) d 8 48 [.ref 0, .int x] nx h (P_q (ifR x 0 1 (.inr (if x = 0 then (poorF pg.2.1 k.2.1).1 else (poorF pg.2.1 k.2.1).2))) ic rs ne ia nx h) := by
  obtain ⟨h0, hC, hA, hLW, hB, h33, hP, ⟨⟨n, hw⟩, hcn⟩, -⟩ := id hQ
  obtain rfl : n = nlo pg.2.1 := (nlo_eq hw).symm
  have c0 := hC.1
  have hk1 : k.1 ≤ 8 := hC.2.2.2.2.2.2.1
  have hk2 : k.2.1 ≤ 6 := hC.2.2.2.2.2.2.2
  obtain ⟨p1, p2, p3, -⟩ := id hP
  have hn := hw.2.1
  refine mm_start (lo := [some (.ref 0), some (.int x), none, none, none, none]) pn_X10 rfl rfl (Nat.le_of_ble_eq_true rfl) ?_
  refine mt_aload_n (pc := 0) dX10_poorest_0 rfl ?_
  refine mt_iload_n (pc := 1) dX10_poorest_1 rfl ?_
  refine mt_iconst (pc := 2) (v := 0) dX10_poorest_2 (by decide) ?_
  refine mt_iconst (pc := 3) (v := 1) dX10_poorest_3 (by decide) ?_
  refine mt_aV (pc := 4) (c_needRange (d := 7) hl (Nat.le_refl 7) (by omega) h0) cal_X10_needRange vir_X10_needRange ml_X10_266 dX10_poorest_4 (by first | assumption | omega) (by repeat (first | exact hset_eq _ _ _ | assumption | rw [hset_ne (by first | assumption | decide | omega)])) (by first | assumption | (show _ ≤ d; omega)) ⟨(Nat.le_of_ble_eq_true rfl), (Nat.le_of_ble_eq_true rfl)⟩ rfl rfl (Nat.le_of_ble_eq_true rfl) ?_ ?_
  · rintro x9 n9 k9 h9
    obtain ⟨rfl, rfl, hno, rfl⟩ := h9
    exact P_qx (if_neg hno)
  · rintro v9 n9 k9 ⟨rfl, rfl, hok, rfl⟩
    have er : ifR x 0 1 (.inr (if x = 0 then (poorF pg.2.1 k.2.1).1 else (poorF pg.2.1 k.2.1).2)) = .inr (if x = 0 then (poorF pg.2.1 k.2.1).1 else (poorF pg.2.1 k.2.1).2) := if_pos hok
    refine ⟨rfl, ?_⟩
    refine mt_iconst (pc := 7) (v := (-1)) dX10_poorest_7 (by decide) ?_
    refine mt_istore_n (pc := 8) dX10_poorest_8 (Nat.le_of_ble_eq_true rfl) rfl ?_
    refine mt_iconst (pc := 9) (v := (-1)) dX10_poorest_9 (by decide) ?_
    refine mt_istore_n (pc := 10) dX10_poorest_10 (Nat.le_of_ble_eq_true rfl) rfl ?_
    refine mt_iconst (pc := 11) (v := 0) dX10_poorest_11 (by decide) ?_
    refine mt_istore (pc := 12) dX10_poorest_12 (Nat.le_of_ble_eq_true rfl) rfl ?_
    refine mt_for (pc := 14) (H := fun i => h) (L := fun i => [some (.ref 0), some (.int x), some (.int ((poorF pg.2.1 i).1)), some (.int ((poorF pg.2.1 i).2)), some (.int (nI i)), none]) (k.2.1) (fun i hi ni => ?_) ?_
    · skip
      have e1 : poorF pg.2.1 (i + 1) = if (poorF pg.2.1 i).1 = -1 ∨ pg.2.1 (18 + i) < (poorF pg.2.1 i).2 then (nI i, pg.2.1 (18 + i)) else poorF pg.2.1 i := rfl
      refine mt_iload (pc := 14) dX10_poorest_14 rfl ?_
      refine mt_aload_n (pc := 16) dX10_poorest_16 rfl ?_
      refine mt_get (pc := 17) gf_X10_19 dX10_poorest_17 (by first | assumption | omega) (by repeat (first | exact hset_eq _ _ _ | assumption | rw [hset_ne (by first | assumption | decide | omega)])) rfl ?_
      refine mt_get (pc := 20) gf_X10_173 dX10_poorest_20 (by first | assumption | omega) (by repeat (first | exact hset_eq _ _ _ | assumption | rw [hset_ne (by first | assumption | decide | omega)])) rfl ?_
      refine mt_icmp_ge (pc := 23) (tgt := 63) dX10_poorest_23 (by decide) (fun c23 => ?_) (fun c23 => ?_)
      · exact absurd c23 (nI_ge hi (by omega))
      · skip
        refine mt_aload_n (pc := 26) dX10_poorest_26 rfl ?_
        refine mt_get (pc := 27) gf_X10_65 dX10_poorest_27 (by first | assumption | omega) (by repeat (first | exact hset_eq _ _ _ | assumption | rw [hset_ne (by first | assumption | decide | omega)])) rfl ?_
        refine mt_get (pc := 30) gf_X10_157 dX10_poorest_30 (by first | assumption | omega) (by repeat (first | exact hset_eq _ _ _ | assumption | rw [hset_ne (by first | assumption | decide | omega)])) rfl ?_
        refine mt_iload (pc := 33) dX10_poorest_33 rfl ?_
        refine mt_cV (pc := 35) (c_purse (d := 1) (p := i) (Nat.le_refl 1) (by omega) (by omega) (by omega) p2 p3) cal_X6_purse vir_X6_purse ml_X10_254 dX10_poorest_35 (by first | assumption | omega) (by repeat (first | exact hset_eq _ _ _ | assumption | rw [hset_ne (by first | assumption | decide | omega)])) (by first | assumption | (show _ ≤ d; omega)) ⟨(Nat.le_of_ble_eq_true rfl), (Nat.le_of_ble_eq_true rfl)⟩ rfl rfl (Nat.le_of_ble_eq_true rfl) ?_
        refine mt_istore (pc := 38) dX10_poorest_38 (Nat.le_of_ble_eq_true rfl) rfl ?_
        refine mt_iload_n (pc := 40) dX10_poorest_40 rfl ?_
        refine mt_iconst (pc := 41) (v := (-1)) dX10_poorest_41 (by decide) ?_
        refine mt_icmp_eq (pc := 42) (tgt := 51) dX10_poorest_42 (by decide) (fun c42 => ?_) (fun c42 => ?_)
        · skip
          rw [if_pos (Or.inl c42)] at e1
          refine mt_iload (pc := 51) dX10_poorest_51 rfl ?_
          refine mt_istore_n (pc := 53) dX10_poorest_53 (Nat.le_of_ble_eq_true rfl) rfl ?_
          refine mt_iload (pc := 54) dX10_poorest_54 rfl ?_
          refine mt_istore_n (pc := 56) dX10_poorest_56 (Nat.le_of_ble_eq_true rfl) rfl ?_
          refine mt_iinc (pc := 57) (c9 := 1) dX10_poorest_57 rfl (by decide) (Nat.le_of_ble_eq_true rfl) rfl ?_
          refine mt_goto (pc := 60) (tgt := 14) dX10_poorest_60 (by decide) ?_
          rw [e1] at ni
          rw [show (nI i + 1 : Int32) = nI (i + 1) from nI_1 i]
          first
            | exact ni
            | exact mt_fg (by repeat (first | exact trivial | refine ⟨rfl, ?_⟩ | rfl)) ni
        · skip
          refine mt_iload (pc := 45) dX10_poorest_45 rfl ?_
          refine mt_iload_n (pc := 47) dX10_poorest_47 rfl ?_
          refine mt_icmp_ge (pc := 48) (tgt := 57) dX10_poorest_48 (by decide) (fun c48 => ?_) (fun c48 => ?_)
          · skip
            rw [if_neg (fun z => z.elim c42 (Int32.not_lt.mpr c48))] at e1
            refine mt_iinc (pc := 57) (c9 := 1) dX10_poorest_57 rfl (by decide) (Nat.le_of_ble_eq_true rfl) rfl ?_
            refine mt_goto (pc := 60) (tgt := 14) dX10_poorest_60 (by decide) ?_
            rw [e1] at ni
            rw [show (nI i + 1 : Int32) = nI (i + 1) from nI_1 i]
            first
              | exact ni
              | exact mt_fg (by repeat (first | exact trivial | refine ⟨rfl, ?_⟩ | rfl)) ni
          · skip
            rw [if_pos (Or.inr (Int32.not_le.mp c48))] at e1
            refine mt_iload (pc := 51) dX10_poorest_51 rfl ?_
            refine mt_istore_n (pc := 53) dX10_poorest_53 (Nat.le_of_ble_eq_true rfl) rfl ?_
            refine mt_iload (pc := 54) dX10_poorest_54 rfl ?_
            refine mt_istore_n (pc := 56) dX10_poorest_56 (Nat.le_of_ble_eq_true rfl) rfl ?_
            refine mt_iinc (pc := 57) (c9 := 1) dX10_poorest_57 rfl (by decide) (Nat.le_of_ble_eq_true rfl) rfl ?_
            refine mt_goto (pc := 60) (tgt := 14) dX10_poorest_60 (by decide) ?_
            rw [e1] at ni
            rw [show (nI i + 1 : Int32) = nI (i + 1) from nI_1 i]
            first
              | exact ni
              | exact mt_fg (by repeat (first | exact trivial | refine ⟨rfl, ?_⟩ | rfl)) ni
    · skip
      refine mt_iload (pc := 14) dX10_poorest_14 rfl ?_
      refine mt_aload_n (pc := 16) dX10_poorest_16 rfl ?_
      refine mt_get (pc := 17) gf_X10_19 dX10_poorest_17 (by first | assumption | omega) (by repeat (first | exact hset_eq _ _ _ | assumption | rw [hset_ne (by first | assumption | decide | omega)])) rfl ?_
      refine mt_get (pc := 20) gf_X10_173 dX10_poorest_20 (by first | assumption | omega) (by repeat (first | exact hset_eq _ _ _ | assumption | rw [hset_ne (by first | assumption | decide | omega)])) rfl ?_
      refine mt_icmp_ge (pc := 23) (tgt := 63) dX10_poorest_23 (by decide) (fun c23 => ?_) (fun c23 => ?_)
      · skip
        refine mt_iload_n (pc := 63) dX10_poorest_63 rfl ?_
        refine mt_if_ne (pc := 64) (tgt := 71) dX10_poorest_64 (by decide) (fun c64 => ?_) (fun c64 => ?_)
        · skip
          replace er := er.trans (congrArg Sum.inr (if_neg c64))
          refine mt_iload_n (pc := 71) dX10_poorest_71 rfl ?_
          exact mt_iret rfl dX10_poorest_72 (Nat.le_of_ble_eq_true rfl) (Nat.le_of_ble_eq_true rfl) (P_qv (ic := ic) (rs := rs) (ne := ne) (ia := ia) er hQ.fq)
        · skip
          replace er := er.trans (congrArg Sum.inr (if_pos c64))
          refine mt_iload_n (pc := 67) dX10_poorest_67 rfl ?_
          refine mt_goto (pc := 68) (tgt := 72) dX10_poorest_68 (by decide) ?_
          exact mt_iret rfl dX10_poorest_72 (Nat.le_of_ble_eq_true rfl) (Nat.le_of_ble_eq_true rfl) (P_qv (ic := ic) (rs := rs) (ne := ne) (ia := ia) er hQ.fq)
      · exact absurd (nI_le (Nat.le_refl _) (by omega)) c23
theorem c_next {x : Int32} (hl : l.stackTraces = false) (hd : 10 ≤ d) (hx : 188 ≤ nx) (hQ : QW h ic rs ne ia k cs bk pg) : mm_Con G l yX10_next cX10_next 7 (some .int) d 8 48 [.ref 0, .int x] nx h (P_q (ifR x 0 1 (.inr (if x = 0 then (nextF pg.2.1 (nlo pg.2.1)).1 else (nextF pg.2.1 (nlo pg.2.1)).2))) ic rs ne ia nx h) := by
  obtain ⟨h0, hC, hA, hLW, hB, h33, hP, ⟨⟨n, hw⟩, hcn⟩, -⟩ := id hQ
  obtain rfl : n = nlo pg.2.1 := (nlo_eq hw).symm
  have c0 := hC.1
  have hk1 : k.1 ≤ 8 := hC.2.2.2.2.2.2.1
  have hk2 : k.2.1 ≤ 6 := hC.2.2.2.2.2.2.2
  obtain ⟨p1, p2, p3, -⟩ := id hP
  have hn := hw.2.1
  refine mm_start (lo := [some (.ref 0), some (.int x), none, none, none, none, none]) pn_X10 rfl rfl (Nat.le_of_ble_eq_true rfl) ?_
  refine mt_aload_n (pc := 0) dX10_next_0 rfl ?_
  refine mt_iload_n (pc := 1) dX10_next_1 rfl ?_
  refine mt_iconst (pc := 2) (v := 0) dX10_next_2 (by decide) ?_
  refine mt_iconst (pc := 3) (v := 1) dX10_next_3 (by decide) ?_
  refine mt_aV (pc := 4) (c_needRange (d := 7) hl (Nat.le_refl 7) (by omega) h0) cal_X10_needRange vir_X10_needRange ml_X10_266 dX10_next_4 (by first | assumption | omega) (by repeat (first | exact hset_eq _ _ _ | assumption | rw [hset_ne (by first | assumption | decide | omega)])) (by first | assumption | (show _ ≤ d; omega)) ⟨(Nat.le_of_ble_eq_true rfl), (Nat.le_of_ble_eq_true rfl)⟩ rfl rfl (Nat.le_of_ble_eq_true rfl) ?_ ?_
  · rintro x9 n9 k9 h9
    obtain ⟨rfl, rfl, hno, rfl⟩ := h9
    exact P_qx (if_neg hno)
  · rintro v9 n9 k9 ⟨rfl, rfl, hok, rfl⟩
    have er : ifR x 0 1 (.inr (if x = 0 then (nextF pg.2.1 (nlo pg.2.1)).1 else (nextF pg.2.1 (nlo pg.2.1)).2)) = .inr (if x = 0 then (nextF pg.2.1 (nlo pg.2.1)).1 else (nextF pg.2.1 (nlo pg.2.1)).2) := if_pos hok
    refine ⟨rfl, ?_⟩
    refine mt_aload_n (pc := 7) dX10_next_7 rfl ?_
    refine mt_get (pc := 8) gf_X10_65 dX10_next_8 (by first | assumption | omega) (by repeat (first | exact hset_eq _ _ _ | assumption | rw [hset_ne (by first | assumption | decide | omega)])) rfl ?_
    refine mt_get (pc := 11) gf_X10_157 dX10_next_11 (by first | assumption | omega) (by repeat (first | exact hset_eq _ _ _ | assumption | rw [hset_ne (by first | assumption | decide | omega)])) rfl ?_
    refine mt_astore_n (pc := 14) dX10_next_14 (Nat.le_of_ble_eq_true rfl) rfl ?_
    refine mt_iconst (pc := 15) (v := (-1)) dX10_next_15 (by decide) ?_
    refine mt_istore_n (pc := 16) dX10_next_16 (Nat.le_of_ble_eq_true rfl) rfl ?_
    refine mt_iconst (pc := 17) (v := (-1)) dX10_next_17 (by decide) ?_
    refine mt_istore (pc := 18) dX10_next_18 (Nat.le_of_ble_eq_true rfl) rfl ?_
    refine mt_iconst (pc := 20) (v := 0) dX10_next_20 (by decide) ?_
    refine mt_istore (pc := 21) dX10_next_21 (Nat.le_of_ble_eq_true rfl) rfl ?_
    refine mt_for (pc := 23) (H := fun i => h) (L := fun i => [some (.ref 0), some (.int x), some (.ref 35), some (.int ((nextF pg.2.1 i).1)), some (.int ((nextF pg.2.1 i).2)), some (.int (nI i)), none]) (nlo pg.2.1) (fun i hi ni => ?_) ?_
    · skip
      have e1 : nextF pg.2.1 (i + 1) = if pg.2.1 (24 + 6 * i + 5) = 1 then nextF pg.2.1 i else if (nextF pg.2.1 i).1 = -1 ∨ pg.2.1 (24 + 6 * i + 4) - pg.2.1 0 < (nextF pg.2.1 i).2 then (nI i, pg.2.1 (24 + 6 * i + 4) - pg.2.1 0) else nextF pg.2.1 i := rfl
      refine mt_iload (pc := 23) dX10_next_23 rfl ?_
      refine mt_aload_n (pc := 25) dX10_next_25 rfl ?_
      refine mt_cV (pc := 26) (c_loans (d := 1) (by omega) (by omega) p2 p3) cal_X6_loans vir_X6_loans ml_X10_192 dX10_next_26 (by first | assumption | omega) (by repeat (first | exact hset_eq _ _ _ | assumption | rw [hset_ne (by first | assumption | decide | omega)])) (by first | assumption | (show _ ≤ d; omega)) ⟨(Nat.le_of_ble_eq_true rfl), (Nat.le_of_ble_eq_true rfl)⟩ rfl rfl (Nat.le_of_ble_eq_true rfl) ?_
      rw [hw.1]
      refine mt_icmp_ge (pc := 29) (tgt := 80) dX10_next_29 (by decide) (fun c29 => ?_) (fun c29 => ?_)
      · exact absurd c29 (nI_ge hi (by omega))
      · skip
        refine mt_aload_n (pc := 32) dX10_next_32 rfl ?_
        refine mt_iload (pc := 33) dX10_next_33 rfl ?_
        refine mt_iconst (pc := 35) (v := 4) dX10_next_35 (by decide) ?_
        refine mt_cV (pc := 36) (c_ofLoan (d := 1) (i := i) (k := 4) (Nat.le_refl 1) (by omega) (by decide) (by omega) (by omega) p2 p3) cal_X6_ofLoan vir_X6_ofLoan ml_X10_273 dX10_next_36 (by first | assumption | omega) (by repeat (first | exact hset_eq _ _ _ | assumption | rw [hset_ne (by first | assumption | decide | omega)])) (by first | assumption | (show _ ≤ d; omega)) ⟨(Nat.le_of_ble_eq_true rfl), (Nat.le_of_ble_eq_true rfl)⟩ rfl rfl (Nat.le_of_ble_eq_true rfl) ?_
        refine mt_aload_n (pc := 39) dX10_next_39 rfl ?_
        refine mt_cV (pc := 40) (c_night (d := 1) (by omega) (by omega) p2 p3) cal_X6_night vir_X6_night ml_X10_195 dX10_next_40 (by first | assumption | omega) (by repeat (first | exact hset_eq _ _ _ | assumption | rw [hset_ne (by first | assumption | decide | omega)])) (by first | assumption | (show _ ≤ d; omega)) ⟨(Nat.le_of_ble_eq_true rfl), (Nat.le_of_ble_eq_true rfl)⟩ rfl rfl (Nat.le_of_ble_eq_true rfl) ?_
        refine mt_isub (pc := 43) dX10_next_43 ?_
        refine mt_istore (pc := 44) dX10_next_44 (Nat.le_of_ble_eq_true rfl) rfl ?_
        refine mt_aload_n (pc := 46) dX10_next_46 rfl ?_
        refine mt_iload (pc := 47) dX10_next_47 rfl ?_
        refine mt_cV (pc := 49) (c_isOverdue (d := 2) (i := i) (Nat.le_refl 2) (by omega) (by omega) (by omega) p2 p3) cal_X6_isOverdue vir_X6_isOverdue ml_X10_347 dX10_next_49 (by first | assumption | omega) (by repeat (first | exact hset_eq _ _ _ | assumption | rw [hset_ne (by first | assumption | decide | omega)])) (by first | assumption | (show _ ≤ d; omega)) ⟨(Nat.le_of_ble_eq_true rfl), (Nat.le_of_ble_eq_true rfl)⟩ rfl rfl (Nat.le_of_ble_eq_true rfl) ?_
        refine mt_if_ne (pc := 52) (tgt := 74) dX10_next_52 (by decide) (fun c52 => ?_) (fun c52 => ?_)
        · skip
          rw [if_pos (Classical.not_not.mp fun z => c52 (if_neg z))] at e1
          refine mt_iinc (pc := 74) (c9 := 1) dX10_next_74 rfl (by decide) (Nat.le_of_ble_eq_true rfl) rfl ?_
          refine mt_goto (pc := 77) (tgt := 23) dX10_next_77 (by decide) ?_
          rw [e1] at ni
          rw [show (nI i + 1 : Int32) = nI (i + 1) from nI_1 i]
          first
            | exact ni
            | exact mt_fg (by repeat (first | exact trivial | refine ⟨rfl, ?_⟩ | rfl)) ni
        · skip
          rw [if_neg (fun z => by rw [if_pos z] at c52; exact absurd c52 (by decide))] at e1
          refine mt_iload_n (pc := 55) dX10_next_55 rfl ?_
          refine mt_iconst (pc := 56) (v := (-1)) dX10_next_56 (by decide) ?_
          refine mt_icmp_eq (pc := 57) (tgt := 67) dX10_next_57 (by decide) (fun c57 => ?_) (fun c57 => ?_)
          · skip
            rw [if_pos (Or.inl c57)] at e1
            refine mt_iload (pc := 67) dX10_next_67 rfl ?_
            refine mt_istore_n (pc := 69) dX10_next_69 (Nat.le_of_ble_eq_true rfl) rfl ?_
            refine mt_iload (pc := 70) dX10_next_70 rfl ?_
            refine mt_istore (pc := 72) dX10_next_72 (Nat.le_of_ble_eq_true rfl) rfl ?_
            refine mt_iinc (pc := 74) (c9 := 1) dX10_next_74 rfl (by decide) (Nat.le_of_ble_eq_true rfl) rfl ?_
            refine mt_goto (pc := 77) (tgt := 23) dX10_next_77 (by decide) ?_
            rw [e1] at ni
            rw [show (nI i + 1 : Int32) = nI (i + 1) from nI_1 i]
            first
              | exact ni
              | exact mt_fg (by repeat (first | exact trivial | refine ⟨rfl, ?_⟩ | rfl)) ni
          · skip
            refine mt_iload (pc := 60) dX10_next_60 rfl ?_
            refine mt_iload (pc := 62) dX10_next_62 rfl ?_
            refine mt_icmp_ge (pc := 64) (tgt := 74) dX10_next_64 (by decide) (fun c64 => ?_) (fun c64 => ?_)
            · skip
              rw [if_neg (fun z => z.elim c57 (Int32.not_lt.mpr c64))] at e1
              refine mt_iinc (pc := 74) (c9 := 1) dX10_next_74 rfl (by decide) (Nat.le_of_ble_eq_true rfl) rfl ?_
              refine mt_goto (pc := 77) (tgt := 23) dX10_next_77 (by decide) ?_
              rw [e1] at ni
              rw [show (nI i + 1 : Int32) = nI (i + 1) from nI_1 i]
              first
                | exact ni
                | exact mt_fg (by repeat (first | exact trivial | refine ⟨rfl, ?_⟩ | rfl)) ni
            · skip
              rw [if_pos (Or.inr (Int32.not_le.mp c64))] at e1
              refine mt_iload (pc := 67) dX10_next_67 rfl ?_
              refine mt_istore_n (pc := 69) dX10_next_69 (Nat.le_of_ble_eq_true rfl) rfl ?_
              refine mt_iload (pc := 70) dX10_next_70 rfl ?_
              refine mt_istore (pc := 72) dX10_next_72 (Nat.le_of_ble_eq_true rfl) rfl ?_
              refine mt_iinc (pc := 74) (c9 := 1) dX10_next_74 rfl (by decide) (Nat.le_of_ble_eq_true rfl) rfl ?_
              refine mt_goto (pc := 77) (tgt := 23) dX10_next_77 (by decide) ?_
              rw [e1] at ni
              rw [show (nI i + 1 : Int32) = nI (i + 1) from nI_1 i]
              first
                | exact ni
                | exact mt_fg (by repeat (first | exact trivial | refine ⟨rfl, ?_⟩ | rfl)) ni
    · skip
      refine mt_iload (pc := 23) dX10_next_23 rfl ?_
      refine mt_aload_n (pc := 25) dX10_next_25 rfl ?_
      refine mt_cV (pc := 26) (c_loans (d := 1) (by omega) (by omega) p2 p3) cal_X6_loans vir_X6_loans ml_X10_192 dX10_next_26 (by first | assumption | omega) (by repeat (first | exact hset_eq _ _ _ | assumption | rw [hset_ne (by first | assumption | decide | omega)])) (by first | assumption | (show _ ≤ d; omega)) ⟨(Nat.le_of_ble_eq_true rfl), (Nat.le_of_ble_eq_true rfl)⟩ rfl rfl (Nat.le_of_ble_eq_true rfl) ?_
      rw [hw.1]
      refine mt_icmp_ge (pc := 29) (tgt := 80) dX10_next_29 (by decide) (fun c29 => ?_) (fun c29 => ?_)
      · skip
        refine mt_iload_n (pc := 80) dX10_next_80 rfl ?_
        refine mt_if_ne (pc := 81) (tgt := 88) dX10_next_81 (by decide) (fun c81 => ?_) (fun c81 => ?_)
        · skip
          replace er := er.trans (congrArg Sum.inr (if_neg c81))
          refine mt_iload (pc := 88) dX10_next_88 rfl ?_
          exact mt_iret rfl dX10_next_90 (Nat.le_of_ble_eq_true rfl) (Nat.le_of_ble_eq_true rfl) (P_qv (ic := ic) (rs := rs) (ne := ne) (ia := ia) er hQ.fq)
        · skip
          replace er := er.trans (congrArg Sum.inr (if_pos c81))
          refine mt_iload_n (pc := 84) dX10_next_84 rfl ?_
          refine mt_goto (pc := 85) (tgt := 90) dX10_next_85 (by decide) ?_
          exact mt_iret rfl dX10_next_90 (Nat.le_of_ble_eq_true rfl) (Nat.le_of_ble_eq_true rfl) (P_qv (ic := ic) (rs := rs) (ne := ne) (ia := ia) er hQ.fq)
      · exact absurd (nI_le (Nat.le_refl _) (by omega)) c29
theorem c_isLentByAny {a : Nat} (hd : 4 ≤ d) (hx : 188 ≤ nx) (ha : a < 6) (hQ : QW h ic rs ne ia k cs bk pg) : mm_Con G l yX10_isLentByAny cX10_isLentByAny 3 (some .boolean) d 0 0 [.ref 0, .int (nI a)] nx h (mm_ret (some (.int (if anyL k pg.2.1 a k.1 = true then 1 else 0))) nx h) := by
  obtain ⟨h0, hC, hA, hLW, hB, h33, hP, ⟨⟨n, hw⟩, hcn⟩, -⟩ := id hQ
  obtain rfl : n = nlo pg.2.1 := (nlo_eq hw).symm
  have c0 := hC.1
  have hk1 : k.1 ≤ 8 := hC.2.2.2.2.2.2.1
  have hk2 : k.2.1 ≤ 6 := hC.2.2.2.2.2.2.2
  obtain ⟨p1, p2, p3, -⟩ := id hP
  have hn := hw.2.1
  refine mm_start (lo := [some (.ref 0), some (.int (nI a)), none]) pn_X10 rfl rfl (Nat.le_of_ble_eq_true rfl) ?_
  refine mt_iconst (pc := 0) (v := 0) dX10_isLentByAny_0 (by decide) ?_
  refine mt_istore_n (pc := 1) dX10_isLentByAny_1 (Nat.le_of_ble_eq_true rfl) rfl ?_
  refine mt_forE (pc := 2) (α := Unit) (H := fun i (u : Unit) => h) (L := fun i (u : Unit) => [some (.ref 0), some (.int (nI a)), some (.int (nI i))]) (I := fun i (u : Unit) => anyL k pg.2.1 a i = false) (k.1) (fun i u hi fi ni => ?_) (fun u fi => ?_) (()) rfl
  · skip
    refine mt_iload_n (pc := 2) dX10_isLentByAny_2 rfl ?_
    refine mt_aload_n (pc := 3) dX10_isLentByAny_3 rfl ?_
    refine mt_get (pc := 4) gf_X10_19 dX10_isLentByAny_4 (by first | assumption | omega) (by repeat (first | exact hset_eq _ _ _ | assumption | rw [hset_ne (by first | assumption | decide | omega)])) rfl ?_
    refine mt_get (pc := 7) gf_X10_141 dX10_isLentByAny_7 (by first | assumption | omega) (by repeat (first | exact hset_eq _ _ _ | assumption | rw [hset_ne (by first | assumption | decide | omega)])) rfl ?_
    refine mt_icmp_ge (pc := 10) (tgt := 41) dX10_isLentByAny_10 (by decide) (fun c10 => ?_) (fun c10 => ?_)
    · exact absurd c10 (nI_ge hi (by omega))
    · skip
      refine mt_aload_n (pc := 13) dX10_isLentByAny_13 rfl ?_
      refine mt_get (pc := 14) gf_X10_58 dX10_isLentByAny_14 (by first | assumption | omega) (by repeat (first | exact hset_eq _ _ _ | assumption | rw [hset_ne (by first | assumption | decide | omega)])) rfl ?_
      refine mt_aload_n (pc := 17) dX10_isLentByAny_17 rfl ?_
      refine mt_get (pc := 18) gf_X10_65 dX10_isLentByAny_18 (by first | assumption | omega) (by repeat (first | exact hset_eq _ _ _ | assumption | rw [hset_ne (by first | assumption | decide | omega)])) rfl ?_
      refine mt_get (pc := 21) gf_X10_157 dX10_isLentByAny_21 (by first | assumption | omega) (by repeat (first | exact hset_eq _ _ _ | assumption | rw [hset_ne (by first | assumption | decide | omega)])) rfl ?_
      refine mt_iload_n (pc := 24) dX10_isLentByAny_24 rfl ?_
      refine mt_iload_n (pc := 25) dX10_isLentByAny_25 rfl ?_
      refine mt_iconst (pc := 26) (v := 1) dX10_isLentByAny_26 (by decide) ?_
      refine mt_cV (pc := 27) (c_wouldLend (d := 3) (a := a) (p := i) (Nat.le_refl 3) (by omega) ha (by omega) hC h33 (by omega) (by omega) p2 p3) cal_X4_wouldLend vir_X4_wouldLend ml_X10_285 dX10_isLentByAny_27 (by first | assumption | omega) (by repeat (first | exact hset_eq _ _ _ | assumption | rw [hset_ne (by first | assumption | decide | omega)])) (by first | assumption | (show _ ≤ d; omega)) ⟨(Nat.le_of_ble_eq_true rfl), (Nat.le_of_ble_eq_true rfl)⟩ rfl rfl (Nat.le_of_ble_eq_true rfl) ?_
      refine mt_if_eq (pc := 30) (tgt := 35) dX10_isLentByAny_30 (by decide) (fun c30 => ?_) (fun c30 => ?_)
      · skip
        have hq : ¬ clC k pg.2.1 a i 1 := fun z => by rw [if_pos z] at c30; exact absurd c30 (by decide)
        refine mt_iinc (pc := 35) (c9 := 1) dX10_isLentByAny_35 rfl (by decide) (Nat.le_of_ble_eq_true rfl) rfl ?_
        refine mt_goto (pc := 38) (tgt := 2) dX10_isLentByAny_38 (by decide) ?_
        rw [show (nI i + 1 : Int32) = nI (i + 1) from nI_1 i]
        exact ni () (by show (anyL k pg.2.1 a i || decide (clC k pg.2.1 a i 1)) = false; rw [fi, decide_eq_false hq]; rfl)
      · skip
        have hq : clC k pg.2.1 a i 1 := Classical.not_not.mp fun z => c30 (if_neg z)
        refine mt_iconst (pc := 33) (v := 1) dX10_isLentByAny_33 (by decide) ?_
        exact mt_zret rfl (by first | exact Or.inl rfl | exact Or.inr rfl) dX10_isLentByAny_34 (Nat.le_of_ble_eq_true rfl) (Nat.le_of_ble_eq_true rfl) ⟨by rw [if_pos (show anyL k pg.2.1 a k.1 = true from anyB_t (P := fun p => decide (clC k pg.2.1 a p 1)) hi (decide_eq_true hq))], rfl, rfl⟩
  · skip
    refine mt_iload_n (pc := 2) dX10_isLentByAny_2 rfl ?_
    refine mt_aload_n (pc := 3) dX10_isLentByAny_3 rfl ?_
    refine mt_get (pc := 4) gf_X10_19 dX10_isLentByAny_4 (by first | assumption | omega) (by repeat (first | exact hset_eq _ _ _ | assumption | rw [hset_ne (by first | assumption | decide | omega)])) rfl ?_
    refine mt_get (pc := 7) gf_X10_141 dX10_isLentByAny_7 (by first | assumption | omega) (by repeat (first | exact hset_eq _ _ _ | assumption | rw [hset_ne (by first | assumption | decide | omega)])) rfl ?_
    refine mt_icmp_ge (pc := 10) (tgt := 41) dX10_isLentByAny_10 (by decide) (fun c10 => ?_) (fun c10 => ?_)
    · skip
      refine mt_iconst (pc := 41) (v := 0) dX10_isLentByAny_41 (by decide) ?_
      exact mt_zret rfl (by first | exact Or.inl rfl | exact Or.inr rfl) dX10_isLentByAny_42 (Nat.le_of_ble_eq_true rfl) (Nat.le_of_ble_eq_true rfl) ⟨by rw [if_neg (by rw [fi]; decide)], rfl, rfl⟩
    · exact absurd (nI_le (Nat.le_refl _) (by omega)) c10
theorem c_shut (hd : 10 ≤ d) (hx : 188 ≤ nx) (hQ : QW h ic rs ne ia k cs bk pg) : mm_Con G l yX10_shut cX10_shut 3 (some .int) d 0 0 [.ref 0] nx h (mm_ret (some (.int (shutF k pg.2.1 k.2.1))) nx h) := by
  obtain ⟨h0, hC, hA, hLW, hB, h33, hP, ⟨⟨n, hw⟩, hcn⟩, -⟩ := id hQ
  obtain rfl : n = nlo pg.2.1 := (nlo_eq hw).symm
  have c0 := hC.1
  have hk1 : k.1 ≤ 8 := hC.2.2.2.2.2.2.1
  have hk2 : k.2.1 ≤ 6 := hC.2.2.2.2.2.2.2
  obtain ⟨p1, p2, p3, -⟩ := id hP
  have hn := hw.2.1
  refine mm_start (lo := [some (.ref 0), none, none]) pn_X10 rfl rfl (Nat.le_of_ble_eq_true rfl) ?_
  refine mt_iconst (pc := 0) (v := 0) dX10_shut_0 (by decide) ?_
  refine mt_istore_n (pc := 1) dX10_shut_1 (Nat.le_of_ble_eq_true rfl) rfl ?_
  refine mt_iconst (pc := 2) (v := 0) dX10_shut_2 (by decide) ?_
  refine mt_istore_n (pc := 3) dX10_shut_3 (Nat.le_of_ble_eq_true rfl) rfl ?_
  refine mt_for (pc := 4) (H := fun i => h) (L := fun i => [some (.ref 0), some (.int (shutF k pg.2.1 i)), some (.int (nI i))]) (k.2.1) (fun i hi ni => ?_) ?_
  · skip
    have e1 : shutF k pg.2.1 (i + 1) = if anyL k pg.2.1 i k.1 = true then shutF k pg.2.1 i else shutF k pg.2.1 i ||| ((1 : Int32) <<< (nI i &&& 31)) := rfl
    refine mt_iload_n (pc := 4) dX10_shut_4 rfl ?_
    refine mt_aload_n (pc := 5) dX10_shut_5 rfl ?_
    refine mt_get (pc := 6) gf_X10_19 dX10_shut_6 (by first | assumption | omega) (by repeat (first | exact hset_eq _ _ _ | assumption | rw [hset_ne (by first | assumption | decide | omega)])) rfl ?_
    refine mt_get (pc := 9) gf_X10_173 dX10_shut_9 (by first | assumption | omega) (by repeat (first | exact hset_eq _ _ _ | assumption | rw [hset_ne (by first | assumption | decide | omega)])) rfl ?_
    refine mt_icmp_ge (pc := 12) (tgt := 35) dX10_shut_12 (by decide) (fun c12 => ?_) (fun c12 => ?_)
    · exact absurd c12 (nI_ge hi (by omega))
    · skip
      refine mt_aload_n (pc := 15) dX10_shut_15 rfl ?_
      refine mt_iload_n (pc := 16) dX10_shut_16 rfl ?_
      refine mt_cV (pc := 17) (c_isLentByAny (d := 4) (a := i) (Nat.le_refl 4) hx (by omega) hQ) cal_X10_isLentByAny vir_X10_isLentByAny ml_X10_350 dX10_shut_17 (by first | assumption | omega) (by repeat (first | exact hset_eq _ _ _ | assumption | rw [hset_ne (by first | assumption | decide | omega)])) (by first | assumption | (show _ ≤ d; omega)) ⟨(Nat.le_of_ble_eq_true rfl), (Nat.le_of_ble_eq_true rfl)⟩ rfl rfl (Nat.le_of_ble_eq_true rfl) ?_
      refine mt_if_ne (pc := 20) (tgt := 29) dX10_shut_20 (by decide) (fun c20 => ?_) (fun c20 => ?_)
      · skip
        rw [if_pos (Classical.not_not.mp fun z => c20 (if_neg z))] at e1
        refine mt_iinc (pc := 29) (c9 := 1) dX10_shut_29 rfl (by decide) (Nat.le_of_ble_eq_true rfl) rfl ?_
        refine mt_goto (pc := 32) (tgt := 4) dX10_shut_32 (by decide) ?_
        rw [e1] at ni
        rw [show (nI i + 1 : Int32) = nI (i + 1) from nI_1 i]
        first
          | exact ni
          | exact mt_fg (by repeat (first | exact trivial | refine ⟨rfl, ?_⟩ | rfl)) ni
      · skip
        rw [if_neg (fun z => by rw [if_pos z] at c20; exact absurd c20 (by decide))] at e1
        refine mt_iload_n (pc := 23) dX10_shut_23 rfl ?_
        refine mt_iconst (pc := 24) (v := 1) dX10_shut_24 (by decide) ?_
        refine mt_iload_n (pc := 25) dX10_shut_25 rfl ?_
        refine mt_ishl (pc := 26) dX10_shut_26 ?_
        refine mt_ior (pc := 27) dX10_shut_27 ?_
        refine mt_istore_n (pc := 28) dX10_shut_28 (Nat.le_of_ble_eq_true rfl) rfl ?_
        refine mt_iinc (pc := 29) (c9 := 1) dX10_shut_29 rfl (by decide) (Nat.le_of_ble_eq_true rfl) rfl ?_
        refine mt_goto (pc := 32) (tgt := 4) dX10_shut_32 (by decide) ?_
        rw [e1] at ni
        rw [show (nI i + 1 : Int32) = nI (i + 1) from nI_1 i]
        first
          | exact ni
          | exact mt_fg (by repeat (first | exact trivial | refine ⟨rfl, ?_⟩ | rfl)) ni
  · skip
    refine mt_iload_n (pc := 4) dX10_shut_4 rfl ?_
    refine mt_aload_n (pc := 5) dX10_shut_5 rfl ?_
    refine mt_get (pc := 6) gf_X10_19 dX10_shut_6 (by first | assumption | omega) (by repeat (first | exact hset_eq _ _ _ | assumption | rw [hset_ne (by first | assumption | decide | omega)])) rfl ?_
    refine mt_get (pc := 9) gf_X10_173 dX10_shut_9 (by first | assumption | omega) (by repeat (first | exact hset_eq _ _ _ | assumption | rw [hset_ne (by first | assumption | decide | omega)])) rfl ?_
    refine mt_icmp_ge (pc := 12) (tgt := 35) dX10_shut_12 (by decide) (fun c12 => ?_) (fun c12 => ?_)
    · skip
      refine mt_iload_n (pc := 35) dX10_shut_35 rfl ?_
      exact mt_iret rfl dX10_shut_36 (Nat.le_of_ble_eq_true rfl) (Nat.le_of_ble_eq_true rfl) ⟨rfl, rfl, rfl⟩
    · exact absurd (nI_le (Nat.le_refl _) (by omega)) c12
theorem c_kind {kd x : Int32} (hl : l.stackTraces = false) (hd : 10 ≤ d) (hx : 188 ≤ nx) (hQ : QW h ic rs ne ia k cs bk pg) : mm_Con G l yX10_kind cX10_kind 5 (some .int) d 8 48 [.ref 0, .int kd, .int x] nx h (P_q (ifR kd 0 5 (ifR x 0 1 (.inr (kindF k pg.2.1 kd x k.1)))) ic rs ne ia nx h) := by
  obtain ⟨h0, hC, hA, hLW, hB, h33, hP, ⟨⟨n, hw⟩, hcn⟩, -⟩ := id hQ
  obtain rfl : n = nlo pg.2.1 := (nlo_eq hw).symm
  have c0 := hC.1
  have hk1 : k.1 ≤ 8 := hC.2.2.2.2.2.2.1
  have hk2 : k.2.1 ≤ 6 := hC.2.2.2.2.2.2.2
  obtain ⟨p1, p2, p3, -⟩ := id hP
  have hn := hw.2.1
  refine mm_start (lo := [some (.ref 0), some (.int kd), some (.int x), none, none]) pn_X10 rfl rfl (Nat.le_of_ble_eq_true rfl) ?_
  refine mt_aload_n (pc := 0) dX10_kind_0 rfl ?_
  refine mt_iload_n (pc := 1) dX10_kind_1 rfl ?_
  refine mt_iconst (pc := 2) (v := 0) dX10_kind_2 (by decide) ?_
  refine mt_iconst (pc := 3) (v := 5) dX10_kind_3 (by decide) ?_
  refine mt_aV (pc := 4) (c_needRange (d := 7) hl (Nat.le_refl 7) (by omega) h0) cal_X10_needRange vir_X10_needRange ml_X10_266 dX10_kind_4 (by first | assumption | omega) (by repeat (first | exact hset_eq _ _ _ | assumption | rw [hset_ne (by first | assumption | decide | omega)])) (by first | assumption | (show _ ≤ d; omega)) ⟨(Nat.le_of_ble_eq_true rfl), (Nat.le_of_ble_eq_true rfl)⟩ rfl rfl (Nat.le_of_ble_eq_true rfl) ?_ ?_
  · rintro x9 n9 k9 h9
    obtain ⟨rfl, rfl, hno, rfl⟩ := h9
    exact P_qx (if_neg hno)
  · rintro v9 n9 k9 ⟨rfl, rfl, hok, rfl⟩
    refine ⟨rfl, ?_⟩
    refine mt_aload_n (pc := 7) dX10_kind_7 rfl ?_
    refine mt_iload_n (pc := 8) dX10_kind_8 rfl ?_
    refine mt_iconst (pc := 9) (v := 0) dX10_kind_9 (by decide) ?_
    refine mt_iconst (pc := 10) (v := 1) dX10_kind_10 (by decide) ?_
    refine mt_aV (pc := 11) (c_needRange (d := 7) hl (Nat.le_refl 7) (by omega) h0) cal_X10_needRange vir_X10_needRange ml_X10_266 dX10_kind_11 (by first | assumption | omega) (by repeat (first | exact hset_eq _ _ _ | assumption | rw [hset_ne (by first | assumption | decide | omega)])) (by first | assumption | (show _ ≤ d; omega)) ⟨(Nat.le_of_ble_eq_true rfl), (Nat.le_of_ble_eq_true rfl)⟩ rfl rfl (Nat.le_of_ble_eq_true rfl) ?_ ?_
    · rintro x9 n9 k9 h9
      obtain ⟨rfl, rfl, hno, rfl⟩ := h9
      exact P_qx ((if_pos hok).trans (if_neg hno))
    · rintro v9 n9 k9 ⟨rfl, rfl, hok2, rfl⟩
      have er : ifR kd 0 5 (ifR x 0 1 (.inr (kindF k pg.2.1 kd x k.1))) = .inr (kindF k pg.2.1 kd x k.1) := (if_pos hok).trans (if_pos hok2)
      refine ⟨rfl, ?_⟩
      refine mt_iconst (pc := 14) (v := 0) dX10_kind_14 (by decide) ?_
      refine mt_istore_n (pc := 15) dX10_kind_15 (Nat.le_of_ble_eq_true rfl) rfl ?_
      refine mt_iconst (pc := 16) (v := 0) dX10_kind_16 (by decide) ?_
      refine mt_istore (pc := 17) dX10_kind_17 (Nat.le_of_ble_eq_true rfl) rfl ?_
      refine mt_for (pc := 19) (H := fun i => h) (L := fun i => [some (.ref 0), some (.int kd), some (.int x), some (.int (kindF k pg.2.1 kd x i)), some (.int (nI i))]) (k.1) (fun i hi ni => ?_) ?_
      · skip
        have e1 : kindF k pg.2.1 kd x (i + 1) = if k.2.2.1 i = kd then kindF k pg.2.1 kd x i + (if x = 0 then pg.2.1 (4 + i) else ltF pg.2.1 1 (nI i)) else kindF k pg.2.1 kd x i := rfl
        refine mt_iload (pc := 19) dX10_kind_19 rfl ?_
        refine mt_aload_n (pc := 21) dX10_kind_21 rfl ?_
        refine mt_get (pc := 22) gf_X10_19 dX10_kind_22 (by first | assumption | omega) (by repeat (first | exact hset_eq _ _ _ | assumption | rw [hset_ne (by first | assumption | decide | omega)])) rfl ?_
        refine mt_get (pc := 25) gf_X10_141 dX10_kind_25 (by first | assumption | omega) (by repeat (first | exact hset_eq _ _ _ | assumption | rw [hset_ne (by first | assumption | decide | omega)])) rfl ?_
        refine mt_icmp_ge (pc := 28) (tgt := 85) dX10_kind_28 (by decide) (fun c28 => ?_) (fun c28 => ?_)
        · exact absurd c28 (nI_ge hi (by omega))
        · skip
          refine mt_aload_n (pc := 31) dX10_kind_31 rfl ?_
          refine mt_get (pc := 32) gf_X10_19 dX10_kind_32 (by first | assumption | omega) (by repeat (first | exact hset_eq _ _ _ | assumption | rw [hset_ne (by first | assumption | decide | omega)])) rfl ?_
          refine mt_iload (pc := 35) dX10_kind_35 rfl ?_
          refine mt_cV (pc := 37) (c_kindOf (d := 1) (p := i) (Nat.le_refl 1) (by omega) (by omega) hC) cal_X1_kindOf vir_X1_kindOf ml_X10_225 dX10_kind_37 (by first | assumption | omega) (by repeat (first | exact hset_eq _ _ _ | assumption | rw [hset_ne (by first | assumption | decide | omega)])) (by first | assumption | (show _ ≤ d; omega)) ⟨(Nat.le_of_ble_eq_true rfl), (Nat.le_of_ble_eq_true rfl)⟩ rfl rfl (Nat.le_of_ble_eq_true rfl) ?_
          refine mt_iload_n (pc := 40) dX10_kind_40 rfl ?_
          refine mt_icmp_ne (pc := 41) (tgt := 79) dX10_kind_41 (by decide) (fun c41 => ?_) (fun c41 => ?_)
          · skip
            rw [if_neg c41] at e1
            refine mt_iinc (pc := 79) (c9 := 1) dX10_kind_79 rfl (by decide) (Nat.le_of_ble_eq_true rfl) rfl ?_
            refine mt_goto (pc := 82) (tgt := 19) dX10_kind_82 (by decide) ?_
            rw [e1] at ni
            rw [show (nI i + 1 : Int32) = nI (i + 1) from nI_1 i]
            first
              | exact ni
              | exact mt_fg (by repeat (first | exact trivial | refine ⟨rfl, ?_⟩ | rfl)) ni
          · skip
            rw [if_pos c41] at e1
            refine mt_iload_n (pc := 44) dX10_kind_44 rfl ?_
            refine mt_iload_n (pc := 45) dX10_kind_45 rfl ?_
            refine mt_if_ne (pc := 46) (tgt := 64) dX10_kind_46 (by decide) (fun c46 => ?_) (fun c46 => ?_)
            · skip
              rw [if_neg c46] at e1
              refine mt_aload_n (pc := 64) dX10_kind_64 rfl ?_
              refine mt_get (pc := 65) gf_X10_65 dX10_kind_65 (by first | assumption | omega) (by repeat (first | exact hset_eq _ _ _ | assumption | rw [hset_ne (by first | assumption | decide | omega)])) rfl ?_
              refine mt_get (pc := 68) gf_X10_157 dX10_kind_68 (by first | assumption | omega) (by repeat (first | exact hset_eq _ _ _ | assumption | rw [hset_ne (by first | assumption | decide | omega)])) rfl ?_
              refine mt_iconst (pc := 71) (v := 1) dX10_kind_71 (by decide) ?_
              refine mt_iload (pc := 72) dX10_kind_72 rfl ?_
              refine mt_cV (pc := 74) (c_lentWhere (d := 2) (k := 1) (v := nI i) (Nat.le_refl 2) (by decide) hn hw.1 (by omega) (by omega) p2 p3) cal_X6_lentWhere vir_X6_lentWhere ml_X10_257 dX10_kind_74 (by first | assumption | omega) (by repeat (first | exact hset_eq _ _ _ | assumption | rw [hset_ne (by first | assumption | decide | omega)])) (by first | assumption | (show _ ≤ d; omega)) ⟨(Nat.le_of_ble_eq_true rfl), (Nat.le_of_ble_eq_true rfl)⟩ rfl rfl (Nat.le_of_ble_eq_true rfl) ?_
              refine mt_iadd (pc := 77) dX10_kind_77 ?_
              refine mt_istore_n (pc := 78) dX10_kind_78 (Nat.le_of_ble_eq_true rfl) rfl ?_
              refine mt_iinc (pc := 79) (c9 := 1) dX10_kind_79 rfl (by decide) (Nat.le_of_ble_eq_true rfl) rfl ?_
              refine mt_goto (pc := 82) (tgt := 19) dX10_kind_82 (by decide) ?_
              rw [e1] at ni
              rw [show (nI i + 1 : Int32) = nI (i + 1) from nI_1 i]
              first
                | exact ni
                | exact mt_fg (by repeat (first | exact trivial | refine ⟨rfl, ?_⟩ | rfl)) ni
            · skip
              rw [if_pos c46] at e1
              refine mt_aload_n (pc := 49) dX10_kind_49 rfl ?_
              refine mt_get (pc := 50) gf_X10_65 dX10_kind_50 (by first | assumption | omega) (by repeat (first | exact hset_eq _ _ _ | assumption | rw [hset_ne (by first | assumption | decide | omega)])) rfl ?_
              refine mt_get (pc := 53) gf_X10_157 dX10_kind_53 (by first | assumption | omega) (by repeat (first | exact hset_eq _ _ _ | assumption | rw [hset_ne (by first | assumption | decide | omega)])) rfl ?_
              refine mt_iload (pc := 56) dX10_kind_56 rfl ?_
              refine mt_cV (pc := 58) (c_under (d := 1) (p := i) (Nat.le_refl 1) (by omega) (by omega) (by omega) p2 p3) cal_X6_under vir_X6_under ml_X10_229 dX10_kind_58 (by first | assumption | omega) (by repeat (first | exact hset_eq _ _ _ | assumption | rw [hset_ne (by first | assumption | decide | omega)])) (by first | assumption | (show _ ≤ d; omega)) ⟨(Nat.le_of_ble_eq_true rfl), (Nat.le_of_ble_eq_true rfl)⟩ rfl rfl (Nat.le_of_ble_eq_true rfl) ?_
              refine mt_goto (pc := 61) (tgt := 77) dX10_kind_61 (by decide) ?_
              refine mt_iadd (pc := 77) dX10_kind_77 ?_
              refine mt_istore_n (pc := 78) dX10_kind_78 (Nat.le_of_ble_eq_true rfl) rfl ?_
              refine mt_iinc (pc := 79) (c9 := 1) dX10_kind_79 rfl (by decide) (Nat.le_of_ble_eq_true rfl) rfl ?_
              refine mt_goto (pc := 82) (tgt := 19) dX10_kind_82 (by decide) ?_
              rw [e1] at ni
              rw [show (nI i + 1 : Int32) = nI (i + 1) from nI_1 i]
              first
                | exact ni
                | exact mt_fg (by repeat (first | exact trivial | refine ⟨rfl, ?_⟩ | rfl)) ni
      · skip
        refine mt_iload (pc := 19) dX10_kind_19 rfl ?_
        refine mt_aload_n (pc := 21) dX10_kind_21 rfl ?_
        refine mt_get (pc := 22) gf_X10_19 dX10_kind_22 (by first | assumption | omega) (by repeat (first | exact hset_eq _ _ _ | assumption | rw [hset_ne (by first | assumption | decide | omega)])) rfl ?_
        refine mt_get (pc := 25) gf_X10_141 dX10_kind_25 (by first | assumption | omega) (by repeat (first | exact hset_eq _ _ _ | assumption | rw [hset_ne (by first | assumption | decide | omega)])) rfl ?_
        refine mt_icmp_ge (pc := 28) (tgt := 85) dX10_kind_28 (by decide) (fun c28 => ?_) (fun c28 => ?_)
        · skip
          refine mt_iload_n (pc := 85) dX10_kind_85 rfl ?_
          exact mt_iret rfl dX10_kind_86 (Nat.le_of_ble_eq_true rfl) (Nat.le_of_ble_eq_true rfl) (P_qv (ic := ic) (rs := rs) (ne := ne) (ia := ia) er hQ.fq)
        · exact absurd (nI_le (Nat.le_refl _) (by omega)) c28
theorem c_worth {a : Int32} (hl : l.stackTraces = false) (hd : 10 ≤ d) (hx : 188 ≤ nx) (hQ : QW h ic rs ne ia k cs bk pg) : mm_Con G l yX10_worth cX10_worth 2 (some .int) d 8 48 [.ref 0, .int a] nx h (P_q (if inR a k.2.1 then .inr (pg.2.1 (18 + a.toNatClampNeg) - owA k cs pg.2.1 a (nlo pg.2.1)) else .inl 0) ic rs ne ia nx h) := by
  obtain ⟨h0, hC, hA, hLW, hB, h33, hP, ⟨⟨n, hw⟩, hcn⟩, -⟩ := id hQ
  obtain rfl : n = nlo pg.2.1 := (nlo_eq hw).symm
  have c0 := hC.1
  have hk1 : k.1 ≤ 8 := hC.2.2.2.2.2.2.1
  have hk2 : k.2.1 ≤ 6 := hC.2.2.2.2.2.2.2
  obtain ⟨p1, p2, p3, -⟩ := id hP
  have hn := hw.2.1
  refine mm_start (lo := [some (.ref 0), some (.int a)]) pn_X10 rfl rfl (Nat.le_of_ble_eq_true rfl) ?_
  refine mt_aload_n (pc := 0) dX10_worth_0 rfl ?_
  refine mt_iload_n (pc := 1) dX10_worth_1 rfl ?_
  refine mt_aV (pc := 2) (c_needSoul (d := 7) hl (Nat.le_refl 7) (by omega) h0 hC) cal_X10_needSoul vir_X10_needSoul ml_X10_245 dX10_worth_2 (by first | assumption | omega) (by repeat (first | exact hset_eq _ _ _ | assumption | rw [hset_ne (by first | assumption | decide | omega)])) (by first | assumption | (show _ ≤ d; omega)) ⟨(Nat.le_of_ble_eq_true rfl), (Nat.le_of_ble_eq_true rfl)⟩ rfl rfl (Nat.le_of_ble_eq_true rfl) ?_ ?_
  · rintro x9 n9 k9 h9
    obtain ⟨rfl, rfl, hno, rfl⟩ := h9
    exact P_qx (if_neg hno)
  · rintro v9 n9 k9 ⟨rfl, rfl, hok, rfl⟩
    obtain ⟨j, hj, rfl⟩ := inR_of hok (by omega)
    refine ⟨rfl, ?_⟩
    refine mt_aload_n (pc := 5) dX10_worth_5 rfl ?_
    refine mt_get (pc := 6) gf_X10_65 dX10_worth_6 (by first | assumption | omega) (by repeat (first | exact hset_eq _ _ _ | assumption | rw [hset_ne (by first | assumption | decide | omega)])) rfl ?_
    refine mt_get (pc := 9) gf_X10_157 dX10_worth_9 (by first | assumption | omega) (by repeat (first | exact hset_eq _ _ _ | assumption | rw [hset_ne (by first | assumption | decide | omega)])) rfl ?_
    refine mt_iload_n (pc := 12) dX10_worth_12 rfl ?_
    refine mt_cV (pc := 13) (c_purse (d := 1) (p := j) (Nat.le_refl 1) (by omega) (by omega) (by omega) p2 p3) cal_X6_purse vir_X6_purse ml_X10_254 dX10_worth_13 (by first | assumption | omega) (by repeat (first | exact hset_eq _ _ _ | assumption | rw [hset_ne (by first | assumption | decide | omega)])) (by first | assumption | (show _ ≤ d; omega)) ⟨(Nat.le_of_ble_eq_true rfl), (Nat.le_of_ble_eq_true rfl)⟩ rfl rfl (Nat.le_of_ble_eq_true rfl) ?_
    refine mt_aload_n (pc := 16) dX10_worth_16 rfl ?_
    refine mt_get (pc := 17) gf_X10_58 dX10_worth_17 (by first | assumption | omega) (by repeat (first | exact hset_eq _ _ _ | assumption | rw [hset_ne (by first | assumption | decide | omega)])) rfl ?_
    refine mt_aload_n (pc := 20) dX10_worth_20 rfl ?_
    refine mt_get (pc := 21) gf_X10_65 dX10_worth_21 (by first | assumption | omega) (by repeat (first | exact hset_eq _ _ _ | assumption | rw [hset_ne (by first | assumption | decide | omega)])) rfl ?_
    refine mt_get (pc := 24) gf_X10_157 dX10_worth_24 (by first | assumption | omega) (by repeat (first | exact hset_eq _ _ _ | assumption | rw [hset_ne (by first | assumption | decide | omega)])) rfl ?_
    refine mt_iload_n (pc := 27) dX10_worth_27 rfl ?_
    refine mt_aV (pc := 28) (c_owesInAll (d := 4) (who := nI j) (Nat.le_refl 4) (by omega) hw hA hLW hC h33 (by decide) (by decide) (by omega) (by omega) p2 p3) cal_X4_owesInAll vir_X4_owesInAll ml_X10_205 dX10_worth_28 (by first | assumption | omega) (by repeat (first | exact hset_eq _ _ _ | assumption | rw [hset_ne (by first | assumption | decide | omega)])) (by first | assumption | (show _ ≤ d; omega)) ⟨(Nat.le_of_ble_eq_true rfl), (Nat.le_of_ble_eq_true rfl)⟩ rfl rfl (Nat.le_of_ble_eq_true rfl) ?_ ?_
    · rintro x9 n9 k9 h9
      simp [P_ow] at h9
    · rintro v9 n9 k9 ⟨hv, rfl, hF9⟩
      cases hv
      refine ⟨rfl, ?_⟩
      refine mt_isub (pc := 31) dX10_worth_31 ?_
      exact mt_iret rfl dX10_worth_32 (Nat.le_of_ble_eq_true rfl) (Nat.le_of_ble_eq_true rfl) (P_qv (ic := ic) (rs := rs) (ne := ne) (ia := ia) (by rw [if_pos hok, nI_clamp (by omega)]) (hQ.frl hF9))
theorem c_late {a x : Int32} (hl : l.stackTraces = false) (hd : 10 ≤ d) (hx : 188 ≤ nx) (hQ : QW h ic rs ne ia k cs bk pg) : mm_Con G l yX10_late cX10_late 5 (some .int) d 8 48 [.ref 0, .int a, .int x] nx h (P_q (if inR a k.2.1 then ifR x 0 1 (.inr (if x = 0 then lwF pg.2.1 0 a &&& lwF pg.2.1 5 1 else lwF pg.2.1 0 a &&& (lwF pg.2.1 5 1 ^^^ (-1)))) else .inl 0) ic rs ne ia nx h) := by
  obtain ⟨h0, hC, hA, hLW, hB, h33, hP, ⟨⟨n, hw⟩, hcn⟩, -⟩ := id hQ
  obtain rfl : n = nlo pg.2.1 := (nlo_eq hw).symm
  have c0 := hC.1
  have hk1 : k.1 ≤ 8 := hC.2.2.2.2.2.2.1
  have hk2 : k.2.1 ≤ 6 := hC.2.2.2.2.2.2.2
  obtain ⟨p1, p2, p3, -⟩ := id hP
  have hn := hw.2.1
  refine mm_start (lo := [some (.ref 0), some (.int a), some (.int x), none, none]) pn_X10 rfl rfl (Nat.le_of_ble_eq_true rfl) ?_
  refine mt_aload_n (pc := 0) dX10_late_0 rfl ?_
  refine mt_iload_n (pc := 1) dX10_late_1 rfl ?_
  refine mt_aV (pc := 2) (c_needSoul (d := 7) hl (Nat.le_refl 7) (by omega) h0 hC) cal_X10_needSoul vir_X10_needSoul ml_X10_245 dX10_late_2 (by first | assumption | omega) (by repeat (first | exact hset_eq _ _ _ | assumption | rw [hset_ne (by first | assumption | decide | omega)])) (by first | assumption | (show _ ≤ d; omega)) ⟨(Nat.le_of_ble_eq_true rfl), (Nat.le_of_ble_eq_true rfl)⟩ rfl rfl (Nat.le_of_ble_eq_true rfl) ?_ ?_
  · rintro x9 n9 k9 h9
    obtain ⟨rfl, rfl, hno, rfl⟩ := h9
    exact P_qx (if_neg hno)
  · rintro v9 n9 k9 ⟨rfl, rfl, hok, rfl⟩
    refine ⟨rfl, ?_⟩
    refine mt_aload_n (pc := 5) dX10_late_5 rfl ?_
    refine mt_iload_n (pc := 6) dX10_late_6 rfl ?_
    refine mt_iconst (pc := 7) (v := 0) dX10_late_7 (by decide) ?_
    refine mt_iconst (pc := 8) (v := 1) dX10_late_8 (by decide) ?_
    refine mt_aV (pc := 9) (c_needRange (d := 7) hl (Nat.le_refl 7) (by omega) h0) cal_X10_needRange vir_X10_needRange ml_X10_266 dX10_late_9 (by first | assumption | omega) (by repeat (first | exact hset_eq _ _ _ | assumption | rw [hset_ne (by first | assumption | decide | omega)])) (by first | assumption | (show _ ≤ d; omega)) ⟨(Nat.le_of_ble_eq_true rfl), (Nat.le_of_ble_eq_true rfl)⟩ rfl rfl (Nat.le_of_ble_eq_true rfl) ?_ ?_
    · rintro x9 n9 k9 h9
      obtain ⟨rfl, rfl, hno, rfl⟩ := h9
      exact P_qx ((if_pos hok).trans (if_neg hno))
    · rintro v9 n9 k9 ⟨rfl, rfl, hok2, rfl⟩
      have er : (if inR a k.2.1 then ifR x 0 1 (.inr (if x = 0 then lwF pg.2.1 0 a &&& lwF pg.2.1 5 1 else lwF pg.2.1 0 a &&& (lwF pg.2.1 5 1 ^^^ (-1)))) else .inl 0) = .inr (if x = 0 then lwF pg.2.1 0 a &&& lwF pg.2.1 5 1 else lwF pg.2.1 0 a &&& (lwF pg.2.1 5 1 ^^^ (-1))) := (if_pos hok).trans (if_pos hok2)
      refine ⟨rfl, ?_⟩
      refine mt_aload_n (pc := 12) dX10_late_12 rfl ?_
      refine mt_get (pc := 13) gf_X10_65 dX10_late_13 (by first | assumption | omega) (by repeat (first | exact hset_eq _ _ _ | assumption | rw [hset_ne (by first | assumption | decide | omega)])) rfl ?_
      refine mt_get (pc := 16) gf_X10_157 dX10_late_16 (by first | assumption | omega) (by repeat (first | exact hset_eq _ _ _ | assumption | rw [hset_ne (by first | assumption | decide | omega)])) rfl ?_
      refine mt_iconst (pc := 19) (v := 0) dX10_late_19 (by decide) ?_
      refine mt_iload_n (pc := 20) dX10_late_20 rfl ?_
      refine mt_cV (pc := 21) (c_loansWhere (d := 2) (k := 0) (v := a) (Nat.le_refl 2) (by decide) hn hw.1 (by omega) (by omega) p2 p3) cal_X6_loansWhere vir_X6_loansWhere ml_X10_238 dX10_late_21 (by first | assumption | omega) (by repeat (first | exact hset_eq _ _ _ | assumption | rw [hset_ne (by first | assumption | decide | omega)])) (by first | assumption | (show _ ≤ d; omega)) ⟨(Nat.le_of_ble_eq_true rfl), (Nat.le_of_ble_eq_true rfl)⟩ rfl rfl (Nat.le_of_ble_eq_true rfl) ?_
      refine mt_istore_n (pc := 24) dX10_late_24 (Nat.le_of_ble_eq_true rfl) rfl ?_
      refine mt_aload_n (pc := 25) dX10_late_25 rfl ?_
      refine mt_get (pc := 26) gf_X10_65 dX10_late_26 (by first | assumption | omega) (by repeat (first | exact hset_eq _ _ _ | assumption | rw [hset_ne (by first | assumption | decide | omega)])) rfl ?_
      refine mt_get (pc := 29) gf_X10_157 dX10_late_29 (by first | assumption | omega) (by repeat (first | exact hset_eq _ _ _ | assumption | rw [hset_ne (by first | assumption | decide | omega)])) rfl ?_
      refine mt_cV (pc := 32) (c_overdue (d := 3) (Nat.le_refl 3) hn hw.1 (by omega) (by omega) p2 p3) cal_X6_overdue vir_X6_overdue ml_X10_209 dX10_late_32 (by first | assumption | omega) (by repeat (first | exact hset_eq _ _ _ | assumption | rw [hset_ne (by first | assumption | decide | omega)])) (by first | assumption | (show _ ≤ d; omega)) ⟨(Nat.le_of_ble_eq_true rfl), (Nat.le_of_ble_eq_true rfl)⟩ rfl rfl (Nat.le_of_ble_eq_true rfl) ?_
      refine mt_istore (pc := 35) dX10_late_35 (Nat.le_of_ble_eq_true rfl) rfl ?_
      refine mt_iload_n (pc := 37) dX10_late_37 rfl ?_
      refine mt_if_ne (pc := 38) (tgt := 48) dX10_late_38 (by decide) (fun c38 => ?_) (fun c38 => ?_)
      · skip
        replace er := er.trans (congrArg Sum.inr (if_neg c38))
        refine mt_iload_n (pc := 48) dX10_late_48 rfl ?_
        refine mt_iload (pc := 49) dX10_late_49 rfl ?_
        refine mt_iconst (pc := 51) (v := (-1)) dX10_late_51 (by decide) ?_
        refine mt_ixor (pc := 52) dX10_late_52 ?_
        refine mt_iand (pc := 53) dX10_late_53 ?_
        exact mt_iret rfl dX10_late_54 (Nat.le_of_ble_eq_true rfl) (Nat.le_of_ble_eq_true rfl) (P_qv (ic := ic) (rs := rs) (ne := ne) (ia := ia) er hQ.fq)
      · skip
        replace er := er.trans (congrArg Sum.inr (if_pos c38))
        refine mt_iload_n (pc := 41) dX10_late_41 rfl ?_
        refine mt_iload (pc := 42) dX10_late_42 rfl ?_
        refine mt_iand (pc := 44) dX10_late_44 ?_
        refine mt_goto (pc := 45) (tgt := 54) dX10_late_45 (by decide) ?_
        exact mt_iret rfl dX10_late_54 (Nat.le_of_ble_eq_true rfl) (Nat.le_of_ble_eq_true rfl) (P_qv (ic := ic) (rs := rs) (ne := ne) (ia := ia) er hQ.fq)
theorem c_trust {p x : Int32} (hl : l.stackTraces = false) (hd : 10 ≤ d) (hx : 188 ≤ nx) (hQ : QW h ic rs ne ia k cs bk pg) : mm_Con G l yX10_trust cX10_trust 5 (some .int) d 8 48 [.ref 0, .int p, .int x] nx h (P_q (if inR p k.1 then ifR x 1 60 (.inr (trusF k pg.2.1 p.toNatClampNeg x k.2.1)) else .inl 0) ic rs ne ia nx h) := by
  obtain ⟨h0, hC, hA, hLW, hB, h33, hP, ⟨⟨n, hw⟩, hcn⟩, -⟩ := id hQ
  obtain rfl : n = nlo pg.2.1 := (nlo_eq hw).symm
  have c0 := hC.1
  have hk1 : k.1 ≤ 8 := hC.2.2.2.2.2.2.1
  have hk2 : k.2.1 ≤ 6 := hC.2.2.2.2.2.2.2
  obtain ⟨p1, p2, p3, -⟩ := id hP
  have hn := hw.2.1
  refine mm_start (lo := [some (.ref 0), some (.int p), some (.int x), none, none]) pn_X10 rfl rfl (Nat.le_of_ble_eq_true rfl) ?_
  refine mt_aload_n (pc := 0) dX10_trust_0 rfl ?_
  refine mt_iload_n (pc := 1) dX10_trust_1 rfl ?_
  refine mt_aV (pc := 2) (c_needSlab (d := 7) hl (Nat.le_refl 7) (by omega) h0 hC) cal_X10_needSlab vir_X10_needSlab ml_X10_222 dX10_trust_2 (by first | assumption | omega) (by repeat (first | exact hset_eq _ _ _ | assumption | rw [hset_ne (by first | assumption | decide | omega)])) (by first | assumption | (show _ ≤ d; omega)) ⟨(Nat.le_of_ble_eq_true rfl), (Nat.le_of_ble_eq_true rfl)⟩ rfl rfl (Nat.le_of_ble_eq_true rfl) ?_ ?_
  · rintro x9 n9 k9 h9
    obtain ⟨rfl, rfl, hno, rfl⟩ := h9
    exact P_qx (if_neg hno)
  · rintro v9 n9 k9 ⟨rfl, rfl, hok, rfl⟩
    refine ⟨rfl, ?_⟩
    refine mt_aload_n (pc := 5) dX10_trust_5 rfl ?_
    refine mt_iload_n (pc := 6) dX10_trust_6 rfl ?_
    refine mt_iconst (pc := 7) (v := 1) dX10_trust_7 (by decide) ?_
    refine mt_bipush (pc := 8) (v := 60) dX10_trust_8 (by decide) ?_
    refine mt_aV (pc := 10) (c_needRange (d := 7) hl (Nat.le_refl 7) (by omega) h0) cal_X10_needRange vir_X10_needRange ml_X10_266 dX10_trust_10 (by first | assumption | omega) (by repeat (first | exact hset_eq _ _ _ | assumption | rw [hset_ne (by first | assumption | decide | omega)])) (by first | assumption | (show _ ≤ d; omega)) ⟨(Nat.le_of_ble_eq_true rfl), (Nat.le_of_ble_eq_true rfl)⟩ rfl rfl (Nat.le_of_ble_eq_true rfl) ?_ ?_
    · rintro x9 n9 k9 h9
      obtain ⟨rfl, rfl, hno, rfl⟩ := h9
      exact P_qx ((if_pos hok).trans (if_neg hno))
    · rintro v9 n9 k9 ⟨rfl, rfl, hok2, rfl⟩
      obtain ⟨j, hj, rfl⟩ := inR_of hok (by omega)
      have er : (if inR (nI j) k.1 then ifR x 1 60 (.inr (trusF k pg.2.1 (nI j).toNatClampNeg x k.2.1)) else .inl 0) = .inr (trusF k pg.2.1 j x k.2.1) := ((if_pos hok).trans (if_pos hok2)).trans (by rw [nI_clamp (by omega)])
      refine ⟨rfl, ?_⟩
      refine mt_iconst (pc := 13) (v := 0) dX10_trust_13 (by decide) ?_
      refine mt_istore_n (pc := 14) dX10_trust_14 (Nat.le_of_ble_eq_true rfl) rfl ?_
      refine mt_iconst (pc := 15) (v := 0) dX10_trust_15 (by decide) ?_
      refine mt_istore (pc := 16) dX10_trust_16 (Nat.le_of_ble_eq_true rfl) rfl ?_
      refine mt_for (pc := 18) (H := fun i => h) (L := fun i => [some (.ref 0), some (.int (nI j)), some (.int x), some (.int (trusF k pg.2.1 j x i)), some (.int (nI i))]) (k.2.1) (fun i hi ni => ?_) ?_
      · skip
        have e1 : trusF k pg.2.1 j x (i + 1) = if clC k pg.2.1 i j x then trusF k pg.2.1 j x i ||| ((1 : Int32) <<< (nI i &&& 31)) else trusF k pg.2.1 j x i := rfl
        refine mt_iload (pc := 18) dX10_trust_18 rfl ?_
        refine mt_aload_n (pc := 20) dX10_trust_20 rfl ?_
        refine mt_get (pc := 21) gf_X10_19 dX10_trust_21 (by first | assumption | omega) (by repeat (first | exact hset_eq _ _ _ | assumption | rw [hset_ne (by first | assumption | decide | omega)])) rfl ?_
        refine mt_get (pc := 24) gf_X10_173 dX10_trust_24 (by first | assumption | omega) (by repeat (first | exact hset_eq _ _ _ | assumption | rw [hset_ne (by first | assumption | decide | omega)])) rfl ?_
        refine mt_icmp_ge (pc := 27) (tgt := 64) dX10_trust_27 (by decide) (fun c27 => ?_) (fun c27 => ?_)
        · exact absurd c27 (nI_ge hi (by omega))
        · skip
          refine mt_aload_n (pc := 30) dX10_trust_30 rfl ?_
          refine mt_get (pc := 31) gf_X10_58 dX10_trust_31 (by first | assumption | omega) (by repeat (first | exact hset_eq _ _ _ | assumption | rw [hset_ne (by first | assumption | decide | omega)])) rfl ?_
          refine mt_aload_n (pc := 34) dX10_trust_34 rfl ?_
          refine mt_get (pc := 35) gf_X10_65 dX10_trust_35 (by first | assumption | omega) (by repeat (first | exact hset_eq _ _ _ | assumption | rw [hset_ne (by first | assumption | decide | omega)])) rfl ?_
          refine mt_get (pc := 38) gf_X10_157 dX10_trust_38 (by first | assumption | omega) (by repeat (first | exact hset_eq _ _ _ | assumption | rw [hset_ne (by first | assumption | decide | omega)])) rfl ?_
          refine mt_iload (pc := 41) dX10_trust_41 rfl ?_
          refine mt_iload_n (pc := 43) dX10_trust_43 rfl ?_
          refine mt_iload_n (pc := 44) dX10_trust_44 rfl ?_
          refine mt_cV (pc := 45) (c_wouldLend (d := 3) (a := i) (p := j) (Nat.le_refl 3) (by omega) (by omega) (by omega) hC h33 (by omega) (by omega) p2 p3) cal_X4_wouldLend vir_X4_wouldLend ml_X10_285 dX10_trust_45 (by first | assumption | omega) (by repeat (first | exact hset_eq _ _ _ | assumption | rw [hset_ne (by first | assumption | decide | omega)])) (by first | assumption | (show _ ≤ d; omega)) ⟨(Nat.le_of_ble_eq_true rfl), (Nat.le_of_ble_eq_true rfl)⟩ rfl rfl (Nat.le_of_ble_eq_true rfl) ?_
          refine mt_if_eq (pc := 48) (tgt := 58) dX10_trust_48 (by decide) (fun c48 => ?_) (fun c48 => ?_)
          · skip
            rw [if_neg (fun z => by rw [if_pos z] at c48; exact absurd c48 (by decide))] at e1
            refine mt_iinc (pc := 58) (c9 := 1) dX10_trust_58 rfl (by decide) (Nat.le_of_ble_eq_true rfl) rfl ?_
            refine mt_goto (pc := 61) (tgt := 18) dX10_trust_61 (by decide) ?_
            rw [e1] at ni
            rw [show (nI i + 1 : Int32) = nI (i + 1) from nI_1 i]
            first
              | exact ni
              | exact mt_fg (by repeat (first | exact trivial | refine ⟨rfl, ?_⟩ | rfl)) ni
          · skip
            rw [if_pos (Classical.not_not.mp fun z => c48 (if_neg z))] at e1
            refine mt_iload_n (pc := 51) dX10_trust_51 rfl ?_
            refine mt_iconst (pc := 52) (v := 1) dX10_trust_52 (by decide) ?_
            refine mt_iload (pc := 53) dX10_trust_53 rfl ?_
            refine mt_ishl (pc := 55) dX10_trust_55 ?_
            refine mt_ior (pc := 56) dX10_trust_56 ?_
            refine mt_istore_n (pc := 57) dX10_trust_57 (Nat.le_of_ble_eq_true rfl) rfl ?_
            refine mt_iinc (pc := 58) (c9 := 1) dX10_trust_58 rfl (by decide) (Nat.le_of_ble_eq_true rfl) rfl ?_
            refine mt_goto (pc := 61) (tgt := 18) dX10_trust_61 (by decide) ?_
            rw [e1] at ni
            rw [show (nI i + 1 : Int32) = nI (i + 1) from nI_1 i]
            first
              | exact ni
              | exact mt_fg (by repeat (first | exact trivial | refine ⟨rfl, ?_⟩ | rfl)) ni
      · skip
        refine mt_iload (pc := 18) dX10_trust_18 rfl ?_
        refine mt_aload_n (pc := 20) dX10_trust_20 rfl ?_
        refine mt_get (pc := 21) gf_X10_19 dX10_trust_21 (by first | assumption | omega) (by repeat (first | exact hset_eq _ _ _ | assumption | rw [hset_ne (by first | assumption | decide | omega)])) rfl ?_
        refine mt_get (pc := 24) gf_X10_173 dX10_trust_24 (by first | assumption | omega) (by repeat (first | exact hset_eq _ _ _ | assumption | rw [hset_ne (by first | assumption | decide | omega)])) rfl ?_
        refine mt_icmp_ge (pc := 27) (tgt := 64) dX10_trust_27 (by decide) (fun c27 => ?_) (fun c27 => ?_)
        · skip
          refine mt_iload_n (pc := 64) dX10_trust_64 rfl ?_
          exact mt_iret rfl dX10_trust_65 (Nat.le_of_ble_eq_true rfl) (Nat.le_of_ble_eq_true rfl) (P_qv (ic := ic) (rs := rs) (ne := ne) (ia := ia) er hQ.fq)
        · exact absurd (nI_le (Nat.le_refl _) (by omega)) c27
theorem c_deepest {x : Int32} (hl : l.stackTraces = false) (hd : 10 ≤ d) (hx : 188 ≤ nx) (hQ : QW h ic rs ne ia k cs bk pg) : mm_Con G l yX10_deepest cX10_deepest 6 (some .int) d 8 48 [.ref 0, .int x] nx h (P_q (ifR x 0 1 (.inr (if x = 0 then (deepF k cs pg.2.1 (nlo pg.2.1)).1 else (deepF k cs pg.2.1 (nlo pg.2.1)).2))) ic rs ne ia nx h) := by
  obtain ⟨h0, hC, hA, hLW, hB, h33, hP, ⟨⟨n, hw⟩, hcn⟩, -⟩ := id hQ
  obtain rfl : n = nlo pg.2.1 := (nlo_eq hw).symm
  have c0 := hC.1
  have hk1 : k.1 ≤ 8 := hC.2.2.2.2.2.2.1
  have hk2 : k.2.1 ≤ 6 := hC.2.2.2.2.2.2.2
  obtain ⟨p1, p2, p3, -⟩ := id hP
  have hn := hw.2.1
  refine mm_start (lo := [some (.ref 0), some (.int x), none, none, none, none]) pn_X10 rfl rfl (Nat.le_of_ble_eq_true rfl) ?_
  refine mt_aload_n (pc := 0) dX10_deepest_0 rfl ?_
  refine mt_iload_n (pc := 1) dX10_deepest_1 rfl ?_
  refine mt_iconst (pc := 2) (v := 0) dX10_deepest_2 (by decide) ?_
  refine mt_iconst (pc := 3) (v := 1) dX10_deepest_3 (by decide) ?_
  refine mt_aV (pc := 4) (c_needRange (d := 7) hl (Nat.le_refl 7) (by omega) h0) cal_X10_needRange vir_X10_needRange ml_X10_266 dX10_deepest_4 (by first | assumption | omega) (by repeat (first | exact hset_eq _ _ _ | assumption | rw [hset_ne (by first | assumption | decide | omega)])) (by first | assumption | (show _ ≤ d; omega)) ⟨(Nat.le_of_ble_eq_true rfl), (Nat.le_of_ble_eq_true rfl)⟩ rfl rfl (Nat.le_of_ble_eq_true rfl) ?_ ?_
  · rintro x9 n9 k9 h9
    obtain ⟨rfl, rfl, hno, rfl⟩ := h9
    exact P_qx (if_neg hno)
  · rintro v9 n9 k9 ⟨rfl, rfl, hok, rfl⟩
    have er : ifR x 0 1 (.inr (if x = 0 then (deepF k cs pg.2.1 (nlo pg.2.1)).1 else (deepF k cs pg.2.1 (nlo pg.2.1)).2)) = .inr (if x = 0 then (deepF k cs pg.2.1 (nlo pg.2.1)).1 else (deepF k cs pg.2.1 (nlo pg.2.1)).2) := if_pos hok
    refine ⟨rfl, ?_⟩
    refine mt_iconst (pc := 7) (v := (-1)) dX10_deepest_7 (by decide) ?_
    refine mt_istore_n (pc := 8) dX10_deepest_8 (Nat.le_of_ble_eq_true rfl) rfl ?_
    refine mt_iconst (pc := 9) (v := (-1)) dX10_deepest_9 (by decide) ?_
    refine mt_istore_n (pc := 10) dX10_deepest_10 (Nat.le_of_ble_eq_true rfl) rfl ?_
    refine mt_iconst (pc := 11) (v := 0) dX10_deepest_11 (by decide) ?_
    refine mt_istore (pc := 12) dX10_deepest_12 (Nat.le_of_ble_eq_true rfl) rfl ?_
    refine mt_forE (pc := 14) (α := Nat → mm_E) (H := fun i (m : Nat → mm_E) => m) (L := fun i (m : Nat → mm_E) => [some (.ref 0), some (.int x), some (.int ((deepF k cs pg.2.1 i).1)), some (.int ((deepF k cs pg.2.1 i).2)), some (.int (nI i)), none]) (I := fun i (m : Nat → mm_E) => FQ h m) (nlo pg.2.1) (fun i m hi fi ni => ?_) (fun m fi => ?_) h (hQ.fq)
    · skip
      have e1 : deepF k cs pg.2.1 (i + 1) = if ¬ owI k cs pg.2.1 i ≤ (deepF k cs pg.2.1 i).2 then (nI i, owI k cs pg.2.1 i) else deepF k cs pg.2.1 i := rfl
      obtain ⟨m0, mC, mA, -, -, m33, mP, -⟩ := hQ.of fi
      obtain ⟨q1, q2, q3, -⟩ := id mP
      have so := hw.so hi
      have sl := hw.sl hi
      refine mt_iload (pc := 14) dX10_deepest_14 rfl ?_
      refine mt_aload_n (pc := 16) dX10_deepest_16 rfl ?_
      refine mt_get (pc := 17) gf_X10_65 dX10_deepest_17 (by first | assumption | omega) m0 rfl ?_
      refine mt_get (pc := 20) gf_X10_157 dX10_deepest_20 (by first | assumption | omega) q1 rfl ?_
      refine mt_cV (pc := 23) (c_loans (d := 1) (by omega) (by omega) q2 q3) cal_X6_loans vir_X6_loans ml_X10_192 dX10_deepest_23 (by first | assumption | omega) q2 (by first | assumption | (show _ ≤ d; omega)) ⟨(Nat.le_of_ble_eq_true rfl), (Nat.le_of_ble_eq_true rfl)⟩ rfl rfl (Nat.le_of_ble_eq_true rfl) ?_
      rw [hw.1]
      refine mt_icmp_ge (pc := 26) (tgt := 65) dX10_deepest_26 (by decide) (fun c26 => ?_) (fun c26 => ?_)
      · exact absurd c26 (nI_ge hi (by omega))
      · skip
        refine mt_aload_n (pc := 29) dX10_deepest_29 rfl ?_
        refine mt_get (pc := 30) gf_X10_58 dX10_deepest_30 (by first | assumption | omega) m0 rfl ?_
        refine mt_aload_n (pc := 33) dX10_deepest_33 rfl ?_
        refine mt_get (pc := 34) gf_X10_65 dX10_deepest_34 (by first | assumption | omega) m0 rfl ?_
        refine mt_get (pc := 37) gf_X10_157 dX10_deepest_37 (by first | assumption | omega) q1 rfl ?_
        refine mt_iload (pc := 40) dX10_deepest_40 rfl ?_
        refine mt_aV (pc := 42) (c_rowes (d := 3) (i := i) (Nat.le_refl 3) (by omega) (by omega) so.1 so.2 sl.1 sl.2 mA hLW mC m33 (by decide) (by decide) (by omega) (by omega) q2 q3) cal_X4_owes vir_X4_owes ml_X10_270 dX10_deepest_42 (by first | assumption | omega) m33 (by first | assumption | (show _ ≤ d; omega)) ⟨(Nat.le_of_ble_eq_true rfl), (Nat.le_of_ble_eq_true rfl)⟩ rfl rfl (Nat.le_of_ble_eq_true rfl) ?_ ?_
        · rintro x9 n9 k9 h9
          simp [P_ow] at h9
        · rintro v9 n9 k9 ⟨hv, rfl, hF9⟩
          cases hv
          have hFq := FQ.trans fi ((hQ.of fi).frl hF9)
          refine ⟨rfl, ?_⟩
          rw [show owV k cs pg.2.1 i (lsoul pg.2.1 i) (lslab pg.2.1 i) = owI k cs pg.2.1 i from rfl]
          refine mt_istore (pc := 45) dX10_deepest_45 (Nat.le_of_ble_eq_true rfl) rfl ?_
          refine mt_iload (pc := 47) dX10_deepest_47 rfl ?_
          refine mt_iload_n (pc := 49) dX10_deepest_49 rfl ?_
          refine mt_icmp_le (pc := 50) (tgt := 59) dX10_deepest_50 (by decide) (fun c50 => ?_) (fun c50 => ?_)
          · skip
            rw [if_neg (fun z => z c50)] at e1
            refine mt_iinc (pc := 59) (c9 := 1) dX10_deepest_59 rfl (by decide) (Nat.le_of_ble_eq_true rfl) rfl ?_
            refine mt_goto (pc := 62) (tgt := 14) dX10_deepest_62 (by decide) ?_
            rw [show (nI i + 1 : Int32) = nI (i + 1) from nI_1 i]
            rw [e1] at ni
            exact mt_forget 5 (ni k9 hFq)
          · skip
            rw [if_pos c50] at e1
            refine mt_iload (pc := 53) dX10_deepest_53 rfl ?_
            refine mt_istore_n (pc := 55) dX10_deepest_55 (Nat.le_of_ble_eq_true rfl) rfl ?_
            refine mt_iload (pc := 56) dX10_deepest_56 rfl ?_
            refine mt_istore_n (pc := 58) dX10_deepest_58 (Nat.le_of_ble_eq_true rfl) rfl ?_
            refine mt_iinc (pc := 59) (c9 := 1) dX10_deepest_59 rfl (by decide) (Nat.le_of_ble_eq_true rfl) rfl ?_
            refine mt_goto (pc := 62) (tgt := 14) dX10_deepest_62 (by decide) ?_
            rw [show (nI i + 1 : Int32) = nI (i + 1) from nI_1 i]
            rw [e1] at ni
            exact mt_forget 5 (ni k9 hFq)
    · skip
      obtain ⟨m0, mC, mA, -, -, m33, mP, -⟩ := hQ.of fi
      obtain ⟨q1, q2, q3, -⟩ := id mP
      refine mt_iload (pc := 14) dX10_deepest_14 rfl ?_
      refine mt_aload_n (pc := 16) dX10_deepest_16 rfl ?_
      refine mt_get (pc := 17) gf_X10_65 dX10_deepest_17 (by first | assumption | omega) m0 rfl ?_
      refine mt_get (pc := 20) gf_X10_157 dX10_deepest_20 (by first | assumption | omega) q1 rfl ?_
      refine mt_cV (pc := 23) (c_loans (d := 1) (by omega) (by omega) q2 q3) cal_X6_loans vir_X6_loans ml_X10_192 dX10_deepest_23 (by first | assumption | omega) q2 (by first | assumption | (show _ ≤ d; omega)) ⟨(Nat.le_of_ble_eq_true rfl), (Nat.le_of_ble_eq_true rfl)⟩ rfl rfl (Nat.le_of_ble_eq_true rfl) ?_
      rw [hw.1]
      refine mt_icmp_ge (pc := 26) (tgt := 65) dX10_deepest_26 (by decide) (fun c26 => ?_) (fun c26 => ?_)
      · skip
        refine mt_iload_n (pc := 65) dX10_deepest_65 rfl ?_
        refine mt_if_ne (pc := 66) (tgt := 73) dX10_deepest_66 (by decide) (fun c66 => ?_) (fun c66 => ?_)
        · skip
          replace er := er.trans (congrArg Sum.inr (if_neg c66))
          refine mt_iload_n (pc := 73) dX10_deepest_73 rfl ?_
          exact mt_iret rfl dX10_deepest_74 (Nat.le_of_ble_eq_true rfl) (Nat.le_of_ble_eq_true rfl) (P_qv (ic := ic) (rs := rs) (ne := ne) (ia := ia) er fi)
        · skip
          replace er := er.trans (congrArg Sum.inr (if_pos c66))
          refine mt_iload_n (pc := 69) dX10_deepest_69 rfl ?_
          refine mt_goto (pc := 70) (tgt := 74) dX10_deepest_70 (by decide) ?_
          exact mt_iret rfl dX10_deepest_74 (Nat.le_of_ble_eq_true rfl) (Nat.le_of_ble_eq_true rfl) (P_qv (ic := ic) (rs := rs) (ne := ne) (ia := ia) er fi)
      · exact absurd (nI_le (Nat.le_refl _) (by omega)) c26
end BANKS
