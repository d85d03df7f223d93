/-! CryptBank: serving, sets of loans. -/
theorem IsLeast_u {P : Nat → Prop} {g : Nat → Nat} {o p : Option Nat} (h1 : IsLeast P g o) (h2 : IsLeast P g p) : o = p := by
  rcases o with _ | x <;> rcases p with _ | y
  · rfl
  · obtain ⟨⟨s, a, -⟩, -⟩ := h2
    exact absurd a (h1 s)
  · obtain ⟨⟨s, a, -⟩, -⟩ := h1
    exact absurd a (h2 s)
  · obtain ⟨⟨s, a, b⟩, c⟩ := h1
    obtain ⟨⟨t, a', b'⟩, c'⟩ := h2
    have := c t a'
    have := c' s a
    congr 1
    omega
/-- what each loan owes, 0 where there is none -/
def owF (k : CS) (cs : List Nat) (f : Nat → Int32) (i : Nat) : Int32 := if i < nlo f then owI k cs f i else 0
def obF (o : Nat → Int32) (s : Nat) : Int32 := fld (fun i acc => if s / 2 ^ i % 2 = 1 then acc + o i else acc) 0 10
abbrev mrC (o : Nat → Int32) (s b : Nat) : Prop := popc b 10 < popc s 10 ∨ (popc s 10 = popc b 10 ∧ obF o s < obF o b)
def clrF (o : Nat → Int32) (own pu : Int32) : Nat → Nat := gfl (fun s b => if (nI (s + 1) &&& (own ^^^ (-1))) = 0 ∧ ¬ pu < obF o (s + 1) ∧ mrC o (s + 1) b then s + 1 else b) 0
theorem clrF_le {o : Nat → Int32} {own pu : Int32} : ∀ n, clrF o own pu n ≤ n
  | 0 => Nat.le_refl 0
  | n + 1 => by
    have := clrF_le (o := o) (own := own) (pu := pu) n
    show (if (nI (n + 1) &&& (own ^^^ (-1))) = 0 ∧ ¬ pu < obF o (n + 1) ∧ mrC o (n + 1) (clrF o own pu n) then n + 1 else clrF o own pu n) ≤ n + 1
    split <;> omega
def comF (o : Nat → Int32) (n : Int32) : Nat → Int32 := fld (fun s acc => if obF o s = n then acc + 1 else acc) 0
theorem p2_10 {n : Nat} (h : n ≤ 10) : 2 ^ n ≤ 1024 := Nat.pow_le_pow_right (by decide) h
theorem QW.owed {h : Nat → mm_E} {ic rs ne ia : Int32} {k : CS} {cs : List Nat} {bk : BS} {pg : PGS} {o : Nat → Int32} (hQ : QW h ic rs ne ia k cs bk pg) : FQ h (hset h 187 (iaE 10 o)) := by
  obtain ⟨-, -, ⟨-, -, ⟨F, a1⟩, S, a2⟩, -, -, -, -, -, -, ⟨g, a5, a6⟩, ⟨⟨x, y, s1⟩, ⟨t1, s2⟩, ⟨t2, s3⟩, ⟨t3, s4⟩, t4, s5⟩, ⟨z, a3⟩, -⟩ := hQ
  exact ⟨fun j _ _ _ e => hset_ne (by omega), ⟨F, (hset_ne (by decide)).trans a1⟩, ⟨S, (hset_ne (by decide)).trans a2⟩, ⟨g, (hset_ne (by decide)).trans a5, a6⟩, ⟨⟨x, y, (hset_ne (by decide)).trans s1⟩, ⟨t1, (hset_ne (by decide)).trans s2⟩, ⟨t2, (hset_ne (by decide)).trans s3⟩, ⟨t3, (hset_ne (by decide)).trans s4⟩, t4, (hset_ne (by decide)).trans s5⟩, ⟨z, (hset_ne (by decide)).trans a3⟩, _, hset_eq _ _ _⟩
section BANKV
variable {G : mm_G} {l : Launch} {d nx : Nat} {h : Nat → mm_E} {ic rs ne ia : Int32} {k : CS} {cs : List Nat} {bk : BS} {pg : PGS} {V : VT}
theorem c_serves {x : Int32} (hl : l.stackTraces = false) (hd : 10 ≤ d) (hx : 188 ≤ nx) (hQ : QW h ic rs ne ia k cs bk pg) (hK : BKW k bk) (hU : UW pg.2.1) (hV : VOK bk.1 k.1 (amN bk) (fun p => lnM k pg.2.1 bk p bk.1) V) : mm_Con G l yX10_serves cX10_serves 2 (some .int) d 8 48 [.ref 0, .int x] nx h (P_q (ifR x 0 1 (.inr (if x = 0 then nI (V 0 (rmN pg.2.1) / 1000) else nI (V 0 (rmN pg.2.1) % 1000)))) ic rs ne ia nx h) := by
  obtain ⟨h0, hC, hA, hLW, hB, h33, hP, ⟨⟨n, hw⟩, hcn⟩, -⟩ := id hQ
  obtain rfl : n = nlo pg.2.1 := (nlo_eq hw).symm
  have c0 := hC.1
  have hk1 : k.1 ≤ 8 := hC.2.2.2.2.2.2.1
  have hk2 : k.2.1 ≤ 6 := hC.2.2.2.2.2.2.2
  obtain ⟨p1, p2, p3, -⟩ := id hP
  have hn := hw.2.1
  refine mm_start (lo := [some (.ref 0), some (.int x)]) pn_X10 rfl rfl (Nat.le_of_ble_eq_true rfl) ?_
  refine mt_aload_n (pc := 0) dX10_serves_0 rfl ?_
  refine mt_iload_n (pc := 1) dX10_serves_1 rfl ?_
  refine mt_iconst (pc := 2) (v := 0) dX10_serves_2 (by decide) ?_
  refine mt_iconst (pc := 3) (v := 1) dX10_serves_3 (by decide) ?_
  refine mt_aV (pc := 4) (c_needRange (d := 7) hl (Nat.le_refl 7) (by omega) h0) cal_X10_needRange vir_X10_needRange ml_X10_266 dX10_serves_4 (by first | assumption | omega) (by repeat (first | exact hset_eq _ _ _ | assumption | rw [hset_ne (by first | assumption | decide | omega)])) (by first | assumption | (show _ ≤ d; omega)) ⟨(Nat.le_of_ble_eq_true rfl), (Nat.le_of_ble_eq_true rfl)⟩ rfl rfl (Nat.le_of_ble_eq_true rfl) ?_ ?_
  · rintro x9 n9 k9 h9
    obtain ⟨rfl, rfl, hno, rfl⟩ := h9
    exact P_qx (if_neg hno)
  · rintro v9 n9 k9 ⟨rfl, rfl, hok, rfl⟩
    have er : ifR x 0 1 (.inr (if x = 0 then nI (V 0 (rmN pg.2.1) / 1000) else nI (V 0 (rmN pg.2.1) % 1000))) = .inr (if x = 0 then nI (V 0 (rmN pg.2.1) / 1000) else nI (V 0 (rmN pg.2.1) % 1000)) := if_pos hok
    have hb0 := hV 0 (rmN pg.2.1) (by decide) (fun p hp => (hU p (by omega)).2)
    refine ⟨rfl, ?_⟩
    refine mt_aload_n (pc := 7) dX10_serves_7 rfl ?_
    refine mt_get (pc := 8) gf_X10_83 dX10_serves_8 (by first | assumption | omega) (by repeat (first | exact hset_eq _ _ _ | assumption | rw [hset_ne (by first | assumption | decide | omega)])) rfl ?_
    refine mt_aload_n (pc := 11) dX10_serves_11 rfl ?_
    refine mt_get (pc := 12) gf_X10_39 dX10_serves_12 (by first | assumption | omega) (by repeat (first | exact hset_eq _ _ _ | assumption | rw [hset_ne (by first | assumption | decide | omega)])) rfl ?_
    refine mt_aload_n (pc := 15) dX10_serves_15 rfl ?_
    refine mt_get (pc := 16) gf_X10_58 dX10_serves_16 (by first | assumption | omega) (by repeat (first | exact hset_eq _ _ _ | assumption | rw [hset_ne (by first | assumption | decide | omega)])) rfl ?_
    refine mt_aload_n (pc := 19) dX10_serves_19 rfl ?_
    refine mt_get (pc := 20) gf_X10_65 dX10_serves_20 (by first | assumption | omega) (by repeat (first | exact hset_eq _ _ _ | assumption | rw [hset_ne (by first | assumption | decide | omega)])) rfl ?_
    refine mt_get (pc := 23) gf_X10_157 dX10_serves_23 (by first | assumption | omega) (by repeat (first | exact hset_eq _ _ _ | assumption | rw [hset_ne (by first | assumption | decide | omega)])) rfl ?_
    obtain ⟨⟨sx, sy, h181⟩, -⟩ := id hQ.2.2.2.2.2.2.2.2.2.2.1
    refine mt_aV (pc := 26) (c_svbegin (d := 3) (s := 35) (r := 36) (Nat.le_refl 3) (by omega) hQ.2.2.2.2.2.2.2.2.2.2.1 hB hK hC h33 (by decide) (by decide) p2 p3 hU) cal_X5_begin vir_X5_begin ml_X10_309 dX10_serves_26 (by first | assumption | omega) (by repeat (first | exact hset_eq _ _ _ | assumption | rw [hset_ne (by first | assumption | decide | omega)])) (by first | assumption | (show _ ≤ d; omega)) ⟨(Nat.le_of_ble_eq_true rfl), (Nat.le_of_ble_eq_true rfl)⟩ rfl rfl (Nat.le_of_ble_eq_true rfl) ?_ ?_
    · rintro x9 n9 k9 h9
      simp at h9
    · rintro v9 n9 k9 ⟨hv, rfl, hF9, hS9⟩
      cases hv
      refine ⟨rfl, ?_⟩
      have hFk := hQ.fs hF9 hS9.sx
      have hQk := hQ.of hFk
      have k0 := hQk.1
      have k181 := hS9.1
      have kB := hQk.2.2.2.2.1
      refine mt_iload_n (pc := 29) dX10_serves_29 rfl ?_
      refine mt_if_ne (pc := 30) (tgt := 43) dX10_serves_30 (by decide) (fun c30 => ?_) (fun c30 => ?_)
      · skip
        replace er := er.trans (congrArg Sum.inr (if_neg c30))
        refine mt_aload_n (pc := 43) dX10_serves_43 rfl ?_
        refine mt_get (pc := 44) gf_X10_83 dX10_serves_44 (by first | assumption | omega) k0 rfl ?_
        refine mt_aV (pc := 47) (c_mostAmount (d := 4) (Nat.le_refl 4) (by omega) hS9) cal_X5_mostAmount vir_X5_mostAmount ml_X10_315 dX10_serves_47 (by first | assumption | omega) k181 (by first | assumption | (show _ ≤ d; omega)) ⟨(Nat.le_of_ble_eq_true rfl), (Nat.le_of_ble_eq_true rfl)⟩ rfl rfl (Nat.le_of_ble_eq_true rfl) ?_ ?_
        · rintro x9 n9 k9 h9
          simp at h9
        · rintro v9 n9 k9 ⟨rfl, rfl, v, hv, hbv⟩
          cases hv
          obtain rfl := IsBest_u hbv hb0
          refine ⟨rfl, ?_⟩
          exact mt_iret rfl dX10_serves_50 (Nat.le_of_ble_eq_true rfl) (Nat.le_of_ble_eq_true rfl) (P_qv (ic := ic) (rs := rs) (ne := ne) (ia := ia) er hFk)
      · skip
        replace er := er.trans (congrArg Sum.inr (if_pos c30))
        refine mt_aload_n (pc := 33) dX10_serves_33 rfl ?_
        refine mt_get (pc := 34) gf_X10_83 dX10_serves_34 (by first | assumption | omega) k0 rfl ?_
        refine mt_aV (pc := 37) (c_mostLines (d := 4) (Nat.le_refl 4) (by omega) hS9) cal_X5_mostLines vir_X5_mostLines ml_X10_312 dX10_serves_37 (by first | assumption | omega) k181 (by first | assumption | (show _ ≤ d; omega)) ⟨(Nat.le_of_ble_eq_true rfl), (Nat.le_of_ble_eq_true rfl)⟩ rfl rfl (Nat.le_of_ble_eq_true rfl) ?_ ?_
        · rintro x9 n9 k9 h9
          simp at h9
        · rintro v9 n9 k9 ⟨rfl, rfl, v, hv, hbv⟩
          cases hv
          obtain rfl := IsBest_u hbv hb0
          refine ⟨rfl, ?_⟩
          refine mt_goto (pc := 40) (tgt := 50) dX10_serves_40 (by decide) ?_
          exact mt_iret rfl dX10_serves_50 (Nat.le_of_ble_eq_true rfl) (Nat.le_of_ble_eq_true rfl) (P_qv (ic := ic) (rs := rs) (ne := ne) (ia := ia) er hFk)
theorem c_served {x : Int32} (hl : l.stackTraces = false) (hd : 10 ≤ d) (hx : 188 ≤ nx) (hQ : QW h ic rs ne ia k cs bk pg) (hK : BKW k bk) (hU : UW pg.2.1) (hV : VOK bk.1 k.1 (amN bk) (fun p => lnM k pg.2.1 bk p bk.1) V) : mm_Con G l yX10_served cX10_served 2 (some .int) d 8 48 [.ref 0, .int x] nx h (P_q (if inR x bk.1 then .inr (oI (slS V (amN bk) (fun p => lnM k pg.2.1 bk p bk.1) k.1 (rmN pg.2.1) (x.toNatClampNeg + 1)).2.1) else .inl 0) ic rs ne ia nx h) := by
  obtain ⟨h0, hC, hA, hLW, hB, h33, hP, ⟨⟨n, hw⟩, hcn⟩, -⟩ := id hQ
  obtain rfl : n = nlo pg.2.1 := (nlo_eq hw).symm
  have c0 := hC.1
  have hk1 : k.1 ≤ 8 := hC.2.2.2.2.2.2.1
  have hk2 : k.2.1 ≤ 6 := hC.2.2.2.2.2.2.2
  obtain ⟨p1, p2, p3, -⟩ := id hP
  have hn := hw.2.1
  refine mm_start (lo := [some (.ref 0), some (.int x)]) pn_X10 rfl rfl (Nat.le_of_ble_eq_true rfl) ?_
  refine mt_aload_n (pc := 0) dX10_served_0 rfl ?_
  refine mt_iload_n (pc := 1) dX10_served_1 rfl ?_
  refine mt_if_lt (pc := 2) (tgt := 20) dX10_served_2 (by decide) (fun c2 => ?_) (fun c2 => ?_)
  · skip
    have hq : ¬ inR x bk.1 := fun y => y.1 c2
    refine mt_iconst (pc := 20) (v := 0) dX10_served_20 (by decide) ?_
    refine mt_aV (pc := 21) (c_needElement (d := 6) hl (Nat.le_refl 6) (by omega) h0) cal_X10_needElement vir_X10_needElement ml_X10_263 dX10_served_21 (by first | assumption | omega) (by repeat (first | exact hset_eq _ _ _ | assumption | rw [hset_ne (by first | assumption | decide | omega)])) (by first | assumption | (show _ ≤ d; omega)) ⟨(Nat.le_of_ble_eq_true rfl), (Nat.le_of_ble_eq_true rfl)⟩ rfl rfl (Nat.le_of_ble_eq_true rfl) ?_ ?_
    · rintro x9 n9 k9 h9
      obtain ⟨rfl, rfl, hno, rfl⟩ := h9
      exact P_qx (if_neg hq)
    · rintro v9 n9 k9 ⟨rfl, rfl, hok, rfl⟩
      refine ⟨rfl, ?_⟩
      exact absurd rfl hok
  · skip
    refine mt_iload_n (pc := 5) dX10_served_5 rfl ?_
    refine mt_aload_n (pc := 6) dX10_served_6 rfl ?_
    refine mt_get (pc := 7) gf_X10_39 dX10_served_7 (by first | assumption | omega) (by repeat (first | exact hset_eq _ _ _ | assumption | rw [hset_ne (by first | assumption | decide | omega)])) rfl ?_
    refine mt_get (pc := 10) gf_X10_182 dX10_served_10 (by first | assumption | omega) hB.1 rfl ?_
    refine mt_icmp_ge (pc := 13) (tgt := 20) dX10_served_13 (by decide) (fun c13 => ?_) (fun c13 => ?_)
    · skip
      have hq : ¬ inR x bk.1 := fun y => y.2 c13
      refine mt_iconst (pc := 20) (v := 0) dX10_served_20 (by decide) ?_
      refine mt_aV (pc := 21) (c_needElement (d := 6) hl (Nat.le_refl 6) (by omega) h0) cal_X10_needElement vir_X10_needElement ml_X10_263 dX10_served_21 (by first | assumption | omega) (by repeat (first | exact hset_eq _ _ _ | assumption | rw [hset_ne (by first | assumption | decide | omega)])) (by first | assumption | (show _ ≤ d; omega)) ⟨(Nat.le_of_ble_eq_true rfl), (Nat.le_of_ble_eq_true rfl)⟩ rfl rfl (Nat.le_of_ble_eq_true rfl) ?_ ?_
      · rintro x9 n9 k9 h9
        obtain ⟨rfl, rfl, hno, rfl⟩ := h9
        exact P_qx (if_neg hq)
      · rintro v9 n9 k9 ⟨rfl, rfl, hok, rfl⟩
        refine ⟨rfl, ?_⟩
        exact absurd rfl hok
    · skip
      have hq : inR x bk.1 := ⟨c2, c13⟩
      refine mt_iconst (pc := 16) (v := 1) dX10_served_16 (by decide) ?_
      refine mt_goto (pc := 17) (tgt := 21) dX10_served_17 (by decide) ?_
      refine mt_aV (pc := 21) (c_needElement (d := 6) hl (Nat.le_refl 6) (by omega) h0) cal_X10_needElement vir_X10_needElement ml_X10_263 dX10_served_21 (by first | assumption | omega) (by repeat (first | exact hset_eq _ _ _ | assumption | rw [hset_ne (by first | assumption | decide | omega)])) (by first | assumption | (show _ ≤ d; omega)) ⟨(Nat.le_of_ble_eq_true rfl), (Nat.le_of_ble_eq_true rfl)⟩ rfl rfl (Nat.le_of_ble_eq_true rfl) ?_ ?_
      · rintro x9 n9 k9 h9
        obtain ⟨rfl, rfl, hno, rfl⟩ := h9
        exact absurd (by decide) hno
      · rintro v9 n9 k9 ⟨rfl, rfl, hok, rfl⟩
        obtain ⟨j, hj, rfl⟩ := inR_of hq (by have := hK.1; omega)
        have er : (if inR (nI j) bk.1 then .inr (oI (slS V (amN bk) (fun p => lnM k pg.2.1 bk p bk.1) k.1 (rmN pg.2.1) ((nI j).toNatClampNeg + 1)).2.1) else .inl 0 : Nat ⊕ Int32) = .inr (oI (slS V (amN bk) (fun p => lnM k pg.2.1 bk p bk.1) k.1 (rmN pg.2.1) (j + 1)).2.1) := (if_pos hq).trans (by rw [nI_clamp (by have := hK.1; omega)])
        refine ⟨rfl, ?_⟩
        refine mt_aload_n (pc := 24) dX10_served_24 rfl ?_
        refine mt_get (pc := 25) gf_X10_83 dX10_served_25 (by first | assumption | omega) (by repeat (first | exact hset_eq _ _ _ | assumption | rw [hset_ne (by first | assumption | decide | omega)])) rfl ?_
        refine mt_aload_n (pc := 28) dX10_served_28 rfl ?_
        refine mt_get (pc := 29) gf_X10_39 dX10_served_29 (by first | assumption | omega) (by repeat (first | exact hset_eq _ _ _ | assumption | rw [hset_ne (by first | assumption | decide | omega)])) rfl ?_
        refine mt_aload_n (pc := 32) dX10_served_32 rfl ?_
        refine mt_get (pc := 33) gf_X10_58 dX10_served_33 (by first | assumption | omega) (by repeat (first | exact hset_eq _ _ _ | assumption | rw [hset_ne (by first | assumption | decide | omega)])) rfl ?_
        refine mt_aload_n (pc := 36) dX10_served_36 rfl ?_
        refine mt_get (pc := 37) gf_X10_65 dX10_served_37 (by first | assumption | omega) (by repeat (first | exact hset_eq _ _ _ | assumption | rw [hset_ne (by first | assumption | decide | omega)])) rfl ?_
        refine mt_get (pc := 40) gf_X10_157 dX10_served_40 (by first | assumption | omega) (by repeat (first | exact hset_eq _ _ _ | assumption | rw [hset_ne (by first | assumption | decide | omega)])) rfl ?_
        obtain ⟨⟨sx, sy, h181⟩, -⟩ := id hQ.2.2.2.2.2.2.2.2.2.2.1
        refine mt_aV (pc := 43) (c_svbegin (d := 3) (s := 35) (r := 36) (Nat.le_refl 3) (by omega) hQ.2.2.2.2.2.2.2.2.2.2.1 hB hK hC h33 (by decide) (by decide) p2 p3 hU) cal_X5_begin vir_X5_begin ml_X10_309 dX10_served_43 (by first | assumption | omega) (by repeat (first | exact hset_eq _ _ _ | assumption | rw [hset_ne (by first | assumption | decide | omega)])) (by first | assumption | (show _ ≤ d; omega)) ⟨(Nat.le_of_ble_eq_true rfl), (Nat.le_of_ble_eq_true rfl)⟩ rfl rfl (Nat.le_of_ble_eq_true rfl) ?_ ?_
        · rintro x9 n9 k9 h9
          simp at h9
        · rintro v9 n9 k9 ⟨hv, rfl, hF9, hS9⟩
          cases hv
          refine ⟨rfl, ?_⟩
          have hFk := hQ.fs hF9 hS9.sx
          have hQk := hQ.of hFk
          have k0 := hQk.1
          have k181 := hS9.1
          have kB := hQk.2.2.2.2.1
          refine mt_aload_n (pc := 46) dX10_served_46 rfl ?_
          refine mt_get (pc := 47) gf_X10_83 dX10_served_47 (by first | assumption | omega) k0 rfl ?_
          refine mt_iload_n (pc := 50) dX10_served_50 rfl ?_
          refine mt_aV (pc := 51) (c_slabOf (d := 5) (line := j) (Nat.le_refl 5) (by omega) hj hV hS9) cal_X5_slabOf vir_X5_slabOf ml_X10_318 dX10_served_51 (by first | assumption | omega) k181 (by first | assumption | (show _ ≤ d; omega)) ⟨(Nat.le_of_ble_eq_true rfl), (Nat.le_of_ble_eq_true rfl)⟩ rfl rfl (Nat.le_of_ble_eq_true rfl) ?_ ?_
          · rintro x9 n9 k9 h9
            simp at h9
          · rintro v9 n9 k9 ⟨hv, rfl, ⟨e9, hm9⟩, R9, hS8⟩
            cases hv
            refine ⟨rfl, ?_⟩
            exact mt_iret rfl dX10_served_54 (Nat.le_of_ble_eq_true rfl) (Nat.le_of_ble_eq_true rfl) (P_qv (ic := ic) (rs := rs) (ne := ne) (ia := ia) er (hQ.fs (fun j hj => by rw [hm9, hset_ne (by omega)]; exact hF9 j hj) hS8.sx))
theorem c_call {x : Int32} (hl : l.stackTraces = false) (hd : 10 ≤ d) (hx : 188 ≤ nx) (hQ : QW h ic rs ne ia k cs bk pg) {o9 : Option Nat} (hK : BKW k bk) (hU : UW pg.2.1) (ho : IsLeast (candM bk.1 k.1 (amN bk) (fun p => lnM k pg.2.1 bk p bk.1) (rmN pg.2.1) bk x) (fun s => sumM (amN bk) s bk.1) o9) : mm_Con G l yX10_call cX10_call 2 (some .int) d 8 48 [.ref 0, .int x] nx h (P_q (ifR x 0 5 (.inr (oI o9))) ic rs ne ia nx h) := by
  obtain ⟨h0, hC, hA, hLW, hB, h33, hP, ⟨⟨n, hw⟩, hcn⟩, -⟩ := id hQ
  obtain rfl : n = nlo pg.2.1 := (nlo_eq hw).symm
  have c0 := hC.1
  have hk1 : k.1 ≤ 8 := hC.2.2.2.2.2.2.1
  have hk2 : k.2.1 ≤ 6 := hC.2.2.2.2.2.2.2
  obtain ⟨p1, p2, p3, -⟩ := id hP
  have hn := hw.2.1
  refine mm_start (lo := [some (.ref 0), some (.int x)]) pn_X10 rfl rfl (Nat.le_of_ble_eq_true rfl) ?_
  refine mt_aload_n (pc := 0) dX10_call_0 rfl ?_
  refine mt_iload_n (pc := 1) dX10_call_1 rfl ?_
  refine mt_iconst (pc := 2) (v := 0) dX10_call_2 (by decide) ?_
  refine mt_iconst (pc := 3) (v := 5) dX10_call_3 (by decide) ?_
  refine mt_aV (pc := 4) (c_needRange (d := 7) hl (Nat.le_refl 7) (by omega) h0) cal_X10_needRange vir_X10_needRange ml_X10_266 dX10_call_4 (by first | assumption | omega) (by repeat (first | exact hset_eq _ _ _ | assumption | rw [hset_ne (by first | assumption | decide | omega)])) (by first | assumption | (show _ ≤ d; omega)) ⟨(Nat.le_of_ble_eq_true rfl), (Nat.le_of_ble_eq_true rfl)⟩ rfl rfl (Nat.le_of_ble_eq_true rfl) ?_ ?_
  · rintro x9 n9 k9 h9
    obtain ⟨rfl, rfl, hno, rfl⟩ := h9
    exact P_qx (if_neg hno)
  · rintro v9 n9 k9 ⟨rfl, rfl, hok, rfl⟩
    refine ⟨rfl, ?_⟩
    refine mt_aload_n (pc := 7) dX10_call_7 rfl ?_
    refine mt_get (pc := 8) gf_X10_83 dX10_call_8 (by first | assumption | omega) (by repeat (first | exact hset_eq _ _ _ | assumption | rw [hset_ne (by first | assumption | decide | omega)])) rfl ?_
    refine mt_aload_n (pc := 11) dX10_call_11 rfl ?_
    refine mt_get (pc := 12) gf_X10_39 dX10_call_12 (by first | assumption | omega) (by repeat (first | exact hset_eq _ _ _ | assumption | rw [hset_ne (by first | assumption | decide | omega)])) rfl ?_
    refine mt_aload_n (pc := 15) dX10_call_15 rfl ?_
    refine mt_get (pc := 16) gf_X10_58 dX10_call_16 (by first | assumption | omega) (by repeat (first | exact hset_eq _ _ _ | assumption | rw [hset_ne (by first | assumption | decide | omega)])) rfl ?_
    refine mt_aload_n (pc := 19) dX10_call_19 rfl ?_
    refine mt_get (pc := 20) gf_X10_65 dX10_call_20 (by first | assumption | omega) (by repeat (first | exact hset_eq _ _ _ | assumption | rw [hset_ne (by first | assumption | decide | omega)])) rfl ?_
    refine mt_get (pc := 23) gf_X10_157 dX10_call_23 (by first | assumption | omega) (by repeat (first | exact hset_eq _ _ _ | assumption | rw [hset_ne (by first | assumption | decide | omega)])) rfl ?_
    obtain ⟨⟨sx, sy, h181⟩, -⟩ := id hQ.2.2.2.2.2.2.2.2.2.2.1
    refine mt_aV (pc := 26) (c_svbegin (d := 3) (s := 35) (r := 36) (Nat.le_refl 3) (by omega) hQ.2.2.2.2.2.2.2.2.2.2.1 hB hK hC h33 (by decide) (by decide) p2 p3 hU) cal_X5_begin vir_X5_begin ml_X10_309 dX10_call_26 (by first | assumption | omega) (by repeat (first | exact hset_eq _ _ _ | assumption | rw [hset_ne (by first | assumption | decide | omega)])) (by first | assumption | (show _ ≤ d; omega)) ⟨(Nat.le_of_ble_eq_true rfl), (Nat.le_of_ble_eq_true rfl)⟩ rfl rfl (Nat.le_of_ble_eq_true rfl) ?_ ?_
    · rintro x9 n9 k9 h9
      simp at h9
    · rintro v9 n9 k9 ⟨hv, rfl, hF9, hS9⟩
      cases hv
      refine ⟨rfl, ?_⟩
      have hFk := hQ.fs hF9 hS9.sx
      have hQk := hQ.of hFk
      have k0 := hQk.1
      have k181 := hS9.1
      have kB := hQk.2.2.2.2.1
      refine mt_aload_n (pc := 29) dX10_call_29 rfl ?_
      refine mt_get (pc := 30) gf_X10_83 dX10_call_30 (by first | assumption | omega) k0 rfl ?_
      refine mt_aload_n (pc := 33) dX10_call_33 rfl ?_
      refine mt_get (pc := 34) gf_X10_39 dX10_call_34 (by first | assumption | omega) k0 rfl ?_
      refine mt_iload_n (pc := 37) dX10_call_37 rfl ?_
      refine mt_aV (pc := 38) (c_leastMore (d := 3) (kd := x) (Nat.le_refl 3) (by omega) kB rfl hS9) cal_X5_leastMore vir_X5_leastMore ml_X10_321 dX10_call_38 (by first | assumption | omega) k181 (by first | assumption | (show _ ≤ d; omega)) ⟨(Nat.le_of_ble_eq_true rfl), (Nat.le_of_ble_eq_true rfl)⟩ rfl rfl (Nat.le_of_ble_eq_true rfl) ?_ ?_
      · rintro x9 n9 k9 h9
        simp at h9
      · rintro v9 n9 k9 ⟨rfl, rfl, x9, hv, hbv⟩
        cases hv
        obtain rfl := IsLeast_u hbv ho
        refine ⟨rfl, ?_⟩
        exact mt_iret rfl dX10_call_41 (Nat.le_of_ble_eq_true rfl) (Nat.le_of_ble_eq_true rfl) (P_qv (ic := ic) (rs := rs) (ne := ne) (ia := ia) (if_pos hok) hFk)
theorem c_fault {sz en pl st fk fp : Int32} (hx : 188 ≤ nx) (h0 : h 0 = cbE ic rs ne ia) (hT : h 1 = tpE sz en pl st fk fp) : mm_Con G l yX10_fault cX10_fault 1 (some .int) d 0 0 [.ref 0] nx h (mm_ret (some (.int fp)) nx h) := by
  refine mm_start (lo := [some (.ref 0)]) pn_X10 rfl rfl (Nat.le_of_ble_eq_true rfl) ?_
  refine mt_aload_n (pc := 0) dX10_fault_0 rfl ?_
  refine mt_get (pc := 1) gf_X10_10 dX10_fault_1 (by first | assumption | omega) (by repeat (first | exact hset_eq _ _ _ | assumption | rw [hset_ne (by first | assumption | decide | omega)])) rfl ?_
  refine mt_get (pc := 4) gf_X10_185 dX10_fault_4 (by first | assumption | omega) (by repeat (first | exact hset_eq _ _ _ | assumption | rw [hset_ne (by first | assumption | decide | omega)])) rfl ?_
  exact mt_iret rfl dX10_fault_7 (Nat.le_of_ble_eq_true rfl) (Nat.le_of_ble_eq_true rfl) ⟨rfl, rfl, rfl⟩
def couV (ic sz wk x : Int32) : Int32 := if x = nI 0 then ic else if x = nI 1 then sz else if x = nI 2 then wk else -1
theorem c_count {x sz en pl st fk fp : Int32} (hx : 188 ≤ nx) (h0 : h 0 = cbE ic rs ne ia) (hT : h 1 = tpE sz en pl st fk fp) (hP : PG h 34 pg) : mm_Con G l yX10_count cX10_count 2 (some .int) d 0 0 [.ref 0, .int x] nx h (mm_ret (some (.int (couV ic sz (nI pg.1) x))) nx h) := by
  have p1 := hP.1
  refine mm_start (lo := [some (.ref 0), some (.int x)]) pn_X10 rfl rfl (Nat.le_of_ble_eq_true rfl) ?_
  refine mt_iload_n (pc := 0) dX10_count_0 rfl ?_
  rcases sw_cases x 2 with ⟨c1, h1, rfl⟩ | h1
  · rcases (show c1 = 0 ∨ c1 = 1 ∨ c1 = 2 by omega) with rfl | rfl | rfl
    · refine mt_tableIn (pc := 1) (tgt := 28) dX10_count_1 (by decide) (by decide) (off := 27) (by decide +kernel) (by decide) ?_
      refine mt_aload_n (pc := 28) dX10_count_28 rfl ?_
      refine mt_get (pc := 29) gf_X10_135 dX10_count_29 (by first | assumption | omega) (by repeat (first | exact hset_eq _ _ _ | assumption | rw [hset_ne (by first | assumption | decide | omega)])) rfl ?_
      exact mt_iret rfl dX10_count_32 (Nat.le_of_ble_eq_true rfl) (Nat.le_of_ble_eq_true rfl) ⟨rfl, rfl, rfl⟩
    · refine mt_tableIn (pc := 1) (tgt := 33) dX10_count_1 (by decide) (by decide) (off := 32) (by decide +kernel) (by decide) ?_
      refine mt_aload_n (pc := 33) dX10_count_33 rfl ?_
      refine mt_get (pc := 34) gf_X10_10 dX10_count_34 (by first | assumption | omega) (by repeat (first | exact hset_eq _ _ _ | assumption | rw [hset_ne (by first | assumption | decide | omega)])) rfl ?_
      refine mt_get (pc := 37) gf_X10_106 dX10_count_37 (by first | assumption | omega) (by repeat (first | exact hset_eq _ _ _ | assumption | rw [hset_ne (by first | assumption | decide | omega)])) rfl ?_
      exact mt_iret rfl dX10_count_40 (Nat.le_of_ble_eq_true rfl) (Nat.le_of_ble_eq_true rfl) ⟨rfl, rfl, rfl⟩
    · refine mt_tableIn (pc := 1) (tgt := 41) dX10_count_1 (by decide) (by decide) (off := 40) (by decide +kernel) (by decide) ?_
      refine mt_aload_n (pc := 41) dX10_count_41 rfl ?_
      refine mt_get (pc := 42) gf_X10_65 dX10_count_42 (by first | assumption | omega) (by repeat (first | exact hset_eq _ _ _ | assumption | rw [hset_ne (by first | assumption | decide | omega)])) rfl ?_
      refine mt_get (pc := 45) gf_X10_148 dX10_count_45 (by first | assumption | omega) (by repeat (first | exact hset_eq _ _ _ | assumption | rw [hset_ne (by first | assumption | decide | omega)])) rfl ?_
      exact mt_iret rfl dX10_count_48 (Nat.le_of_ble_eq_true rfl) (Nat.le_of_ble_eq_true rfl) ⟨rfl, rfl, rfl⟩
  · refine mt_tableOut (pc := 1) (tgt := 49) dX10_count_1 h1 (by decide) ?_
    refine mt_iconst (pc := 49) (v := (-1)) dX10_count_49 (by decide) ?_
    exact mt_iret rfl dX10_count_50 (Nat.le_of_ble_eq_true rfl) (Nat.le_of_ble_eq_true rfl) ⟨by unfold couV; rw [if_neg (sw_no h1 (by decide) (by decide)), if_neg (sw_no h1 (by decide) (by decide)), if_neg (sw_no h1 (by decide) (by decide))], rfl, rfl⟩
theorem c_fillOwed (hd : 4 ≤ d) (hx : 188 ≤ nx) (hQ : QW h ic rs ne ia k cs bk pg) : mm_Con G l yX10_fillOwed cX10_fillOwed 2 none d 0 0 [.ref 0] nx h (fun o n' m => o = .inl none ∧ nx = n' ∧ FQ h m ∧ ∃ a, m 187 = iaE 10 a ∧ ∀ i, i < 10 → a i = owF k cs pg.2.1 i) := by
  obtain ⟨h0, hC, hA, hLW, hB, h33, hP, ⟨⟨n, hw⟩, hcn⟩, -⟩ := id hQ
  obtain rfl : n = nlo pg.2.1 := (nlo_eq hw).symm
  have c0 := hC.1
  have hk1 : k.1 ≤ 8 := hC.2.2.2.2.2.2.1
  have hk2 : k.2.1 ≤ 6 := hC.2.2.2.2.2.2.2
  obtain ⟨p1, p2, p3, -⟩ := id hP
  have hn := hw.2.1
  obtain ⟨o0, h187⟩ := hQ.2.2.2.2.2.2.2.2.2.2.2.2
  refine mm_start (lo := [some (.ref 0), none]) pn_X10 rfl rfl (Nat.le_of_ble_eq_true rfl) ?_
  refine mt_iconst (pc := 0) (v := 0) dX10_fillOwed_0 (by decide) ?_
  refine mt_istore_n (pc := 1) dX10_fillOwed_1 (Nat.le_of_ble_eq_true rfl) rfl ?_
  refine mt_forE (pc := 2) (α := Nat → mm_E) (H := fun i (m : Nat → mm_E) => m) (L := fun i (m : Nat → mm_E) => [some (.ref 0), some (.int (nI i))]) (I := fun i (m : Nat → mm_E) => FQ h m ∧ ∃ a, m 187 = iaE 10 a ∧ ∀ j, j < i → a j = owF k cs pg.2.1 j) 10 (fun i m hi fi ni => ?_) (fun m fi => ?_) h (⟨hQ.fq, o0, h187, fun j hj => absurd hj (Nat.not_lt_zero j)⟩)
  · skip
    obtain ⟨g1, a, g2, g3⟩ := fi
    obtain ⟨m0, mC, mA, -, -, m33, mP, -⟩ := hQ.of g1
    obtain ⟨q1, q2, q3, -⟩ := id mP
    have hin : (if nI i < 0 then (0 : Int32) else if pg.2.1 3 ≤ nI i then 0 else 1) = if i < nlo pg.2.1 then 1 else 0 := by
      rw [hw.1, if_neg (nI_pos (by omega))]
      by_cases z : i < nlo pg.2.1
      · rw [if_pos z, if_neg (nI_ge z (by omega))]
      · rw [if_neg z, if_pos (nI_le (by omega) (by omega))]
    refine mt_iload_n (pc := 2) dX10_fillOwed_2 rfl ?_
    refine mt_aload_n (pc := 3) dX10_fillOwed_3 rfl ?_
    refine mt_get (pc := 4) gf_X10_94 dX10_fillOwed_4 (by first | assumption | omega) m0 rfl ?_
    refine mt_alen (pc := 7) dX10_fillOwed_7 (by first | assumption | omega) g2 (by decide) ?_
    refine mt_icmp_ge (pc := 8) (tgt := 56) dX10_fillOwed_8 (by decide) (fun c8 => ?_) (fun c8 => ?_)
    · exact absurd c8 (nI_ge hi (by omega))
    · skip
      refine mt_aload_n (pc := 11) dX10_fillOwed_11 rfl ?_
      refine mt_get (pc := 12) gf_X10_94 dX10_fillOwed_12 (by first | assumption | omega) m0 rfl ?_
      refine mt_iload_n (pc := 15) dX10_fillOwed_15 rfl ?_
      refine mt_aload_n (pc := 16) dX10_fillOwed_16 rfl ?_
      refine mt_get (pc := 17) gf_X10_65 dX10_fillOwed_17 (by first | assumption | omega) m0 rfl ?_
      refine mt_get (pc := 20) gf_X10_157 dX10_fillOwed_20 (by first | assumption | omega) q1 rfl ?_
      refine mt_iload_n (pc := 23) dX10_fillOwed_23 rfl ?_
      refine mt_cV (pc := 24) (c_hasLoan (d := 1) (by omega) (by omega) q2 q3) cal_X6_hasLoan vir_X6_hasLoan ml_X10_260 dX10_fillOwed_24 (by first | assumption | omega) q2 (by first | assumption | (show _ ≤ d; omega)) ⟨(Nat.le_of_ble_eq_true rfl), (Nat.le_of_ble_eq_true rfl)⟩ rfl rfl (Nat.le_of_ble_eq_true rfl) ?_
      rw [hin]
      refine mt_if_eq (pc := 27) (tgt := 48) dX10_fillOwed_27 (by decide) (fun c27 => ?_) (fun c27 => ?_)
      · skip
        have hlt : ¬ i < nlo pg.2.1 := fun z => by rw [if_pos z] at c27; exact absurd c27 (by decide)
        refine mt_iconst (pc := 48) (v := 0) dX10_fillOwed_48 (by decide) ?_
        first
          | refine mt_iast2 (pc := 49) dX10_fillOwed_49 (by first | assumption | omega) (by first | assumption | (exact vp_in_nI (by omega) (by omega)) | decide) ?_
          | refine mt_iast (pc := 49) dX10_fillOwed_49 (by first | assumption | omega) g2 (by first | assumption | (exact vp_in_nI (by omega) (by omega)) | decide) ?_
        refine mt_iinc (pc := 50) (c9 := 1) dX10_fillOwed_50 rfl (by decide) (Nat.le_of_ble_eq_true rfl) rfl ?_
        refine mt_goto (pc := 53) (tgt := 2) dX10_fillOwed_53 (by decide) ?_
        rw [nI_clamp (by omega), show (nI i + 1 : Int32) = nI (i + 1) from nI_1 i]
        refine ni _ ⟨FQ.trans g1 (hQ.of g1).owed, _, hset_eq _ _ _, fun j hj => ?_⟩
        by_cases z : j = i
        · subst z; rw [upd_eq, owF, if_neg hlt]
        · rw [upd_ne z]; exact g3 j (by omega)
      · skip
        have hlt : i < nlo pg.2.1 := Classical.not_not.mp fun z => c27 (if_neg z)
        have so := hw.so hlt
        have sl := hw.sl hlt
        refine mt_aload_n (pc := 30) dX10_fillOwed_30 rfl ?_
        refine mt_get (pc := 31) gf_X10_58 dX10_fillOwed_31 (by first | assumption | omega) m0 rfl ?_
        refine mt_aload_n (pc := 34) dX10_fillOwed_34 rfl ?_
        refine mt_get (pc := 35) gf_X10_65 dX10_fillOwed_35 (by first | assumption | omega) m0 rfl ?_
        refine mt_get (pc := 38) gf_X10_157 dX10_fillOwed_38 (by first | assumption | omega) q1 rfl ?_
        refine mt_iload_n (pc := 41) dX10_fillOwed_41 rfl ?_
        refine mt_aV (pc := 42) (c_rowes (d := 3) (i := i) (Nat.le_refl 3) (by omega) (by omega) so.1 so.2 sl.1 sl.2 mA hLW mC m33 (by decide) (by decide) (by omega) (by omega) q2 q3) cal_X4_owes vir_X4_owes ml_X10_270 dX10_fillOwed_42 (by first | assumption | omega) m33 (by first | assumption | (show _ ≤ d; omega)) ⟨(Nat.le_of_ble_eq_true rfl), (Nat.le_of_ble_eq_true rfl)⟩ rfl rfl (Nat.le_of_ble_eq_true rfl) ?_ ?_
        · rintro x9 n9 k9 h9
          simp [P_ow] at h9
        · rintro v9 n9 k9 ⟨hv, rfl, hF9⟩
          cases hv
          have hFk := FQ.trans g1 ((hQ.of g1).frl hF9)
          have k187 := (hF9.1 187 (by decide) (by decide)).trans g2
          refine ⟨rfl, ?_⟩
          refine mt_goto (pc := 45) (tgt := 49) dX10_fillOwed_45 (by decide) ?_
          first
            | refine mt_iast2 (pc := 49) dX10_fillOwed_49 (by first | assumption | omega) (by first | assumption | (exact vp_in_nI (by omega) (by omega)) | decide) ?_
            | refine mt_iast (pc := 49) dX10_fillOwed_49 (by first | assumption | omega) k187 (by first | assumption | (exact vp_in_nI (by omega) (by omega)) | decide) ?_
          refine mt_iinc (pc := 50) (c9 := 1) dX10_fillOwed_50 rfl (by decide) (Nat.le_of_ble_eq_true rfl) rfl ?_
          refine mt_goto (pc := 53) (tgt := 2) dX10_fillOwed_53 (by decide) ?_
          rw [nI_clamp (by omega), show (nI i + 1 : Int32) = nI (i + 1) from nI_1 i]
          refine ni _ ⟨FQ.trans hFk (hQ.of hFk).owed, _, hset_eq _ _ _, fun j hj => ?_⟩
          by_cases z : j = i
          · subst z; rw [upd_eq, owF, if_pos hlt]; rfl
          · rw [upd_ne z]; exact g3 j (by omega)
  · skip
    obtain ⟨g1, a, g2, g3⟩ := fi
    have m0 := (hQ.of g1).1
    refine mt_iload_n (pc := 2) dX10_fillOwed_2 rfl ?_
    refine mt_aload_n (pc := 3) dX10_fillOwed_3 rfl ?_
    refine mt_get (pc := 4) gf_X10_94 dX10_fillOwed_4 (by first | assumption | omega) m0 rfl ?_
    refine mt_alen (pc := 7) dX10_fillOwed_7 (by first | assumption | omega) g2 (by decide) ?_
    refine mt_icmp_ge (pc := 8) (tgt := 56) dX10_fillOwed_8 (by decide) (fun c8 => ?_) (fun c8 => ?_)
    · skip
      exact mt_vret rfl dX10_fillOwed_56 (Nat.le_of_ble_eq_true rfl) (Nat.le_of_ble_eq_true rfl) ⟨rfl, rfl, g1, a, g2, g3⟩
    · exact absurd (nI_le (Nat.le_refl _) (by omega)) c8
theorem c_owedBy {s : Nat} {a o : Nat → Int32} (hx : 188 ≤ nx) (hs : s < 1024) (h0 : h 0 = cbE ic rs ne ia) (h187 : h 187 = iaE 10 a) (ha : ∀ i, i < 10 → a i = o i) : mm_Con G l yX10_owedBy cX10_owedBy 4 (some .int) d 0 0 [.ref 0, .int (nI s)] nx h (mm_ret (some (.int (obF o s))) nx h) := by
  refine mm_start (lo := [some (.ref 0), some (.int (nI s)), none, none]) pn_X10 rfl rfl (Nat.le_of_ble_eq_true rfl) ?_
  refine mt_iconst (pc := 0) (v := 0) dX10_owedBy_0 (by decide) ?_
  refine mt_istore_n (pc := 1) dX10_owedBy_1 (Nat.le_of_ble_eq_true rfl) rfl ?_
  refine mt_iconst (pc := 2) (v := 0) dX10_owedBy_2 (by decide) ?_
  refine mt_istore_n (pc := 3) dX10_owedBy_3 (Nat.le_of_ble_eq_true rfl) rfl ?_
  refine mt_for (pc := 4) (H := fun i => h) (L := fun i => [some (.ref 0), some (.int (nI s)), some (.int (fld (fun i acc => if s / 2 ^ i % 2 = 1 then acc + o i else acc) 0 i)), some (.int (nI i))]) 10 (fun i hi ni => ?_) ?_
  · skip
    have e1 : fld (fun i acc => if s / 2 ^ i % 2 = 1 then acc + o i else acc) 0 (i + 1) = if s / 2 ^ i % 2 = 1 then fld (fun i acc => if s / 2 ^ i % 2 = 1 then acc + o i else acc) 0 i + o i else fld (fun i acc => if s / 2 ^ i % 2 = 1 then acc + o i else acc) 0 i := rfl
    refine mt_iload_n (pc := 4) dX10_owedBy_4 rfl ?_
    refine mt_aload_n (pc := 5) dX10_owedBy_5 rfl ?_
    refine mt_get (pc := 6) gf_X10_94 dX10_owedBy_6 (by first | assumption | omega) (by repeat (first | exact hset_eq _ _ _ | assumption | rw [hset_ne (by first | assumption | decide | omega)])) rfl ?_
    refine mt_alen (pc := 9) dX10_owedBy_9 (by first | assumption | omega) (by repeat (first | exact hset_eq _ _ _ | assumption | rw [hset_ne (by first | assumption | decide | omega)])) (by decide) ?_
    refine mt_icmp_ge (pc := 10) (tgt := 37) dX10_owedBy_10 (by decide) (fun c10 => ?_) (fun c10 => ?_)
    · exact absurd c10 (nI_ge hi (by omega))
    · skip
      refine mt_iload_n (pc := 13) dX10_owedBy_13 rfl ?_
      refine mt_iload_n (pc := 14) dX10_owedBy_14 rfl ?_
      refine mt_ishr (pc := 15) dX10_owedBy_15 ?_
      refine mt_iconst (pc := 16) (v := 1) dX10_owedBy_16 (by decide) ?_
      refine mt_iand (pc := 17) dX10_owedBy_17 ?_
      rw [bit32 (by omega) (by omega)]
      refine mt_iconst (pc := 18) (v := 1) dX10_owedBy_18 (by decide) ?_
      refine mt_icmp_ne (pc := 19) (tgt := 31) dX10_owedBy_19 (by decide) (fun c19 => ?_) (fun c19 => ?_)
      · skip
        rw [if_neg (fun z => c19 (by rw [z]; rfl))] at e1
        refine mt_iinc (pc := 31) (c9 := 1) dX10_owedBy_31 rfl (by decide) (Nat.le_of_ble_eq_true rfl) rfl ?_
        refine mt_goto (pc := 34) (tgt := 4) dX10_owedBy_34 (by decide) ?_
        rw [e1] at ni
        rw [show (nI i + 1 : Int32) = nI (i + 1) from nI_1 i]
        first
          | exact ni
          | exact mt_fg (by repeat (first | exact trivial | refine ⟨rfl, ?_⟩ | rfl)) ni
      · skip
        rw [if_pos ((nI_eq (b := 1) (by omega) (by decide)).mp c19)] at e1
        refine mt_iload_n (pc := 22) dX10_owedBy_22 rfl ?_
        refine mt_aload_n (pc := 23) dX10_owedBy_23 rfl ?_
        refine mt_get (pc := 24) gf_X10_94 dX10_owedBy_24 (by first | assumption | omega) (by repeat (first | exact hset_eq _ _ _ | assumption | rw [hset_ne (by first | assumption | decide | omega)])) rfl ?_
        refine mt_iload_n (pc := 27) dX10_owedBy_27 rfl ?_
        refine mt_iald (pc := 28) dX10_owedBy_28 (by first | assumption | omega) (by repeat (first | exact hset_eq _ _ _ | assumption | rw [hset_ne (by first | assumption | decide | omega)])) (by first | assumption | (exact vp_in_nI (by omega) (by omega)) | decide) ?_
        rw [nI_clamp (by omega), ha i hi]
        refine mt_iadd (pc := 29) dX10_owedBy_29 ?_
        refine mt_istore_n (pc := 30) dX10_owedBy_30 (Nat.le_of_ble_eq_true rfl) rfl ?_
        refine mt_iinc (pc := 31) (c9 := 1) dX10_owedBy_31 rfl (by decide) (Nat.le_of_ble_eq_true rfl) rfl ?_
        refine mt_goto (pc := 34) (tgt := 4) dX10_owedBy_34 (by decide) ?_
        rw [e1] at ni
        rw [show (nI i + 1 : Int32) = nI (i + 1) from nI_1 i]
        first
          | exact ni
          | exact mt_fg (by repeat (first | exact trivial | refine ⟨rfl, ?_⟩ | rfl)) ni
  · skip
    refine mt_iload_n (pc := 4) dX10_owedBy_4 rfl ?_
    refine mt_aload_n (pc := 5) dX10_owedBy_5 rfl ?_
    refine mt_get (pc := 6) gf_X10_94 dX10_owedBy_6 (by first | assumption | omega) (by repeat (first | exact hset_eq _ _ _ | assumption | rw [hset_ne (by first | assumption | decide | omega)])) rfl ?_
    refine mt_alen (pc := 9) dX10_owedBy_9 (by first | assumption | omega) (by repeat (first | exact hset_eq _ _ _ | assumption | rw [hset_ne (by first | assumption | decide | omega)])) (by decide) ?_
    refine mt_icmp_ge (pc := 10) (tgt := 37) dX10_owedBy_10 (by decide) (fun c10 => ?_) (fun c10 => ?_)
    · skip
      refine mt_iload_n (pc := 37) dX10_owedBy_37 rfl ?_
      exact mt_iret rfl dX10_owedBy_38 (Nat.le_of_ble_eq_true rfl) (Nat.le_of_ble_eq_true rfl) ⟨rfl, rfl, rfl⟩
    · exact absurd (nI_le (Nat.le_refl _) (by omega)) c10
theorem c_clearsMore {s b : Nat} {a o : Nat → Int32} (hd : 2 ≤ d) (hx : 188 ≤ nx) (hs : s < 1024) (hb : b < 1024) (h0 : h 0 = cbE ic rs ne ia) (h187 : h 187 = iaE 10 a) (ha : ∀ i, i < 10 → a i = o i) : mm_Con G l yX10_clearsMore cX10_clearsMore 4 (some .boolean) d 0 0 [.ref 0, .int (nI s), .int (nI b)] nx h (mm_ret (some (.int (if mrC o s b then 1 else 0))) nx h) := by
  have e1 := popc_le s 10
  have e2 := popc_le b 10
  have ht : (nI (popc s 10) - nI (popc b 10)).toInt = (popc s 10 : Int) - popc b 10 := pk_sub_toInt (by omega) (by omega)
  refine mm_start (lo := [some (.ref 0), some (.int (nI s)), some (.int (nI b)), none]) pn_X10 rfl rfl (Nat.le_of_ble_eq_true rfl) ?_
  refine mt_iload_n (pc := 0) dX10_clearsMore_0 rfl ?_
  refine mt_cS (pc := 1) (c_bitCount (d := 1) (s := s) hs) cal_J6_bitCount_0f7a4 sta_J6_bitCount_0f7a4 ml_X10_382 dX10_clearsMore_1 (by first | assumption | (show _ ≤ d; omega)) ⟨(Nat.le_of_ble_eq_true rfl), (Nat.le_of_ble_eq_true rfl)⟩ rfl rfl (Nat.le_of_ble_eq_true rfl) ?_
  refine mt_iload_n (pc := 4) dX10_clearsMore_4 rfl ?_
  refine mt_cS (pc := 5) (c_bitCount (d := 1) (s := b) hb) cal_J6_bitCount_0f7a4 sta_J6_bitCount_0f7a4 ml_X10_382 dX10_clearsMore_5 (by first | assumption | (show _ ≤ d; omega)) ⟨(Nat.le_of_ble_eq_true rfl), (Nat.le_of_ble_eq_true rfl)⟩ rfl rfl (Nat.le_of_ble_eq_true rfl) ?_
  refine mt_isub (pc := 8) dX10_clearsMore_8 ?_
  refine mt_istore_n (pc := 9) dX10_clearsMore_9 (Nat.le_of_ble_eq_true rfl) rfl ?_
  refine mt_iload_n (pc := 10) dX10_clearsMore_10 rfl ?_
  refine mt_if_gt (pc := 11) (tgt := 31) dX10_clearsMore_11 (by decide) (fun c11 => ?_) (fun c11 => ?_)
  · skip
    have hq : mrC o s b := Or.inl (by have := Int32.lt_iff_toInt_lt.mp c11; rw [ht, show (0 : Int32).toInt = 0 from rfl] at this; omega)
    have er : (if mrC o s b then (1 : Int32) else 0) = 1 := if_pos hq
    refine mt_iconst (pc := 31) (v := 1) dX10_clearsMore_31 (by decide) ?_
    refine mt_goto (pc := 32) (tgt := 36) dX10_clearsMore_32 (by decide) ?_
    exact mt_zret rfl (by first | exact Or.inl rfl | exact Or.inr rfl) dX10_clearsMore_36 (Nat.le_of_ble_eq_true rfl) (Nat.le_of_ble_eq_true rfl) ⟨by rw [er], rfl, rfl⟩
  · skip
    have hle : popc s 10 ≤ popc b 10 := Nat.le_of_not_lt fun z => c11 (Int32.lt_iff_toInt_lt.mpr (by rw [ht, show (0 : Int32).toInt = 0 from rfl]; omega))
    refine mt_iload_n (pc := 14) dX10_clearsMore_14 rfl ?_
    refine mt_if_ne (pc := 15) (tgt := 35) dX10_clearsMore_15 (by decide) (fun c15 => ?_) (fun c15 => ?_)
    · skip
      have hne : ¬ popc s 10 = popc b 10 := fun z => c15 (by rw [z]; exact Int32.sub_self _)
      have er : (if mrC o s b then (1 : Int32) else 0) = 0 := if_neg fun z => z.elim (fun y => by omega) (fun y => hne y.1)
      refine mt_iconst (pc := 35) (v := 0) dX10_clearsMore_35 (by decide) ?_
      exact mt_zret rfl (by first | exact Or.inl rfl | exact Or.inr rfl) dX10_clearsMore_36 (Nat.le_of_ble_eq_true rfl) (Nat.le_of_ble_eq_true rfl) ⟨by rw [er], rfl, rfl⟩
    · skip
      have heq : popc s 10 = popc b 10 := by
        have := congrArg Int32.toInt c15
        rw [ht, show (0 : Int32).toInt = 0 from rfl] at this
        omega
      refine mt_aload_n (pc := 18) dX10_clearsMore_18 rfl ?_
      refine mt_iload_n (pc := 19) dX10_clearsMore_19 rfl ?_
      refine mt_cV (pc := 20) (c_owedBy (d := 1) (s := s) hx hs h0 h187 ha) cal_X10_owedBy vir_X10_owedBy ml_X10_302 dX10_clearsMore_20 (by first | assumption | omega) (by repeat (first | exact hset_eq _ _ _ | assumption | rw [hset_ne (by first | assumption | decide | omega)])) (by first | assumption | (show _ ≤ d; omega)) ⟨(Nat.le_of_ble_eq_true rfl), (Nat.le_of_ble_eq_true rfl)⟩ rfl rfl (Nat.le_of_ble_eq_true rfl) ?_
      refine mt_aload_n (pc := 23) dX10_clearsMore_23 rfl ?_
      refine mt_iload_n (pc := 24) dX10_clearsMore_24 rfl ?_
      refine mt_cV (pc := 25) (c_owedBy (d := 1) (s := b) hx hb h0 h187 ha) cal_X10_owedBy vir_X10_owedBy ml_X10_302 dX10_clearsMore_25 (by first | assumption | omega) (by repeat (first | exact hset_eq _ _ _ | assumption | rw [hset_ne (by first | assumption | decide | omega)])) (by first | assumption | (show _ ≤ d; omega)) ⟨(Nat.le_of_ble_eq_true rfl), (Nat.le_of_ble_eq_true rfl)⟩ rfl rfl (Nat.le_of_ble_eq_true rfl) ?_
      refine mt_icmp_ge (pc := 28) (tgt := 35) dX10_clearsMore_28 (by decide) (fun c28 => ?_) (fun c28 => ?_)
      · skip
        have er : (if mrC o s b then (1 : Int32) else 0) = 0 := if_neg fun z => z.elim (fun y => by omega) (fun y => Int32.not_lt.mpr c28 y.2)
        refine mt_iconst (pc := 35) (v := 0) dX10_clearsMore_35 (by decide) ?_
        exact mt_zret rfl (by first | exact Or.inl rfl | exact Or.inr rfl) dX10_clearsMore_36 (Nat.le_of_ble_eq_true rfl) (Nat.le_of_ble_eq_true rfl) ⟨by rw [er], rfl, rfl⟩
      · skip
        have er : (if mrC o s b then (1 : Int32) else 0) = 1 := if_pos (Or.inr ⟨heq, Int32.not_le.mp c28⟩)
        refine mt_iconst (pc := 31) (v := 1) dX10_clearsMore_31 (by decide) ?_
        refine mt_goto (pc := 32) (tgt := 36) dX10_clearsMore_32 (by decide) ?_
        exact mt_zret rfl (by first | exact Or.inl rfl | exact Or.inr rfl) dX10_clearsMore_36 (Nat.le_of_ble_eq_true rfl) (Nat.le_of_ble_eq_true rfl) ⟨by rw [er], rfl, rfl⟩
theorem c_clears {a : Int32} (hl : l.stackTraces = false) (hd : 10 ≤ d) (hx : 188 ≤ nx) (hQ : QW h ic rs ne ia k cs bk pg) : mm_Con G l yX10_clears cX10_clears 6 (some .int) d 8 48 [.ref 0, .int a] nx h (P_q (if inR a k.2.1 then .inr (nI (clrF (owF k cs pg.2.1) (lwF pg.2.1 0 a) (pg.2.1 (18 + a.toNatClampNeg)) (2 ^ nlo pg.2.1 - 1))) else .inl 0) ic rs ne ia nx h) := by
  obtain ⟨h0, hC, hA, hLW, hB, h33, hP, ⟨⟨n, hw⟩, hcn⟩, -⟩ := id hQ
  obtain rfl : n = nlo pg.2.1 := (nlo_eq hw).symm
  have c0 := hC.1
  have hk1 : k.1 ≤ 8 := hC.2.2.2.2.2.2.1
  have hk2 : k.2.1 ≤ 6 := hC.2.2.2.2.2.2.2
  obtain ⟨p1, p2, p3, -⟩ := id hP
  have hn := hw.2.1
  refine mm_start (lo := [some (.ref 0), some (.int a), none, none, none, none]) pn_X10 rfl rfl (Nat.le_of_ble_eq_true rfl) ?_
  refine mt_aload_n (pc := 0) dX10_clears_0 rfl ?_
  refine mt_iload_n (pc := 1) dX10_clears_1 rfl ?_
  refine mt_aV (pc := 2) (c_needSoul (d := 7) hl (Nat.le_refl 7) (by omega) h0 hC) cal_X10_needSoul vir_X10_needSoul ml_X10_245 dX10_clears_2 (by first | assumption | omega) (by repeat (first | exact hset_eq _ _ _ | assumption | rw [hset_ne (by first | assumption | decide | omega)])) (by first | assumption | (show _ ≤ d; omega)) ⟨(Nat.le_of_ble_eq_true rfl), (Nat.le_of_ble_eq_true rfl)⟩ rfl rfl (Nat.le_of_ble_eq_true rfl) ?_ ?_
  · rintro x9 n9 k9 h9
    obtain ⟨rfl, rfl, hno, rfl⟩ := h9
    exact P_qx (if_neg hno)
  · rintro v9 n9 k9 ⟨rfl, rfl, hok, rfl⟩
    obtain ⟨j, hj, rfl⟩ := inR_of hok (by omega)
    have er : (if inR (nI j) k.2.1 then .inr (nI (clrF (owF k cs pg.2.1) (lwF pg.2.1 0 (nI j)) (pg.2.1 (18 + (nI j).toNatClampNeg)) (2 ^ nlo pg.2.1 - 1))) else .inl 0 : Nat ⊕ Int32) = .inr (nI (clrF (owF k cs pg.2.1) (lwF pg.2.1 0 (nI j)) (pg.2.1 (18 + j)) (2 ^ nlo pg.2.1 - 1))) := (if_pos hok).trans (by rw [nI_clamp (by omega)])
    refine ⟨rfl, ?_⟩
    refine mt_aload_n (pc := 5) dX10_clears_5 rfl ?_
    refine mt_aV (pc := 6) (c_fillOwed (d := 4) (Nat.le_refl 4) (by omega) hQ) cal_X10_fillOwed vir_X10_fillOwed ml_X10_299 dX10_clears_6 (by first | assumption | omega) (by repeat (first | exact hset_eq _ _ _ | assumption | rw [hset_ne (by first | assumption | decide | omega)])) (by first | assumption | (show _ ≤ d; omega)) ⟨(Nat.le_of_ble_eq_true rfl), (Nat.le_of_ble_eq_true rfl)⟩ rfl rfl (Nat.le_of_ble_eq_true rfl) ?_ ?_
    · rintro x9 n9 k9 h9
      simp at h9
    · rintro v9 n9 k9 ⟨hv, rfl, hF9, a9, k187, ha9⟩
      cases hv
      refine ⟨rfl, ?_⟩
      have hQk := hQ.of hF9
      obtain ⟨k0, kC, kA, -, -, k33, kP, -⟩ := id hQk
      obtain ⟨q1, q2, q3, -⟩ := id kP
      have hpw := p2_10 hn
      have hpp := Nat.two_pow_pos (nlo pg.2.1)
      refine mt_aload_n (pc := 9) dX10_clears_9 rfl ?_
      refine mt_get (pc := 10) gf_X10_65 dX10_clears_10 (by first | assumption | omega) k0 rfl ?_
      refine mt_get (pc := 13) gf_X10_157 dX10_clears_13 (by first | assumption | omega) q1 rfl ?_
      refine mt_iconst (pc := 16) (v := 0) dX10_clears_16 (by decide) ?_
      refine mt_iload_n (pc := 17) dX10_clears_17 rfl ?_
      refine mt_cV (pc := 18) (c_loansWhere (d := 2) (k := 0) (v := nI j) (Nat.le_refl 2) (by decide) hn hw.1 (by omega) (by omega) q2 q3) cal_X6_loansWhere vir_X6_loansWhere ml_X10_238 dX10_clears_18 (by first | assumption | omega) q2 (by first | assumption | (show _ ≤ d; omega)) ⟨(Nat.le_of_ble_eq_true rfl), (Nat.le_of_ble_eq_true rfl)⟩ rfl rfl (Nat.le_of_ble_eq_true rfl) ?_
      rw [show fld (fun i acc => if pg.2.1 (24 + 6 * i + 0) = nI j then acc ||| ((1 : Int32) <<< (nI i &&& 31)) else acc) 0 (nlo pg.2.1) = lwF pg.2.1 0 (nI j) from rfl]
      refine mt_istore_n (pc := 21) dX10_clears_21 (Nat.le_of_ble_eq_true rfl) rfl ?_
      refine mt_aload_n (pc := 22) dX10_clears_22 rfl ?_
      refine mt_get (pc := 23) gf_X10_65 dX10_clears_23 (by first | assumption | omega) k0 rfl ?_
      refine mt_get (pc := 26) gf_X10_157 dX10_clears_26 (by first | assumption | omega) q1 rfl ?_
      refine mt_iload_n (pc := 29) dX10_clears_29 rfl ?_
      refine mt_cV (pc := 30) (c_purse (d := 1) (p := j) (Nat.le_refl 1) (by omega) (by omega) (by omega) q2 q3) cal_X6_purse vir_X6_purse ml_X10_254 dX10_clears_30 (by first | assumption | omega) q2 (by first | assumption | (show _ ≤ d; omega)) ⟨(Nat.le_of_ble_eq_true rfl), (Nat.le_of_ble_eq_true rfl)⟩ rfl rfl (Nat.le_of_ble_eq_true rfl) ?_
      refine mt_istore_n (pc := 33) dX10_clears_33 (Nat.le_of_ble_eq_true rfl) rfl ?_
      refine mt_iconst (pc := 34) (v := 0) dX10_clears_34 (by decide) ?_
      refine mt_istore (pc := 35) dX10_clears_35 (Nat.le_of_ble_eq_true rfl) rfl ?_
      refine mt_iconst (pc := 37) (v := 1) dX10_clears_37 (by decide) ?_
      refine mt_istore (pc := 38) dX10_clears_38 (Nat.le_of_ble_eq_true rfl) rfl ?_
      refine mt_for (pc := 40) (H := fun i => k9) (L := fun i => [some (.ref 0), some (.int (nI j)), some (.int (lwF pg.2.1 0 (nI j))), some (.int (pg.2.1 (18 + j))), some (.int (nI (clrF (owF k cs pg.2.1) (lwF pg.2.1 0 (nI j)) (pg.2.1 (18 + j)) i))), some (.int (nI (i + 1)))]) (2 ^ nlo pg.2.1 - 1) (fun i hi ni => ?_) ?_
      · skip
        have e1 : clrF (owF k cs pg.2.1) (lwF pg.2.1 0 (nI j)) (pg.2.1 (18 + j)) (i + 1) = if (nI (i + 1) &&& (lwF pg.2.1 0 (nI j) ^^^ (-1))) = 0 ∧ ¬ pg.2.1 (18 + j) < obF (owF k cs pg.2.1) (i + 1) ∧ mrC (owF k cs pg.2.1) (i + 1) (clrF (owF k cs pg.2.1) (lwF pg.2.1 0 (nI j)) (pg.2.1 (18 + j)) i) then i + 1 else clrF (owF k cs pg.2.1) (lwF pg.2.1 0 (nI j)) (pg.2.1 (18 + j)) i := rfl
        have hcl := clrF_le (o := owF k cs pg.2.1) (own := lwF pg.2.1 0 (nI j)) (pu := pg.2.1 (18 + j)) i
        refine mt_iload (pc := 40) dX10_clears_40 rfl ?_
        refine mt_iconst (pc := 42) (v := 1) dX10_clears_42 (by decide) ?_
        refine mt_aload_n (pc := 43) dX10_clears_43 rfl ?_
        refine mt_get (pc := 44) gf_X10_65 dX10_clears_44 (by first | assumption | omega) k0 rfl ?_
        refine mt_get (pc := 47) gf_X10_157 dX10_clears_47 (by first | assumption | omega) q1 rfl ?_
        refine mt_cV (pc := 50) (c_loans (d := 1) (by omega) (by omega) q2 q3) cal_X6_loans vir_X6_loans ml_X10_192 dX10_clears_50 (by first | assumption | omega) q2 (by first | assumption | (show _ ≤ d; omega)) ⟨(Nat.le_of_ble_eq_true rfl), (Nat.le_of_ble_eq_true rfl)⟩ rfl rfl (Nat.le_of_ble_eq_true rfl) ?_
        rw [hw.1]
        refine mt_ishl (pc := 53) dX10_clears_53 ?_
        rw [shl1 _ (by omega)]
        refine mt_icmp_ge (pc := 54) (tgt := 97) dX10_clears_54 (by decide) (fun c54 => ?_) (fun c54 => ?_)
        · exact absurd c54 (nI_ge (by omega) (by omega))
        · skip
          refine mt_iload (pc := 57) dX10_clears_57 rfl ?_
          refine mt_iload_n (pc := 59) dX10_clears_59 rfl ?_
          refine mt_iconst (pc := 60) (v := (-1)) dX10_clears_60 (by decide) ?_
          refine mt_ixor (pc := 61) dX10_clears_61 ?_
          refine mt_iand (pc := 62) dX10_clears_62 ?_
          refine mt_if_ne (pc := 63) (tgt := 91) dX10_clears_63 (by decide) (fun c63 => ?_) (fun c63 => ?_)
          · skip
            rw [if_neg (fun z => c63 z.1)] at e1
            refine mt_iinc (pc := 91) (c9 := 1) dX10_clears_91 rfl (by decide) (Nat.le_of_ble_eq_true rfl) rfl ?_
            refine mt_goto (pc := 94) (tgt := 40) dX10_clears_94 (by decide) ?_
            rw [show (nI (i + 1) + 1 : Int32) = nI (i + 1 + 1) from nI_1 (i + 1)]
            rw [e1] at ni
            exact ni
          · skip
            refine mt_aload_n (pc := 66) dX10_clears_66 rfl ?_
            refine mt_iload (pc := 67) dX10_clears_67 rfl ?_
            refine mt_cV (pc := 69) (c_owedBy (d := 1) (s := i + 1) (by omega) (by omega) k0 k187 ha9) cal_X10_owedBy vir_X10_owedBy ml_X10_302 dX10_clears_69 (by first | assumption | omega) k0 (by first | assumption | (show _ ≤ d; omega)) ⟨(Nat.le_of_ble_eq_true rfl), (Nat.le_of_ble_eq_true rfl)⟩ rfl rfl (Nat.le_of_ble_eq_true rfl) ?_
            refine mt_iload_n (pc := 72) dX10_clears_72 rfl ?_
            refine mt_icmp_gt (pc := 73) (tgt := 91) dX10_clears_73 (by decide) (fun c73 => ?_) (fun c73 => ?_)
            · skip
              rw [if_neg (fun z => z.2.1 c73)] at e1
              refine mt_iinc (pc := 91) (c9 := 1) dX10_clears_91 rfl (by decide) (Nat.le_of_ble_eq_true rfl) rfl ?_
              refine mt_goto (pc := 94) (tgt := 40) dX10_clears_94 (by decide) ?_
              rw [show (nI (i + 1) + 1 : Int32) = nI (i + 1 + 1) from nI_1 (i + 1)]
              rw [e1] at ni
              exact ni
            · skip
              refine mt_aload_n (pc := 76) dX10_clears_76 rfl ?_
              refine mt_iload (pc := 77) dX10_clears_77 rfl ?_
              refine mt_iload (pc := 79) dX10_clears_79 rfl ?_
              refine mt_cV (pc := 81) (c_clearsMore (d := 2) (s := i + 1) (b := clrF (owF k cs pg.2.1) (lwF pg.2.1 0 (nI j)) (pg.2.1 (18 + j)) i) (Nat.le_refl 2) (by omega) (by omega) (by omega) k0 k187 ha9) cal_X10_clearsMore vir_X10_clearsMore ml_X10_305 dX10_clears_81 (by first | assumption | omega) k0 (by first | assumption | (show _ ≤ d; omega)) ⟨(Nat.le_of_ble_eq_true rfl), (Nat.le_of_ble_eq_true rfl)⟩ rfl rfl (Nat.le_of_ble_eq_true rfl) ?_
              refine mt_if_eq (pc := 84) (tgt := 91) dX10_clears_84 (by decide) (fun c84 => ?_) (fun c84 => ?_)
              · skip
                rw [if_neg (fun z => by rw [if_pos z.2.2] at c84; exact absurd c84 (by decide))] at e1
                refine mt_iinc (pc := 91) (c9 := 1) dX10_clears_91 rfl (by decide) (Nat.le_of_ble_eq_true rfl) rfl ?_
                refine mt_goto (pc := 94) (tgt := 40) dX10_clears_94 (by decide) ?_
                rw [show (nI (i + 1) + 1 : Int32) = nI (i + 1 + 1) from nI_1 (i + 1)]
                rw [e1] at ni
                exact ni
              · skip
                rw [if_pos ⟨c63, c73, Classical.not_not.mp fun z => c84 (if_neg z)⟩] at e1
                refine mt_iload (pc := 87) dX10_clears_87 rfl ?_
                refine mt_istore (pc := 89) dX10_clears_89 (Nat.le_of_ble_eq_true rfl) rfl ?_
                refine mt_iinc (pc := 91) (c9 := 1) dX10_clears_91 rfl (by decide) (Nat.le_of_ble_eq_true rfl) rfl ?_
                refine mt_goto (pc := 94) (tgt := 40) dX10_clears_94 (by decide) ?_
                rw [show (nI (i + 1) + 1 : Int32) = nI (i + 1 + 1) from nI_1 (i + 1)]
                rw [e1] at ni
                exact ni
      · skip
        refine mt_iload (pc := 40) dX10_clears_40 rfl ?_
        refine mt_iconst (pc := 42) (v := 1) dX10_clears_42 (by decide) ?_
        refine mt_aload_n (pc := 43) dX10_clears_43 rfl ?_
        refine mt_get (pc := 44) gf_X10_65 dX10_clears_44 (by first | assumption | omega) k0 rfl ?_
        refine mt_get (pc := 47) gf_X10_157 dX10_clears_47 (by first | assumption | omega) q1 rfl ?_
        refine mt_cV (pc := 50) (c_loans (d := 1) (by omega) (by omega) q2 q3) cal_X6_loans vir_X6_loans ml_X10_192 dX10_clears_50 (by first | assumption | omega) q2 (by first | assumption | (show _ ≤ d; omega)) ⟨(Nat.le_of_ble_eq_true rfl), (Nat.le_of_ble_eq_true rfl)⟩ rfl rfl (Nat.le_of_ble_eq_true rfl) ?_
        rw [hw.1]
        refine mt_ishl (pc := 53) dX10_clears_53 ?_
        rw [shl1 _ (by omega)]
        refine mt_icmp_ge (pc := 54) (tgt := 97) dX10_clears_54 (by decide) (fun c54 => ?_) (fun c54 => ?_)
        · skip
          refine mt_iload (pc := 97) dX10_clears_97 rfl ?_
          exact mt_iret rfl dX10_clears_99 (Nat.le_of_ble_eq_true rfl) (Nat.le_of_ble_eq_true rfl) (P_qv (ic := ic) (rs := rs) (ne := ne) (ia := ia) er hF9)
        · exact absurd (nI_le (by omega) (by omega)) c54
theorem c_comes {x : Int32} (hl : l.stackTraces = false) (hd : 10 ≤ d) (hx : 188 ≤ nx) (hQ : QW h ic rs ne ia k cs bk pg) : mm_Con G l yX10_comes cX10_comes 4 (some .int) d 8 48 [.ref 0, .int x] nx h (P_q (ifR x 0 999 (.inr (comF (owF k cs pg.2.1) x (2 ^ nlo pg.2.1)))) ic rs ne ia nx h) := by
  obtain ⟨h0, hC, hA, hLW, hB, h33, hP, ⟨⟨n, hw⟩, hcn⟩, -⟩ := id hQ
  obtain rfl : n = nlo pg.2.1 := (nlo_eq hw).symm
  have c0 := hC.1
  have hk1 : k.1 ≤ 8 := hC.2.2.2.2.2.2.1
  have hk2 : k.2.1 ≤ 6 := hC.2.2.2.2.2.2.2
  obtain ⟨p1, p2, p3, -⟩ := id hP
  have hn := hw.2.1
  refine mm_start (lo := [some (.ref 0), some (.int x), none, none]) pn_X10 rfl rfl (Nat.le_of_ble_eq_true rfl) ?_
  refine mt_aload_n (pc := 0) dX10_comes_0 rfl ?_
  refine mt_iload_n (pc := 1) dX10_comes_1 rfl ?_
  refine mt_iconst (pc := 2) (v := 0) dX10_comes_2 (by decide) ?_
  refine mt_sipush (pc := 3) (v := 999) dX10_comes_3 (by decide) ?_
  refine mt_aV (pc := 6) (c_needRange (d := 7) hl (Nat.le_refl 7) (by omega) h0) cal_X10_needRange vir_X10_needRange ml_X10_266 dX10_comes_6 (by first | assumption | omega) (by repeat (first | exact hset_eq _ _ _ | assumption | rw [hset_ne (by first | assumption | decide | omega)])) (by first | assumption | (show _ ≤ d; omega)) ⟨(Nat.le_of_ble_eq_true rfl), (Nat.le_of_ble_eq_true rfl)⟩ rfl rfl (Nat.le_of_ble_eq_true rfl) ?_ ?_
  · rintro x9 n9 k9 h9
    obtain ⟨rfl, rfl, hno, rfl⟩ := h9
    exact P_qx (if_neg hno)
  · rintro v9 n9 k9 ⟨rfl, rfl, hok, rfl⟩
    refine ⟨rfl, ?_⟩
    refine mt_aload_n (pc := 9) dX10_comes_9 rfl ?_
    refine mt_aV (pc := 10) (c_fillOwed (d := 4) (Nat.le_refl 4) (by omega) hQ) cal_X10_fillOwed vir_X10_fillOwed ml_X10_299 dX10_comes_10 (by first | assumption | omega) (by repeat (first | exact hset_eq _ _ _ | assumption | rw [hset_ne (by first | assumption | decide | omega)])) (by first | assumption | (show _ ≤ d; omega)) ⟨(Nat.le_of_ble_eq_true rfl), (Nat.le_of_ble_eq_true rfl)⟩ rfl rfl (Nat.le_of_ble_eq_true rfl) ?_ ?_
    · rintro x9 n9 k9 h9
      simp at h9
    · rintro v9 n9 k9 ⟨hv, rfl, hF9, a9, k187, ha9⟩
      cases hv
      refine ⟨rfl, ?_⟩
      have hQk := hQ.of hF9
      obtain ⟨k0, kC, kA, -, -, k33, kP, -⟩ := id hQk
      obtain ⟨q1, q2, q3, -⟩ := id kP
      have hpw := p2_10 hn
      have hpp := Nat.two_pow_pos (nlo pg.2.1)
      refine mt_iconst (pc := 13) (v := 0) dX10_comes_13 (by decide) ?_
      refine mt_istore_n (pc := 14) dX10_comes_14 (Nat.le_of_ble_eq_true rfl) rfl ?_
      refine mt_iconst (pc := 15) (v := 0) dX10_comes_15 (by decide) ?_
      refine mt_istore_n (pc := 16) dX10_comes_16 (Nat.le_of_ble_eq_true rfl) rfl ?_
      refine mt_for (pc := 17) (H := fun i => k9) (L := fun i => [some (.ref 0), some (.int x), some (.int (comF (owF k cs pg.2.1) x i)), some (.int (nI i))]) (2 ^ nlo pg.2.1) (fun i hi ni => ?_) ?_
      · skip
        have e1 : comF (owF k cs pg.2.1) x (i + 1) = if obF (owF k cs pg.2.1) i = x then comF (owF k cs pg.2.1) x i + 1 else comF (owF k cs pg.2.1) x i := rfl
        refine mt_iload_n (pc := 17) dX10_comes_17 rfl ?_
        refine mt_iconst (pc := 18) (v := 1) dX10_comes_18 (by decide) ?_
        refine mt_aload_n (pc := 19) dX10_comes_19 rfl ?_
        refine mt_get (pc := 20) gf_X10_65 dX10_comes_20 (by first | assumption | omega) k0 rfl ?_
        refine mt_get (pc := 23) gf_X10_157 dX10_comes_23 (by first | assumption | omega) q1 rfl ?_
        refine mt_cV (pc := 26) (c_loans (d := 1) (by omega) (by omega) q2 q3) cal_X6_loans vir_X6_loans ml_X10_192 dX10_comes_26 (by first | assumption | omega) q2 (by first | assumption | (show _ ≤ d; omega)) ⟨(Nat.le_of_ble_eq_true rfl), (Nat.le_of_ble_eq_true rfl)⟩ rfl rfl (Nat.le_of_ble_eq_true rfl) ?_
        rw [hw.1]
        refine mt_ishl (pc := 29) dX10_comes_29 ?_
        rw [shl1 _ (by omega)]
        refine mt_icmp_ge (pc := 30) (tgt := 51) dX10_comes_30 (by decide) (fun c30 => ?_) (fun c30 => ?_)
        · exact absurd c30 (nI_ge hi (by omega))
        · skip
          refine mt_aload_n (pc := 33) dX10_comes_33 rfl ?_
          refine mt_iload_n (pc := 34) dX10_comes_34 rfl ?_
          refine mt_cV (pc := 35) (c_owedBy (d := 1) (s := i) (by omega) (by omega) k0 k187 ha9) cal_X10_owedBy vir_X10_owedBy ml_X10_302 dX10_comes_35 (by first | assumption | omega) k0 (by first | assumption | (show _ ≤ d; omega)) ⟨(Nat.le_of_ble_eq_true rfl), (Nat.le_of_ble_eq_true rfl)⟩ rfl rfl (Nat.le_of_ble_eq_true rfl) ?_
          refine mt_iload_n (pc := 38) dX10_comes_38 rfl ?_
          refine mt_icmp_ne (pc := 39) (tgt := 45) dX10_comes_39 (by decide) (fun c39 => ?_) (fun c39 => ?_)
          · skip
            rw [if_neg c39] at e1
            refine mt_iinc (pc := 45) (c9 := 1) dX10_comes_45 rfl (by decide) (Nat.le_of_ble_eq_true rfl) rfl ?_
            refine mt_goto (pc := 48) (tgt := 17) dX10_comes_48 (by decide) ?_
            rw [e1] at ni
            rw [show (nI i + 1 : Int32) = nI (i + 1) from nI_1 i]
            first
              | exact ni
              | exact mt_fg (by repeat (first | exact trivial | refine ⟨rfl, ?_⟩ | rfl)) ni
          · skip
            rw [if_pos c39] at e1
            refine mt_iinc (pc := 42) (c9 := 1) dX10_comes_42 rfl (by decide) (Nat.le_of_ble_eq_true rfl) rfl ?_
            refine mt_iinc (pc := 45) (c9 := 1) dX10_comes_45 rfl (by decide) (Nat.le_of_ble_eq_true rfl) rfl ?_
            refine mt_goto (pc := 48) (tgt := 17) dX10_comes_48 (by decide) ?_
            rw [e1] at ni
            rw [show (nI i + 1 : Int32) = nI (i + 1) from nI_1 i]
            first
              | exact ni
              | exact mt_fg (by repeat (first | exact trivial | refine ⟨rfl, ?_⟩ | rfl)) ni
      · skip
        refine mt_iload_n (pc := 17) dX10_comes_17 rfl ?_
        refine mt_iconst (pc := 18) (v := 1) dX10_comes_18 (by decide) ?_
        refine mt_aload_n (pc := 19) dX10_comes_19 rfl ?_
        refine mt_get (pc := 20) gf_X10_65 dX10_comes_20 (by first | assumption | omega) k0 rfl ?_
        refine mt_get (pc := 23) gf_X10_157 dX10_comes_23 (by first | assumption | omega) q1 rfl ?_
        refine mt_cV (pc := 26) (c_loans (d := 1) (by omega) (by omega) q2 q3) cal_X6_loans vir_X6_loans ml_X10_192 dX10_comes_26 (by first | assumption | omega) q2 (by first | assumption | (show _ ≤ d; omega)) ⟨(Nat.le_of_ble_eq_true rfl), (Nat.le_of_ble_eq_true rfl)⟩ rfl rfl (Nat.le_of_ble_eq_true rfl) ?_
        rw [hw.1]
        refine mt_ishl (pc := 29) dX10_comes_29 ?_
        rw [shl1 _ (by omega)]
        refine mt_icmp_ge (pc := 30) (tgt := 51) dX10_comes_30 (by decide) (fun c30 => ?_) (fun c30 => ?_)
        · skip
          refine mt_iload_n (pc := 51) dX10_comes_51 rfl ?_
          exact mt_iret rfl dX10_comes_52 (Nat.le_of_ble_eq_true rfl) (Nat.le_of_ble_eq_true rfl) (P_qv (ic := ic) (rs := rs) (ne := ne) (ia := ia) (if_pos hok) hF9)
        · exact absurd (nI_le (Nat.le_refl _) (by omega)) c30
end BANKV
