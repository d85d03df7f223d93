/-! Work.carryOut. -/
abbrev WS : Type := (Nat → Int32) × Nat × Nat × Nat
def stpS (k : CS) (cs : List Nat) (t : ST) (w : WS) : WS := ((doS k cs t w.1).1, w.2.1 + 1, if (doS k cs t w.1).2 = 0 then w.2.2.1 else w.2.2.1 + 1, if (doS k cs t w.1).2 = 0 then w.2.2.2 + 1 else w.2.2.2)
def repS (g : WS → WS) : Nat → WS → WS
  | 0, w => w
  | q + 1, w => if w.2.1 < 200 then repS g q (g w) else w
def runS (k : CS) (cs : List Nat) (ss : List ST) (B : Nat → Nat → WS → WS) : Nat → Nat → Nat → WS → WS
  | 0, _, _, w => w
  | q + 1, i, to, w => if i < to ∧ i < 30 ∧ w.2.1 < 200 then
      (match ss[i]? with
      | none => w
      | some t => if t.1 = 6 then runS k cs ss B q t.2.2 to (repS (B (i + 1) t.2.2) (t.2.1.getD 0 0) (w.1, w.2.1 + 1, w.2.2))
        else runS k cs ss B q (i + 1) to (stpS k cs t w))
    else w
def carS (k : CS) (cs : List Nat) (ss : List ST) : Nat → Nat → Nat → WS → WS
  | 0 => fun _ _ w => w
  | j + 1 => runS k cs ss (carS k cs ss j) 30
theorem runS_s {k : CS} {cs : List Nat} {ss : List ST} {B : Nat → Nat → WS → WS} (q i to : Nat) (w : WS) : runS k cs ss B (q + 1) i to w = if i < to ∧ i < 30 ∧ w.2.1 < 200 then
      (match ss[i]? with
      | none => w
      | some t => if t.1 = 6 then runS k cs ss B q t.2.2 to (repS (B (i + 1) t.2.2) (t.2.1.getD 0 0) (w.1, w.2.1 + 1, w.2.2))
        else runS k cs ss B q (i + 1) to (stpS k cs t w))
    else w := rfl
/-- what holds while STEPS are carried out -/
def WC (h : Nat → mm_E) (k : CS) (cs : List Nat) (R : Nat → Int32) (s r : Nat) (z1 z2 z3 : Int32) (w : WS) : Prop := h 31 = wkE z1 z2 z3 (nI w.2.1) (nI w.2.2.1) (nI w.2.2.2) ∧ h 32 = iaE 180 R ∧ LA h cs ∧ CO h k ∧ h 33 = ruE ∧ h s = stE r ∧ h r = rwE w.1 ∧ (∃ n, RW w.1 n) ∧ w.2.1 ≤ 200
def FRa (r : Nat) (h m : Nat → mm_E) : Prop := ∀ j, j ≠ 17 → j ≠ 18 → j ≠ 31 → j ≠ r → m j = h j
theorem FRa_trans {h m q : Nat → mm_E} {r : Nat} (h1 : FRa r h m) (h2 : FRa r m q) : FRa r h q := fun j a b c d => (h2 j a b c d).trans (h1 j a b c d)
theorem FRa_rf {h : Nat → mm_E} {r : Nat} : FRa r h h := fun _ _ _ _ _ => rfl
theorem FRa_31 {h m : Nat → mm_E} {r : Nat} {x : mm_E} (h1 : FRa r h m) : FRa r h (hset m 31 x) := fun j a b c d => (hset_ne c).trans (h1 j a b c d)
theorem WC_31 {h : Nat → mm_E} {k : CS} {cs : List Nat} {R : Nat → Int32} {s r : Nat} {z1 z2 z3 : Int32} {w : WS} {a b c : Nat} (hs : 35 ≤ s) (hr : 35 ≤ r) (hw : WC h k cs R s r z1 z2 z3 w) (ha : a ≤ 200) : WC (hset h 31 (wkE z1 z2 z3 (nI a) (nI b) (nI c))) k cs R s r z1 z2 z3 (w.1, a, b, c) := by
  obtain ⟨h1, h2, h3, h4, h5, h6, h7, h8, h9⟩ := hw
  obtain ⟨a1, ⟨R', a2, a3⟩, ⟨F, a4⟩, S, a5⟩ := h3
  obtain ⟨c1, c2, c3, c4, c5, c6, c7⟩ := h4
  have e : ∀ j, j ≠ 31 → hset h 31 (wkE z1 z2 z3 (nI a) (nI b) (nI c)) j = h j := fun j hj => hset_ne hj
  refine ⟨hset_eq _ _ _, (e 32 (by decide)).trans h2, ⟨(e 15 (by decide)).trans a1, ⟨R', (e 16 (by decide)).trans a2, a3⟩, ⟨F, (e 17 (by decide)).trans a4⟩, S, (e 18 (by decide)).trans a5⟩, ⟨(e 3 (by decide)).trans c1, (e 4 (by decide)).trans c2, (e 5 (by decide)).trans c3, (e 6 (by decide)).trans c4, (e 7 (by decide)).trans c5, (e 8 (by decide)).trans c6, c7⟩, (e 33 (by decide)).trans h5, (e s (by omega)).trans h6, (e r (by omega)).trans h7, h8, ha⟩
/-- where agains end -/
def BWf (ss : List ST) : Prop := ∀ (i : Nat) (t : ST), ss[i]? = some t → t.1 = 6 → i < t.2.2 ∧ t.2.2 ≤ ss.length
def P_ca (k : CS) (cs : List Nat) (R : Nat → Int32) (s r : Nat) (z1 z2 z3 : Int32) (w : WS) (nx : Nat) (h : Nat → mm_E) : mm_P := fun o n m => o = .inl none ∧ n = nx ∧ FRa r h m ∧ WC m k cs R s r z1 z2 z3 w
def CAc (G : mm_G) (l : Launch) (k : CS) (cs : List Nat) (ss : List ST) (R : Nat → Int32) (s r : Nat) (z1 z2 z3 : Int32) (d o : Nat) (B : Nat → Nat → WS → WS) : Prop := ∀ (nx : Nat) (h : Nat → mm_E) (w : WS) (i to : Nat), 34 ≤ nx → s < nx → r < nx → WC h k cs R s r z1 z2 z3 w → to ≤ ss.length → i ≤ 30 → mm_Con G l yX9_carryOut cX9_carryOut 9 none d 0 0 [.ref 31, .ref 33, .ref s, .int (nI i), .int (nI to), .int (nI o)] nx h (P_ca k cs R s r z1 z2 z3 (B i to w) nx h)
section WORK6
variable {G : mm_G} {l : Launch} {d nx : Nat} {h : Nat → mm_E} {s r : Nat} {R : Nat → Int32} {k : CS} {cs : List Nat} {ss : List ST} {z1 z2 z3 : Int32} {w : WS}
theorem c_car7 {i to : Nat} (hx : 34 ≤ nx) (hs : s < nx) (hr : r < nx) (hW : WC h k cs R s r z1 z2 z3 w) : mm_Con G l yX9_carryOut cX9_carryOut 9 none d 0 0 [.ref 31, .ref 33, .ref s, .int (nI i), .int (nI to), .int (nI 7)] nx h (P_ca k cs R s r z1 z2 z3 w nx h) := by
  have h31 := hW.1
  refine mm_start (lo := [some (.ref 31), some (.ref 33), some (.ref s), some (.int (nI i)), some (.int (nI to)), some (.int (nI 7)), none, none, none]) pn_X9 rfl rfl (Nat.le_of_ble_eq_true rfl) ?_
  refine mt_iload_n (pc := 0) dX9_carryOut_0 rfl ?_
  refine mt_istore (pc := 1) dX9_carryOut_1 (Nat.le_of_ble_eq_true rfl) rfl ?_
  refine mt_iload (pc := 3) dX9_carryOut_3 rfl ?_
  refine mt_iload (pc := 5) dX9_carryOut_5 rfl ?_
  refine mt_icmp_ge (pc := 7) (tgt := 167) dX9_carryOut_7 (by decide) (fun c7 => ?_) (fun c7 => ?_)
  · skip
    exact mt_vret rfl dX9_carryOut_167 (Nat.le_of_ble_eq_true rfl) (Nat.le_of_ble_eq_true rfl) ⟨rfl, rfl, FRa_rf, hW⟩
  · skip
    refine mt_iload (pc := 10) dX9_carryOut_10 rfl ?_
    refine mt_bipush (pc := 12) (v := 30) dX9_carryOut_12 (by decide) ?_
    refine mt_icmp_ge (pc := 14) (tgt := 167) dX9_carryOut_14 (by decide) (fun c14 => ?_) (fun c14 => ?_)
    · skip
      exact mt_vret rfl dX9_carryOut_167 (Nat.le_of_ble_eq_true rfl) (Nat.le_of_ble_eq_true rfl) ⟨rfl, rfl, FRa_rf, hW⟩
    · skip
      refine mt_aload_n (pc := 17) dX9_carryOut_17 rfl ?_
      refine mt_get (pc := 18) gf_X9_19 dX9_carryOut_18 (by first | assumption | omega) (by repeat (first | exact hset_eq _ _ _ | assumption | rw [hset_ne (by first | assumption | decide | omega)])) rfl ?_
      refine mt_sipush (pc := 21) (v := 200) dX9_carryOut_21 (by decide) ?_
      refine mt_icmp_ge (pc := 24) (tgt := 167) dX9_carryOut_24 (by decide) (fun c24 => ?_) (fun c24 => ?_)
      · skip
        exact mt_vret rfl dX9_carryOut_167 (Nat.le_of_ble_eq_true rfl) (Nat.le_of_ble_eq_true rfl) ⟨rfl, rfl, FRa_rf, hW⟩
      · skip
        refine mt_iload (pc := 27) dX9_carryOut_27 rfl ?_
        refine mt_bipush (pc := 29) (v := 6) dX9_carryOut_29 (by decide) ?_
        refine mt_icmp_gt (pc := 31) (tgt := 167) dX9_carryOut_31 (by decide) (fun c31 => ?_) (fun c31 => ?_)
        · skip
          exact mt_vret rfl dX9_carryOut_167 (Nat.le_of_ble_eq_true rfl) (Nat.le_of_ble_eq_true rfl) ⟨rfl, rfl, FRa_rf, hW⟩
        · exact absurd (by decide) c31
theorem c_carAt {o so sl i0 to : Nat} {B : Nat → Nat → WS → WS} (hd : 7 ≤ d) (ho : o ≤ 6) (hlen : ss.length ≤ 30) (hbw : BWf ss) (hSW : SW R ss) (hTW : ∀ t ∈ ss, TW so sl t) (hso : so ≤ 6) (hsl : sl ≤ 8) (hLW : LWF cs) (hs5 : 35 ≤ s) (hr5 : 35 ≤ r) (hne : s ≠ r) (hBc : CAc G l k cs ss R s r z1 z2 z3 (d - 1) (o + 1) B) (hx : 34 ≤ nx) (hs : s < nx) (hr : r < nx) (hW : WC h k cs R s r z1 z2 z3 w) (hto : to ≤ ss.length) (hi0 : i0 ≤ 30) : mm_Con G l yX9_carryOut cX9_carryOut 9 none d 0 0 [.ref 31, .ref 33, .ref s, .int (nI i0), .int (nI to), .int (nI o)] nx h (P_ca k cs R s r z1 z2 z3 (runS k cs ss B 30 i0 to w) nx h) := by
  refine mm_start (lo := [some (.ref 31), some (.ref 33), some (.ref s), some (.int (nI i0)), some (.int (nI to)), some (.int (nI o)), none, none, none]) pn_X9 rfl rfl (Nat.le_of_ble_eq_true rfl) ?_
  refine mt_iload_n (pc := 0) dX9_carryOut_0 rfl ?_
  refine mt_istore (pc := 1) dX9_carryOut_1 (Nat.le_of_ble_eq_true rfl) rfl ?_
  refine mt_forE (pc := 3) (α := (Nat → mm_E) × Nat × WS) (H := fun c (a : (Nat → mm_E) × Nat × WS) => a.1) (L := fun c (a : (Nat → mm_E) × Nat × WS) => [some (.ref 31), some (.ref 33), some (.ref s), some (.int (nI i0)), some (.int (nI to)), some (.int (nI o)), some (.int (nI a.2.1)), none, none]) (I := fun c (a : (Nat → mm_E) × Nat × WS) => FRa r h a.1 ∧ WC a.1 k cs R s r z1 z2 z3 a.2.2 ∧ c ≤ a.2.1 ∧ a.2.1 ≤ 30 ∧ runS k cs ss B 30 i0 to w = runS k cs ss B (30 - c) a.2.1 to a.2.2) 30 (fun c a hc fc nc => ?_) (fun a fc => ?_) ((h, i0, w)) (⟨FRa_rf, hW, Nat.zero_le _, hi0, rfl⟩)
  · skip
    obtain ⟨g1, g2, g3, g4, g5⟩ := fc
    obtain ⟨m, q, u⟩ := a
    dsimp only at g1 g2 g3 g4 g5 ⊢
    have hq1 : 30 - c = 30 - (c + 1) + 1 := by omega
    rw [hq1, runS_s (30 - (c + 1)) q to u] at g5
    have h31 := g2.1
    have h32 := g2.2.1
    have hbl := g2.2.2.2.2.2.2.2.2
    refine mt_iload (pc := 3) dX9_carryOut_3 rfl ?_
    refine mt_iload (pc := 5) dX9_carryOut_5 rfl ?_
    refine mt_icmp_ge (pc := 7) (tgt := 167) dX9_carryOut_7 (by decide) (fun c7 => ?_) (fun c7 => ?_)
    · skip
      rw [if_neg (fun z => nI_ge z.1 (by omega) c7)] at g5
      have hfin := g5
      exact mt_vret rfl dX9_carryOut_167 (Nat.le_of_ble_eq_true rfl) (Nat.le_of_ble_eq_true rfl) ⟨rfl, rfl, g1, by rw [hfin]; exact g2⟩
    · skip
      refine mt_iload (pc := 10) dX9_carryOut_10 rfl ?_
      refine mt_bipush (pc := 12) (v := 30) dX9_carryOut_12 (by decide) ?_
      refine mt_icmp_ge (pc := 14) (tgt := 167) dX9_carryOut_14 (by decide) (fun c14 => ?_) (fun c14 => ?_)
      · skip
        rw [if_neg (fun z => nI_ge (b := 30) z.2.1 (by decide) c14)] at g5
        have hfin := g5
        exact mt_vret rfl dX9_carryOut_167 (Nat.le_of_ble_eq_true rfl) (Nat.le_of_ble_eq_true rfl) ⟨rfl, rfl, g1, by rw [hfin]; exact g2⟩
      · skip
        refine mt_aload_n (pc := 17) dX9_carryOut_17 rfl ?_
        refine mt_get (pc := 18) gf_X9_19 dX9_carryOut_18 (by first | assumption | omega) (by repeat (first | exact hset_eq _ _ _ | assumption | rw [hset_ne (by first | assumption | decide | omega)])) rfl ?_
        refine mt_sipush (pc := 21) (v := 200) dX9_carryOut_21 (by decide) ?_
        refine mt_icmp_ge (pc := 24) (tgt := 167) dX9_carryOut_24 (by decide) (fun c24 => ?_) (fun c24 => ?_)
        · skip
          rw [if_neg (fun z => nI_ge (b := 200) z.2.2 (by decide) c24)] at g5
          have hfin := g5
          exact mt_vret rfl dX9_carryOut_167 (Nat.le_of_ble_eq_true rfl) (Nat.le_of_ble_eq_true rfl) ⟨rfl, rfl, g1, by rw [hfin]; exact g2⟩
        · skip
          have l1 : q < to := Nat.lt_of_not_le fun z => c7 (nI_le z (by omega))
          have l2 : q < 30 := Nat.lt_of_not_le fun z => c14 (nI_le (a := 30) z (by omega))
          have l3 : u.2.1 < 200 := Nat.lt_of_not_le fun z => c24 (nI_le (a := 200) z (by omega))
          rw [if_pos ⟨l1, l2, l3⟩] at g5
          have hlt : q < ss.length := by omega
          have hget : ss[q]? = some ss[q] := List.getElem?_eq_getElem hlt
          have hok := (hSW q _ hget).1
          have htw := hTW _ (List.getElem_mem hlt)
          have hb6 := hbw q _ hget
          rw [hget] at g5
          generalize ss[q] = t at hok htw hb6 g5
          dsimp only at g5
          have hgW := WC_31 (a := u.2.1 + 1) (b := u.2.2.1) (c := u.2.2.2) hs5 hr5 g2 (by omega)
          refine mt_iload (pc := 27) dX9_carryOut_27 rfl ?_
          refine mt_bipush (pc := 29) (v := 6) dX9_carryOut_29 (by decide) ?_
          refine mt_icmp_gt (pc := 31) (tgt := 167) dX9_carryOut_31 (by decide) (fun c31 => ?_) (fun c31 => ?_)
          · exact absurd c31 (nI_nlt (a := 6) (b := o) ho (by decide))
          · skip
            refine mt_aload_n (pc := 34) dX9_carryOut_34 rfl ?_
            refine mt_dup (pc := 35) dX9_carryOut_35 rfl ?_
            refine mt_get (pc := 36) gf_X9_19 dX9_carryOut_36 (by first | assumption | omega) (by repeat (first | exact hset_eq _ _ _ | assumption | rw [hset_ne (by first | assumption | decide | omega)])) rfl ?_
            refine mt_iconst (pc := 39) (v := 1) dX9_carryOut_39 (by decide) ?_
            refine mt_iadd (pc := 40) dX9_carryOut_40 ?_
            first
              | refine mt_puti2 (pc := 41) pf_X9_19 dX9_carryOut_41 (by first | assumption | omega) (Nat.le_of_ble_eq_true rfl) ?_
              | refine mt_puti (pc := 41) pf_X9_19 dX9_carryOut_41 (by first | assumption | omega) (by repeat (first | exact hset_eq _ _ _ | assumption | rw [hset_ne (by first | assumption | decide | omega)])) (Nat.le_of_ble_eq_true rfl) ?_
            rw [show (nI u.2.1 + 1 : Int32) = nI (u.2.1 + 1) from nI_1 _]
            show mm_T _ _ _ _ (hset m 31 (wkE z1 z2 z3 (nI (u.2.1 + 1)) (nI u.2.2.1) (nI u.2.2.2))) _ _ _ _ _
            have hgF : FRa r h (hset m 31 (wkE z1 z2 z3 (nI (u.2.1 + 1)) (nI u.2.2.1) (nI u.2.2.2))) := FRa_31 g1
            generalize hset m 31 (wkE z1 z2 z3 (nI (u.2.1 + 1)) (nI u.2.2.1) (nI u.2.2.2)) = m1 at hgW hgF
            refine mt_iload (pc := 44) dX9_carryOut_44 rfl ?_
            refine mt_iconst (pc := 46) (v := 1) dX9_carryOut_46 (by decide) ?_
            refine mt_iadd (pc := 47) dX9_carryOut_47 ?_
            refine mt_istore (pc := 48) dX9_carryOut_48 (Nat.le_of_ble_eq_true rfl) rfl ?_
            refine mt_aload_n (pc := 50) dX9_carryOut_50 rfl ?_
            refine mt_iload (pc := 51) dX9_carryOut_51 rfl ?_
            refine mt_iconst (pc := 53) (v := 0) dX9_carryOut_53 (by decide) ?_
            refine mt_cV (pc := 54) (c_field (d := 1) (i := q) (j := 0) (Nat.le_refl 1) hx (by omega) hgW.1 hgW.2.1) cal_X9_field vir_X9_field ml_X9_104 dX9_carryOut_54 (by first | assumption | omega) hgW.1 (by first | assumption | (show _ ≤ d; omega)) ⟨(Nat.le_of_ble_eq_true rfl), (Nat.le_of_ble_eq_true rfl)⟩ rfl rfl (Nat.le_of_ble_eq_true rfl) ?_
            rw [show R (6 * q + 0) = nI t.1 from hok.1]
            refine mt_bipush (pc := 57) (v := 6) dX9_carryOut_57 (by decide) ?_
            refine mt_icmp_ne (pc := 59) (tgt := 126) dX9_carryOut_59 (by decide) (fun c59 => ?_) (fun c59 => ?_)
            · skip
              have h6 : ¬ t.1 = 6 := fun z => c59 (by rw [z]; rfl)
              rw [if_neg h6] at g5
              refine mt_aload_n (pc := 126) dX9_carryOut_126 rfl ?_
              refine mt_aload_n (pc := 127) dX9_carryOut_127 rfl ?_
              refine mt_aload_n (pc := 128) dX9_carryOut_128 rfl ?_
              refine mt_iload (pc := 129) dX9_carryOut_129 rfl ?_
              obtain ⟨n, hgn⟩ := hgW.2.2.2.2.2.2.2.1
              dsimp only at hgn
              refine mt_aV (pc := 131) (c_isDone (d := 6) (Nat.le_refl 6) hx l2 ⟨hgW.2.2.1, hLW, hgW.2.2.2.1, hgW.2.2.2.2.1, hgW.2.2.2.2.2.1, hgW.2.2.2.2.2.2.1, hgn, hs5, hr5, hne, hs, hr⟩ hgW.1 hgW.2.1 hso hsl htw h6 hok) cal_X9_isDone vir_X9_isDone ml_X9_116 dX9_carryOut_131 (by first | assumption | omega) hgW.1 (by first | assumption | (show _ ≤ d; omega)) ⟨(Nat.le_of_ble_eq_true rfl), (Nat.le_of_ble_eq_true rfl)⟩ rfl rfl (Nat.le_of_ble_eq_true rfl) ?_ ?_
              · rintro x9 n9 k9 h9
                simp [P_row] at h9
              · rintro v9 n9 k9 ⟨hv, rfl, hF9, hR9⟩
                cases hv
                refine ⟨rfl, ?_⟩
                have hdo := RW_do (k := k) (cs := cs) hso hsl htw h6 hgn
                have hgW2 : WC k9 k cs R s r z1 z2 z3 ((doS k cs t u.1).1, u.2.1 + 1, u.2.2) := ⟨(hF9.1 31 (by decide) (by decide) (by omega)).trans hgW.1, (hF9.1 32 (by decide) (by decide) (by omega)).trans hgW.2.1, LA_frr hr5 hgW.2.2.1 hF9, CO_frr hr5 hgW.2.2.2.1 hF9, (hF9.1 33 (by decide) (by decide) (by omega)).trans hgW.2.2.2.2.1, (hF9.1 s (by omega) (by omega) hne).trans hgW.2.2.2.2.2.1, hR9, hdo, hgW.2.2.2.2.2.2.2.2⟩
                have hgF2 : FRa r h k9 := fun j a b e f => (hF9.1 j a b f).trans (hgF j a b e f)
                refine mt_if_eq (pc := 134) (tgt := 150) dX9_carryOut_134 (by decide) (fun c134 => ?_) (fun c134 => ?_)
                · skip
                  have e9 : stpS k cs t u = ((doS k cs t u.1).1, u.2.1 + 1, u.2.2.1, u.2.2.2 + 1) := by unfold stpS; rw [if_pos c134, if_pos c134]
                  refine mt_aload_n (pc := 150) dX9_carryOut_150 rfl ?_
                  refine mt_dup (pc := 151) dX9_carryOut_151 rfl ?_
                  refine mt_get (pc := 152) gf_X9_25 dX9_carryOut_152 (by first | assumption | omega) hgW2.1 rfl ?_
                  refine mt_iconst (pc := 155) (v := 1) dX9_carryOut_155 (by decide) ?_
                  refine mt_iadd (pc := 156) dX9_carryOut_156 ?_
                  first
                    | refine mt_puti2 (pc := 157) pf_X9_25 dX9_carryOut_157 (by first | assumption | omega) (Nat.le_of_ble_eq_true rfl) ?_
                    | refine mt_puti (pc := 157) pf_X9_25 dX9_carryOut_157 (by first | assumption | omega) hgW2.1 (Nat.le_of_ble_eq_true rfl) ?_
                  rw [show (nI u.2.2.2 + 1 : Int32) = nI (u.2.2.2 + 1) from nI_1 _]
                  have hgW3 := WC_31 (a := u.2.1 + 1) (b := u.2.2.1) (c := u.2.2.2 + 1) hs5 hr5 hgW2 (by omega)
                  refine mt_iload (pc := 160) dX9_carryOut_160 rfl ?_
                  refine mt_istore (pc := 162) dX9_carryOut_162 (Nat.le_of_ble_eq_true rfl) rfl ?_
                  refine mt_goto (pc := 164) (tgt := 3) dX9_carryOut_164 (by decide) ?_
                  rw [show (nI q + 1 : Int32) = nI (q + 1) from nI_1 q]
                  rw [e9] at g5
                  refine mt_forget 7 ?_
                  exact nc (_, q + 1, _) ⟨FRa_31 hgF2, hgW3, by dsimp only; omega, by dsimp only; omega, g5⟩
                · skip
                  have e9 : stpS k cs t u = ((doS k cs t u.1).1, u.2.1 + 1, u.2.2.1 + 1, u.2.2.2) := by unfold stpS; rw [if_neg c134, if_neg c134]
                  refine mt_aload_n (pc := 137) dX9_carryOut_137 rfl ?_
                  refine mt_dup (pc := 138) dX9_carryOut_138 rfl ?_
                  refine mt_get (pc := 139) gf_X9_22 dX9_carryOut_139 (by first | assumption | omega) hgW2.1 rfl ?_
                  refine mt_iconst (pc := 142) (v := 1) dX9_carryOut_142 (by decide) ?_
                  refine mt_iadd (pc := 143) dX9_carryOut_143 ?_
                  first
                    | refine mt_puti2 (pc := 144) pf_X9_22 dX9_carryOut_144 (by first | assumption | omega) (Nat.le_of_ble_eq_true rfl) ?_
                    | refine mt_puti (pc := 144) pf_X9_22 dX9_carryOut_144 (by first | assumption | omega) hgW2.1 (Nat.le_of_ble_eq_true rfl) ?_
                  rw [show (nI u.2.2.1 + 1 : Int32) = nI (u.2.2.1 + 1) from nI_1 _]
                  have hgW3 := WC_31 (a := u.2.1 + 1) (b := u.2.2.1 + 1) (c := u.2.2.2) hs5 hr5 hgW2 (by omega)
                  refine mt_goto (pc := 147) (tgt := 160) dX9_carryOut_147 (by decide) ?_
                  refine mt_iload (pc := 160) dX9_carryOut_160 rfl ?_
                  refine mt_istore (pc := 162) dX9_carryOut_162 (Nat.le_of_ble_eq_true rfl) rfl ?_
                  refine mt_goto (pc := 164) (tgt := 3) dX9_carryOut_164 (by decide) ?_
                  rw [show (nI q + 1 : Int32) = nI (q + 1) from nI_1 q]
                  rw [e9] at g5
                  refine mt_forget 7 ?_
                  exact nc (_, q + 1, _) ⟨FRa_31 hgF2, hgW3, by dsimp only; omega, by dsimp only; omega, g5⟩
            · skip
              have h6 : t.1 = 6 := by
                have hlt : t.1 < 2 ^ 31 := by
                  rcases htw with ⟨_, _, _, _, rfl, -⟩ | ⟨_, rfl, -⟩ | ⟨_, _, rfl, -⟩ | ⟨_, rfl, -⟩ | ⟨_, rfl, -⟩ | rfl | ⟨_, _, rfl, -⟩ <;> (dsimp only; omega)
                exact (nI_eq hlt (by decide)).mp c59
              rw [if_pos h6] at g5
              obtain ⟨x, z, rfl, hx30⟩ : ∃ x z, t = (6, [x], z) ∧ x ≤ 30 := by
                rcases htw with ⟨_, _, _, _, rfl, -⟩ | ⟨_, rfl, -⟩ | ⟨_, _, rfl, -⟩ | ⟨_, rfl, -⟩ | ⟨_, rfl, -⟩ | rfl | z
                · dsimp only at h6; omega
                · dsimp only at h6; omega
                · dsimp only at h6; omega
                · dsimp only at h6; omega
                · dsimp only at h6; omega
                · dsimp only at h6; omega
                · exact z
              have hz := hb6 rfl
              have hok1 : R (6 * q + 1) = nI x := hok.2.1 0 x rfl
              have hok5 : R (6 * q + 5) = nI z := hok.2.2 (by dsimp only; dsimp only at hz; omega)
              dsimp only at g5 hz
              rw [show ([x] : List Nat).getD 0 0 = x from rfl] at g5
              refine mt_iload (pc := 62) dX9_carryOut_62 rfl ?_
              refine mt_aload_n (pc := 64) dX9_carryOut_64 rfl ?_
              refine mt_iload (pc := 65) dX9_carryOut_65 rfl ?_
              refine mt_iconst (pc := 67) (v := 5) dX9_carryOut_67 (by decide) ?_
              refine mt_cV (pc := 68) (c_field (d := 1) (i := q) (j := 5) (Nat.le_refl 1) hx (by omega) hgW.1 hgW.2.1) cal_X9_field vir_X9_field ml_X9_104 dX9_carryOut_68 (by first | assumption | omega) hgW.1 (by first | assumption | (show _ ≤ d; omega)) ⟨(Nat.le_of_ble_eq_true rfl), (Nat.le_of_ble_eq_true rfl)⟩ rfl rfl (Nat.le_of_ble_eq_true rfl) ?_
              rw [hok5, show (nI q + 1 : Int32) = nI (q + 1) from nI_1 q]
              refine mt_mmax (pc := 71) ml_X9_107 dX9_carryOut_71 (by first | assumption | (show _ ≤ d; omega)) ⟨(Nat.le_of_ble_eq_true rfl), (Nat.le_of_ble_eq_true rfl)⟩ (Nat.le_of_ble_eq_true rfl) ?_
              rw [show (if nI (q + 1) < nI z then nI z else nI (q + 1)) = nI z by
                rcases Nat.lt_or_ge (q + 1) z with y | y
                · rw [if_pos (nI_lt y (by omega))]
                · rw [if_neg (nI_nlt y (by omega))]
                  congr 1
                  omega]
              refine mt_istore (pc := 74) dX9_carryOut_74 (Nat.le_of_ble_eq_true rfl) rfl ?_
              refine mt_iconst (pc := 76) (v := 0) dX9_carryOut_76 (by decide) ?_
              refine mt_istore (pc := 77) dX9_carryOut_77 (Nat.le_of_ble_eq_true rfl) rfl ?_
              refine mt_forE (pc := 79) (α := (Nat → mm_E) × WS) (H := fun i (a2 : (Nat → mm_E) × WS) => a2.1) (L := fun i (a2 : (Nat → mm_E) × WS) => [some (.ref 31), some (.ref 33), some (.ref s), some (.int (nI i0)), some (.int (nI to)), some (.int (nI o)), some (.int (nI q)), some (.int (nI z)), some (.int (nI i))]) (I := fun i (a2 : (Nat → mm_E) × WS) => FRa r h a2.1 ∧ WC a2.1 k cs R s r z1 z2 z3 a2.2 ∧ repS (B (q + 1) z) x (u.1, u.2.1 + 1, u.2.2) = repS (B (q + 1) z) (x - i) a2.2) x (fun i a2 hi fi ni => ?_) (fun a2 fi => ?_) ((m1, (u.1, u.2.1 + 1, u.2.2))) (⟨hgF, hgW, rfl⟩)
              · skip
                obtain ⟨e1, e2, e3⟩ := fi
                obtain ⟨m2, u2⟩ := a2
                dsimp only at e1 e2 e3 ⊢
                rw [show x - i = x - (i + 1) + 1 by omega, repS] at e3
                refine mt_iload (pc := 79) dX9_carryOut_79 rfl ?_
                refine mt_aload_n (pc := 81) dX9_carryOut_81 rfl ?_
                refine mt_iload (pc := 82) dX9_carryOut_82 rfl ?_
                refine mt_iconst (pc := 84) (v := 1) dX9_carryOut_84 (by decide) ?_
                refine mt_cV (pc := 85) (c_field (d := 1) (i := q) (j := 1) (Nat.le_refl 1) hx (by omega) e2.1 e2.2.1) cal_X9_field vir_X9_field ml_X9_104 dX9_carryOut_85 (by first | assumption | omega) e2.1 (by first | assumption | (show _ ≤ d; omega)) ⟨(Nat.le_of_ble_eq_true rfl), (Nat.le_of_ble_eq_true rfl)⟩ rfl rfl (Nat.le_of_ble_eq_true rfl) ?_
                rw [hok1]
                refine mt_icmp_ge (pc := 88) (tgt := 123) dX9_carryOut_88 (by decide) (fun c88 => ?_) (fun c88 => ?_)
                · exact absurd c88 (nI_ge hi (by omega))
                · skip
                  refine mt_aload_n (pc := 91) dX9_carryOut_91 rfl ?_
                  refine mt_get (pc := 92) gf_X9_19 dX9_carryOut_92 (by first | assumption | omega) e2.1 rfl ?_
                  refine mt_sipush (pc := 95) (v := 200) dX9_carryOut_95 (by decide) ?_
                  refine mt_icmp_ge (pc := 98) (tgt := 123) dX9_carryOut_98 (by decide) (fun c98 => ?_) (fun c98 => ?_)
                  · skip
                    rw [if_neg (fun y => nI_ge (b := 200) y (by decide) c98)] at e3
                    refine mt_goto (pc := 123) (tgt := 160) dX9_carryOut_123 (by decide) ?_
                    refine mt_iload (pc := 160) dX9_carryOut_160 rfl ?_
                    refine mt_istore (pc := 162) dX9_carryOut_162 (Nat.le_of_ble_eq_true rfl) rfl ?_
                    refine mt_goto (pc := 164) (tgt := 3) dX9_carryOut_164 (by decide) ?_
                    rw [e3] at g5
                    refine mt_forget 7 (mt_forget 8 ?_)
                    exact nc (m2, z, u2) ⟨e1, e2, by dsimp only; omega, by dsimp only; omega, g5⟩
                  · skip
                    have l4 : u2.2.1 < 200 := Nat.lt_of_not_le fun y => c98 (nI_le (a := 200) y (by have := e2.2.2.2.2.2.2.2.2; omega))
                    rw [if_pos l4] at e3
                    refine mt_aload_n (pc := 101) dX9_carryOut_101 rfl ?_
                    refine mt_aload_n (pc := 102) dX9_carryOut_102 rfl ?_
                    refine mt_aload_n (pc := 103) dX9_carryOut_103 rfl ?_
                    refine mt_iload (pc := 104) dX9_carryOut_104 rfl ?_
                    refine mt_iconst (pc := 106) (v := 1) dX9_carryOut_106 (by decide) ?_
                    refine mt_iadd (pc := 107) dX9_carryOut_107 ?_
                    refine mt_iload (pc := 108) dX9_carryOut_108 rfl ?_
                    refine mt_iload (pc := 110) dX9_carryOut_110 rfl ?_
                    refine mt_iconst (pc := 112) (v := 1) dX9_carryOut_112 (by decide) ?_
                    refine mt_iadd (pc := 113) dX9_carryOut_113 ?_
                    rw [show (nI o + 1 : Int32) = nI (o + 1) from nI_1 o, show (nI q + 1 : Int32) = nI (q + 1) from nI_1 q]
                    refine mt_aV (pc := 114) (hBc _ _ _ (q + 1) z hx hs hr e2 hz.2 (by omega)) cal_X9_carryOut vir_X9_carryOut ml_X9_112 dX9_carryOut_114 (by first | assumption | omega) e2.1 (by show _ ≤ d; omega) ⟨(Nat.le_of_ble_eq_true rfl), (Nat.le_of_ble_eq_true rfl)⟩ rfl rfl (Nat.le_of_ble_eq_true rfl) ?_ ?_
                    · rintro x9 n9 k9 h9
                      simp [P_ca] at h9
                    · rintro v9 n9 k9 ⟨hv, rfl, hF9, hW9⟩
                      cases hv
                      refine ⟨rfl, ?_⟩
                      refine mt_iinc (pc := 117) (c9 := 1) dX9_carryOut_117 rfl (by decide) (Nat.le_of_ble_eq_true rfl) rfl ?_
                      refine mt_goto (pc := 120) (tgt := 79) dX9_carryOut_120 (by decide) ?_
                      rw [show (nI i + 1 : Int32) = nI (i + 1) from nI_1 i]
                      exact ni (k9, B (q + 1) z u2) ⟨FRa_trans e1 hF9, hW9, e3⟩
              · skip
                obtain ⟨e1, e2, e3⟩ := fi
                obtain ⟨m2, u2⟩ := a2
                dsimp only at e1 e2 e3 ⊢
                rw [Nat.sub_self, repS] at e3
                refine mt_iload (pc := 79) dX9_carryOut_79 rfl ?_
                refine mt_aload_n (pc := 81) dX9_carryOut_81 rfl ?_
                refine mt_iload (pc := 82) dX9_carryOut_82 rfl ?_
                refine mt_iconst (pc := 84) (v := 1) dX9_carryOut_84 (by decide) ?_
                refine mt_cV (pc := 85) (c_field (d := 1) (i := q) (j := 1) (Nat.le_refl 1) hx (by omega) e2.1 e2.2.1) cal_X9_field vir_X9_field ml_X9_104 dX9_carryOut_85 (by first | assumption | omega) e2.1 (by first | assumption | (show _ ≤ d; omega)) ⟨(Nat.le_of_ble_eq_true rfl), (Nat.le_of_ble_eq_true rfl)⟩ rfl rfl (Nat.le_of_ble_eq_true rfl) ?_
                rw [hok1]
                refine mt_icmp_ge (pc := 88) (tgt := 123) dX9_carryOut_88 (by decide) (fun c88 => ?_) (fun c88 => ?_)
                · skip
                  refine mt_goto (pc := 123) (tgt := 160) dX9_carryOut_123 (by decide) ?_
                  refine mt_iload (pc := 160) dX9_carryOut_160 rfl ?_
                  refine mt_istore (pc := 162) dX9_carryOut_162 (Nat.le_of_ble_eq_true rfl) rfl ?_
                  refine mt_goto (pc := 164) (tgt := 3) dX9_carryOut_164 (by decide) ?_
                  rw [e3] at g5
                  refine mt_forget 7 (mt_forget 8 ?_)
                  exact nc (m2, z, u2) ⟨e1, e2, by dsimp only; omega, by dsimp only; omega, g5⟩
                · exact absurd (nI_le (Nat.le_refl _) (by omega)) c88
  · skip
    obtain ⟨g1, g2, g3, g4, g5⟩ := fc
    obtain ⟨m, q, u⟩ := a
    dsimp only at g1 g2 g3 g4 g5 ⊢
    have hfin : runS k cs ss B 30 i0 to w = u := g5
    refine mt_iload (pc := 3) dX9_carryOut_3 rfl ?_
    refine mt_iload (pc := 5) dX9_carryOut_5 rfl ?_
    refine mt_icmp_ge (pc := 7) (tgt := 167) dX9_carryOut_7 (by decide) (fun c7 => ?_) (fun c7 => ?_)
    · skip
      exact mt_vret rfl dX9_carryOut_167 (Nat.le_of_ble_eq_true rfl) (Nat.le_of_ble_eq_true rfl) ⟨rfl, rfl, g1, by rw [hfin]; exact g2⟩
    · skip
      refine mt_iload (pc := 10) dX9_carryOut_10 rfl ?_
      refine mt_bipush (pc := 12) (v := 30) dX9_carryOut_12 (by decide) ?_
      refine mt_icmp_ge (pc := 14) (tgt := 167) dX9_carryOut_14 (by decide) (fun c14 => ?_) (fun c14 => ?_)
      · skip
        exact mt_vret rfl dX9_carryOut_167 (Nat.le_of_ble_eq_true rfl) (Nat.le_of_ble_eq_true rfl) ⟨rfl, rfl, g1, by rw [hfin]; exact g2⟩
      · exact absurd (nI_le (a := 30) (b := q) g3 (by omega)) c14
end WORK6
