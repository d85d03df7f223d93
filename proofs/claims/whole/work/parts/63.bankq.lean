/-! CryptBank: questions. -/
/-- what a question may change: scratch -/
def FQ (h m : Nat → mm_E) : Prop := (∀ j, j ≠ 17 → j ≠ 18 → j ≠ 180 → j < 181 ∨ 187 < j → m j = h j) ∧ (∃ F, m 17 = iaE 8 F) ∧ (∃ S, m 18 = iaE 32 S) ∧ (∃ f, m 180 = rwE f ∧ CN 84 f) ∧ SX m ∧ (∃ z, m 186 = wnE z) ∧ ∃ o, m 187 = iaE 10 o
/-- what a question is asked of -/
def QW (h : Nat → mm_E) (ic rs ne ia : Int32) (k : CS) (cs : List Nat) (bk : BS) (pg : PGS) : Prop := h 0 = cbE ic rs ne ia ∧ CO h k ∧ LA h cs ∧ LWF cs ∧ BO h bk ∧ h 33 = ruE ∧ PG h 34 pg ∧ RC pg.2.1 ∧ h 179 = stE 180 ∧ (∃ f, h 180 = rwE f ∧ CN 84 f) ∧ SX h ∧ (∃ z, h 186 = wnE z) ∧ ∃ o, h 187 = iaE 10 o
theorem QW.fq {h : Nat → mm_E} {ic rs ne ia : Int32} {k : CS} {cs : List Nat} {bk : BS} {pg : PGS} (hQ : QW h ic rs ne ia k cs bk pg) : FQ h h := ⟨fun _ _ _ _ _ => rfl, hQ.2.2.1.2.2.1, hQ.2.2.1.2.2.2, hQ.2.2.2.2.2.2.2.2.2⟩
theorem QW.frl {h m : Nat → mm_E} {ic rs ne ia : Int32} {k : CS} {cs : List Nat} {bk : BS} {pg : PGS} (hQ : QW h ic rs ne ia k cs bk pg) (hF : FRl h m) : FQ h m := by
  obtain ⟨-, -, -, -, -, -, -, -, -, ⟨f, a1, a2⟩, ⟨⟨x, y, s1⟩, ⟨t1, s2⟩, ⟨t2, s3⟩, ⟨t3, s4⟩, t4, s5⟩, ⟨z, a3⟩, o, a4⟩ := hQ
  have e : ∀ j, j ≠ 17 → j ≠ 18 → m j = h j := hF.1
  exact ⟨fun j a b _ _ => e j a b, hF.2.1, hF.2.2, ⟨f, (e 180 (by decide) (by decide)).trans a1, a2⟩, ⟨⟨x, y, (e 181 (by decide) (by decide)).trans s1⟩, ⟨t1, (e 182 (by decide) (by decide)).trans s2⟩, ⟨t2, (e 183 (by decide) (by decide)).trans s3⟩, ⟨t3, (e 184 (by decide) (by decide)).trans s4⟩, t4, (e 185 (by decide) (by decide)).trans s5⟩, ⟨z, (e 186 (by decide) (by decide)).trans a3⟩, o, (e 187 (by decide) (by decide)).trans a4⟩
theorem FQ.trans {h m q : Nat → mm_E} (h1 : FQ h m) (h2 : FQ m q) : FQ h q := ⟨fun j a b c e => (h2.1 j a b c e).trans (h1.1 j a b c e), h2.2⟩
theorem QW.of {h m : Nat → mm_E} {ic rs ne ia : Int32} {k : CS} {cs : List Nat} {bk : BS} {pg : PGS} (hQ : QW h ic rs ne ia k cs bk pg) (hF : FQ h m) : QW m ic rs ne ia k cs bk pg := by
  obtain ⟨q1, ⟨c1, c2, c3, c4, c5, c6, c7⟩, ⟨l1, ⟨R, l2, l3⟩, -, -⟩, q4, ⟨b1, b2, b3, b4, b5⟩, q6, ⟨p1, p2, p3, p4, p5, p6⟩, q8, q9, -⟩ := hQ
  have e : ∀ j, j ≠ 17 → j ≠ 18 → j < 180 → m j = h j := fun j a b c => hF.1 j a b (by omega) (by omega)
  refine ⟨(e 0 (by decide) (by decide) (by decide)).trans q1, ⟨(e 3 (by decide) (by decide) (by decide)).trans c1, (e 4 (by decide) (by decide) (by decide)).trans c2, (e 5 (by decide) (by decide) (by decide)).trans c3, (e 6 (by decide) (by decide) (by decide)).trans c4, (e 7 (by decide) (by decide) (by decide)).trans c5, (e 8 (by decide) (by decide) (by decide)).trans c6, c7⟩, ⟨(e 15 (by decide) (by decide) (by decide)).trans l1, ⟨R, (e 16 (by decide) (by decide) (by decide)).trans l2, l3⟩, hF.2.1, hF.2.2.1⟩, q4, ⟨(e 23 (by decide) (by decide) (by decide)).trans b1, (e 24 (by decide) (by decide) (by decide)).trans b2, (e 25 (by decide) (by decide) (by decide)).trans b3, (e 26 (by decide) (by decide) (by decide)).trans b4, b5⟩, (e 33 (by decide) (by decide) (by decide)).trans q6, ⟨(e 34 (by decide) (by decide) (by decide)).trans p1, (e 35 (by decide) (by decide) (by decide)).trans p2, (e 36 (by decide) (by decide) (by decide)).trans p3, (e 37 (by decide) (by decide) (by decide)).trans p4, fun i hi => ⟨(e _ (by omega) (by omega) (by omega)).trans (p5 i hi).1, ?_⟩, p6⟩, q8, (e 179 (by decide) (by decide) (by decide)).trans q9, hF.2.2.2⟩
  obtain ⟨g, g1, g2⟩ := (p5 i hi).2
  exact ⟨g, (e _ (by omega) (by omega) (by omega)).trans g1, g2⟩
/-- a question's promise: a refusal, or an answer -/
def P_q (r : Nat ⊕ Int32) (ic rs ne ia : Int32) (nx : Nat) (h : Nat → mm_E) : mm_P := fun o n m => n = nx ∧ match r with
  | .inl x => o = .inr x ∧ m = hset h 0 (bmp x ic rs ne ia)
  | .inr v => o = .inl (some (.int v)) ∧ FQ h m
theorem P_qx {r : Nat ⊕ Int32} {x : Nat} {ic rs ne ia : Int32} {nx : Nat} {h : Nat → mm_E} (hr : r = .inl x) : P_q r ic rs ne ia nx h (.inr x) nx (hset h 0 (bmp x ic rs ne ia)) := by subst hr; exact ⟨rfl, rfl, rfl⟩
theorem P_qv {r : Nat ⊕ Int32} {v : Int32} {ic rs ne ia : Int32} {nx : Nat} {h m : Nat → mm_E} (hr : r = .inr v) (hF : FQ h m) : P_q r ic rs ne ia nx h (.inl (some (.int v))) nx m := by subst hr; exact ⟨rfl, rfl, hF⟩
/-- bits of loans, sums -/
def lwF (f : Nat → Int32) (j : Nat) (v : Int32) : Int32 := fld (fun i acc => if f (24 + 6 * i + j) = v then acc ||| ((1 : Int32) <<< (nI i &&& 31)) else acc) 0 (nlo f)
def ltF (f : Nat → Int32) (j : Nat) (v : Int32) : Int32 := fld (fun i acc => if f (24 + 6 * i + j) = v then acc + f (24 + 6 * i + 2) else acc) 0 (nlo f)
def unA (k : CS) (f : Nat → Int32) : Int32 := fld (fun p acc => acc + f (4 + p)) 0 k.1
def puA (k : CS) (f : Nat → Int32) : Int32 := fld (fun p acc => acc + f (18 + p)) 0 k.2.1
def toldR (rs : Int32) (k : CS) (cs : List Nat) (bk : BS) (f : Nat → Int32) (x : Int32) : Nat ⊕ Int32 := if x = nI 0 then .inr (nI k.1) else if x = nI 1 then .inr (nI k.2.1) else if x = nI 2 then .inr (f 3) else if x = nI 3 then .inr (f 0) else if x = nI 4 then .inr (f 1) else if x = nI 5 then .inr (unA k f) else if x = nI 6 then .inr (owA k cs f (-1) (nlo f)) else if x = nI 7 then .inr (lwF f 5 1) else if x = nI 8 then .inr (puA k f) else if x = nI 9 then .inr (nI bk.1) else if x = nI 10 then .inr rs else if x = nI 11 then .inr (f 2) else .inl 1
def slabV (k : CS) (f : Nat → Int32) (p : Nat) (x : Int32) : Nat ⊕ Int32 := if x = nI 0 then .inr (k.2.2.1 p) else if x = nI 1 then .inr (f (4 + p)) else if x = nI 2 then .inr (k.2.2.2.1 p) else if x = nI 3 then .inr (if (f 1 >>> (nI p &&& 31)) &&& 1 = 1 then 1 else 0) else if x = nI 4 then .inr (lwF f 1 (nI p)) else if x = nI 5 then .inr (k.2.2.2.2.1 p) else .inl 1
def slabR (k : CS) (f : Nat → Int32) (p x : Int32) : Nat ⊕ Int32 := if inR p k.1 then slabV k f p.toNatClampNeg x else .inl 0
def soulV (k : CS) (cs : List Nat) (f : Nat → Int32) (p : Nat) (x : Int32) : Nat ⊕ Int32 := if x = nI 0 then .inr (f (12 + p)) else if x = nI 1 then .inr (k.2.2.2.2.2.1 p) else if x = nI 2 then .inr (f (18 + p)) else if x = nI 3 then .inr (lwF f 0 (nI p)) else if x = nI 4 then .inr (owA k cs f (nI p) (nlo f)) else if x = nI 5 then .inr (ltF f 0 (nI p)) else .inl 1
def soulR (k : CS) (cs : List Nat) (f : Nat → Int32) (p x : Int32) : Nat ⊕ Int32 := if inR p k.2.1 then soulV k cs f p.toNatClampNeg x else .inl 0
theorem sw_no {x : Int32} {n c : Nat} (h : x.toInt < 0 ∨ (n : Int) < x.toInt) (hc : c ≤ n) (hn : n < 1000) : ¬ x = nI c := by
  intro z
  rw [z, nI_toInt (by omega)] at h
  omega
section BANKQ
variable {G : mm_G} {l : Launch} {d nx : Nat} {h : Nat → mm_E} {ic rs ne ia : Int32} {k : CS} {cs : List Nat} {bk : BS} {pg : PGS}
theorem c_underAll {s r : Nat} {f : Nat → Int32} (hd : 2 ≤ d) (hx : 34 ≤ nx) (h0 : h 0 = cbE ic rs ne ia) (hC : CO h k) (hs : s < nx) (hr : r < nx) (hS : h s = stE r) (hR : h r = rwE f) : mm_Con G l yX10_underAll cX10_underAll 4 (some .int) d 0 0 [.ref 0, .ref s] nx h (mm_ret (some (.int (unA k f))) nx h) := by
  have c0 := hC.1
  have hk1 : k.1 ≤ 8 := hC.2.2.2.2.2.2.1
  refine mm_start (lo := [some (.ref 0), some (.ref s), none, none]) pn_X10 rfl rfl (Nat.le_of_ble_eq_true rfl) ?_
  refine mt_iconst (pc := 0) (v := 0) dX10_underAll_0 (by decide) ?_
  refine mt_istore_n (pc := 1) dX10_underAll_1 (Nat.le_of_ble_eq_true rfl) rfl ?_
  refine mt_iconst (pc := 2) (v := 0) dX10_underAll_2 (by decide) ?_
  refine mt_istore_n (pc := 3) dX10_underAll_3 (Nat.le_of_ble_eq_true rfl) rfl ?_
  refine mt_for (pc := 4) (H := fun i => h) (L := fun i => [some (.ref 0), some (.ref s), some (.int (fld (fun p acc => acc + f (4 + p)) 0 i)), some (.int (nI i))]) (k.1) (fun i hi ni => ?_) ?_
  · skip
    refine mt_iload_n (pc := 4) dX10_underAll_4 rfl ?_
    refine mt_aload_n (pc := 5) dX10_underAll_5 rfl ?_
    refine mt_get (pc := 6) gf_X10_19 dX10_underAll_6 (by first | assumption | omega) (by repeat (first | exact hset_eq _ _ _ | assumption | rw [hset_ne (by first | assumption | decide | omega)])) rfl ?_
    refine mt_get (pc := 9) gf_X10_141 dX10_underAll_9 (by first | assumption | omega) (by repeat (first | exact hset_eq _ _ _ | assumption | rw [hset_ne (by first | assumption | decide | omega)])) rfl ?_
    refine mt_icmp_ge (pc := 12) (tgt := 29) dX10_underAll_12 (by decide) (fun c12 => ?_) (fun c12 => ?_)
    · exact absurd c12 (nI_ge hi (by omega))
    · skip
      refine mt_iload_n (pc := 15) dX10_underAll_15 rfl ?_
      refine mt_aload_n (pc := 16) dX10_underAll_16 rfl ?_
      refine mt_iload_n (pc := 17) dX10_underAll_17 rfl ?_
      refine mt_cV (pc := 18) (c_under (d := 1) (p := i) (Nat.le_refl 1) (by omega) hs hr hS hR) cal_X6_under vir_X6_under ml_X10_229 dX10_underAll_18 (by first | assumption | omega) (by repeat (first | exact hset_eq _ _ _ | assumption | rw [hset_ne (by first | assumption | decide | omega)])) (by first | assumption | (show _ ≤ d; omega)) ⟨(Nat.le_of_ble_eq_true rfl), (Nat.le_of_ble_eq_true rfl)⟩ rfl rfl (Nat.le_of_ble_eq_true rfl) ?_
      refine mt_iadd (pc := 21) dX10_underAll_21 ?_
      refine mt_istore_n (pc := 22) dX10_underAll_22 (Nat.le_of_ble_eq_true rfl) rfl ?_
      refine mt_iinc (pc := 23) (c9 := 1) dX10_underAll_23 rfl (by decide) (Nat.le_of_ble_eq_true rfl) rfl ?_
      refine mt_goto (pc := 26) (tgt := 4) dX10_underAll_26 (by decide) ?_
      rw [show (nI i + 1 : Int32) = nI (i + 1) from nI_1 i]
      first
        | exact ni
        | exact mt_fg (by repeat (first | exact trivial | refine ⟨rfl, ?_⟩ | rfl)) ni
  · skip
    refine mt_iload_n (pc := 4) dX10_underAll_4 rfl ?_
    refine mt_aload_n (pc := 5) dX10_underAll_5 rfl ?_
    refine mt_get (pc := 6) gf_X10_19 dX10_underAll_6 (by first | assumption | omega) (by repeat (first | exact hset_eq _ _ _ | assumption | rw [hset_ne (by first | assumption | decide | omega)])) rfl ?_
    refine mt_get (pc := 9) gf_X10_141 dX10_underAll_9 (by first | assumption | omega) (by repeat (first | exact hset_eq _ _ _ | assumption | rw [hset_ne (by first | assumption | decide | omega)])) rfl ?_
    refine mt_icmp_ge (pc := 12) (tgt := 29) dX10_underAll_12 (by decide) (fun c12 => ?_) (fun c12 => ?_)
    · skip
      refine mt_iload_n (pc := 29) dX10_underAll_29 rfl ?_
      exact mt_iret rfl dX10_underAll_30 (Nat.le_of_ble_eq_true rfl) (Nat.le_of_ble_eq_true rfl) ⟨rfl, rfl, rfl⟩
    · exact absurd (nI_le (Nat.le_refl _) (by omega)) c12
theorem c_inAllPurses {s r : Nat} {f : Nat → Int32} (hd : 2 ≤ d) (hx : 34 ≤ nx) (h0 : h 0 = cbE ic rs ne ia) (hC : CO h k) (hs : s < nx) (hr : r < nx) (hS : h s = stE r) (hR : h r = rwE f) : mm_Con G l yX10_inAllPurses cX10_inAllPurses 4 (some .int) d 0 0 [.ref 0, .ref s] nx h (mm_ret (some (.int (puA k f))) nx h) := by
  have c0 := hC.1
  have hk1 : k.2.1 ≤ 6 := hC.2.2.2.2.2.2.2
  refine mm_start (lo := [some (.ref 0), some (.ref s), none, none]) pn_X10 rfl rfl (Nat.le_of_ble_eq_true rfl) ?_
  refine mt_iconst (pc := 0) (v := 0) dX10_inAllPurses_0 (by decide) ?_
  refine mt_istore_n (pc := 1) dX10_inAllPurses_1 (Nat.le_of_ble_eq_true rfl) rfl ?_
  refine mt_iconst (pc := 2) (v := 0) dX10_inAllPurses_2 (by decide) ?_
  refine mt_istore_n (pc := 3) dX10_inAllPurses_3 (Nat.le_of_ble_eq_true rfl) rfl ?_
  refine mt_for (pc := 4) (H := fun i => h) (L := fun i => [some (.ref 0), some (.ref s), some (.int (fld (fun p acc => acc + f (18 + p)) 0 i)), some (.int (nI i))]) (k.2.1) (fun i hi ni => ?_) ?_
  · skip
    refine mt_iload_n (pc := 4) dX10_inAllPurses_4 rfl ?_
    refine mt_aload_n (pc := 5) dX10_inAllPurses_5 rfl ?_
    refine mt_get (pc := 6) gf_X10_19 dX10_inAllPurses_6 (by first | assumption | omega) (by repeat (first | exact hset_eq _ _ _ | assumption | rw [hset_ne (by first | assumption | decide | omega)])) rfl ?_
    refine mt_get (pc := 9) gf_X10_173 dX10_inAllPurses_9 (by first | assumption | omega) (by repeat (first | exact hset_eq _ _ _ | assumption | rw [hset_ne (by first | assumption | decide | omega)])) rfl ?_
    refine mt_icmp_ge (pc := 12) (tgt := 29) dX10_inAllPurses_12 (by decide) (fun c12 => ?_) (fun c12 => ?_)
    · exact absurd c12 (nI_ge hi (by omega))
    · skip
      refine mt_iload_n (pc := 15) dX10_inAllPurses_15 rfl ?_
      refine mt_aload_n (pc := 16) dX10_inAllPurses_16 rfl ?_
      refine mt_iload_n (pc := 17) dX10_inAllPurses_17 rfl ?_
      refine mt_cV (pc := 18) (c_purse (d := 1) (p := i) (Nat.le_refl 1) (by omega) hs hr hS hR) cal_X6_purse vir_X6_purse ml_X10_254 dX10_inAllPurses_18 (by first | assumption | omega) (by repeat (first | exact hset_eq _ _ _ | assumption | rw [hset_ne (by first | assumption | decide | omega)])) (by first | assumption | (show _ ≤ d; omega)) ⟨(Nat.le_of_ble_eq_true rfl), (Nat.le_of_ble_eq_true rfl)⟩ rfl rfl (Nat.le_of_ble_eq_true rfl) ?_
      refine mt_iadd (pc := 21) dX10_inAllPurses_21 ?_
      refine mt_istore_n (pc := 22) dX10_inAllPurses_22 (Nat.le_of_ble_eq_true rfl) rfl ?_
      refine mt_iinc (pc := 23) (c9 := 1) dX10_inAllPurses_23 rfl (by decide) (Nat.le_of_ble_eq_true rfl) rfl ?_
      refine mt_goto (pc := 26) (tgt := 4) dX10_inAllPurses_26 (by decide) ?_
      rw [show (nI i + 1 : Int32) = nI (i + 1) from nI_1 i]
      first
        | exact ni
        | exact mt_fg (by repeat (first | exact trivial | refine ⟨rfl, ?_⟩ | rfl)) ni
  · skip
    refine mt_iload_n (pc := 4) dX10_inAllPurses_4 rfl ?_
    refine mt_aload_n (pc := 5) dX10_inAllPurses_5 rfl ?_
    refine mt_get (pc := 6) gf_X10_19 dX10_inAllPurses_6 (by first | assumption | omega) (by repeat (first | exact hset_eq _ _ _ | assumption | rw [hset_ne (by first | assumption | decide | omega)])) rfl ?_
    refine mt_get (pc := 9) gf_X10_173 dX10_inAllPurses_9 (by first | assumption | omega) (by repeat (first | exact hset_eq _ _ _ | assumption | rw [hset_ne (by first | assumption | decide | omega)])) rfl ?_
    refine mt_icmp_ge (pc := 12) (tgt := 29) dX10_inAllPurses_12 (by decide) (fun c12 => ?_) (fun c12 => ?_)
    · skip
      refine mt_iload_n (pc := 29) dX10_inAllPurses_29 rfl ?_
      exact mt_iret rfl dX10_inAllPurses_30 (Nat.le_of_ble_eq_true rfl) (Nat.le_of_ble_eq_true rfl) ⟨rfl, rfl, rfl⟩
    · exact absurd (nI_le (Nat.le_refl _) (by omega)) c12
theorem c_told {x : Int32} (hl : l.stackTraces = false) (hd : 10 ≤ d) (hx : 188 ≤ nx) (hQ : QW h ic rs ne ia k cs bk pg) : mm_Con G l yX10_told cX10_told 3 (some .int) d 8 48 [.ref 0, .int x] nx h (P_q (toldR rs k cs bk pg.2.1 x) ic rs ne ia nx h) := by
  obtain ⟨h0, hC, hA, hLW, hB, h33, hP, ⟨⟨n, hw⟩, hcn⟩, -⟩ := id hQ
  have c0 := hC.1
  have b0 := hB.1
  obtain ⟨p1, p2, p3, -⟩ := id hP
  obtain rfl : n = nlo pg.2.1 := (nlo_eq hw).symm
  have hn := hw.2.1
  refine mm_start (lo := [some (.ref 0), some (.int x), none]) pn_X10 rfl rfl (Nat.le_of_ble_eq_true rfl) ?_
  refine mt_aload_n (pc := 0) dX10_told_0 rfl ?_
  refine mt_get (pc := 1) gf_X10_65 dX10_told_1 (by first | assumption | omega) (by repeat (first | exact hset_eq _ _ _ | assumption | rw [hset_ne (by first | assumption | decide | omega)])) rfl ?_
  refine mt_get (pc := 4) gf_X10_157 dX10_told_4 (by first | assumption | omega) (by repeat (first | exact hset_eq _ _ _ | assumption | rw [hset_ne (by first | assumption | decide | omega)])) rfl ?_
  refine mt_astore_n (pc := 7) dX10_told_7 (Nat.le_of_ble_eq_true rfl) rfl ?_
  refine mt_iload_n (pc := 8) dX10_told_8 rfl ?_
  rcases sw_cases x 11 with ⟨c9, h9, rfl⟩ | h9
  · rcases (show c9 = 0 ∨ c9 = 1 ∨ c9 = 2 ∨ c9 = 3 ∨ c9 = 4 ∨ c9 = 5 ∨ c9 = 6 ∨ c9 = 7 ∨ c9 = 8 ∨ c9 = 9 ∨ c9 = 10 ∨ c9 = 11 by omega) with rfl | rfl | rfl | rfl | rfl | rfl | rfl | rfl | rfl | rfl | rfl | rfl
    · refine mt_tableIn (pc := 9) (tgt := 72) dX10_told_9 (by decide) (by decide) (off := 63) (by decide +kernel) (by decide) ?_
      refine mt_aload_n (pc := 72) dX10_told_72 rfl ?_
      refine mt_get (pc := 73) gf_X10_19 dX10_told_73 (by first | assumption | omega) (by repeat (first | exact hset_eq _ _ _ | assumption | rw [hset_ne (by first | assumption | decide | omega)])) rfl ?_
      refine mt_get (pc := 76) gf_X10_141 dX10_told_76 (by first | assumption | omega) (by repeat (first | exact hset_eq _ _ _ | assumption | rw [hset_ne (by first | assumption | decide | omega)])) rfl ?_
      exact mt_iret rfl dX10_told_79 (Nat.le_of_ble_eq_true rfl) (Nat.le_of_ble_eq_true rfl) (P_qv (ic := ic) (rs := rs) (ne := ne) (ia := ia) rfl hQ.fq)
    · refine mt_tableIn (pc := 9) (tgt := 80) dX10_told_9 (by decide) (by decide) (off := 71) (by decide +kernel) (by decide) ?_
      refine mt_aload_n (pc := 80) dX10_told_80 rfl ?_
      refine mt_get (pc := 81) gf_X10_19 dX10_told_81 (by first | assumption | omega) (by repeat (first | exact hset_eq _ _ _ | assumption | rw [hset_ne (by first | assumption | decide | omega)])) rfl ?_
      refine mt_get (pc := 84) gf_X10_173 dX10_told_84 (by first | assumption | omega) (by repeat (first | exact hset_eq _ _ _ | assumption | rw [hset_ne (by first | assumption | decide | omega)])) rfl ?_
      exact mt_iret rfl dX10_told_87 (Nat.le_of_ble_eq_true rfl) (Nat.le_of_ble_eq_true rfl) (P_qv (ic := ic) (rs := rs) (ne := ne) (ia := ia) rfl hQ.fq)
    · refine mt_tableIn (pc := 9) (tgt := 88) dX10_told_9 (by decide) (by decide) (off := 79) (by decide +kernel) (by decide) ?_
      refine mt_aload_n (pc := 88) dX10_told_88 rfl ?_
      refine mt_cV (pc := 89) (c_loans (d := 1) (by omega) (by omega) p2 p3) cal_X6_loans vir_X6_loans ml_X10_192 dX10_told_89 (by first | assumption | omega) (by repeat (first | exact hset_eq _ _ _ | assumption | rw [hset_ne (by first | assumption | decide | omega)])) (by first | assumption | (show _ ≤ d; omega)) ⟨(Nat.le_of_ble_eq_true rfl), (Nat.le_of_ble_eq_true rfl)⟩ rfl rfl (Nat.le_of_ble_eq_true rfl) ?_
      exact mt_iret rfl dX10_told_92 (Nat.le_of_ble_eq_true rfl) (Nat.le_of_ble_eq_true rfl) (P_qv (ic := ic) (rs := rs) (ne := ne) (ia := ia) rfl hQ.fq)
    · refine mt_tableIn (pc := 9) (tgt := 93) dX10_told_9 (by decide) (by decide) (off := 84) (by decide +kernel) (by decide) ?_
      refine mt_aload_n (pc := 93) dX10_told_93 rfl ?_
      refine mt_cV (pc := 94) (c_night (d := 1) (by omega) (by omega) p2 p3) cal_X6_night vir_X6_night ml_X10_195 dX10_told_94 (by first | assumption | omega) (by repeat (first | exact hset_eq _ _ _ | assumption | rw [hset_ne (by first | assumption | decide | omega)])) (by first | assumption | (show _ ≤ d; omega)) ⟨(Nat.le_of_ble_eq_true rfl), (Nat.le_of_ble_eq_true rfl)⟩ rfl rfl (Nat.le_of_ble_eq_true rfl) ?_
      exact mt_iret rfl dX10_told_97 (Nat.le_of_ble_eq_true rfl) (Nat.le_of_ble_eq_true rfl) (P_qv (ic := ic) (rs := rs) (ne := ne) (ia := ia) rfl hQ.fq)
    · refine mt_tableIn (pc := 9) (tgt := 98) dX10_told_9 (by decide) (by decide) (off := 89) (by decide +kernel) (by decide) ?_
      refine mt_aload_n (pc := 98) dX10_told_98 rfl ?_
      refine mt_cV (pc := 99) (c_sealedSlabs (d := 1) (by omega) (by omega) p2 p3) cal_X6_sealedSlabs vir_X6_sealedSlabs ml_X10_198 dX10_told_99 (by first | assumption | omega) (by repeat (first | exact hset_eq _ _ _ | assumption | rw [hset_ne (by first | assumption | decide | omega)])) (by first | assumption | (show _ ≤ d; omega)) ⟨(Nat.le_of_ble_eq_true rfl), (Nat.le_of_ble_eq_true rfl)⟩ rfl rfl (Nat.le_of_ble_eq_true rfl) ?_
      exact mt_iret rfl dX10_told_102 (Nat.le_of_ble_eq_true rfl) (Nat.le_of_ble_eq_true rfl) (P_qv (ic := ic) (rs := rs) (ne := ne) (ia := ia) rfl hQ.fq)
    · refine mt_tableIn (pc := 9) (tgt := 103) dX10_told_9 (by decide) (by decide) (off := 94) (by decide +kernel) (by decide) ?_
      refine mt_aload_n (pc := 103) dX10_told_103 rfl ?_
      refine mt_aload_n (pc := 104) dX10_told_104 rfl ?_
      refine mt_cV (pc := 105) (c_underAll (d := 2) (Nat.le_refl 2) (by omega) h0 hC (by omega) (by omega) p2 p3) cal_X10_underAll vir_X10_underAll ml_X10_201 dX10_told_105 (by first | assumption | omega) (by repeat (first | exact hset_eq _ _ _ | assumption | rw [hset_ne (by first | assumption | decide | omega)])) (by first | assumption | (show _ ≤ d; omega)) ⟨(Nat.le_of_ble_eq_true rfl), (Nat.le_of_ble_eq_true rfl)⟩ rfl rfl (Nat.le_of_ble_eq_true rfl) ?_
      exact mt_iret rfl dX10_told_108 (Nat.le_of_ble_eq_true rfl) (Nat.le_of_ble_eq_true rfl) (P_qv (ic := ic) (rs := rs) (ne := ne) (ia := ia) rfl hQ.fq)
    · refine mt_tableIn (pc := 9) (tgt := 109) dX10_told_9 (by decide) (by decide) (off := 100) (by decide +kernel) (by decide) ?_
      refine mt_aload_n (pc := 109) dX10_told_109 rfl ?_
      refine mt_get (pc := 110) gf_X10_58 dX10_told_110 (by first | assumption | omega) (by repeat (first | exact hset_eq _ _ _ | assumption | rw [hset_ne (by first | assumption | decide | omega)])) rfl ?_
      refine mt_aload_n (pc := 113) dX10_told_113 rfl ?_
      refine mt_iconst (pc := 114) (v := (-1)) dX10_told_114 (by decide) ?_
      refine mt_aV (pc := 115) (c_owesInAll (d := 4) (Nat.le_refl 4) (by omega) hw hA hLW hC h33 (by decide) (by decide) (by omega) (by omega) p2 p3) cal_X4_owesInAll vir_X4_owesInAll ml_X10_205 dX10_told_115 (by first | assumption | omega) (by repeat (first | exact hset_eq _ _ _ | assumption | rw [hset_ne (by first | assumption | decide | omega)])) (by first | assumption | (show _ ≤ d; omega)) ⟨(Nat.le_of_ble_eq_true rfl), (Nat.le_of_ble_eq_true rfl)⟩ rfl rfl (Nat.le_of_ble_eq_true rfl) ?_ ?_
      · rintro x9 n9 k9 h9
        simp [P_ow] at h9
      · rintro v9 n9 k9 ⟨hv, rfl, hF9⟩
        cases hv
        refine ⟨rfl, ?_⟩
        exact mt_iret rfl dX10_told_118 (Nat.le_of_ble_eq_true rfl) (Nat.le_of_ble_eq_true rfl) (P_qv (ic := ic) (rs := rs) (ne := ne) (ia := ia) rfl (hQ.frl hF9))
    · refine mt_tableIn (pc := 9) (tgt := 119) dX10_told_9 (by decide) (by decide) (off := 110) (by decide +kernel) (by decide) ?_
      refine mt_aload_n (pc := 119) dX10_told_119 rfl ?_
      refine mt_cV (pc := 120) (c_overdue (d := 3) (Nat.le_refl 3) hn hw.1 (by omega) (by omega) p2 p3) cal_X6_overdue vir_X6_overdue ml_X10_209 dX10_told_120 (by first | assumption | omega) (by repeat (first | exact hset_eq _ _ _ | assumption | rw [hset_ne (by first | assumption | decide | omega)])) (by first | assumption | (show _ ≤ d; omega)) ⟨(Nat.le_of_ble_eq_true rfl), (Nat.le_of_ble_eq_true rfl)⟩ rfl rfl (Nat.le_of_ble_eq_true rfl) ?_
      exact mt_iret rfl dX10_told_123 (Nat.le_of_ble_eq_true rfl) (Nat.le_of_ble_eq_true rfl) (P_qv (ic := ic) (rs := rs) (ne := ne) (ia := ia) rfl hQ.fq)
    · refine mt_tableIn (pc := 9) (tgt := 124) dX10_told_9 (by decide) (by decide) (off := 115) (by decide +kernel) (by decide) ?_
      refine mt_aload_n (pc := 124) dX10_told_124 rfl ?_
      refine mt_aload_n (pc := 125) dX10_told_125 rfl ?_
      refine mt_cV (pc := 126) (c_inAllPurses (d := 2) (Nat.le_refl 2) (by omega) h0 hC (by omega) (by omega) p2 p3) cal_X10_inAllPurses vir_X10_inAllPurses ml_X10_212 dX10_told_126 (by first | assumption | omega) (by repeat (first | exact hset_eq _ _ _ | assumption | rw [hset_ne (by first | assumption | decide | omega)])) (by first | assumption | (show _ ≤ d; omega)) ⟨(Nat.le_of_ble_eq_true rfl), (Nat.le_of_ble_eq_true rfl)⟩ rfl rfl (Nat.le_of_ble_eq_true rfl) ?_
      exact mt_iret rfl dX10_told_129 (Nat.le_of_ble_eq_true rfl) (Nat.le_of_ble_eq_true rfl) (P_qv (ic := ic) (rs := rs) (ne := ne) (ia := ia) rfl hQ.fq)
    · refine mt_tableIn (pc := 9) (tgt := 130) dX10_told_9 (by decide) (by decide) (off := 121) (by decide +kernel) (by decide) ?_
      refine mt_aload_n (pc := 130) dX10_told_130 rfl ?_
      refine mt_get (pc := 131) gf_X10_39 dX10_told_131 (by first | assumption | omega) (by repeat (first | exact hset_eq _ _ _ | assumption | rw [hset_ne (by first | assumption | decide | omega)])) rfl ?_
      refine mt_get (pc := 134) gf_X10_182 dX10_told_134 (by first | assumption | omega) (by repeat (first | exact hset_eq _ _ _ | assumption | rw [hset_ne (by first | assumption | decide | omega)])) rfl ?_
      exact mt_iret rfl dX10_told_137 (Nat.le_of_ble_eq_true rfl) (Nat.le_of_ble_eq_true rfl) (P_qv (ic := ic) (rs := rs) (ne := ne) (ia := ia) rfl hQ.fq)
    · refine mt_tableIn (pc := 9) (tgt := 138) dX10_told_9 (by decide) (by decide) (off := 129) (by decide +kernel) (by decide) ?_
      refine mt_aload_n (pc := 138) dX10_told_138 rfl ?_
      refine mt_get (pc := 139) gf_X10_138 dX10_told_139 (by first | assumption | omega) (by repeat (first | exact hset_eq _ _ _ | assumption | rw [hset_ne (by first | assumption | decide | omega)])) rfl ?_
      exact mt_iret rfl dX10_told_142 (Nat.le_of_ble_eq_true rfl) (Nat.le_of_ble_eq_true rfl) (P_qv (ic := ic) (rs := rs) (ne := ne) (ia := ia) rfl hQ.fq)
    · refine mt_tableIn (pc := 9) (tgt := 143) dX10_told_9 (by decide) (by decide) (off := 134) (by decide +kernel) (by decide) ?_
      refine mt_aload_n (pc := 143) dX10_told_143 rfl ?_
      refine mt_cV (pc := 144) (c_paid (d := 1) (by omega) (by omega) p2 p3) cal_X6_paid vir_X6_paid ml_X10_215 dX10_told_144 (by first | assumption | omega) (by repeat (first | exact hset_eq _ _ _ | assumption | rw [hset_ne (by first | assumption | decide | omega)])) (by first | assumption | (show _ ≤ d; omega)) ⟨(Nat.le_of_ble_eq_true rfl), (Nat.le_of_ble_eq_true rfl)⟩ rfl rfl (Nat.le_of_ble_eq_true rfl) ?_
      exact mt_iret rfl dX10_told_147 (Nat.le_of_ble_eq_true rfl) (Nat.le_of_ble_eq_true rfl) (P_qv (ic := ic) (rs := rs) (ne := ne) (ia := ia) rfl hQ.fq)
  · refine mt_tableOut (pc := 9) (tgt := 148) dX10_told_9 h9 (by decide) ?_
    have er : toldR rs k cs bk pg.2.1 x = .inl 1 := by unfold toldR; rw [if_neg (sw_no h9 (by decide) (by decide)), if_neg (sw_no h9 (by decide) (by decide)), if_neg (sw_no h9 (by decide) (by decide)), if_neg (sw_no h9 (by decide) (by decide)), if_neg (sw_no h9 (by decide) (by decide)), if_neg (sw_no h9 (by decide) (by decide)), if_neg (sw_no h9 (by decide) (by decide)), if_neg (sw_no h9 (by decide) (by decide)), if_neg (sw_no h9 (by decide) (by decide)), if_neg (sw_no h9 (by decide) (by decide)), if_neg (sw_no h9 (by decide) (by decide)), if_neg (sw_no h9 (by decide) (by decide))]
    refine mt_aload_n (pc := 148) dX10_told_148 rfl ?_
    refine mt_iconst (pc := 149) (v := 0) dX10_told_149 (by decide) ?_
    refine mt_aV (pc := 150) (c_needArgument (d := 6) hl (Nat.le_refl 6) (by omega) h0) cal_X10_needArgument vir_X10_needArgument ml_X10_218 dX10_told_150 (by first | assumption | omega) (by repeat (first | exact hset_eq _ _ _ | assumption | rw [hset_ne (by first | assumption | decide | omega)])) (by first | assumption | (show _ ≤ d; omega)) ⟨(Nat.le_of_ble_eq_true rfl), (Nat.le_of_ble_eq_true rfl)⟩ rfl rfl (Nat.le_of_ble_eq_true rfl) ?_ ?_
    · rintro x9 n9 k9 h9
      obtain ⟨rfl, rfl, hno, rfl⟩ := h9
      exact P_qx er
    · rintro v9 n9 k9 ⟨rfl, rfl, hok, rfl⟩
      refine ⟨rfl, ?_⟩
      refine mt_iconst (pc := 153) (v := (-1)) dX10_told_153 (by decide) ?_
      exact mt_iret rfl dX10_told_154 (Nat.le_of_ble_eq_true rfl) (Nat.le_of_ble_eq_true rfl) (absurd rfl hok)
end BANKQ
