/-! CryptBank: saint, candles, winters, serving. -/
def hsF (v w x y : Int32) : Int32 := if x = 0 then (if y = 0 then v else 0) else (if y = 0 then v + w else w)
abbrev P3 : Type := Int32 × Int32 × Int32
def snOk (v w : Int32) (i j : Nat) : Prop := ¬ hsF v w (nI i) (nI j) < hsF v w (1 - nI i) (nI j) ∧ ¬ hsF v w (nI j) (nI i) < hsF v w (1 - nI j) (nI i)
def snS (v w : Int32) (i j : Nat) (s : P3) : P3 := if hsF v w (nI i) (nI j) < hsF v w (1 - nI i) (nI j) then s else if hsF v w (nI j) (nI i) < hsF v w (1 - nI j) (nI i) then s else if s.2.1 = -1 then (s.1 + 1, 10 * nI i + nI j, hsF v w (nI i) (nI j) + hsF v w (nI j) (nI i)) else (s.1 + 1, s.2)
def snI (v w : Int32) (i : Nat) (s : P3) : Nat → P3 := gfl (fun j t => snS v w i j t) s
def snF (v w : Int32) : Nat → P3 := gfl (fun i s => snI v w i s 2) (0, -1, 0)
def snV (v w x : Int32) : Int32 := if x = 0 then (snF v w 2).1 else if x = 1 then (snF v w 2).2.1 else (snF v w 2).2.2
def guF (k : CS) (f : Nat → Int32) (b S : Int32) : Nat → Int32 := fld (fun a acc => if (S >>> (nI a &&& 31)) &&& 1 = 1 then acc + (if b < f (18 + a) then b else f (18 + a)) else acc) 0
def cndB (k : CS) (f : Nat → Int32) (S n : Int32) : Nat → Nat → Nat
  | 0, b => b
  | q + 1, b => if guF k f (nI (b + 1)) S k.2.1 ≤ n then cndB k f S n q (b + 1) else b
theorem cndB_s {k : CS} {f : Nat → Int32} {S n : Int32} {q b : Nat} : cndB k f S n (q + 1) b = if guF k f (nI (b + 1)) S k.2.1 ≤ n then cndB k f S n q (b + 1) else b := rfl
theorem cndB_le {k : CS} {f : Nat → Int32} {S n : Int32} : ∀ q b, cndB k f S n q b ≤ b + q
  | 0, b => Nat.le_refl b
  | q + 1, b => by
    rw [cndB_s]
    split
    · have := cndB_le (k := k) (f := f) (S := S) (n := n) q (b + 1); omega
    · omega
def cndR (k : CS) (f : Nat → Int32) (a S n : Int32) : Nat ⊕ Int32 := if inR a k.2.1 then (if S &&& (-((1 : Int32) <<< (nI k.2.1 &&& 31))) = 0 then ifR n 0 999 (.inr (if (S >>> (a &&& 31)) &&& 1 = 0 then 0 else if nI (cndB k f S n 300 0) < f (18 + a.toNatClampNeg) then nI (cndB k f S n 300 0) else f (18 + a.toNatClampNeg))) else .inl 1) else .inl 0
def winV (k : CS) (cs : List Nat) (f : Nat → Int32) (g : Nat → Int32) (x : Int32) : Int32 := if x = nI 0 then g 3 else if x = nI 1 then unA k g else if x = nI 2 then g 1 else g 2 - f 2
def spnF (k : CS) (cs : List Nat) (f : Nat → Int32) (seed q : Int32) (n a : Nat) : Nat → P3 := gfl (fun i w => let g := (winN k cs q (f, seed + nI i) n).1; let u := unA k g; (if w.1 = -1 then u else if u < w.1 then u else w.1, if w.2.1 < u then u else w.2.1, w.2.2 + (if g (12 + a) = 0 then 1 else 0))) (-1, -1, 0)
theorem SV.sx {m : Nat → mm_E} {n sl : Nat} {A L R : Nat → Nat} (h : SV m n sl A L R) : SX m := by
  obtain ⟨h1, ⟨a1, h2, -⟩, ⟨a2, h3, -⟩, ⟨a3, h4, -⟩, ⟨a4, h5, -⟩, -⟩ := h
  exact ⟨⟨_, _, h1⟩, ⟨a1, h2⟩, ⟨a2, h3⟩, ⟨a3, h4⟩, a4, h5⟩
theorem QW.fs {h m : Nat → mm_E} {ic rs ne ia : Int32} {k : CS} {cs : List Nat} {bk : BS} {pg : PGS} (hQ : QW h ic rs ne ia k cs bk pg) (hF : FS h m) (hX : SX m) : FQ h m := by
  obtain ⟨-, -, ⟨-, -, ⟨F, a1⟩, S, a2⟩, -, -, -, -, -, -, ⟨g, a5, a6⟩, -, ⟨z, a3⟩, o, a4⟩ := hQ
  exact ⟨fun j _ _ _ e => hF j (by omega), ⟨F, (hF 17 (by omega)).trans a1⟩, ⟨S, (hF 18 (by omega)).trans a2⟩, ⟨g, (hF 180 (by omega)).trans a5, a6⟩, hX, ⟨z, (hF 186 (by omega)).trans a3⟩, o, (hF 187 (by omega)).trans a4⟩
section BANKU
variable {G : mm_G} {l : Launch} {d nx : Nat} {h : Nat → mm_E} {ic rs ne ia : Int32} {k : CS} {cs : List Nat} {bk : BS} {pg : PGS}
theorem c_has {v w x y : Int32} : mm_Con G l yX10_has cX10_has 4 (some .int) d 0 0 [.int v, .int w, .int x, .int y] nx h (mm_ret (some (.int (hsF v w x y))) nx h) := by
  refine mm_start (lo := [some (.int v), some (.int w), some (.int x), some (.int y)]) pn_X10 rfl rfl (Nat.le_of_ble_eq_true rfl) ?_
  refine mt_iload_n (pc := 0) dX10_has_0 rfl ?_
  refine mt_if_ne (pc := 1) (tgt := 14) dX10_has_1 (by decide) (fun c1 => ?_) (fun c1 => ?_)
  · skip
    refine mt_iload_n (pc := 14) dX10_has_14 rfl ?_
    refine mt_if_ne (pc := 15) (tgt := 24) dX10_has_15 (by decide) (fun c15 => ?_) (fun c15 => ?_)
    · skip
      refine mt_iload_n (pc := 24) dX10_has_24 rfl ?_
      exact mt_iret rfl dX10_has_25 (Nat.le_of_ble_eq_true rfl) (Nat.le_of_ble_eq_true rfl) ⟨by unfold hsF; rw [if_neg c1, if_neg c15], rfl, rfl⟩
    · skip
      refine mt_iload_n (pc := 18) dX10_has_18 rfl ?_
      refine mt_iload_n (pc := 19) dX10_has_19 rfl ?_
      refine mt_iadd (pc := 20) dX10_has_20 ?_
      refine mt_goto (pc := 21) (tgt := 25) dX10_has_21 (by decide) ?_
      exact mt_iret rfl dX10_has_25 (Nat.le_of_ble_eq_true rfl) (Nat.le_of_ble_eq_true rfl) ⟨by unfold hsF; rw [if_neg c1, if_pos c15], rfl, rfl⟩
  · skip
    refine mt_iload_n (pc := 4) dX10_has_4 rfl ?_
    refine mt_if_ne (pc := 5) (tgt := 12) dX10_has_5 (by decide) (fun c5 => ?_) (fun c5 => ?_)
    · skip
      refine mt_iconst (pc := 12) (v := 0) dX10_has_12 (by decide) ?_
      exact mt_iret rfl dX10_has_13 (Nat.le_of_ble_eq_true rfl) (Nat.le_of_ble_eq_true rfl) ⟨by unfold hsF; rw [if_pos c1, if_neg c5], rfl, rfl⟩
    · skip
      refine mt_iload_n (pc := 8) dX10_has_8 rfl ?_
      refine mt_goto (pc := 9) (tgt := 13) dX10_has_9 (by decide) ?_
      exact mt_iret rfl dX10_has_13 (Nat.le_of_ble_eq_true rfl) (Nat.le_of_ble_eq_true rfl) ⟨by unfold hsF; rw [if_pos c1, if_pos c5], rfl, rfl⟩
theorem c_givenUpTo {b S : Int32} (hd : 2 ≤ d) (hx : 188 ≤ nx) (hQ : QW h ic rs ne ia k cs bk pg) : mm_Con G l yX10_givenUpTo cX10_givenUpTo 5 (some .int) d 0 0 [.ref 0, .int b, .int S] nx h (mm_ret (some (.int (guF k pg.2.1 b S k.2.1))) nx h) := by
  obtain ⟨h0, hC, hA, hLW, hB, h33, hP, ⟨⟨n, hw⟩, hcn⟩, -⟩ := id hQ
  obtain rfl : n = nlo pg.2.1 := (nlo_eq hw).symm
  have c0 := hC.1
  have hk1 : k.1 ≤ 8 := hC.2.2.2.2.2.2.1
  have hk2 : k.2.1 ≤ 6 := hC.2.2.2.2.2.2.2
  obtain ⟨p1, p2, p3, -⟩ := id hP
  have hn := hw.2.1
  refine mm_start (lo := [some (.ref 0), some (.int b), some (.int S), none, none]) pn_X10 rfl rfl (Nat.le_of_ble_eq_true rfl) ?_
  refine mt_iconst (pc := 0) (v := 0) dX10_givenUpTo_0 (by decide) ?_
  refine mt_istore_n (pc := 1) dX10_givenUpTo_1 (Nat.le_of_ble_eq_true rfl) rfl ?_
  refine mt_iconst (pc := 2) (v := 0) dX10_givenUpTo_2 (by decide) ?_
  refine mt_istore (pc := 3) dX10_givenUpTo_3 (Nat.le_of_ble_eq_true rfl) rfl ?_
  refine mt_for (pc := 5) (H := fun i => h) (L := fun i => [some (.ref 0), some (.int b), some (.int S), some (.int (guF k pg.2.1 b S i)), some (.int (nI i))]) (k.2.1) (fun i hi ni => ?_) ?_
  · skip
    have e1 : guF k pg.2.1 b S (i + 1) = if (S >>> (nI i &&& 31)) &&& 1 = 1 then guF k pg.2.1 b S i + (if b < pg.2.1 (18 + i) then b else pg.2.1 (18 + i)) else guF k pg.2.1 b S i := rfl
    refine mt_iload (pc := 5) dX10_givenUpTo_5 rfl ?_
    refine mt_aload_n (pc := 7) dX10_givenUpTo_7 rfl ?_
    refine mt_get (pc := 8) gf_X10_19 dX10_givenUpTo_8 (by first | assumption | omega) (by repeat (first | exact hset_eq _ _ _ | assumption | rw [hset_ne (by first | assumption | decide | omega)])) rfl ?_
    refine mt_get (pc := 11) gf_X10_173 dX10_givenUpTo_11 (by first | assumption | omega) (by repeat (first | exact hset_eq _ _ _ | assumption | rw [hset_ne (by first | assumption | decide | omega)])) rfl ?_
    refine mt_icmp_ge (pc := 14) (tgt := 52) dX10_givenUpTo_14 (by decide) (fun c14 => ?_) (fun c14 => ?_)
    · exact absurd c14 (nI_ge hi (by omega))
    · skip
      refine mt_iload_n (pc := 17) dX10_givenUpTo_17 rfl ?_
      refine mt_iload (pc := 18) dX10_givenUpTo_18 rfl ?_
      refine mt_ishr (pc := 20) dX10_givenUpTo_20 ?_
      refine mt_iconst (pc := 21) (v := 1) dX10_givenUpTo_21 (by decide) ?_
      refine mt_iand (pc := 22) dX10_givenUpTo_22 ?_
      refine mt_iconst (pc := 23) (v := 1) dX10_givenUpTo_23 (by decide) ?_
      refine mt_icmp_ne (pc := 24) (tgt := 46) dX10_givenUpTo_24 (by decide) (fun c24 => ?_) (fun c24 => ?_)
      · skip
        rw [if_neg c24] at e1
        refine mt_iinc (pc := 46) (c9 := 1) dX10_givenUpTo_46 rfl (by decide) (Nat.le_of_ble_eq_true rfl) rfl ?_
        refine mt_goto (pc := 49) (tgt := 5) dX10_givenUpTo_49 (by decide) ?_
        rw [e1] at ni
        rw [show (nI i + 1 : Int32) = nI (i + 1) from nI_1 i]
        first
          | exact ni
          | exact mt_fg (by repeat (first | exact trivial | refine ⟨rfl, ?_⟩ | rfl)) ni
      · skip
        rw [if_pos c24] at e1
        refine mt_iload_n (pc := 27) dX10_givenUpTo_27 rfl ?_
        refine mt_aload_n (pc := 28) dX10_givenUpTo_28 rfl ?_
        refine mt_get (pc := 29) gf_X10_65 dX10_givenUpTo_29 (by first | assumption | omega) (by repeat (first | exact hset_eq _ _ _ | assumption | rw [hset_ne (by first | assumption | decide | omega)])) rfl ?_
        refine mt_get (pc := 32) gf_X10_157 dX10_givenUpTo_32 (by first | assumption | omega) (by repeat (first | exact hset_eq _ _ _ | assumption | rw [hset_ne (by first | assumption | decide | omega)])) rfl ?_
        refine mt_iload (pc := 35) dX10_givenUpTo_35 rfl ?_
        refine mt_cV (pc := 37) (c_purse (d := 1) (p := i) (Nat.le_refl 1) (by omega) (by omega) (by omega) p2 p3) cal_X6_purse vir_X6_purse ml_X10_254 dX10_givenUpTo_37 (by first | assumption | omega) (by repeat (first | exact hset_eq _ _ _ | assumption | rw [hset_ne (by first | assumption | decide | omega)])) (by first | assumption | (show _ ≤ d; omega)) ⟨(Nat.le_of_ble_eq_true rfl), (Nat.le_of_ble_eq_true rfl)⟩ rfl rfl (Nat.le_of_ble_eq_true rfl) ?_
        refine mt_iload_n (pc := 40) dX10_givenUpTo_40 rfl ?_
        refine mt_mmin (pc := 41) ml_X10_342 dX10_givenUpTo_41 (by first | assumption | (show _ ≤ d; omega)) ⟨(Nat.le_of_ble_eq_true rfl), (Nat.le_of_ble_eq_true rfl)⟩ (Nat.le_of_ble_eq_true rfl) ?_
        refine mt_iadd (pc := 44) dX10_givenUpTo_44 ?_
        refine mt_istore_n (pc := 45) dX10_givenUpTo_45 (Nat.le_of_ble_eq_true rfl) rfl ?_
        refine mt_iinc (pc := 46) (c9 := 1) dX10_givenUpTo_46 rfl (by decide) (Nat.le_of_ble_eq_true rfl) rfl ?_
        refine mt_goto (pc := 49) (tgt := 5) dX10_givenUpTo_49 (by decide) ?_
        rw [e1] at ni
        rw [show (nI i + 1 : Int32) = nI (i + 1) from nI_1 i]
        first
          | exact ni
          | exact mt_fg (by repeat (first | exact trivial | refine ⟨rfl, ?_⟩ | rfl)) ni
  · skip
    refine mt_iload (pc := 5) dX10_givenUpTo_5 rfl ?_
    refine mt_aload_n (pc := 7) dX10_givenUpTo_7 rfl ?_
    refine mt_get (pc := 8) gf_X10_19 dX10_givenUpTo_8 (by first | assumption | omega) (by repeat (first | exact hset_eq _ _ _ | assumption | rw [hset_ne (by first | assumption | decide | omega)])) rfl ?_
    refine mt_get (pc := 11) gf_X10_173 dX10_givenUpTo_11 (by first | assumption | omega) (by repeat (first | exact hset_eq _ _ _ | assumption | rw [hset_ne (by first | assumption | decide | omega)])) rfl ?_
    refine mt_icmp_ge (pc := 14) (tgt := 52) dX10_givenUpTo_14 (by decide) (fun c14 => ?_) (fun c14 => ?_)
    · skip
      refine mt_iload_n (pc := 52) dX10_givenUpTo_52 rfl ?_
      exact mt_iret rfl dX10_givenUpTo_53 (Nat.le_of_ble_eq_true rfl) (Nat.le_of_ble_eq_true rfl) ⟨rfl, rfl, rfl⟩
    · exact absurd (nI_le (Nat.le_refl _) (by omega)) c14
theorem c_saint {v w x : Int32} (hl : l.stackTraces = false) (hd : 10 ≤ d) (hx : 188 ≤ nx) (hQ : QW h ic rs ne ia k cs bk pg) : mm_Con G l yX10_saint cX10_saint 9 (some .int) d 8 48 [.ref 0, .int v, .int w, .int x] nx h (P_q (ifR v 0 99 (ifR w 0 99 (ifR x 0 2 (.inr (snV v w x))))) ic rs ne ia nx h) := by
  obtain ⟨h0, hC, hA, hLW, hB, h33, hP, ⟨⟨n, hw⟩, hcn⟩, -⟩ := id hQ
  obtain rfl : n = nlo pg.2.1 := (nlo_eq hw).symm
  have c0 := hC.1
  have hk1 : k.1 ≤ 8 := hC.2.2.2.2.2.2.1
  have hk2 : k.2.1 ≤ 6 := hC.2.2.2.2.2.2.2
  obtain ⟨p1, p2, p3, -⟩ := id hP
  have hn := hw.2.1
  refine mm_start (lo := [some (.ref 0), some (.int v), some (.int w), some (.int x), none, none, none, none, none]) pn_X10 rfl rfl (Nat.le_of_ble_eq_true rfl) ?_
  refine mt_aload_n (pc := 0) dX10_saint_0 rfl ?_
  refine mt_iload_n (pc := 1) dX10_saint_1 rfl ?_
  refine mt_iconst (pc := 2) (v := 0) dX10_saint_2 (by decide) ?_
  refine mt_bipush (pc := 3) (v := 99) dX10_saint_3 (by decide) ?_
  refine mt_aV (pc := 5) (c_needRange (d := 7) hl (Nat.le_refl 7) (by omega) h0) cal_X10_needRange vir_X10_needRange ml_X10_266 dX10_saint_5 (by first | assumption | omega) (by repeat (first | exact hset_eq _ _ _ | assumption | rw [hset_ne (by first | assumption | decide | omega)])) (by first | assumption | (show _ ≤ d; omega)) ⟨(Nat.le_of_ble_eq_true rfl), (Nat.le_of_ble_eq_true rfl)⟩ rfl rfl (Nat.le_of_ble_eq_true rfl) ?_ ?_
  · rintro x9 n9 k9 h9
    obtain ⟨rfl, rfl, hno, rfl⟩ := h9
    exact P_qx (if_neg hno)
  · rintro v9 n9 k9 ⟨rfl, rfl, hok, rfl⟩
    refine ⟨rfl, ?_⟩
    refine mt_aload_n (pc := 8) dX10_saint_8 rfl ?_
    refine mt_iload_n (pc := 9) dX10_saint_9 rfl ?_
    refine mt_iconst (pc := 10) (v := 0) dX10_saint_10 (by decide) ?_
    refine mt_bipush (pc := 11) (v := 99) dX10_saint_11 (by decide) ?_
    refine mt_aV (pc := 13) (c_needRange (d := 7) hl (Nat.le_refl 7) (by omega) h0) cal_X10_needRange vir_X10_needRange ml_X10_266 dX10_saint_13 (by first | assumption | omega) (by repeat (first | exact hset_eq _ _ _ | assumption | rw [hset_ne (by first | assumption | decide | omega)])) (by first | assumption | (show _ ≤ d; omega)) ⟨(Nat.le_of_ble_eq_true rfl), (Nat.le_of_ble_eq_true rfl)⟩ rfl rfl (Nat.le_of_ble_eq_true rfl) ?_ ?_
    · rintro x9 n9 k9 h9
      obtain ⟨rfl, rfl, hno, rfl⟩ := h9
      exact P_qx ((if_pos hok).trans (if_neg hno))
    · rintro v9 n9 k9 ⟨rfl, rfl, hok2, rfl⟩
      refine ⟨rfl, ?_⟩
      refine mt_aload_n (pc := 16) dX10_saint_16 rfl ?_
      refine mt_iload_n (pc := 17) dX10_saint_17 rfl ?_
      refine mt_iconst (pc := 18) (v := 0) dX10_saint_18 (by decide) ?_
      refine mt_iconst (pc := 19) (v := 2) dX10_saint_19 (by decide) ?_
      refine mt_aV (pc := 20) (c_needRange (d := 7) hl (Nat.le_refl 7) (by omega) h0) cal_X10_needRange vir_X10_needRange ml_X10_266 dX10_saint_20 (by first | assumption | omega) (by repeat (first | exact hset_eq _ _ _ | assumption | rw [hset_ne (by first | assumption | decide | omega)])) (by first | assumption | (show _ ≤ d; omega)) ⟨(Nat.le_of_ble_eq_true rfl), (Nat.le_of_ble_eq_true rfl)⟩ rfl rfl (Nat.le_of_ble_eq_true rfl) ?_ ?_
      · rintro x9 n9 k9 h9
        obtain ⟨rfl, rfl, hno, rfl⟩ := h9
        exact P_qx ((if_pos hok).trans ((if_pos hok2).trans (if_neg hno)))
      · rintro v9 n9 k9 ⟨rfl, rfl, hok3, rfl⟩
        have er : ifR v 0 99 (ifR w 0 99 (ifR x 0 2 (.inr (snV v w x)))) = .inr (snV v w x) := (if_pos hok).trans ((if_pos hok2).trans (if_pos hok3))
        refine ⟨rfl, ?_⟩
        refine mt_iconst (pc := 23) (v := 0) dX10_saint_23 (by decide) ?_
        refine mt_istore (pc := 24) dX10_saint_24 (Nat.le_of_ble_eq_true rfl) rfl ?_
        refine mt_iconst (pc := 26) (v := (-1)) dX10_saint_26 (by decide) ?_
        refine mt_istore (pc := 27) dX10_saint_27 (Nat.le_of_ble_eq_true rfl) rfl ?_
        refine mt_iconst (pc := 29) (v := 0) dX10_saint_29 (by decide) ?_
        refine mt_istore (pc := 30) dX10_saint_30 (Nat.le_of_ble_eq_true rfl) rfl ?_
        refine mt_iconst (pc := 32) (v := 0) dX10_saint_32 (by decide) ?_
        refine mt_istore (pc := 33) dX10_saint_33 (Nat.le_of_ble_eq_true rfl) rfl ?_
        refine mt_forget 8 ?_
        refine mt_for (pc := 35) (H := fun i => h) (L := fun i => [some (.ref 0), some (.int v), some (.int w), some (.int x), some (.int ((snF v w i).1)), some (.int ((snF v w i).2.1)), some (.int ((snF v w i).2.2)), some (.int (nI i)), none]) 2 (fun i hi ni => ?_) ?_
        · skip
          have e0 : snF v w (i + 1) = snI v w i (snF v w i) 2 := rfl
          rw [e0] at ni
          generalize snF v w i = s0 at ni
          refine mt_iload (pc := 35) dX10_saint_35 rfl ?_
          refine mt_iconst (pc := 37) (v := 1) dX10_saint_37 (by decide) ?_
          refine mt_icmp_gt (pc := 38) (tgt := 148) dX10_saint_38 (by decide) (fun c38 => ?_) (fun c38 => ?_)
          · exact absurd c38 (nI_nlt (a := 1) (b := i) (by omega) (by decide))
          · skip
            refine mt_iconst (pc := 41) (v := 0) dX10_saint_41 (by decide) ?_
            refine mt_istore (pc := 42) dX10_saint_42 (Nat.le_of_ble_eq_true rfl) rfl ?_
            refine mt_for (pc := 44) (H := fun j => h) (L := fun j => [some (.ref 0), some (.int v), some (.int w), some (.int x), some (.int ((snI v w i s0 j).1)), some (.int ((snI v w i s0 j).2.1)), some (.int ((snI v w i s0 j).2.2)), some (.int (nI i)), some (.int (nI j))]) 2 (fun j hj nj => ?_) ?_
            · skip
              have e1 : snI v w i s0 (j + 1) = snS v w i j (snI v w i s0 j) := rfl
              unfold snS at e1
              refine mt_iload (pc := 44) dX10_saint_44 rfl ?_
              refine mt_iconst (pc := 46) (v := 1) dX10_saint_46 (by decide) ?_
              refine mt_icmp_gt (pc := 47) (tgt := 142) dX10_saint_47 (by decide) (fun c47 => ?_) (fun c47 => ?_)
              · exact absurd c47 (nI_nlt (a := 1) (b := j) (by omega) (by decide))
              · skip
                refine mt_iload_n (pc := 50) dX10_saint_50 rfl ?_
                refine mt_iload_n (pc := 51) dX10_saint_51 rfl ?_
                refine mt_iload (pc := 52) dX10_saint_52 rfl ?_
                refine mt_iload (pc := 54) dX10_saint_54 rfl ?_
                refine mt_cS (pc := 56) (c_has (d := 1)) cal_X10_has sta_X10_has ml_X10_336 dX10_saint_56 (by first | assumption | (show _ ≤ d; omega)) ⟨(Nat.le_of_ble_eq_true rfl), (Nat.le_of_ble_eq_true rfl)⟩ rfl rfl (Nat.le_of_ble_eq_true rfl) ?_
                refine mt_iload_n (pc := 59) dX10_saint_59 rfl ?_
                refine mt_iload_n (pc := 60) dX10_saint_60 rfl ?_
                refine mt_iconst (pc := 61) (v := 1) dX10_saint_61 (by decide) ?_
                refine mt_iload (pc := 62) dX10_saint_62 rfl ?_
                refine mt_isub (pc := 64) dX10_saint_64 ?_
                refine mt_iload (pc := 65) dX10_saint_65 rfl ?_
                refine mt_cS (pc := 67) (c_has (d := 1)) cal_X10_has sta_X10_has ml_X10_336 dX10_saint_67 (by first | assumption | (show _ ≤ d; omega)) ⟨(Nat.le_of_ble_eq_true rfl), (Nat.le_of_ble_eq_true rfl)⟩ rfl rfl (Nat.le_of_ble_eq_true rfl) ?_
                refine mt_icmp_lt (pc := 70) (tgt := 136) dX10_saint_70 (by decide) (fun c70 => ?_) (fun c70 => ?_)
                · skip
                  rw [if_pos c70] at e1
                  refine mt_iinc (pc := 136) (c9 := 1) dX10_saint_136 rfl (by decide) (Nat.le_of_ble_eq_true rfl) rfl ?_
                  refine mt_goto (pc := 139) (tgt := 44) dX10_saint_139 (by decide) ?_
                  rw [e1] at nj
                  rw [show (nI j + 1 : Int32) = nI (j + 1) from nI_1 j]
                  first
                    | exact nj
                    | exact mt_fg (by repeat (first | exact trivial | refine ⟨rfl, ?_⟩ | rfl)) nj
                · skip
                  rw [if_neg c70] at e1
                  refine mt_iload_n (pc := 73) dX10_saint_73 rfl ?_
                  refine mt_iload_n (pc := 74) dX10_saint_74 rfl ?_
                  refine mt_iload (pc := 75) dX10_saint_75 rfl ?_
                  refine mt_iload (pc := 77) dX10_saint_77 rfl ?_
                  refine mt_cS (pc := 79) (c_has (d := 1)) cal_X10_has sta_X10_has ml_X10_336 dX10_saint_79 (by first | assumption | (show _ ≤ d; omega)) ⟨(Nat.le_of_ble_eq_true rfl), (Nat.le_of_ble_eq_true rfl)⟩ rfl rfl (Nat.le_of_ble_eq_true rfl) ?_
                  refine mt_iload_n (pc := 82) dX10_saint_82 rfl ?_
                  refine mt_iload_n (pc := 83) dX10_saint_83 rfl ?_
                  refine mt_iconst (pc := 84) (v := 1) dX10_saint_84 (by decide) ?_
                  refine mt_iload (pc := 85) dX10_saint_85 rfl ?_
                  refine mt_isub (pc := 87) dX10_saint_87 ?_
                  refine mt_iload (pc := 88) dX10_saint_88 rfl ?_
                  refine mt_cS (pc := 90) (c_has (d := 1)) cal_X10_has sta_X10_has ml_X10_336 dX10_saint_90 (by first | assumption | (show _ ≤ d; omega)) ⟨(Nat.le_of_ble_eq_true rfl), (Nat.le_of_ble_eq_true rfl)⟩ rfl rfl (Nat.le_of_ble_eq_true rfl) ?_
                  refine mt_icmp_lt (pc := 93) (tgt := 136) dX10_saint_93 (by decide) (fun c93 => ?_) (fun c93 => ?_)
                  · skip
                    rw [if_pos c93] at e1
                    refine mt_iinc (pc := 136) (c9 := 1) dX10_saint_136 rfl (by decide) (Nat.le_of_ble_eq_true rfl) rfl ?_
                    refine mt_goto (pc := 139) (tgt := 44) dX10_saint_139 (by decide) ?_
                    rw [e1] at nj
                    rw [show (nI j + 1 : Int32) = nI (j + 1) from nI_1 j]
                    first
                      | exact nj
                      | exact mt_fg (by repeat (first | exact trivial | refine ⟨rfl, ?_⟩ | rfl)) nj
                  · skip
                    rw [if_neg c93] at e1
                    refine mt_iinc (pc := 96) (c9 := 1) dX10_saint_96 rfl (by decide) (Nat.le_of_ble_eq_true rfl) rfl ?_
                    refine mt_iload (pc := 99) dX10_saint_99 rfl ?_
                    refine mt_iconst (pc := 101) (v := (-1)) dX10_saint_101 (by decide) ?_
                    refine mt_icmp_ne (pc := 102) (tgt := 136) dX10_saint_102 (by decide) (fun c102 => ?_) (fun c102 => ?_)
                    · skip
                      rw [if_neg c102] at e1
                      refine mt_iinc (pc := 136) (c9 := 1) dX10_saint_136 rfl (by decide) (Nat.le_of_ble_eq_true rfl) rfl ?_
                      refine mt_goto (pc := 139) (tgt := 44) dX10_saint_139 (by decide) ?_
                      rw [e1] at nj
                      rw [show (nI j + 1 : Int32) = nI (j + 1) from nI_1 j]
                      first
                        | exact nj
                        | exact mt_fg (by repeat (first | exact trivial | refine ⟨rfl, ?_⟩ | rfl)) nj
                    · skip
                      rw [if_pos c102] at e1
                      refine mt_bipush (pc := 105) (v := 10) dX10_saint_105 (by decide) ?_
                      refine mt_iload (pc := 107) dX10_saint_107 rfl ?_
                      refine mt_imul (pc := 109) dX10_saint_109 ?_
                      refine mt_iload (pc := 110) dX10_saint_110 rfl ?_
                      refine mt_iadd (pc := 112) dX10_saint_112 ?_
                      refine mt_istore (pc := 113) dX10_saint_113 (Nat.le_of_ble_eq_true rfl) rfl ?_
                      refine mt_iload_n (pc := 115) dX10_saint_115 rfl ?_
                      refine mt_iload_n (pc := 116) dX10_saint_116 rfl ?_
                      refine mt_iload (pc := 117) dX10_saint_117 rfl ?_
                      refine mt_iload (pc := 119) dX10_saint_119 rfl ?_
                      refine mt_cS (pc := 121) (c_has (d := 1)) cal_X10_has sta_X10_has ml_X10_336 dX10_saint_121 (by first | assumption | (show _ ≤ d; omega)) ⟨(Nat.le_of_ble_eq_true rfl), (Nat.le_of_ble_eq_true rfl)⟩ rfl rfl (Nat.le_of_ble_eq_true rfl) ?_
                      refine mt_iload_n (pc := 124) dX10_saint_124 rfl ?_
                      refine mt_iload_n (pc := 125) dX10_saint_125 rfl ?_
                      refine mt_iload (pc := 126) dX10_saint_126 rfl ?_
                      refine mt_iload (pc := 128) dX10_saint_128 rfl ?_
                      refine mt_cS (pc := 130) (c_has (d := 1)) cal_X10_has sta_X10_has ml_X10_336 dX10_saint_130 (by first | assumption | (show _ ≤ d; omega)) ⟨(Nat.le_of_ble_eq_true rfl), (Nat.le_of_ble_eq_true rfl)⟩ rfl rfl (Nat.le_of_ble_eq_true rfl) ?_
                      refine mt_iadd (pc := 133) dX10_saint_133 ?_
                      refine mt_istore (pc := 134) dX10_saint_134 (Nat.le_of_ble_eq_true rfl) rfl ?_
                      refine mt_iinc (pc := 136) (c9 := 1) dX10_saint_136 rfl (by decide) (Nat.le_of_ble_eq_true rfl) rfl ?_
                      refine mt_goto (pc := 139) (tgt := 44) dX10_saint_139 (by decide) ?_
                      rw [e1] at nj
                      rw [show (nI j + 1 : Int32) = nI (j + 1) from nI_1 j]
                      first
                        | exact nj
                        | exact mt_fg (by repeat (first | exact trivial | refine ⟨rfl, ?_⟩ | rfl)) nj
            · skip
              refine mt_iload (pc := 44) dX10_saint_44 rfl ?_
              refine mt_iconst (pc := 46) (v := 1) dX10_saint_46 (by decide) ?_
              refine mt_icmp_gt (pc := 47) (tgt := 142) dX10_saint_47 (by decide) (fun c47 => ?_) (fun c47 => ?_)
              · skip
                refine mt_iinc (pc := 142) (c9 := 1) dX10_saint_142 rfl (by decide) (Nat.le_of_ble_eq_true rfl) rfl ?_
                refine mt_goto (pc := 145) (tgt := 35) dX10_saint_145 (by decide) ?_
                rw [show (nI i + 1 : Int32) = nI (i + 1) from nI_1 i]
                first
                  | exact ni
                  | exact mt_fg (by repeat (first | exact trivial | refine ⟨rfl, ?_⟩ | rfl)) ni
              · exact absurd (nI_lt (a := 1) (b := 2) (by decide) (by decide)) c47
        · skip
          refine mt_iload (pc := 35) dX10_saint_35 rfl ?_
          refine mt_iconst (pc := 37) (v := 1) dX10_saint_37 (by decide) ?_
          refine mt_icmp_gt (pc := 38) (tgt := 148) dX10_saint_38 (by decide) (fun c38 => ?_) (fun c38 => ?_)
          · skip
            refine mt_iload_n (pc := 148) dX10_saint_148 rfl ?_
            refine mt_if_ne (pc := 149) (tgt := 155) dX10_saint_149 (by decide) (fun c149 => ?_) (fun c149 => ?_)
            · skip
              replace er := er.trans (congrArg Sum.inr (if_neg c149))
              refine mt_iload_n (pc := 155) dX10_saint_155 rfl ?_
              refine mt_iconst (pc := 156) (v := 1) dX10_saint_156 (by decide) ?_
              refine mt_icmp_ne (pc := 157) (tgt := 165) dX10_saint_157 (by decide) (fun c157 => ?_) (fun c157 => ?_)
              · skip
                replace er := er.trans (congrArg Sum.inr (if_neg c157))
                refine mt_iload (pc := 165) dX10_saint_165 rfl ?_
                exact mt_iret rfl dX10_saint_167 (Nat.le_of_ble_eq_true rfl) (Nat.le_of_ble_eq_true rfl) (P_qv (ic := ic) (rs := rs) (ne := ne) (ia := ia) er hQ.fq)
              · skip
                replace er := er.trans (congrArg Sum.inr (if_pos c157))
                refine mt_iload (pc := 160) dX10_saint_160 rfl ?_
                refine mt_goto (pc := 162) (tgt := 167) dX10_saint_162 (by decide) ?_
                exact mt_iret rfl dX10_saint_167 (Nat.le_of_ble_eq_true rfl) (Nat.le_of_ble_eq_true rfl) (P_qv (ic := ic) (rs := rs) (ne := ne) (ia := ia) er hQ.fq)
            · skip
              replace er := er.trans (congrArg Sum.inr (if_pos c149))
              refine mt_iload (pc := 152) dX10_saint_152 rfl ?_
              exact mt_iret rfl dX10_saint_154 (Nat.le_of_ble_eq_true rfl) (Nat.le_of_ble_eq_true rfl) (P_qv (ic := ic) (rs := rs) (ne := ne) (ia := ia) er hQ.fq)
          · exact absurd (nI_lt (a := 1) (b := 2) (by decide) (by decide)) c38
theorem c_candles {a S nn : Int32} (hl : l.stackTraces = false) (hd : 10 ≤ d) (hx : 188 ≤ nx) (hQ : QW h ic rs ne ia k cs bk pg) : mm_Con G l yX10_candles cX10_candles 5 (some .int) d 8 48 [.ref 0, .int a, .int S, .int nn] nx h (P_q (cndR k pg.2.1 a S nn) ic rs ne ia nx h) := by
  obtain ⟨h0, hC, hA, hLW, hB, h33, hP, ⟨⟨n, hw⟩, hcn⟩, -⟩ := id hQ
  obtain rfl : n = nlo pg.2.1 := (nlo_eq hw).symm
  have c0 := hC.1
  have hk1 : k.1 ≤ 8 := hC.2.2.2.2.2.2.1
  have hk2 : k.2.1 ≤ 6 := hC.2.2.2.2.2.2.2
  obtain ⟨p1, p2, p3, -⟩ := id hP
  have hn := hw.2.1
  refine mm_start (lo := [some (.ref 0), some (.int a), some (.int S), some (.int nn), none]) pn_X10 rfl rfl (Nat.le_of_ble_eq_true rfl) ?_
  refine mt_aload_n (pc := 0) dX10_candles_0 rfl ?_
  refine mt_iload_n (pc := 1) dX10_candles_1 rfl ?_
  refine mt_aV (pc := 2) (c_needSoul (d := 7) hl (Nat.le_refl 7) (by omega) h0 hC) cal_X10_needSoul vir_X10_needSoul ml_X10_245 dX10_candles_2 (by first | assumption | omega) (by repeat (first | exact hset_eq _ _ _ | assumption | rw [hset_ne (by first | assumption | decide | omega)])) (by first | assumption | (show _ ≤ d; omega)) ⟨(Nat.le_of_ble_eq_true rfl), (Nat.le_of_ble_eq_true rfl)⟩ rfl rfl (Nat.le_of_ble_eq_true rfl) ?_ ?_
  · rintro x9 n9 k9 h9
    obtain ⟨rfl, rfl, hno, rfl⟩ := h9
    exact P_qx (if_neg hno)
  · rintro v9 n9 k9 ⟨rfl, rfl, hok, rfl⟩
    refine ⟨rfl, ?_⟩
    refine mt_aload_n (pc := 5) dX10_candles_5 rfl ?_
    refine mt_iload_n (pc := 6) dX10_candles_6 rfl ?_
    refine mt_iconst (pc := 7) (v := 1) dX10_candles_7 (by decide) ?_
    refine mt_aload_n (pc := 8) dX10_candles_8 rfl ?_
    refine mt_get (pc := 9) gf_X10_19 dX10_candles_9 (by first | assumption | omega) (by repeat (first | exact hset_eq _ _ _ | assumption | rw [hset_ne (by first | assumption | decide | omega)])) rfl ?_
    refine mt_get (pc := 12) gf_X10_173 dX10_candles_12 (by first | assumption | omega) (by repeat (first | exact hset_eq _ _ _ | assumption | rw [hset_ne (by first | assumption | decide | omega)])) rfl ?_
    refine mt_ishl (pc := 15) dX10_candles_15 ?_
    refine mt_ineg (pc := 16) dX10_candles_16 ?_
    refine mt_iand (pc := 17) dX10_candles_17 ?_
    refine mt_if_ne (pc := 18) (tgt := 25) dX10_candles_18 (by decide) (fun c18 => ?_) (fun c18 => ?_)
    · skip
      have hq : ¬ S &&& (-((1 : Int32) <<< (nI k.2.1 &&& 31))) = 0 := c18
      refine mt_iconst (pc := 25) (v := 0) dX10_candles_25 (by decide) ?_
      refine mt_aV (pc := 26) (c_needArgument (d := 6) hl (Nat.le_refl 6) (by omega) h0) cal_X10_needArgument vir_X10_needArgument ml_X10_218 dX10_candles_26 (by first | assumption | omega) (by repeat (first | exact hset_eq _ _ _ | assumption | rw [hset_ne (by first | assumption | decide | omega)])) (by first | assumption | (show _ ≤ d; omega)) ⟨(Nat.le_of_ble_eq_true rfl), (Nat.le_of_ble_eq_true rfl)⟩ rfl rfl (Nat.le_of_ble_eq_true rfl) ?_ ?_
      · rintro x9 n9 k9 h9
        obtain ⟨rfl, rfl, hno, rfl⟩ := h9
        exact P_qx ((if_pos hok).trans (if_neg hq))
      · rintro v9 n9 k9 ⟨rfl, rfl, hok2, rfl⟩
        refine ⟨rfl, ?_⟩
        exact absurd rfl hok2
    · skip
      have hq : S &&& (-((1 : Int32) <<< (nI k.2.1 &&& 31))) = 0 := c18
      refine mt_iconst (pc := 21) (v := 1) dX10_candles_21 (by decide) ?_
      refine mt_goto (pc := 22) (tgt := 26) dX10_candles_22 (by decide) ?_
      refine mt_aV (pc := 26) (c_needArgument (d := 6) hl (Nat.le_refl 6) (by omega) h0) cal_X10_needArgument vir_X10_needArgument ml_X10_218 dX10_candles_26 (by first | assumption | omega) (by repeat (first | exact hset_eq _ _ _ | assumption | rw [hset_ne (by first | assumption | decide | omega)])) (by first | assumption | (show _ ≤ d; omega)) ⟨(Nat.le_of_ble_eq_true rfl), (Nat.le_of_ble_eq_true rfl)⟩ rfl rfl (Nat.le_of_ble_eq_true rfl) ?_ ?_
      · rintro x9 n9 k9 h9
        obtain ⟨rfl, rfl, hno, rfl⟩ := h9
        exact absurd (by decide) hno
      · rintro v9 n9 k9 ⟨rfl, rfl, hok2, rfl⟩
        refine ⟨rfl, ?_⟩
        refine mt_aload_n (pc := 29) dX10_candles_29 rfl ?_
        refine mt_iload_n (pc := 30) dX10_candles_30 rfl ?_
        refine mt_iconst (pc := 31) (v := 0) dX10_candles_31 (by decide) ?_
        refine mt_sipush (pc := 32) (v := 999) dX10_candles_32 (by decide) ?_
        refine mt_aV (pc := 35) (c_needRange (d := 7) hl (Nat.le_refl 7) (by omega) h0) cal_X10_needRange vir_X10_needRange ml_X10_266 dX10_candles_35 (by first | assumption | omega) (by repeat (first | exact hset_eq _ _ _ | assumption | rw [hset_ne (by first | assumption | decide | omega)])) (by first | assumption | (show _ ≤ d; omega)) ⟨(Nat.le_of_ble_eq_true rfl), (Nat.le_of_ble_eq_true rfl)⟩ rfl rfl (Nat.le_of_ble_eq_true rfl) ?_ ?_
        · rintro x9 n9 k9 h9
          obtain ⟨rfl, rfl, hno, rfl⟩ := h9
          exact P_qx ((if_pos hok).trans ((if_pos hq).trans (if_neg hno)))
        · rintro v9 n9 k9 ⟨rfl, rfl, hok3, rfl⟩
          obtain ⟨j, hj, rfl⟩ := inR_of hok (by omega)
          have er : cndR k pg.2.1 (nI j) S nn = .inr (if (S >>> (nI j &&& 31)) &&& 1 = 0 then 0 else if nI (cndB k pg.2.1 S nn 300 0) < pg.2.1 (18 + j) then nI (cndB k pg.2.1 S nn 300 0) else pg.2.1 (18 + j)) := ((if_pos hok).trans ((if_pos hq).trans (if_pos hok3))).trans (by rw [nI_clamp (by omega)])
          refine ⟨rfl, ?_⟩
          refine mt_iload_n (pc := 38) dX10_candles_38 rfl ?_
          refine mt_iload_n (pc := 39) dX10_candles_39 rfl ?_
          refine mt_ishr (pc := 40) dX10_candles_40 ?_
          refine mt_iconst (pc := 41) (v := 1) dX10_candles_41 (by decide) ?_
          refine mt_iand (pc := 42) dX10_candles_42 ?_
          refine mt_if_ne (pc := 43) (tgt := 48) dX10_candles_43 (by decide) (fun c43 => ?_) (fun c43 => ?_)
          · skip
            replace er := er.trans (congrArg Sum.inr (if_neg c43))
            refine mt_iconst (pc := 48) (v := 0) dX10_candles_48 (by decide) ?_
            refine mt_istore (pc := 49) dX10_candles_49 (Nat.le_of_ble_eq_true rfl) rfl ?_
            refine mt_forE (pc := 51) (α := Unit) (H := fun b (u : Unit) => h) (L := fun b (u : Unit) => [some (.ref 0), some (.int (nI j)), some (.int S), some (.int nn), some (.int (nI b))]) (I := fun b (u : Unit) => cndB k pg.2.1 S nn 300 0 = cndB k pg.2.1 S nn (300 - b) b) 300 (fun b u hb fb nb => ?_) (fun u fb => ?_) (()) rfl
            · skip
              rw [show 300 - b = 300 - (b + 1) + 1 by omega, cndB_s (q := 300 - (b + 1))] at fb
              refine mt_iload (pc := 51) dX10_candles_51 rfl ?_
              refine mt_sipush (pc := 53) (v := 300) dX10_candles_53 (by decide) ?_
              refine mt_icmp_ge (pc := 56) (tgt := 78) dX10_candles_56 (by decide) (fun c56 => ?_) (fun c56 => ?_)
              · exact absurd c56 (nI_ge (b := 300) hb (by decide))
              · skip
                refine mt_aload_n (pc := 59) dX10_candles_59 rfl ?_
                refine mt_iload (pc := 60) dX10_candles_60 rfl ?_
                refine mt_iconst (pc := 62) (v := 1) dX10_candles_62 (by decide) ?_
                refine mt_iadd (pc := 63) dX10_candles_63 ?_
                refine mt_iload_n (pc := 64) dX10_candles_64 rfl ?_
                rw [show (nI b + 1 : Int32) = nI (b + 1) from nI_1 b]
                refine mt_cV (pc := 65) (c_givenUpTo (d := 2) (b := nI (b + 1)) (Nat.le_refl 2) hx hQ) cal_X10_givenUpTo vir_X10_givenUpTo ml_X10_339 dX10_candles_65 (by first | assumption | omega) (by repeat (first | exact hset_eq _ _ _ | assumption | rw [hset_ne (by first | assumption | decide | omega)])) (by first | assumption | (show _ ≤ d; omega)) ⟨(Nat.le_of_ble_eq_true rfl), (Nat.le_of_ble_eq_true rfl)⟩ rfl rfl (Nat.le_of_ble_eq_true rfl) ?_
                refine mt_iload_n (pc := 68) dX10_candles_68 rfl ?_
                refine mt_icmp_gt (pc := 69) (tgt := 78) dX10_candles_69 (by decide) (fun c69 => ?_) (fun c69 => ?_)
                · skip
                  rw [if_neg (Int32.not_le.mpr c69)] at fb
                  have fb2 := fb
                  refine mt_aload_n (pc := 78) dX10_candles_78 rfl ?_
                  refine mt_get (pc := 79) gf_X10_65 dX10_candles_79 (by first | assumption | omega) (by repeat (first | exact hset_eq _ _ _ | assumption | rw [hset_ne (by first | assumption | decide | omega)])) rfl ?_
                  refine mt_get (pc := 82) gf_X10_157 dX10_candles_82 (by first | assumption | omega) (by repeat (first | exact hset_eq _ _ _ | assumption | rw [hset_ne (by first | assumption | decide | omega)])) rfl ?_
                  refine mt_iload_n (pc := 85) dX10_candles_85 rfl ?_
                  refine mt_cV (pc := 86) (c_purse (d := 1) (p := j) (Nat.le_refl 1) (by omega) (by omega) (by omega) p2 p3) cal_X6_purse vir_X6_purse ml_X10_254 dX10_candles_86 (by first | assumption | omega) (by repeat (first | exact hset_eq _ _ _ | assumption | rw [hset_ne (by first | assumption | decide | omega)])) (by first | assumption | (show _ ≤ d; omega)) ⟨(Nat.le_of_ble_eq_true rfl), (Nat.le_of_ble_eq_true rfl)⟩ rfl rfl (Nat.le_of_ble_eq_true rfl) ?_
                  refine mt_iload (pc := 89) dX10_candles_89 rfl ?_
                  refine mt_mmin (pc := 91) ml_X10_342 dX10_candles_91 (by first | assumption | (show _ ≤ d; omega)) ⟨(Nat.le_of_ble_eq_true rfl), (Nat.le_of_ble_eq_true rfl)⟩ (Nat.le_of_ble_eq_true rfl) ?_
                  exact mt_iret rfl dX10_candles_94 (Nat.le_of_ble_eq_true rfl) (Nat.le_of_ble_eq_true rfl) (P_qv (ic := ic) (rs := rs) (ne := ne) (ia := ia) (er.trans (by rw [fb2])) hQ.fq)
                · skip
                  rw [if_pos (Int32.not_lt.mp c69)] at fb
                  refine mt_iinc (pc := 72) (c9 := 1) dX10_candles_72 rfl (by decide) (Nat.le_of_ble_eq_true rfl) rfl ?_
                  refine mt_goto (pc := 75) (tgt := 51) dX10_candles_75 (by decide) ?_
                  rw [show (nI b + 1 : Int32) = nI (b + 1) from nI_1 b]
                  exact nb () fb
            · skip
              have fb2 : cndB k pg.2.1 S nn 300 0 = 300 := fb
              refine mt_iload (pc := 51) dX10_candles_51 rfl ?_
              refine mt_sipush (pc := 53) (v := 300) dX10_candles_53 (by decide) ?_
              refine mt_icmp_ge (pc := 56) (tgt := 78) dX10_candles_56 (by decide) (fun c56 => ?_) (fun c56 => ?_)
              · skip
                refine mt_aload_n (pc := 78) dX10_candles_78 rfl ?_
                refine mt_get (pc := 79) gf_X10_65 dX10_candles_79 (by first | assumption | omega) (by repeat (first | exact hset_eq _ _ _ | assumption | rw [hset_ne (by first | assumption | decide | omega)])) rfl ?_
                refine mt_get (pc := 82) gf_X10_157 dX10_candles_82 (by first | assumption | omega) (by repeat (first | exact hset_eq _ _ _ | assumption | rw [hset_ne (by first | assumption | decide | omega)])) rfl ?_
                refine mt_iload_n (pc := 85) dX10_candles_85 rfl ?_
                refine mt_cV (pc := 86) (c_purse (d := 1) (p := j) (Nat.le_refl 1) (by omega) (by omega) (by omega) p2 p3) cal_X6_purse vir_X6_purse ml_X10_254 dX10_candles_86 (by first | assumption | omega) (by repeat (first | exact hset_eq _ _ _ | assumption | rw [hset_ne (by first | assumption | decide | omega)])) (by first | assumption | (show _ ≤ d; omega)) ⟨(Nat.le_of_ble_eq_true rfl), (Nat.le_of_ble_eq_true rfl)⟩ rfl rfl (Nat.le_of_ble_eq_true rfl) ?_
                refine mt_iload (pc := 89) dX10_candles_89 rfl ?_
                refine mt_mmin (pc := 91) ml_X10_342 dX10_candles_91 (by first | assumption | (show _ ≤ d; omega)) ⟨(Nat.le_of_ble_eq_true rfl), (Nat.le_of_ble_eq_true rfl)⟩ (Nat.le_of_ble_eq_true rfl) ?_
                exact mt_iret rfl dX10_candles_94 (Nat.le_of_ble_eq_true rfl) (Nat.le_of_ble_eq_true rfl) (P_qv (ic := ic) (rs := rs) (ne := ne) (ia := ia) (er.trans (by rw [fb2])) hQ.fq)
              · exact absurd (nI_le (a := 300) (b := 300) (by decide) (by decide)) c56
          · skip
            replace er := er.trans (congrArg Sum.inr (if_pos c43))
            refine mt_iconst (pc := 46) (v := 0) dX10_candles_46 (by decide) ?_
            exact mt_iret rfl dX10_candles_47 (Nat.le_of_ble_eq_true rfl) (Nat.le_of_ble_eq_true rfl) (P_qv (ic := ic) (rs := rs) (ne := ne) (ia := ia) er hQ.fq)
theorem c_dreamWinter {z q : Int32} {n : Nat} (hd : 6 ≤ d) (hx : 188 ≤ nx) (hnn : n < 1000) (hQ : QW h ic rs ne ia k cs bk pg) : mm_Con G l yX10_dreamWinter cX10_dreamWinter 4 none d 0 0 [.ref 0, .int z, .int q, .int (nI n)] nx h (fun o n' m => o = .inl none ∧ nx = n' ∧ FQ h m ∧ m 180 = rwE (winN k cs q (pg.2.1, z) n).1) := by
  obtain ⟨h0, hC, hA, hLW, hB, h33, hP, ⟨⟨n1, hw⟩, hcn⟩, -⟩ := id hQ
  obtain rfl : n1 = nlo pg.2.1 := (nlo_eq hw).symm
  have c0 := hC.1
  have hk1 : k.1 ≤ 8 := hC.2.2.2.2.2.2.1
  have hk2 : k.2.1 ≤ 6 := hC.2.2.2.2.2.2.2
  obtain ⟨p1, p2, p3, -⟩ := id hP
  have hn := hw.2.1
  obtain ⟨df, hd180, hdcn⟩ := hQ.2.2.2.2.2.2.2.2.2.1
  have hd179 := hQ.2.2.2.2.2.2.2.2.1
  have hRC := hQ.2.2.2.2.2.2.2.1
  have hk6 : k.2.1 ≤ 6 := hk2
  obtain ⟨z0, h186⟩ := hQ.2.2.2.2.2.2.2.2.2.2.2.1
  refine mm_start (lo := [some (.ref 0), some (.int z), some (.int q), some (.int (nI n))]) pn_X10 rfl rfl (Nat.le_of_ble_eq_true rfl) ?_
  refine mt_aload_n (pc := 0) dX10_dreamWinter_0 rfl ?_
  refine mt_get (pc := 1) gf_X10_76 dX10_dreamWinter_1 (by first | assumption | omega) (by repeat (first | exact hset_eq _ _ _ | assumption | rw [hset_ne (by first | assumption | decide | omega)])) rfl ?_
  refine mt_aload_n (pc := 4) dX10_dreamWinter_4 rfl ?_
  refine mt_get (pc := 5) gf_X10_65 dX10_dreamWinter_5 (by first | assumption | omega) (by repeat (first | exact hset_eq _ _ _ | assumption | rw [hset_ne (by first | assumption | decide | omega)])) rfl ?_
  refine mt_get (pc := 8) gf_X10_157 dX10_dreamWinter_8 (by first | assumption | omega) (by repeat (first | exact hset_eq _ _ _ | assumption | rw [hset_ne (by first | assumption | decide | omega)])) rfl ?_
  refine mt_cV (pc := 11) (c_scopyFrom (d := 2) (s := 179) (r := 180) (s2 := 35) (r2 := 36) (Nat.le_refl 2) (by omega) (by omega) hd179 hd180 (by omega) (by omega) p2 p3) cal_X6_copyFrom vir_X6_copyFrom ml_X10_289 dX10_dreamWinter_11 (by first | assumption | omega) (by repeat (first | exact hset_eq _ _ _ | assumption | rw [hset_ne (by first | assumption | decide | omega)])) (by first | assumption | (show _ ≤ d; omega)) ⟨(Nat.le_of_ble_eq_true rfl), (Nat.le_of_ble_eq_true rfl)⟩ rfl rfl (Nat.le_of_ble_eq_true rfl) ?_
  rw [cpy_cn hdcn hcn]
  have hFd := hQ.dream hcn
  have hQd := hQ.of hFd
  obtain ⟨m0, mC, mA, -, -, m33, -, -, m179, -⟩ := id hQd
  have m180 : hset h 180 (rwE pg.2.1) 180 = rwE pg.2.1 := hset_eq _ _ _
  have m186 : hset h 180 (rwE pg.2.1) 186 = wnE z0 := (hset_ne (by decide)).trans h186
  generalize hset h 180 (rwE pg.2.1) = m at hFd hQd m0 mC mA m33 m179 m180 m186
  refine mt_aload_n (pc := 14) dX10_dreamWinter_14 rfl ?_
  refine mt_get (pc := 15) gf_X10_90 dX10_dreamWinter_15 (by first | assumption | omega) m0 rfl ?_
  refine mt_aload_n (pc := 18) dX10_dreamWinter_18 rfl ?_
  refine mt_get (pc := 19) gf_X10_58 dX10_dreamWinter_19 (by first | assumption | omega) m0 rfl ?_
  refine mt_aload_n (pc := 22) dX10_dreamWinter_22 rfl ?_
  refine mt_get (pc := 23) gf_X10_76 dX10_dreamWinter_23 (by first | assumption | omega) m0 rfl ?_
  refine mt_iload_n (pc := 26) dX10_dreamWinter_26 rfl ?_
  refine mt_iload_n (pc := 27) dX10_dreamWinter_27 rfl ?_
  refine mt_iload_n (pc := 28) dX10_dreamWinter_28 rfl ?_
  refine mt_aV (pc := 29) (c_wpass (d := 5) (s := 179) (r := 180) (z := z) (q := q) (Nat.le_refl 5) (by omega) hnn hLW (by decide) (by decide) (by decide) (by decide) (by decide) m186 ⟨mA, mC, m33, m179, m180, _, hw⟩) cal_X8_pass vir_X8_pass ml_X10_390 dX10_dreamWinter_29 (by first | assumption | omega) m186 (by first | assumption | (show _ ≤ d; omega)) ⟨(Nat.le_of_ble_eq_true rfl), (Nat.le_of_ble_eq_true rfl)⟩ rfl rfl (Nat.le_of_ble_eq_true rfl) ?_ ?_
  · rintro x9 n9 k9 h9
    simp at h9
  · rintro v9 n9 k9 ⟨hv, rfl, hF9, hz9, hW9⟩
    cases hv
    refine ⟨rfl, ?_⟩
    exact mt_vret rfl dX10_dreamWinter_32 (Nat.le_of_ble_eq_true rfl) (Nat.le_of_ble_eq_true rfl) ⟨rfl, rfl, FQ.trans hFd ⟨fun j a b c e => hF9 j a b (by omega) c, hW9.1.2.2.1, hW9.1.2.2.2, ⟨_, hW9.2.2.2.2.1, (RC_winN hk2 hk1 (w := (pg.2.1, z)) hRC n).2⟩, by
        obtain ⟨⟨x, y, s1⟩, ⟨t1, s2⟩, ⟨t2, s3⟩, ⟨t3, s4⟩, t4, s5⟩ := hQd.2.2.2.2.2.2.2.2.2.2.1
        exact ⟨⟨x, y, (hF9 181 (by decide) (by decide) (by decide) (by decide)).trans s1⟩, ⟨t1, (hF9 182 (by decide) (by decide) (by decide) (by decide)).trans s2⟩, ⟨t2, (hF9 183 (by decide) (by decide) (by decide) (by decide)).trans s3⟩, ⟨t3, (hF9 184 (by decide) (by decide) (by decide) (by decide)).trans s4⟩, t4, (hF9 185 (by decide) (by decide) (by decide) (by decide)).trans s5⟩, hz9, by
        obtain ⟨o, ho⟩ := hQd.2.2.2.2.2.2.2.2.2.2.2.2
        exact ⟨o, (hF9 187 (by decide) (by decide) (by decide) (by decide)).trans ho⟩⟩, hW9.2.2.2.2.1⟩
theorem c_winter {z q nn x : Int32} (hl : l.stackTraces = false) (hd : 10 ≤ d) (hx : 188 ≤ nx) (hQ : QW h ic rs ne ia k cs bk pg) : mm_Con G l yX10_winter cX10_winter 5 (some .int) d 8 48 [.ref 0, .int z, .int q, .int nn, .int x] nx h (P_q (ifR q 0 16 (ifR nn 1 96 (ifR x 0 3 (.inr (winV k cs pg.2.1 (winN k cs q (pg.2.1, z) nn.toNatClampNeg).1 x))))) ic rs ne ia nx h) := by
  obtain ⟨h0, hC, hA, hLW, hB, h33, hP, ⟨⟨n, hw⟩, hcn⟩, -⟩ := id hQ
  obtain rfl : n = nlo pg.2.1 := (nlo_eq hw).symm
  have c0 := hC.1
  have hk1 : k.1 ≤ 8 := hC.2.2.2.2.2.2.1
  have hk2 : k.2.1 ≤ 6 := hC.2.2.2.2.2.2.2
  obtain ⟨p1, p2, p3, -⟩ := id hP
  have hn := hw.2.1
  obtain ⟨df, hd180, hdcn⟩ := hQ.2.2.2.2.2.2.2.2.2.1
  have hd179 := hQ.2.2.2.2.2.2.2.2.1
  have hRC := hQ.2.2.2.2.2.2.2.1
  refine mm_start (lo := [some (.ref 0), some (.int z), some (.int q), some (.int nn), some (.int x)]) pn_X10 rfl rfl (Nat.le_of_ble_eq_true rfl) ?_
  refine mt_aload_n (pc := 0) dX10_winter_0 rfl ?_
  refine mt_iload_n (pc := 1) dX10_winter_1 rfl ?_
  refine mt_iconst (pc := 2) (v := 0) dX10_winter_2 (by decide) ?_
  refine mt_bipush (pc := 3) (v := 16) dX10_winter_3 (by decide) ?_
  refine mt_aV (pc := 5) (c_needRange (d := 7) hl (Nat.le_refl 7) (by omega) h0) cal_X10_needRange vir_X10_needRange ml_X10_266 dX10_winter_5 (by first | assumption | omega) (by repeat (first | exact hset_eq _ _ _ | assumption | rw [hset_ne (by first | assumption | decide | omega)])) (by first | assumption | (show _ ≤ d; omega)) ⟨(Nat.le_of_ble_eq_true rfl), (Nat.le_of_ble_eq_true rfl)⟩ rfl rfl (Nat.le_of_ble_eq_true rfl) ?_ ?_
  · rintro x9 n9 k9 h9
    obtain ⟨rfl, rfl, hno, rfl⟩ := h9
    exact P_qx (if_neg hno)
  · rintro v9 n9 k9 ⟨rfl, rfl, hok, rfl⟩
    refine ⟨rfl, ?_⟩
    refine mt_aload_n (pc := 8) dX10_winter_8 rfl ?_
    refine mt_iload_n (pc := 9) dX10_winter_9 rfl ?_
    refine mt_iconst (pc := 10) (v := 1) dX10_winter_10 (by decide) ?_
    refine mt_bipush (pc := 11) (v := 96) dX10_winter_11 (by decide) ?_
    refine mt_aV (pc := 13) (c_needRange (d := 7) hl (Nat.le_refl 7) (by omega) h0) cal_X10_needRange vir_X10_needRange ml_X10_266 dX10_winter_13 (by first | assumption | omega) (by repeat (first | exact hset_eq _ _ _ | assumption | rw [hset_ne (by first | assumption | decide | omega)])) (by first | assumption | (show _ ≤ d; omega)) ⟨(Nat.le_of_ble_eq_true rfl), (Nat.le_of_ble_eq_true rfl)⟩ rfl rfl (Nat.le_of_ble_eq_true rfl) ?_ ?_
    · rintro x9 n9 k9 h9
      obtain ⟨rfl, rfl, hno, rfl⟩ := h9
      exact P_qx ((if_pos hok).trans (if_neg hno))
    · rintro v9 n9 k9 ⟨rfl, rfl, hok2, rfl⟩
      refine ⟨rfl, ?_⟩
      refine mt_aload_n (pc := 16) dX10_winter_16 rfl ?_
      refine mt_iload (pc := 17) dX10_winter_17 rfl ?_
      refine mt_iconst (pc := 19) (v := 0) dX10_winter_19 (by decide) ?_
      refine mt_iconst (pc := 20) (v := 3) dX10_winter_20 (by decide) ?_
      refine mt_aV (pc := 21) (c_needRange (d := 7) hl (Nat.le_refl 7) (by omega) h0) cal_X10_needRange vir_X10_needRange ml_X10_266 dX10_winter_21 (by first | assumption | omega) (by repeat (first | exact hset_eq _ _ _ | assumption | rw [hset_ne (by first | assumption | decide | omega)])) (by first | assumption | (show _ ≤ d; omega)) ⟨(Nat.le_of_ble_eq_true rfl), (Nat.le_of_ble_eq_true rfl)⟩ rfl rfl (Nat.le_of_ble_eq_true rfl) ?_ ?_
      · rintro x9 n9 k9 h9
        obtain ⟨rfl, rfl, hno, rfl⟩ := h9
        exact P_qx ((if_pos hok).trans ((if_pos hok2).trans (if_neg hno)))
      · rintro v9 n9 k9 ⟨rfl, rfl, hok3, rfl⟩
        obtain ⟨j, hj1, hj2, rfl⟩ := okR_nI (lo := 1) (hi := 96) hok2 (by decide) (by decide)
        have er : ifR q 0 16 (ifR (nI j) 1 96 (ifR x 0 3 (.inr (winV k cs pg.2.1 (winN k cs q (pg.2.1, z) (nI j).toNatClampNeg).1 x)))) = .inr (winV k cs pg.2.1 (winN k cs q (pg.2.1, z) j).1 x) := ((if_pos hok).trans ((if_pos hok2).trans (if_pos hok3))).trans (by rw [nI_clamp (by omega)])
        have hRj := RC_winN hk2 hk1 (cs := cs) (q := q) (w := (pg.2.1, z)) hRC j
        refine ⟨rfl, ?_⟩
        generalize hgg : (winN k cs q (pg.2.1, z) j).1 = g at er hRj
        refine mt_aload_n (pc := 24) dX10_winter_24 rfl ?_
        refine mt_iload_n (pc := 25) dX10_winter_25 rfl ?_
        refine mt_iload_n (pc := 26) dX10_winter_26 rfl ?_
        refine mt_iload_n (pc := 27) dX10_winter_27 rfl ?_
        refine mt_aV (pc := 28) (c_dreamWinter (d := 6) (n := j) (z := z) (q := q) (Nat.le_refl 6) (by omega) (by omega) hQ) cal_X10_dreamWinter vir_X10_dreamWinter ml_X10_353 dX10_winter_28 (by first | assumption | omega) (by repeat (first | exact hset_eq _ _ _ | assumption | rw [hset_ne (by first | assumption | decide | omega)])) (by first | assumption | (show _ ≤ d; omega)) ⟨(Nat.le_of_ble_eq_true rfl), (Nat.le_of_ble_eq_true rfl)⟩ rfl rfl (Nat.le_of_ble_eq_true rfl) ?_ ?_
        · rintro x9 n9 k9 h9
          simp at h9
        · rintro v9 n9 k9 ⟨hv, rfl, hF9, hR9⟩
          cases hv
          refine ⟨rfl, ?_⟩
          rw [hgg] at hR9
          have hQk := hQ.of hF9
          obtain ⟨k0, kC, -, -, -, -, ⟨kp1, kp2, kp3, -⟩, -, k179, -⟩ := id hQk
          refine mt_iload (pc := 31) dX10_winter_31 rfl ?_
          rcases sw_cases x 2 with ⟨c33, h33, rfl⟩ | h33
          · rcases (show c33 = 0 ∨ c33 = 1 ∨ c33 = 2 by omega) with rfl | rfl | rfl
            · refine mt_tableIn (pc := 33) (tgt := 60) dX10_winter_33 (by decide) (by decide) (off := 27) (by decide +kernel) (by decide) ?_
              refine mt_aload_n (pc := 60) dX10_winter_60 rfl ?_
              refine mt_get (pc := 61) gf_X10_76 dX10_winter_61 (by first | assumption | omega) k0 rfl ?_
              refine mt_cV (pc := 64) (c_loans (d := 1) (by omega) (by omega) k179 hR9) cal_X6_loans vir_X6_loans ml_X10_192 dX10_winter_64 (by first | assumption | omega) k179 (by first | assumption | (show _ ≤ d; omega)) ⟨(Nat.le_of_ble_eq_true rfl), (Nat.le_of_ble_eq_true rfl)⟩ rfl rfl (Nat.le_of_ble_eq_true rfl) ?_
              exact mt_iret rfl dX10_winter_67 (Nat.le_of_ble_eq_true rfl) (Nat.le_of_ble_eq_true rfl) (P_qv (ic := ic) (rs := rs) (ne := ne) (ia := ia) (er.trans rfl) hF9)
            · refine mt_tableIn (pc := 33) (tgt := 68) dX10_winter_33 (by decide) (by decide) (off := 35) (by decide +kernel) (by decide) ?_
              refine mt_aload_n (pc := 68) dX10_winter_68 rfl ?_
              refine mt_aload_n (pc := 69) dX10_winter_69 rfl ?_
              refine mt_get (pc := 70) gf_X10_76 dX10_winter_70 (by first | assumption | omega) k0 rfl ?_
              refine mt_cV (pc := 73) (c_underAll (d := 2) (s := 179) (r := 180) (Nat.le_refl 2) (by omega) k0 kC (by omega) (by omega) k179 hR9) cal_X10_underAll vir_X10_underAll ml_X10_201 dX10_winter_73 (by first | assumption | omega) k0 (by first | assumption | (show _ ≤ d; omega)) ⟨(Nat.le_of_ble_eq_true rfl), (Nat.le_of_ble_eq_true rfl)⟩ rfl rfl (Nat.le_of_ble_eq_true rfl) ?_
              exact mt_iret rfl dX10_winter_76 (Nat.le_of_ble_eq_true rfl) (Nat.le_of_ble_eq_true rfl) (P_qv (ic := ic) (rs := rs) (ne := ne) (ia := ia) (er.trans rfl) hF9)
            · refine mt_tableIn (pc := 33) (tgt := 77) dX10_winter_33 (by decide) (by decide) (off := 44) (by decide +kernel) (by decide) ?_
              refine mt_aload_n (pc := 77) dX10_winter_77 rfl ?_
              refine mt_get (pc := 78) gf_X10_76 dX10_winter_78 (by first | assumption | omega) k0 rfl ?_
              refine mt_cV (pc := 81) (c_sealedSlabs (d := 1) (by omega) (by omega) k179 hR9) cal_X6_sealedSlabs vir_X6_sealedSlabs ml_X10_198 dX10_winter_81 (by first | assumption | omega) k179 (by first | assumption | (show _ ≤ d; omega)) ⟨(Nat.le_of_ble_eq_true rfl), (Nat.le_of_ble_eq_true rfl)⟩ rfl rfl (Nat.le_of_ble_eq_true rfl) ?_
              exact mt_iret rfl dX10_winter_84 (Nat.le_of_ble_eq_true rfl) (Nat.le_of_ble_eq_true rfl) (P_qv (ic := ic) (rs := rs) (ne := ne) (ia := ia) (er.trans rfl) hF9)
          · refine mt_tableOut (pc := 33) (tgt := 85) dX10_winter_33 h33 (by decide) ?_
            have er2 : winV k cs pg.2.1 g x = g 2 - pg.2.1 2 := by unfold winV; rw [if_neg (sw_no (c := 0) h33 (by decide) (by decide)), if_neg (sw_no (c := 1) h33 (by decide) (by decide)), if_neg (sw_no (c := 2) h33 (by decide) (by decide))]
            refine mt_aload_n (pc := 85) dX10_winter_85 rfl ?_
            refine mt_get (pc := 86) gf_X10_76 dX10_winter_86 (by first | assumption | omega) k0 rfl ?_
            refine mt_cV (pc := 89) (c_paid (d := 1) (by omega) (by omega) k179 hR9) cal_X6_paid vir_X6_paid ml_X10_215 dX10_winter_89 (by first | assumption | omega) k179 (by first | assumption | (show _ ≤ d; omega)) ⟨(Nat.le_of_ble_eq_true rfl), (Nat.le_of_ble_eq_true rfl)⟩ rfl rfl (Nat.le_of_ble_eq_true rfl) ?_
            refine mt_aload_n (pc := 92) dX10_winter_92 rfl ?_
            refine mt_get (pc := 93) gf_X10_65 dX10_winter_93 (by first | assumption | omega) k0 rfl ?_
            refine mt_get (pc := 96) gf_X10_157 dX10_winter_96 (by first | assumption | omega) kp1 rfl ?_
            refine mt_cV (pc := 99) (c_paid (d := 1) (s := 35) (r := 36) (by omega) (by omega) kp2 kp3) cal_X6_paid vir_X6_paid ml_X10_215 dX10_winter_99 (by first | assumption | omega) kp2 (by first | assumption | (show _ ≤ d; omega)) ⟨(Nat.le_of_ble_eq_true rfl), (Nat.le_of_ble_eq_true rfl)⟩ rfl rfl (Nat.le_of_ble_eq_true rfl) ?_
            refine mt_isub (pc := 102) dX10_winter_102 ?_
            exact mt_iret rfl dX10_winter_103 (Nat.le_of_ble_eq_true rfl) (Nat.le_of_ble_eq_true rfl) (P_qv (ic := ic) (rs := rs) (ne := ne) (ia := ia) (er.trans (congrArg Sum.inr er2)) hF9)
theorem c_span {z mm q nn x a : Int32} (hl : l.stackTraces = false) (hd : 10 ≤ d) (hx : 188 ≤ nx) (hQ : QW h ic rs ne ia k cs bk pg) : mm_Con G l yX10_span cX10_span 12 (some .int) d 8 48 [.ref 0, .int z, .int mm, .int q, .int nn, .int x, .int a] nx h (P_q (ifR mm 1 20 (ifR q 0 16 (ifR nn 1 96 (ifR x 0 2 (if inR a k.2.1 then .inr (let r := spnF k cs pg.2.1 z q nn.toNatClampNeg a.toNatClampNeg mm.toNatClampNeg; if x = 0 then r.1 else if x = 1 then r.2.1 else r.2.2) else .inl 1))))) ic rs ne ia nx h) := by
  obtain ⟨h0, hC, hA, hLW, hB, h33, hP, ⟨⟨n, hw⟩, hcn⟩, -⟩ := id hQ
  obtain rfl : n = nlo pg.2.1 := (nlo_eq hw).symm
  have c0 := hC.1
  have hk1 : k.1 ≤ 8 := hC.2.2.2.2.2.2.1
  have hk2 : k.2.1 ≤ 6 := hC.2.2.2.2.2.2.2
  obtain ⟨p1, p2, p3, -⟩ := id hP
  have hn := hw.2.1
  obtain ⟨df, hd180, hdcn⟩ := hQ.2.2.2.2.2.2.2.2.2.1
  have hd179 := hQ.2.2.2.2.2.2.2.2.1
  have hRC := hQ.2.2.2.2.2.2.2.1
  refine mm_start (lo := [some (.ref 0), some (.int z), some (.int mm), some (.int q), some (.int nn), some (.int x), some (.int a), none, none, none, none, none]) pn_X10 rfl rfl (Nat.le_of_ble_eq_true rfl) ?_
  refine mt_aload_n (pc := 0) dX10_span_0 rfl ?_
  refine mt_iload_n (pc := 1) dX10_span_1 rfl ?_
  refine mt_iconst (pc := 2) (v := 1) dX10_span_2 (by decide) ?_
  refine mt_bipush (pc := 3) (v := 20) dX10_span_3 (by decide) ?_
  refine mt_aV (pc := 5) (c_needRange (d := 7) hl (Nat.le_refl 7) (by omega) h0) cal_X10_needRange vir_X10_needRange ml_X10_266 dX10_span_5 (by first | assumption | omega) (by repeat (first | exact hset_eq _ _ _ | assumption | rw [hset_ne (by first | assumption | decide | omega)])) (by first | assumption | (show _ ≤ d; omega)) ⟨(Nat.le_of_ble_eq_true rfl), (Nat.le_of_ble_eq_true rfl)⟩ rfl rfl (Nat.le_of_ble_eq_true rfl) ?_ ?_
  · rintro x9 n9 k9 h9
    obtain ⟨rfl, rfl, hno, rfl⟩ := h9
    exact P_qx (if_neg hno)
  · rintro v9 n9 k9 ⟨rfl, rfl, hok, rfl⟩
    refine ⟨rfl, ?_⟩
    refine mt_aload_n (pc := 8) dX10_span_8 rfl ?_
    refine mt_iload_n (pc := 9) dX10_span_9 rfl ?_
    refine mt_iconst (pc := 10) (v := 0) dX10_span_10 (by decide) ?_
    refine mt_bipush (pc := 11) (v := 16) dX10_span_11 (by decide) ?_
    refine mt_aV (pc := 13) (c_needRange (d := 7) hl (Nat.le_refl 7) (by omega) h0) cal_X10_needRange vir_X10_needRange ml_X10_266 dX10_span_13 (by first | assumption | omega) (by repeat (first | exact hset_eq _ _ _ | assumption | rw [hset_ne (by first | assumption | decide | omega)])) (by first | assumption | (show _ ≤ d; omega)) ⟨(Nat.le_of_ble_eq_true rfl), (Nat.le_of_ble_eq_true rfl)⟩ rfl rfl (Nat.le_of_ble_eq_true rfl) ?_ ?_
    · rintro x9 n9 k9 h9
      obtain ⟨rfl, rfl, hno, rfl⟩ := h9
      exact P_qx ((if_pos hok).trans (if_neg hno))
    · rintro v9 n9 k9 ⟨rfl, rfl, hok2, rfl⟩
      refine ⟨rfl, ?_⟩
      refine mt_aload_n (pc := 16) dX10_span_16 rfl ?_
      refine mt_iload (pc := 17) dX10_span_17 rfl ?_
      refine mt_iconst (pc := 19) (v := 1) dX10_span_19 (by decide) ?_
      refine mt_bipush (pc := 20) (v := 96) dX10_span_20 (by decide) ?_
      refine mt_aV (pc := 22) (c_needRange (d := 7) hl (Nat.le_refl 7) (by omega) h0) cal_X10_needRange vir_X10_needRange ml_X10_266 dX10_span_22 (by first | assumption | omega) (by repeat (first | exact hset_eq _ _ _ | assumption | rw [hset_ne (by first | assumption | decide | omega)])) (by first | assumption | (show _ ≤ d; omega)) ⟨(Nat.le_of_ble_eq_true rfl), (Nat.le_of_ble_eq_true rfl)⟩ rfl rfl (Nat.le_of_ble_eq_true rfl) ?_ ?_
      · rintro x9 n9 k9 h9
        obtain ⟨rfl, rfl, hno, rfl⟩ := h9
        exact P_qx ((if_pos hok).trans ((if_pos hok2).trans (if_neg hno)))
      · rintro v9 n9 k9 ⟨rfl, rfl, hok3, rfl⟩
        refine ⟨rfl, ?_⟩
        refine mt_aload_n (pc := 25) dX10_span_25 rfl ?_
        refine mt_iload (pc := 26) dX10_span_26 rfl ?_
        refine mt_iconst (pc := 28) (v := 0) dX10_span_28 (by decide) ?_
        refine mt_iconst (pc := 29) (v := 2) dX10_span_29 (by decide) ?_
        refine mt_aV (pc := 30) (c_needRange (d := 7) hl (Nat.le_refl 7) (by omega) h0) cal_X10_needRange vir_X10_needRange ml_X10_266 dX10_span_30 (by first | assumption | omega) (by repeat (first | exact hset_eq _ _ _ | assumption | rw [hset_ne (by first | assumption | decide | omega)])) (by first | assumption | (show _ ≤ d; omega)) ⟨(Nat.le_of_ble_eq_true rfl), (Nat.le_of_ble_eq_true rfl)⟩ rfl rfl (Nat.le_of_ble_eq_true rfl) ?_ ?_
        · rintro x9 n9 k9 h9
          obtain ⟨rfl, rfl, hno, rfl⟩ := h9
          exact P_qx ((if_pos hok).trans ((if_pos hok2).trans ((if_pos hok3).trans (if_neg hno))))
        · rintro v9 n9 k9 ⟨rfl, rfl, hok4, rfl⟩
          refine ⟨rfl, ?_⟩
          refine mt_aload_n (pc := 33) dX10_span_33 rfl ?_
          refine mt_iload (pc := 34) dX10_span_34 rfl ?_
          refine mt_if_lt (pc := 36) (tgt := 55) dX10_span_36 (by decide) (fun c36 => ?_) (fun c36 => ?_)
          · skip
            have hq : ¬ inR a k.2.1 := fun y => y.1 c36
            refine mt_iconst (pc := 55) (v := 0) dX10_span_55 (by decide) ?_
            refine mt_aV (pc := 56) (c_needArgument (d := 6) hl (Nat.le_refl 6) (by omega) h0) cal_X10_needArgument vir_X10_needArgument ml_X10_218 dX10_span_56 (by first | assumption | omega) (by repeat (first | exact hset_eq _ _ _ | assumption | rw [hset_ne (by first | assumption | decide | omega)])) (by first | assumption | (show _ ≤ d; omega)) ⟨(Nat.le_of_ble_eq_true rfl), (Nat.le_of_ble_eq_true rfl)⟩ rfl rfl (Nat.le_of_ble_eq_true rfl) ?_ ?_
            · rintro x9 n9 k9 h9
              obtain ⟨rfl, rfl, hno, rfl⟩ := h9
              exact P_qx ((if_pos hok).trans ((if_pos hok2).trans ((if_pos hok3).trans ((if_pos hok4).trans (if_neg hq)))))
            · rintro v9 n9 k9 ⟨rfl, rfl, hok5, rfl⟩
              skip
              refine ⟨rfl, ?_⟩
              exact absurd rfl hok5
          · skip
            refine mt_iload (pc := 39) dX10_span_39 rfl ?_
            refine mt_aload_n (pc := 41) dX10_span_41 rfl ?_
            refine mt_get (pc := 42) gf_X10_19 dX10_span_42 (by first | assumption | omega) (by repeat (first | exact hset_eq _ _ _ | assumption | rw [hset_ne (by first | assumption | decide | omega)])) rfl ?_
            refine mt_get (pc := 45) gf_X10_173 dX10_span_45 (by first | assumption | omega) (by repeat (first | exact hset_eq _ _ _ | assumption | rw [hset_ne (by first | assumption | decide | omega)])) rfl ?_
            refine mt_icmp_ge (pc := 48) (tgt := 55) dX10_span_48 (by decide) (fun c48 => ?_) (fun c48 => ?_)
            · skip
              have hq : ¬ inR a k.2.1 := fun y => y.2 c48
              refine mt_iconst (pc := 55) (v := 0) dX10_span_55 (by decide) ?_
              refine mt_aV (pc := 56) (c_needArgument (d := 6) hl (Nat.le_refl 6) (by omega) h0) cal_X10_needArgument vir_X10_needArgument ml_X10_218 dX10_span_56 (by first | assumption | omega) (by repeat (first | exact hset_eq _ _ _ | assumption | rw [hset_ne (by first | assumption | decide | omega)])) (by first | assumption | (show _ ≤ d; omega)) ⟨(Nat.le_of_ble_eq_true rfl), (Nat.le_of_ble_eq_true rfl)⟩ rfl rfl (Nat.le_of_ble_eq_true rfl) ?_ ?_
              · rintro x9 n9 k9 h9
                obtain ⟨rfl, rfl, hno, rfl⟩ := h9
                exact P_qx ((if_pos hok).trans ((if_pos hok2).trans ((if_pos hok3).trans ((if_pos hok4).trans (if_neg hq)))))
              · rintro v9 n9 k9 ⟨rfl, rfl, hok5, rfl⟩
                skip
                refine ⟨rfl, ?_⟩
                exact absurd rfl hok5
            · skip
              have hq : inR a k.2.1 := ⟨c36, c48⟩
              refine mt_iconst (pc := 51) (v := 1) dX10_span_51 (by decide) ?_
              refine mt_goto (pc := 52) (tgt := 56) dX10_span_52 (by decide) ?_
              refine mt_aV (pc := 56) (c_needArgument (d := 6) hl (Nat.le_refl 6) (by omega) h0) cal_X10_needArgument vir_X10_needArgument ml_X10_218 dX10_span_56 (by first | assumption | omega) (by repeat (first | exact hset_eq _ _ _ | assumption | rw [hset_ne (by first | assumption | decide | omega)])) (by first | assumption | (show _ ≤ d; omega)) ⟨(Nat.le_of_ble_eq_true rfl), (Nat.le_of_ble_eq_true rfl)⟩ rfl rfl (Nat.le_of_ble_eq_true rfl) ?_ ?_
              · rintro x9 n9 k9 h9
                obtain ⟨rfl, rfl, hno, rfl⟩ := h9
                exact absurd (by decide) hno
              · rintro v9 n9 k9 ⟨rfl, rfl, hok5, rfl⟩
                obtain ⟨j, hj, rfl⟩ := inR_of hq (by omega)
                obtain ⟨m, hm1, hm2, rfl⟩ := okR_nI (lo := 1) (hi := 20) hok (by decide) (by decide)
                obtain ⟨n, hn1, hn2, rfl⟩ := okR_nI (lo := 1) (hi := 96) hok3 (by decide) (by decide)
                have er : ifR (nI m) 1 20 (ifR q 0 16 (ifR (nI n) 1 96 (ifR x 0 2 (if inR (nI j) k.2.1 then .inr (let r := spnF k cs pg.2.1 z q (nI n).toNatClampNeg (nI j).toNatClampNeg (nI m).toNatClampNeg; if x = 0 then r.1 else if x = 1 then r.2.1 else r.2.2) else .inl 1)))) = .inr (if x = 0 then (spnF k cs pg.2.1 z q n j m).1 else if x = 1 then (spnF k cs pg.2.1 z q n j m).2.1 else (spnF k cs pg.2.1 z q n j m).2.2) := ((if_pos hok).trans ((if_pos hok2).trans ((if_pos hok3).trans ((if_pos hok4).trans (if_pos hq))))).trans (by rw [nI_clamp (by omega), nI_clamp (by omega), nI_clamp (by omega)])
                refine ⟨rfl, ?_⟩
                refine mt_iconst (pc := 59) (v := (-1)) dX10_span_59 (by decide) ?_
                refine mt_istore (pc := 60) dX10_span_60 (Nat.le_of_ble_eq_true rfl) rfl ?_
                refine mt_iconst (pc := 62) (v := (-1)) dX10_span_62 (by decide) ?_
                refine mt_istore (pc := 63) dX10_span_63 (Nat.le_of_ble_eq_true rfl) rfl ?_
                refine mt_iconst (pc := 65) (v := 0) dX10_span_65 (by decide) ?_
                refine mt_istore (pc := 66) dX10_span_66 (Nat.le_of_ble_eq_true rfl) rfl ?_
                refine mt_iconst (pc := 68) (v := 0) dX10_span_68 (by decide) ?_
                refine mt_istore (pc := 69) dX10_span_69 (Nat.le_of_ble_eq_true rfl) rfl ?_
                refine mt_forget 11 ?_
                refine mt_forE (pc := 71) (α := Nat → mm_E) (H := fun i (u : Nat → mm_E) => u) (L := fun i (u : Nat → mm_E) => [some (.ref 0), some (.int z), some (.int (nI m)), some (.int q), some (.int (nI n)), some (.int x), some (.int (nI j)), some (.int ((spnF k cs pg.2.1 z q n j i).1)), some (.int ((spnF k cs pg.2.1 z q n j i).2.1)), some (.int ((spnF k cs pg.2.1 z q n j i).2.2)), some (.int (nI i)), none]) (I := fun i (u : Nat → mm_E) => FQ h u) m (fun i u hi fi ni => ?_) (fun u fi => ?_) h (hQ.fq)
                · skip
                  have e1 : spnF k cs pg.2.1 z q n j (i + 1) = (if (spnF k cs pg.2.1 z q n j i).1 = -1 then unA k (winN k cs q (pg.2.1, z + nI i) n).1 else if unA k (winN k cs q (pg.2.1, z + nI i) n).1 < (spnF k cs pg.2.1 z q n j i).1 then unA k (winN k cs q (pg.2.1, z + nI i) n).1 else (spnF k cs pg.2.1 z q n j i).1, if (spnF k cs pg.2.1 z q n j i).2.1 < unA k (winN k cs q (pg.2.1, z + nI i) n).1 then unA k (winN k cs q (pg.2.1, z + nI i) n).1 else (spnF k cs pg.2.1 z q n j i).2.1, (spnF k cs pg.2.1 z q n j i).2.2 + (if (winN k cs q (pg.2.1, z + nI i) n).1 (12 + j) = 0 then 1 else 0)) := rfl
                  have hQu := hQ.of fi
                  refine mt_iload (pc := 71) dX10_span_71 rfl ?_
                  refine mt_iload_n (pc := 73) dX10_span_73 rfl ?_
                  refine mt_icmp_ge (pc := 74) (tgt := 155) dX10_span_74 (by decide) (fun c74 => ?_) (fun c74 => ?_)
                  · exact absurd c74 (nI_ge hi (by omega))
                  · skip
                    refine mt_aload_n (pc := 77) dX10_span_77 rfl ?_
                    refine mt_iload_n (pc := 78) dX10_span_78 rfl ?_
                    refine mt_iload (pc := 79) dX10_span_79 rfl ?_
                    refine mt_iadd (pc := 81) dX10_span_81 ?_
                    refine mt_iload_n (pc := 82) dX10_span_82 rfl ?_
                    refine mt_iload (pc := 83) dX10_span_83 rfl ?_
                    refine mt_aV (pc := 85) (c_dreamWinter (d := 6) (n := n) (z := z + nI i) (q := q) (Nat.le_refl 6) (by omega) (by omega) hQu) cal_X10_dreamWinter vir_X10_dreamWinter ml_X10_353 dX10_span_85 (by first | assumption | omega) hQu.1 (by first | assumption | (show _ ≤ d; omega)) ⟨(Nat.le_of_ble_eq_true rfl), (Nat.le_of_ble_eq_true rfl)⟩ rfl rfl (Nat.le_of_ble_eq_true rfl) ?_ ?_
                    · rintro x9 n9 k9 h9
                      simp at h9
                    · rintro v9 n9 k9 ⟨hv, rfl, hF9, hR9⟩
                      cases hv
                      refine ⟨rfl, ?_⟩
                      have hFk := FQ.trans fi hF9
                      have hQk := hQ.of hFk
                      obtain ⟨k0, kC, -, -, -, -, ⟨kp1, kp2, kp3, -⟩, -, k179, -⟩ := id hQk
                      generalize (winN k cs q (pg.2.1, z + nI i) n).1 = g at e1 hR9
                      refine mt_aload_n (pc := 88) dX10_span_88 rfl ?_
                      refine mt_aload_n (pc := 89) dX10_span_89 rfl ?_
                      refine mt_get (pc := 90) gf_X10_76 dX10_span_90 (by first | assumption | omega) k0 rfl ?_
                      refine mt_cV (pc := 93) (c_underAll (d := 2) (s := 179) (r := 180) (Nat.le_refl 2) (by omega) k0 kC (by omega) (by omega) k179 hR9) cal_X10_underAll vir_X10_underAll ml_X10_201 dX10_span_93 (by first | assumption | omega) k0 (by first | assumption | (show _ ≤ d; omega)) ⟨(Nat.le_of_ble_eq_true rfl), (Nat.le_of_ble_eq_true rfl)⟩ rfl rfl (Nat.le_of_ble_eq_true rfl) ?_
                      refine mt_istore (pc := 96) dX10_span_96 (Nat.le_of_ble_eq_true rfl) rfl ?_
                      refine mt_iload (pc := 98) dX10_span_98 rfl ?_
                      refine mt_iconst (pc := 100) (v := (-1)) dX10_span_100 (by decide) ?_
                      refine mt_icmp_ne (pc := 101) (tgt := 109) dX10_span_101 (by decide) (fun c101 => ?_) (fun c101 => ?_)
                      · skip
                        rw [if_neg c101] at e1
                        refine mt_iload (pc := 109) dX10_span_109 rfl ?_
                        refine mt_iload (pc := 111) dX10_span_111 rfl ?_
                        refine mt_mmin (pc := 113) ml_X10_342 dX10_span_113 (by first | assumption | (show _ ≤ d; omega)) ⟨(Nat.le_of_ble_eq_true rfl), (Nat.le_of_ble_eq_true rfl)⟩ (Nat.le_of_ble_eq_true rfl) ?_
                        refine mt_istore (pc := 116) dX10_span_116 (Nat.le_of_ble_eq_true rfl) rfl ?_
                        refine mt_iload (pc := 118) dX10_span_118 rfl ?_
                        refine mt_iload (pc := 120) dX10_span_120 rfl ?_
                        refine mt_mmax (pc := 122) ml_X10_356 dX10_span_122 (by first | assumption | (show _ ≤ d; omega)) ⟨(Nat.le_of_ble_eq_true rfl), (Nat.le_of_ble_eq_true rfl)⟩ (Nat.le_of_ble_eq_true rfl) ?_
                        refine mt_istore (pc := 125) dX10_span_125 (Nat.le_of_ble_eq_true rfl) rfl ?_
                        refine mt_iload (pc := 127) dX10_span_127 rfl ?_
                        refine mt_aload_n (pc := 129) dX10_span_129 rfl ?_
                        refine mt_get (pc := 130) gf_X10_76 dX10_span_130 (by first | assumption | omega) k0 rfl ?_
                        refine mt_iload (pc := 133) dX10_span_133 rfl ?_
                        refine mt_cV (pc := 135) (c_standing (d := 1) (p := j) (Nat.le_refl 1) (by omega) (by omega) (by omega) k179 hR9) cal_X6_standing vir_X6_standing ml_X10_248 dX10_span_135 (by first | assumption | omega) k179 (by first | assumption | (show _ ≤ d; omega)) ⟨(Nat.le_of_ble_eq_true rfl), (Nat.le_of_ble_eq_true rfl)⟩ rfl rfl (Nat.le_of_ble_eq_true rfl) ?_
                        refine mt_if_ne (pc := 138) (tgt := 145) dX10_span_138 (by decide) (fun c138 => ?_) (fun c138 => ?_)
                        · skip
                          rw [if_neg c138] at e1
                          refine mt_iconst (pc := 145) (v := 0) dX10_span_145 (by decide) ?_
                          refine mt_iadd (pc := 146) dX10_span_146 ?_
                          refine mt_istore (pc := 147) dX10_span_147 (Nat.le_of_ble_eq_true rfl) rfl ?_
                          refine mt_iinc (pc := 149) (c9 := 1) dX10_span_149 rfl (by decide) (Nat.le_of_ble_eq_true rfl) rfl ?_
                          refine mt_goto (pc := 152) (tgt := 71) dX10_span_152 (by decide) ?_
                          rw [show (nI i + 1 : Int32) = nI (i + 1) from nI_1 i]
                          have ni2 := ni k9 hFk
                          rw [e1] at ni2
                          exact mt_forget 11 ni2
                        · skip
                          rw [if_pos c138] at e1
                          refine mt_iconst (pc := 141) (v := 1) dX10_span_141 (by decide) ?_
                          refine mt_goto (pc := 142) (tgt := 146) dX10_span_142 (by decide) ?_
                          refine mt_iadd (pc := 146) dX10_span_146 ?_
                          refine mt_istore (pc := 147) dX10_span_147 (Nat.le_of_ble_eq_true rfl) rfl ?_
                          refine mt_iinc (pc := 149) (c9 := 1) dX10_span_149 rfl (by decide) (Nat.le_of_ble_eq_true rfl) rfl ?_
                          refine mt_goto (pc := 152) (tgt := 71) dX10_span_152 (by decide) ?_
                          rw [show (nI i + 1 : Int32) = nI (i + 1) from nI_1 i]
                          have ni2 := ni k9 hFk
                          rw [e1] at ni2
                          exact mt_forget 11 ni2
                      · skip
                        rw [if_pos c101] at e1
                        refine mt_iload (pc := 104) dX10_span_104 rfl ?_
                        refine mt_goto (pc := 106) (tgt := 116) dX10_span_106 (by decide) ?_
                        refine mt_istore (pc := 116) dX10_span_116 (Nat.le_of_ble_eq_true rfl) rfl ?_
                        refine mt_iload (pc := 118) dX10_span_118 rfl ?_
                        refine mt_iload (pc := 120) dX10_span_120 rfl ?_
                        refine mt_mmax (pc := 122) ml_X10_356 dX10_span_122 (by first | assumption | (show _ ≤ d; omega)) ⟨(Nat.le_of_ble_eq_true rfl), (Nat.le_of_ble_eq_true rfl)⟩ (Nat.le_of_ble_eq_true rfl) ?_
                        refine mt_istore (pc := 125) dX10_span_125 (Nat.le_of_ble_eq_true rfl) rfl ?_
                        refine mt_iload (pc := 127) dX10_span_127 rfl ?_
                        refine mt_aload_n (pc := 129) dX10_span_129 rfl ?_
                        refine mt_get (pc := 130) gf_X10_76 dX10_span_130 (by first | assumption | omega) k0 rfl ?_
                        refine mt_iload (pc := 133) dX10_span_133 rfl ?_
                        refine mt_cV (pc := 135) (c_standing (d := 1) (p := j) (Nat.le_refl 1) (by omega) (by omega) (by omega) k179 hR9) cal_X6_standing vir_X6_standing ml_X10_248 dX10_span_135 (by first | assumption | omega) k179 (by first | assumption | (show _ ≤ d; omega)) ⟨(Nat.le_of_ble_eq_true rfl), (Nat.le_of_ble_eq_true rfl)⟩ rfl rfl (Nat.le_of_ble_eq_true rfl) ?_
                        refine mt_if_ne (pc := 138) (tgt := 145) dX10_span_138 (by decide) (fun c138 => ?_) (fun c138 => ?_)
                        · skip
                          rw [if_neg c138] at e1
                          refine mt_iconst (pc := 145) (v := 0) dX10_span_145 (by decide) ?_
                          refine mt_iadd (pc := 146) dX10_span_146 ?_
                          refine mt_istore (pc := 147) dX10_span_147 (Nat.le_of_ble_eq_true rfl) rfl ?_
                          refine mt_iinc (pc := 149) (c9 := 1) dX10_span_149 rfl (by decide) (Nat.le_of_ble_eq_true rfl) rfl ?_
                          refine mt_goto (pc := 152) (tgt := 71) dX10_span_152 (by decide) ?_
                          rw [show (nI i + 1 : Int32) = nI (i + 1) from nI_1 i]
                          have ni2 := ni k9 hFk
                          rw [e1] at ni2
                          exact mt_forget 11 ni2
                        · skip
                          rw [if_pos c138] at e1
                          refine mt_iconst (pc := 141) (v := 1) dX10_span_141 (by decide) ?_
                          refine mt_goto (pc := 142) (tgt := 146) dX10_span_142 (by decide) ?_
                          refine mt_iadd (pc := 146) dX10_span_146 ?_
                          refine mt_istore (pc := 147) dX10_span_147 (Nat.le_of_ble_eq_true rfl) rfl ?_
                          refine mt_iinc (pc := 149) (c9 := 1) dX10_span_149 rfl (by decide) (Nat.le_of_ble_eq_true rfl) rfl ?_
                          refine mt_goto (pc := 152) (tgt := 71) dX10_span_152 (by decide) ?_
                          rw [show (nI i + 1 : Int32) = nI (i + 1) from nI_1 i]
                          have ni2 := ni k9 hFk
                          rw [e1] at ni2
                          exact mt_forget 11 ni2
                · skip
                  refine mt_iload (pc := 71) dX10_span_71 rfl ?_
                  refine mt_iload_n (pc := 73) dX10_span_73 rfl ?_
                  refine mt_icmp_ge (pc := 74) (tgt := 155) dX10_span_74 (by decide) (fun c74 => ?_) (fun c74 => ?_)
                  · skip
                    refine mt_iload (pc := 155) dX10_span_155 rfl ?_
                    refine mt_if_ne (pc := 157) (tgt := 163) dX10_span_157 (by decide) (fun c157 => ?_) (fun c157 => ?_)
                    · skip
                      replace er := er.trans (congrArg Sum.inr (if_neg c157))
                      refine mt_iload (pc := 163) dX10_span_163 rfl ?_
                      refine mt_iconst (pc := 165) (v := 1) dX10_span_165 (by decide) ?_
                      refine mt_icmp_ne (pc := 166) (tgt := 174) dX10_span_166 (by decide) (fun c166 => ?_) (fun c166 => ?_)
                      · skip
                        replace er := er.trans (congrArg Sum.inr (if_neg c166))
                        refine mt_iload (pc := 174) dX10_span_174 rfl ?_
                        exact mt_iret rfl dX10_span_176 (Nat.le_of_ble_eq_true rfl) (Nat.le_of_ble_eq_true rfl) (P_qv (ic := ic) (rs := rs) (ne := ne) (ia := ia) er fi)
                      · skip
                        replace er := er.trans (congrArg Sum.inr (if_pos c166))
                        refine mt_iload (pc := 169) dX10_span_169 rfl ?_
                        refine mt_goto (pc := 171) (tgt := 176) dX10_span_171 (by decide) ?_
                        exact mt_iret rfl dX10_span_176 (Nat.le_of_ble_eq_true rfl) (Nat.le_of_ble_eq_true rfl) (P_qv (ic := ic) (rs := rs) (ne := ne) (ia := ia) er fi)
                    · skip
                      replace er := er.trans (congrArg Sum.inr (if_pos c157))
                      refine mt_iload (pc := 160) dX10_span_160 rfl ?_
                      exact mt_iret rfl dX10_span_162 (Nat.le_of_ble_eq_true rfl) (Nat.le_of_ble_eq_true rfl) (P_qv (ic := ic) (rs := rs) (ne := ne) (ia := ia) er fi)
                  · exact absurd (nI_le (Nat.le_refl _) (by omega)) c74
end BANKU
