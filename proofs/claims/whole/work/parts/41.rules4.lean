/-! Rules: lend, pay, earn, seal, open, nights. -/
def sealS (x : Int32) (p : Nat) : Int32 := (x &&& (((1 : Int32) <<< (nI p &&& 31)) ^^^ (-1))) ||| ((1 : Int32) <<< (nI p &&& 31))
def openS (x : Int32) (p : Nat) : Int32 := x &&& (((1 : Int32) <<< (nI p &&& 31)) ^^^ (-1))
def min99 (x : Int32) : Int32 := if x < 99 then x else 99
def min9 (x : Int32) : Int32 := if x < 9 then x else 9
def min300 (x : Int32) : Int32 := if x < 300 then x else 300
def max0 (x : Int32) : Int32 := if 0 < x then x else 0
/-- only the law's scratch and a row have changed -/
def FRr (r : Nat) (h m : Nat → mm_E) : Prop := (∀ j, j ≠ 17 → j ≠ 18 → j ≠ r → m j = h j) ∧ (∃ F, m 17 = iaE 8 F) ∧ ∃ S, m 18 = iaE 32 S
def P_row (v : Option Value) (r : Nat) (g : Nat → Int32) (nx : Nat) (h : Nat → mm_E) : mm_P := fun o n m => o = .inl v ∧ n = nx ∧ FRr r h m ∧ m r = rwE g
theorem FRr_of {h m : Nat → mm_E} {r : Nat} {e : mm_E} (hr : 35 ≤ r) (hF : FRl h m) : FRr r h (hset m r e) := by
  obtain ⟨h1, ⟨F, h2⟩, S, h3⟩ := hF
  exact ⟨fun j a b c => by rw [hset_ne c]; exact h1 j a b, ⟨F, by rw [hset_ne (by omega)]; exact h2⟩, S, by rw [hset_ne (by omega)]; exact h3⟩
theorem FRr_rf {h : Nat → mm_E} {cs : List Nat} {r : Nat} (hA : LA h cs) : FRr r h h := ⟨fun _ _ _ _ => rfl, hA.2.2.1, hA.2.2.2⟩
theorem FRr_trans {h m q : Nat → mm_E} {r : Nat} (h1 : FRr r h m) (h2 : FRr r m q) : FRr r h q := ⟨fun j a b c => (h2.1 j a b c).trans (h1.1 j a b c), h2.2⟩
theorem LA_frr {h m : Nat → mm_E} {cs : List Nat} {r : Nat} (hr : 35 ≤ r) (hA : LA h cs) (hF : FRr r h m) : LA m cs := ⟨(hF.1 15 (by decide) (by decide) (by omega)).trans hA.1, by obtain ⟨R, h1, h2⟩ := hA.2.1; exact ⟨R, (hF.1 16 (by decide) (by decide) (by omega)).trans h1, h2⟩, hF.2.1, hF.2.2⟩
theorem CO_frr {h m : Nat → mm_E} {k : CS} {r : Nat} (hr : 35 ≤ r) (hC : CO h k) (hF : FRr r h m) : CO m k := by
  obtain ⟨c1, c2, c3, c4, c5, c6, c7⟩ := hC
  exact ⟨(hF.1 3 (by decide) (by decide) (by omega)).trans c1, (hF.1 4 (by decide) (by decide) (by omega)).trans c2, (hF.1 5 (by decide) (by decide) (by omega)).trans c3, (hF.1 6 (by decide) (by decide) (by omega)).trans c4, (hF.1 7 (by decide) (by decide) (by omega)).trans c5, (hF.1 8 (by decide) (by decide) (by omega)).trans c6, c7⟩
/-- what lend, pay, a night make of a row -/
def lendF (f : Nat → Int32) (n a p : Nat) (x t : Int32) : Nat → Int32 := addF (upd f (4 + p) (f (4 + p) - x)) n (nI a) (nI p) x t
def pay1 (k : CS) (cs : List Nat) (f : Nat → Int32) (i : Nat) : Nat → Int32 := upd f (18 + lsoul f i) (f (18 + lsoul f i) - owI k cs f i)
def pay2 (k : CS) (cs : List Nat) (f : Nat → Int32) (i : Nat) : Nat → Int32 := upd (pay1 k cs f i) (4 + lslab f i) (min99 (pay1 k cs f i (4 + lslab f i) + owI k cs f i))
def pay3 (k : CS) (cs : List Nat) (f : Nat → Int32) (i : Nat) : Nat → Int32 := if pay2 k cs f i (24 + 6 * i + 5) = 1 then pay2 k cs f i else upd (pay2 k cs f i) (12 + lsoul f i) (min9 (pay2 k cs f i (12 + lsoul f i) + 1))
def payF (k : CS) (cs : List Nat) (f : Nat → Int32) (i : Nat) : Nat → Int32 := endF (pay3 k cs f i) i
def ov1 (f : Nat → Int32) (i : Nat) : Nat → Int32 := upd f (24 + 6 * i + 5) 1
def ov2 (f : Nat → Int32) (i : Nat) : Nat → Int32 := upd (ov1 f i) (12 + lsoul f i) (max0 (ov1 f i (12 + lsoul f i) - 1))
def ovF (f : Nat → Int32) (i : Nat) : Nat → Int32 := if f (24 + 6 * i + 4) < f 0 ∧ ¬ f (24 + 6 * i + 5) = 1 then upd (ov2 f i) 1 (sealS (ov2 f i 1) (lslab f i)) else f
def nigF (f : Nat → Int32) : Nat → Nat → Int32
  | 0 => upd f 0 (f 0 + 1)
  | i + 1 => ovF (nigF f i) i
theorem RW_upd {f : Nat → Int32} {n j : Nat} {x : Int32} (h : RW f n) (h3 : j ≠ 3) (hj : j < 24 ∨ ∃ i, j = 24 + 6 * i + 5) : RW (upd f j x) n := by
  refine ⟨by rw [upd_ne (Ne.symm h3)]; exact h.1, h.2.1, fun i hi => ?_⟩
  have e0 : upd f j x (24 + 6 * i + 0) = f (24 + 6 * i + 0) := upd_ne (by rcases hj with h1 | ⟨q, h1⟩ <;> omega)
  have e1 : upd f j x (24 + 6 * i + 1) = f (24 + 6 * i + 1) := upd_ne (by rcases hj with h1 | ⟨q, h1⟩ <;> omega)
  rw [e0, e1]
  exact h.2.2 i hi
theorem RW_ovF {f : Nat → Int32} {n i : Nat} (h : RW f n) (hi : i < n) : RW (ovF f i) n := by
  unfold ovF
  split
  · have := (h.so hi).2
    exact RW_upd (RW_upd (RW_upd h (by omega) (Or.inr ⟨i, rfl⟩)) (by omega) (Or.inl (by omega))) (by omega) (Or.inl (by omega))
  · exact h
theorem RW_nigF {f : Nat → Int32} {n : Nat} (h : RW f n) : ∀ i, i ≤ n → RW (nigF f i) n
  | 0, _ => RW_upd h (by omega) (Or.inl (by omega))
  | i + 1, hi => RW_ovF (RW_nigF h i (by omega)) (by omega)
theorem lsoul_upd {f : Nat → Int32} {i j : Nat} {x : Int32} (hj : 24 + 6 * i + 0 ≠ j) : lsoul (upd f j x) i = lsoul f i := by rw [lsoul, lsoul, upd_ne hj]
theorem lslab_upd {f : Nat → Int32} {i j : Nat} {x : Int32} (hj : 24 + 6 * i + 1 ≠ j) : lslab (upd f j x) i = lslab f i := by rw [lslab, lslab, upd_ne hj]
section RULES4
variable {G : mm_G} {l : Launch} {d nx : Nat} {h : Nat → mm_E} {s r : Nat} {f : Nat → Int32} {k : CS} {cs : List Nat}
theorem c_seal {p : Nat} (hd : 1 ≤ d) (hx : 34 ≤ nx) (h33 : h 33 = ruE) (hs : s < nx) (hr : r < nx) (hS : h s = stE r) (hR : h r = rwE f) : mm_Con G l yX4_seal cX4_seal 4 (some .boolean) d 0 0 [.ref 33, .ref s, .int (nI p)] nx h (mm_ret (some (.int (if (f 1 >>> (nI p &&& 31)) &&& 1 = 1 then 0 else 1))) nx (hset h r (rwE (upd f 1 (sealS (f 1) p))))) := by
  refine mm_start (lo := [some (.ref 33), some (.ref s), some (.int (nI p)), none]) pn_X4 rfl rfl (Nat.le_of_ble_eq_true rfl) ?_
  refine mt_aload_n (pc := 0) dX4_seal_0 rfl ?_
  refine mt_iload_n (pc := 1) dX4_seal_1 rfl ?_
  refine mt_cV (pc := 2) (c_isSealed (d := 0) hs hr hS hR) cal_X6_isSealed vir_X6_isSealed ml_X4_19 dX4_seal_2 (by first | assumption | omega) (by repeat (first | exact hset_eq _ _ _ | assumption | rw [hset_ne (by first | assumption | decide | omega)])) (by first | assumption | (show _ ≤ d; omega)) ⟨(Nat.le_of_ble_eq_true rfl), (Nat.le_of_ble_eq_true rfl)⟩ rfl rfl (Nat.le_of_ble_eq_true rfl) ?_
  refine mt_if_ne (pc := 5) (tgt := 12) dX4_seal_5 (by decide) (fun c5 => ?_) (fun c5 => ?_)
  · skip
    have hq : (if (f 1 >>> (nI p &&& 31)) &&& 1 = 1 then (0 : Int32) else 1) = 0 := if_pos (Classical.not_not.mp fun z => c5 (if_neg z))
    refine mt_iconst (pc := 12) (v := 0) dX4_seal_12 (by decide) ?_
    refine mt_istore_n (pc := 13) dX4_seal_13 (Nat.le_of_ble_eq_true rfl) rfl ?_
    refine mt_aload_n (pc := 14) dX4_seal_14 rfl ?_
    refine mt_iload_n (pc := 15) dX4_seal_15 rfl ?_
    refine mt_iconst (pc := 16) (v := 1) dX4_seal_16 (by decide) ?_
    refine mt_cV (pc := 17) (c_setSealed (d := 0) hs hr hS hR) cal_X6_setSealed vir_X6_setSealed ml_X4_108 dX4_seal_17 (by first | assumption | omega) (by repeat (first | exact hset_eq _ _ _ | assumption | rw [hset_ne (by first | assumption | decide | omega)])) (by first | assumption | (show _ ≤ d; omega)) ⟨(Nat.le_of_ble_eq_true rfl), (Nat.le_of_ble_eq_true rfl)⟩ rfl rfl (Nat.le_of_ble_eq_true rfl) ?_
    refine mt_iload_n (pc := 20) dX4_seal_20 rfl ?_
    exact mt_zret rfl (by first | exact Or.inl rfl | exact Or.inr rfl) dX4_seal_21 (Nat.le_of_ble_eq_true rfl) (Nat.le_of_ble_eq_true rfl) ⟨by rw [hq], rfl, rfl⟩
  · skip
    have hq : (if (f 1 >>> (nI p &&& 31)) &&& 1 = 1 then (0 : Int32) else 1) = 1 := if_neg fun z => by rw [if_pos z] at c5; exact absurd c5 (by decide)
    refine mt_iconst (pc := 8) (v := 1) dX4_seal_8 (by decide) ?_
    refine mt_goto (pc := 9) (tgt := 13) dX4_seal_9 (by decide) ?_
    refine mt_istore_n (pc := 13) dX4_seal_13 (Nat.le_of_ble_eq_true rfl) rfl ?_
    refine mt_aload_n (pc := 14) dX4_seal_14 rfl ?_
    refine mt_iload_n (pc := 15) dX4_seal_15 rfl ?_
    refine mt_iconst (pc := 16) (v := 1) dX4_seal_16 (by decide) ?_
    refine mt_cV (pc := 17) (c_setSealed (d := 0) hs hr hS hR) cal_X6_setSealed vir_X6_setSealed ml_X4_108 dX4_seal_17 (by first | assumption | omega) (by repeat (first | exact hset_eq _ _ _ | assumption | rw [hset_ne (by first | assumption | decide | omega)])) (by first | assumption | (show _ ≤ d; omega)) ⟨(Nat.le_of_ble_eq_true rfl), (Nat.le_of_ble_eq_true rfl)⟩ rfl rfl (Nat.le_of_ble_eq_true rfl) ?_
    refine mt_iload_n (pc := 20) dX4_seal_20 rfl ?_
    exact mt_zret rfl (by first | exact Or.inl rfl | exact Or.inr rfl) dX4_seal_21 (Nat.le_of_ble_eq_true rfl) (Nat.le_of_ble_eq_true rfl) ⟨by rw [hq], rfl, rfl⟩
theorem c_open {p : Nat} (hd : 1 ≤ d) (hx : 34 ≤ nx) (h33 : h 33 = ruE) (hs : s < nx) (hr : r < nx) (hS : h s = stE r) (hR : h r = rwE f) : mm_Con G l yX4_open cX4_open 4 (some .boolean) d 0 0 [.ref 33, .ref s, .int (nI p)] nx h (mm_ret (some (.int (if (f 1 >>> (nI p &&& 31)) &&& 1 = 1 then 1 else 0))) nx (hset h r (rwE (upd f 1 (openS (f 1) p))))) := by
  refine mm_start (lo := [some (.ref 33), some (.ref s), some (.int (nI p)), none]) pn_X4 rfl rfl (Nat.le_of_ble_eq_true rfl) ?_
  refine mt_aload_n (pc := 0) dX4_open_0 rfl ?_
  refine mt_iload_n (pc := 1) dX4_open_1 rfl ?_
  refine mt_cV (pc := 2) (c_isSealed (d := 0) hs hr hS hR) cal_X6_isSealed vir_X6_isSealed ml_X4_19 dX4_open_2 (by first | assumption | omega) (by repeat (first | exact hset_eq _ _ _ | assumption | rw [hset_ne (by first | assumption | decide | omega)])) (by first | assumption | (show _ ≤ d; omega)) ⟨(Nat.le_of_ble_eq_true rfl), (Nat.le_of_ble_eq_true rfl)⟩ rfl rfl (Nat.le_of_ble_eq_true rfl) ?_
  refine mt_istore_n (pc := 5) dX4_open_5 (Nat.le_of_ble_eq_true rfl) rfl ?_
  refine mt_aload_n (pc := 6) dX4_open_6 rfl ?_
  refine mt_iload_n (pc := 7) dX4_open_7 rfl ?_
  refine mt_iconst (pc := 8) (v := 0) dX4_open_8 (by decide) ?_
  refine mt_cV (pc := 9) (c_setSealed (d := 0) hs hr hS hR) cal_X6_setSealed vir_X6_setSealed ml_X4_108 dX4_open_9 (by first | assumption | omega) (by repeat (first | exact hset_eq _ _ _ | assumption | rw [hset_ne (by first | assumption | decide | omega)])) (by first | assumption | (show _ ≤ d; omega)) ⟨(Nat.le_of_ble_eq_true rfl), (Nat.le_of_ble_eq_true rfl)⟩ rfl rfl (Nat.le_of_ble_eq_true rfl) ?_
  refine mt_iload_n (pc := 12) dX4_open_12 rfl ?_
  exact mt_zret rfl (by split <;> first | exact Or.inl rfl | exact Or.inr rfl) dX4_open_13 (Nat.le_of_ble_eq_true rfl) (Nat.le_of_ble_eq_true rfl) ⟨rfl, rfl, rfl⟩
theorem c_earn {a : Nat} {x : Int32} (hd : 2 ≤ d) (hx : 34 ≤ nx) (ha : a < 6) (h33 : h 33 = ruE) (hs : s < nx) (hr : r < nx) (hS : h s = stE r) (hR : h r = rwE f) : mm_Con G l yX4_earn cX4_earn 4 (some .boolean) d 0 0 [.ref 33, .ref s, .int (nI a), .int x] nx h (mm_ret (some (.int (if f (18 + a) < 300 then 1 else 0))) nx (if f (18 + a) < 300 then hset h r (rwE (upd f (18 + a) (min300 (f (18 + a) + x)))) else h)) := by
  refine mm_start (lo := [some (.ref 33), some (.ref s), some (.int (nI a)), some (.int x)]) pn_X4 rfl rfl (Nat.le_of_ble_eq_true rfl) ?_
  refine mt_aload_n (pc := 0) dX4_earn_0 rfl ?_
  refine mt_iload_n (pc := 1) dX4_earn_1 rfl ?_
  refine mt_cV (pc := 2) (c_purse (d := 1) (Nat.le_refl 1) ha hs hr hS hR) cal_X6_purse vir_X6_purse ml_X4_87 dX4_earn_2 (by first | assumption | omega) (by repeat (first | exact hset_eq _ _ _ | assumption | rw [hset_ne (by first | assumption | decide | omega)])) (by first | assumption | (show _ ≤ d; omega)) ⟨(Nat.le_of_ble_eq_true rfl), (Nat.le_of_ble_eq_true rfl)⟩ rfl rfl (Nat.le_of_ble_eq_true rfl) ?_
  refine mt_sipush (pc := 5) (v := 300) dX4_earn_5 (by decide) ?_
  refine mt_icmp_lt (pc := 8) (tgt := 13) dX4_earn_8 (by decide) (fun c8 => ?_) (fun c8 => ?_)
  · skip
    refine mt_aload_n (pc := 13) dX4_earn_13 rfl ?_
    refine mt_iload_n (pc := 14) dX4_earn_14 rfl ?_
    refine mt_sipush (pc := 15) (v := 300) dX4_earn_15 (by decide) ?_
    refine mt_aload_n (pc := 18) dX4_earn_18 rfl ?_
    refine mt_iload_n (pc := 19) dX4_earn_19 rfl ?_
    refine mt_cV (pc := 20) (c_purse (d := 1) (Nat.le_refl 1) ha hs hr hS hR) cal_X6_purse vir_X6_purse ml_X4_87 dX4_earn_20 (by first | assumption | omega) (by repeat (first | exact hset_eq _ _ _ | assumption | rw [hset_ne (by first | assumption | decide | omega)])) (by first | assumption | (show _ ≤ d; omega)) ⟨(Nat.le_of_ble_eq_true rfl), (Nat.le_of_ble_eq_true rfl)⟩ rfl rfl (Nat.le_of_ble_eq_true rfl) ?_
    refine mt_iload_n (pc := 23) dX4_earn_23 rfl ?_
    refine mt_iadd (pc := 24) dX4_earn_24 ?_
    refine mt_mmin (pc := 25) ml_X4_93 dX4_earn_25 (by first | assumption | (show _ ≤ d; omega)) ⟨(Nat.le_of_ble_eq_true rfl), (Nat.le_of_ble_eq_true rfl)⟩ (Nat.le_of_ble_eq_true rfl) ?_
    refine mt_cV (pc := 28) (c_setPurse (d := 1) (Nat.le_refl 1) ha hs hr hS hR) cal_X6_setPurse vir_X6_setPurse ml_X4_90 dX4_earn_28 (by first | assumption | omega) (by repeat (first | exact hset_eq _ _ _ | assumption | rw [hset_ne (by first | assumption | decide | omega)])) (by first | assumption | (show _ ≤ d; omega)) ⟨(Nat.le_of_ble_eq_true rfl), (Nat.le_of_ble_eq_true rfl)⟩ rfl rfl (Nat.le_of_ble_eq_true rfl) ?_
    refine mt_iconst (pc := 31) (v := 1) dX4_earn_31 (by decide) ?_
    exact mt_zret rfl (by first | exact Or.inl rfl | exact Or.inr rfl) dX4_earn_32 (Nat.le_of_ble_eq_true rfl) (Nat.le_of_ble_eq_true rfl) ⟨by rw [if_pos c8], rfl, by rw [if_pos c8]; rfl⟩
  · skip
    refine mt_iconst (pc := 11) (v := 0) dX4_earn_11 (by decide) ?_
    exact mt_zret rfl (by first | exact Or.inl rfl | exact Or.inr rfl) dX4_earn_12 (Nat.le_of_ble_eq_true rfl) (Nat.le_of_ble_eq_true rfl) ⟨by rw [if_neg c8], rfl, by rw [if_neg c8]⟩
theorem c_lend {n a p : Nat} {x t : Int32} (hd : 4 ≤ d) (hx : 34 ≤ nx) (ha : a < 6) (hp : p < 8) (hf : f 3 = nI n) (hn : n ≤ 10) (hC : CO h k) (h33 : h 33 = ruE) (hne : s ≠ r) (hs : s < nx) (hr : r < nx) (hS : h s = stE r) (hR : h r = rwE f) : mm_Con G l yX4_lend cX4_lend 6 (some .boolean) d 0 0 [.ref 33, .ref s, .int (nI a), .int (nI p), .int x, .int t] nx h (mm_ret (some (.int (if ¬ 10 ≤ f 3 ∧ openC k f a p x then 1 else 0))) nx (if ¬ 10 ≤ f 3 ∧ openC k f a p x then hset h r (rwE (lendF f n a p x t)) else h)) := by
  refine mm_start (lo := [some (.ref 33), some (.ref s), some (.int (nI a)), some (.int (nI p)), some (.int x), some (.int t)]) pn_X4 rfl rfl (Nat.le_of_ble_eq_true rfl) ?_
  refine mt_aload_n (pc := 0) dX4_lend_0 rfl ?_
  refine mt_aload_n (pc := 1) dX4_lend_1 rfl ?_
  refine mt_iload_n (pc := 2) dX4_lend_2 rfl ?_
  refine mt_iload_n (pc := 3) dX4_lend_3 rfl ?_
  refine mt_iload (pc := 4) dX4_lend_4 rfl ?_
  refine mt_cV (pc := 6) (c_wouldLend (d := 3) (Nat.le_refl 3) hx ha hp hC h33 hs hr hS hR) cal_X4_wouldLend vir_X4_wouldLend ml_X4_74 dX4_lend_6 (by first | assumption | omega) (by repeat (first | exact hset_eq _ _ _ | assumption | rw [hset_ne (by first | assumption | decide | omega)])) (by first | assumption | (show _ ≤ d; omega)) ⟨(Nat.le_of_ble_eq_true rfl), (Nat.le_of_ble_eq_true rfl)⟩ rfl rfl (Nat.le_of_ble_eq_true rfl) ?_
  refine mt_if_ne (pc := 9) (tgt := 14) dX4_lend_9 (by decide) (fun c9 => ?_) (fun c9 => ?_)
  · skip
    have hq : ¬ 10 ≤ f 3 ∧ openC k f a p x := Classical.not_not.mp fun z => c9 (if_neg z)
    have hn2 : n < 10 := Nat.lt_of_not_le fun z => hq.1 (by rw [hf]; exact nI_le (a := 10) z (by omega))
    refine mt_aload_n (pc := 14) dX4_lend_14 rfl ?_
    refine mt_iload_n (pc := 15) dX4_lend_15 rfl ?_
    refine mt_aload_n (pc := 16) dX4_lend_16 rfl ?_
    refine mt_iload_n (pc := 17) dX4_lend_17 rfl ?_
    refine mt_cV (pc := 18) (c_under (d := 1) (Nat.le_refl 1) hp hs hr hS hR) cal_X6_under vir_X6_under ml_X4_25 dX4_lend_18 (by first | assumption | omega) (by repeat (first | exact hset_eq _ _ _ | assumption | rw [hset_ne (by first | assumption | decide | omega)])) (by first | assumption | (show _ ≤ d; omega)) ⟨(Nat.le_of_ble_eq_true rfl), (Nat.le_of_ble_eq_true rfl)⟩ rfl rfl (Nat.le_of_ble_eq_true rfl) ?_
    refine mt_iload (pc := 21) dX4_lend_21 rfl ?_
    refine mt_isub (pc := 23) dX4_lend_23 ?_
    refine mt_cV (pc := 24) (c_setUnder (d := 1) (Nat.le_refl 1) hp hs hr hS hR) cal_X6_setUnder vir_X6_setUnder ml_X4_77 dX4_lend_24 (by first | assumption | omega) (by repeat (first | exact hset_eq _ _ _ | assumption | rw [hset_ne (by first | assumption | decide | omega)])) (by first | assumption | (show _ ≤ d; omega)) ⟨(Nat.le_of_ble_eq_true rfl), (Nat.le_of_ble_eq_true rfl)⟩ rfl rfl (Nat.le_of_ble_eq_true rfl) ?_
    refine mt_aload_n (pc := 27) dX4_lend_27 rfl ?_
    refine mt_iload_n (pc := 28) dX4_lend_28 rfl ?_
    refine mt_iload_n (pc := 29) dX4_lend_29 rfl ?_
    refine mt_iload (pc := 30) dX4_lend_30 rfl ?_
    refine mt_iload (pc := 32) dX4_lend_32 rfl ?_
    refine mt_cV (pc := 34) (c_addLoan (d := 2) (n := n) (Nat.le_refl 2) hn2 (by rw [upd_ne (by omega)]; exact hf) hne hs hr (by rw [hset_ne hne]; exact hS) (hset_eq _ _ _)) cal_X6_addLoan vir_X6_addLoan ml_X4_81 dX4_lend_34 (by first | assumption | omega) (by rw [hset_ne hne]; exact hS) (by first | assumption | (show _ ≤ d; omega)) ⟨(Nat.le_of_ble_eq_true rfl), (Nat.le_of_ble_eq_true rfl)⟩ rfl rfl (Nat.le_of_ble_eq_true rfl) ?_
    refine mt_iconst (pc := 37) (v := 1) dX4_lend_37 (by decide) ?_
    exact mt_zret rfl (by first | exact Or.inl rfl | exact Or.inr rfl) dX4_lend_38 (Nat.le_of_ble_eq_true rfl) (Nat.le_of_ble_eq_true rfl) ⟨by rw [if_pos hq], rfl, by rw [if_pos hq, hset_hset]; rfl⟩
  · skip
    have hq : ¬ (¬ 10 ≤ f 3 ∧ openC k f a p x) := fun z => by rw [if_pos z] at c9; exact absurd c9 (by decide)
    refine mt_iconst (pc := 12) (v := 0) dX4_lend_12 (by decide) ?_
    exact mt_zret rfl (by first | exact Or.inl rfl | exact Or.inr rfl) dX4_lend_13 (Nat.le_of_ble_eq_true rfl) (Nat.le_of_ble_eq_true rfl) ⟨by rw [if_neg hq], rfl, by rw [if_neg hq]⟩
theorem c_passNight {n : Nat} (hd : 3 ≤ d) (hx : 34 ≤ nx) (hw : RW f n) (hne : s ≠ r) (hs : s < nx) (hr : r < nx) (hS : h s = stE r) (hR : h r = rwE f) : mm_Con G l yX4_passNight cX4_passNight 4 none d 0 0 [.ref 33, .ref s] nx h (mm_ret none nx (hset h r (rwE (nigF f n)))) := by
  have hn := hw.2.1
  have hq2 : ∀ g, hset h r (rwE g) s = stE r := fun g => by rw [hset_ne hne]; exact hS
  refine mm_start (lo := [some (.ref 33), some (.ref s), none, none]) pn_X4 rfl rfl (Nat.le_of_ble_eq_true rfl) ?_
  refine mt_aload_n (pc := 0) dX4_passNight_0 rfl ?_
  refine mt_cV (pc := 1) (c_addNight (d := 2) hs hr hS hR) cal_X6_addNight vir_X6_addNight ml_X4_116 dX4_passNight_1 (by first | assumption | omega) (by repeat (first | exact hset_eq _ _ _ | assumption | rw [hset_ne (by first | assumption | decide | omega)])) (by first | assumption | (show _ ≤ d; omega)) ⟨(Nat.le_of_ble_eq_true rfl), (Nat.le_of_ble_eq_true rfl)⟩ rfl rfl (Nat.le_of_ble_eq_true rfl) ?_
  refine mt_iconst (pc := 4) (v := 0) dX4_passNight_4 (by decide) ?_
  refine mt_istore_n (pc := 5) dX4_passNight_5 (Nat.le_of_ble_eq_true rfl) rfl ?_
  refine mt_forget 3 ?_
  refine mt_for (pc := 6) (H := fun c => hset h r (rwE (nigF f c))) (L := fun c => [some (.ref 33), some (.ref s), some (.int (nI c)), none]) n (fun c hc nc => ?_) ?_
  · skip
    have hw2 := RW_nigF hw c (by omega)
    have so := hw2.so hc
    have sl := hw2.sl hc
    have e1 : nigF f (c + 1) = ovF (nigF f c) c := rfl
    rw [e1] at nc
    generalize nigF f c = g at hw2 so sl nc
    refine mt_iload_n (pc := 6) dX4_passNight_6 rfl ?_
    refine mt_aload_n (pc := 7) dX4_passNight_7 rfl ?_
    refine mt_cV (pc := 8) (c_loans (d := 2) hs hr (hq2 _) (hset_eq _ _ _)) cal_X6_loans vir_X6_loans ml_X4_38 dX4_passNight_8 (by first | assumption | omega) (hq2 _) (by first | assumption | (show _ ≤ d; omega)) ⟨(Nat.le_of_ble_eq_true rfl), (Nat.le_of_ble_eq_true rfl)⟩ rfl rfl (Nat.le_of_ble_eq_true rfl) ?_
    rw [hw2.1]
    refine mt_icmp_ge (pc := 11) (tgt := 80) dX4_passNight_11 (by decide) (fun c11 => ?_) (fun c11 => ?_)
    · exact absurd c11 (nI_ge hc (by omega))
    · skip
      refine mt_aload_n (pc := 14) dX4_passNight_14 rfl ?_
      refine mt_iload_n (pc := 15) dX4_passNight_15 rfl ?_
      refine mt_iconst (pc := 16) (v := 4) dX4_passNight_16 (by decide) ?_
      refine mt_cV (pc := 17) (c_ofLoan (d := 1) (k := 4) (Nat.le_refl 1) (by omega) (by decide) hs hr (hq2 _) (hset_eq _ _ _)) cal_X6_ofLoan vir_X6_ofLoan ml_X4_46 dX4_passNight_17 (by first | assumption | omega) (hq2 _) (by first | assumption | (show _ ≤ d; omega)) ⟨(Nat.le_of_ble_eq_true rfl), (Nat.le_of_ble_eq_true rfl)⟩ rfl rfl (Nat.le_of_ble_eq_true rfl) ?_
      refine mt_aload_n (pc := 20) dX4_passNight_20 rfl ?_
      refine mt_cV (pc := 21) (c_night (d := 2) hs hr (hq2 _) (hset_eq _ _ _)) cal_X6_night vir_X6_night ml_X4_50 dX4_passNight_21 (by first | assumption | omega) (hq2 _) (by first | assumption | (show _ ≤ d; omega)) ⟨(Nat.le_of_ble_eq_true rfl), (Nat.le_of_ble_eq_true rfl)⟩ rfl rfl (Nat.le_of_ble_eq_true rfl) ?_
      refine mt_icmp_ge (pc := 24) (tgt := 74) dX4_passNight_24 (by decide) (fun c24 => ?_) (fun c24 => ?_)
      · skip
        rw [ovF, if_neg (fun z => Int32.not_lt.mpr c24 z.1)] at nc
        try rw [hset_hset]
        refine mt_iinc (pc := 74) (c9 := 1) dX4_passNight_74 rfl (by decide) (Nat.le_of_ble_eq_true rfl) rfl ?_
        refine mt_goto (pc := 77) (tgt := 6) dX4_passNight_77 (by decide) ?_
        rw [show (nI c + 1 : Int32) = nI (c + 1) from nI_1 c]
        first
          | exact nc
          | exact mt_fg (by repeat (first | exact trivial | refine ⟨rfl, ?_⟩ | rfl)) nc
      · skip
        refine mt_aload_n (pc := 27) dX4_passNight_27 rfl ?_
        refine mt_iload_n (pc := 28) dX4_passNight_28 rfl ?_
        refine mt_cV (pc := 29) (c_isOverdue (d := 2) (Nat.le_refl 2) (by omega) hs hr (hq2 _) (hset_eq _ _ _)) cal_X6_isOverdue vir_X6_isOverdue ml_X4_98 dX4_passNight_29 (by first | assumption | omega) (hq2 _) (by first | assumption | (show _ ≤ d; omega)) ⟨(Nat.le_of_ble_eq_true rfl), (Nat.le_of_ble_eq_true rfl)⟩ rfl rfl (Nat.le_of_ble_eq_true rfl) ?_
        refine mt_if_ne (pc := 32) (tgt := 74) dX4_passNight_32 (by decide) (fun c32 => ?_) (fun c32 => ?_)
        · skip
          rw [ovF, if_neg (fun z => c32 (if_neg z.2))] at nc
          try rw [hset_hset]
          refine mt_iinc (pc := 74) (c9 := 1) dX4_passNight_74 rfl (by decide) (Nat.le_of_ble_eq_true rfl) rfl ?_
          refine mt_goto (pc := 77) (tgt := 6) dX4_passNight_77 (by decide) ?_
          rw [show (nI c + 1 : Int32) = nI (c + 1) from nI_1 c]
          first
            | exact nc
            | exact mt_fg (by repeat (first | exact trivial | refine ⟨rfl, ?_⟩ | rfl)) nc
        · skip
          rw [ovF, if_pos ⟨Int32.not_le.mp c24, fun z => by rw [if_pos z] at c32; exact absurd c32 (by decide)⟩] at nc
          refine mt_aload_n (pc := 35) dX4_passNight_35 rfl ?_
          refine mt_iload_n (pc := 36) dX4_passNight_36 rfl ?_
          refine mt_iconst (pc := 37) (v := 0) dX4_passNight_37 (by decide) ?_
          refine mt_cV (pc := 38) (c_ofLoan (d := 1) (k := 0) (Nat.le_refl 1) (by omega) (by decide) hs hr (hq2 _) (hset_eq _ _ _)) cal_X6_ofLoan vir_X6_ofLoan ml_X4_46 dX4_passNight_38 (by first | assumption | omega) (hq2 _) (by first | assumption | (show _ ≤ d; omega)) ⟨(Nat.le_of_ble_eq_true rfl), (Nat.le_of_ble_eq_true rfl)⟩ rfl rfl (Nat.le_of_ble_eq_true rfl) ?_
          rw [so.1]
          refine mt_istore_n (pc := 41) dX4_passNight_41 (Nat.le_of_ble_eq_true rfl) rfl ?_
          refine mt_aload_n (pc := 42) dX4_passNight_42 rfl ?_
          refine mt_iload_n (pc := 43) dX4_passNight_43 rfl ?_
          refine mt_cV (pc := 44) (c_setOverdue (d := 2) (Nat.le_refl 2) (by omega) hs hr (hq2 _) (hset_eq _ _ _)) cal_X6_setOverdue vir_X6_setOverdue ml_X4_119 dX4_passNight_44 (by first | assumption | omega) (hq2 _) (by first | assumption | (show _ ≤ d; omega)) ⟨(Nat.le_of_ble_eq_true rfl), (Nat.le_of_ble_eq_true rfl)⟩ rfl rfl (Nat.le_of_ble_eq_true rfl) ?_
          try rw [hset_hset]
          refine mt_aload_n (pc := 47) dX4_passNight_47 rfl ?_
          refine mt_iload_n (pc := 48) dX4_passNight_48 rfl ?_
          refine mt_iconst (pc := 49) (v := 0) dX4_passNight_49 (by decide) ?_
          refine mt_aload_n (pc := 50) dX4_passNight_50 rfl ?_
          refine mt_iload_n (pc := 51) dX4_passNight_51 rfl ?_
          refine mt_cV (pc := 52) (c_standing (d := 1) (Nat.le_refl 1) so.2 hs hr (hq2 _) (hset_eq _ _ _)) cal_X6_standing vir_X6_standing ml_X4_29 dX4_passNight_52 (by first | assumption | omega) (hq2 _) (by first | assumption | (show _ ≤ d; omega)) ⟨(Nat.le_of_ble_eq_true rfl), (Nat.le_of_ble_eq_true rfl)⟩ rfl rfl (Nat.le_of_ble_eq_true rfl) ?_
          refine mt_iconst (pc := 55) (v := 1) dX4_passNight_55 (by decide) ?_
          refine mt_isub (pc := 56) dX4_passNight_56 ?_
          refine mt_mmax (pc := 57) ml_X4_122 dX4_passNight_57 (by first | assumption | (show _ ≤ d; omega)) ⟨(Nat.le_of_ble_eq_true rfl), (Nat.le_of_ble_eq_true rfl)⟩ (Nat.le_of_ble_eq_true rfl) ?_
          refine mt_cV (pc := 60) (c_setStanding (d := 1) (Nat.le_refl 1) so.2 hs hr (hq2 _) (hset_eq _ _ _)) cal_X6_setStanding vir_X6_setStanding ml_X4_101 dX4_passNight_60 (by first | assumption | omega) (hq2 _) (by first | assumption | (show _ ≤ d; omega)) ⟨(Nat.le_of_ble_eq_true rfl), (Nat.le_of_ble_eq_true rfl)⟩ rfl rfl (Nat.le_of_ble_eq_true rfl) ?_
          try rw [hset_hset]
          refine mt_aload_n (pc := 63) dX4_passNight_63 rfl ?_
          refine mt_aload_n (pc := 64) dX4_passNight_64 rfl ?_
          refine mt_iload_n (pc := 65) dX4_passNight_65 rfl ?_
          refine mt_iconst (pc := 66) (v := 1) dX4_passNight_66 (by decide) ?_
          refine mt_cV (pc := 67) (c_ofLoan (d := 1) (k := 1) (Nat.le_refl 1) (by omega) (by decide) hs hr (hq2 _) (hset_eq _ _ _)) cal_X6_ofLoan vir_X6_ofLoan ml_X4_46 dX4_passNight_67 (by first | assumption | omega) (hq2 _) (by first | assumption | (show _ ≤ d; omega)) ⟨(Nat.le_of_ble_eq_true rfl), (Nat.le_of_ble_eq_true rfl)⟩ rfl rfl (Nat.le_of_ble_eq_true rfl) ?_
          rw [show upd (upd g (24 + 6 * c + 5) 1) (12 + lsoul g c) (if 0 < upd g (24 + 6 * c + 5) 1 (12 + lsoul g c) - 1 then upd g (24 + 6 * c + 5) 1 (12 + lsoul g c) - 1 else 0) (24 + 6 * c + 1) = nI (lslab g c) by rw [upd_ne (by omega), upd_ne (by omega)]; exact sl.1]
          refine mt_iconst (pc := 70) (v := 1) dX4_passNight_70 (by decide) ?_
          refine mt_cV (pc := 71) (c_setSealed (d := 2) hs hr (hq2 _) (hset_eq _ _ _)) cal_X6_setSealed vir_X6_setSealed ml_X4_108 dX4_passNight_71 (by first | assumption | omega) (hq2 _) (by first | assumption | (show _ ≤ d; omega)) ⟨(Nat.le_of_ble_eq_true rfl), (Nat.le_of_ble_eq_true rfl)⟩ rfl rfl (Nat.le_of_ble_eq_true rfl) ?_
          try rw [hset_hset]
          refine mt_iinc (pc := 74) (c9 := 1) dX4_passNight_74 rfl (by decide) (Nat.le_of_ble_eq_true rfl) rfl ?_
          refine mt_goto (pc := 77) (tgt := 6) dX4_passNight_77 (by decide) ?_
          rw [show (nI c + 1 : Int32) = nI (c + 1) from nI_1 c]
          first
            | exact nc
            | exact mt_fg (by repeat (first | exact trivial | refine ⟨rfl, ?_⟩ | rfl)) nc
  · skip
    have hw2 := RW_nigF hw n (by omega)
    refine mt_iload_n (pc := 6) dX4_passNight_6 rfl ?_
    refine mt_aload_n (pc := 7) dX4_passNight_7 rfl ?_
    refine mt_cV (pc := 8) (c_loans (d := 2) hs hr (hq2 _) (hset_eq _ _ _)) cal_X6_loans vir_X6_loans ml_X4_38 dX4_passNight_8 (by first | assumption | omega) (hq2 _) (by first | assumption | (show _ ≤ d; omega)) ⟨(Nat.le_of_ble_eq_true rfl), (Nat.le_of_ble_eq_true rfl)⟩ rfl rfl (Nat.le_of_ble_eq_true rfl) ?_
    rw [hw2.1]
    refine mt_icmp_ge (pc := 11) (tgt := 80) dX4_passNight_11 (by decide) (fun c11 => ?_) (fun c11 => ?_)
    · skip
      exact mt_vret rfl dX4_passNight_80 (Nat.le_of_ble_eq_true rfl) (Nat.le_of_ble_eq_true rfl) ⟨rfl, rfl, rfl⟩
    · exact absurd (nI_le (Nat.le_refl _) (by omega)) c11
theorem c_doNight {n : Nat} (hd : 4 ≤ d) (hx : 34 ≤ nx) (hw : RW f n) (hne : s ≠ r) (h33 : h 33 = ruE) (hs : s < nx) (hr : r < nx) (hS : h s = stE r) (hR : h r = rwE f) : mm_Con G l yX4_doNight cX4_doNight 2 (some .boolean) d 0 0 [.ref 33, .ref s] nx h (mm_ret (some (.int (if f 0 < 400 then 1 else 0))) nx (if f 0 < 400 then hset h r (rwE (nigF f n)) else h)) := by
  refine mm_start (lo := [some (.ref 33), some (.ref s)]) pn_X4 rfl rfl (Nat.le_of_ble_eq_true rfl) ?_
  refine mt_aload_n (pc := 0) dX4_doNight_0 rfl ?_
  refine mt_cV (pc := 1) (c_night (d := 2) hs hr hS hR) cal_X6_night vir_X6_night ml_X4_50 dX4_doNight_1 (by first | assumption | omega) (by repeat (first | exact hset_eq _ _ _ | assumption | rw [hset_ne (by first | assumption | decide | omega)])) (by first | assumption | (show _ ≤ d; omega)) ⟨(Nat.le_of_ble_eq_true rfl), (Nat.le_of_ble_eq_true rfl)⟩ rfl rfl (Nat.le_of_ble_eq_true rfl) ?_
  refine mt_sipush (pc := 4) (v := 400) dX4_doNight_4 (by decide) ?_
  refine mt_icmp_lt (pc := 7) (tgt := 12) dX4_doNight_7 (by decide) (fun c7 => ?_) (fun c7 => ?_)
  · skip
    refine mt_aload_n (pc := 12) dX4_doNight_12 rfl ?_
    refine mt_aload_n (pc := 13) dX4_doNight_13 rfl ?_
    refine mt_cV (pc := 14) (c_passNight (d := 3) (Nat.le_refl 3) hx hw hne hs hr hS hR) cal_X4_passNight vir_X4_passNight ml_X4_112 dX4_doNight_14 (by first | assumption | omega) (by repeat (first | exact hset_eq _ _ _ | assumption | rw [hset_ne (by first | assumption | decide | omega)])) (by first | assumption | (show _ ≤ d; omega)) ⟨(Nat.le_of_ble_eq_true rfl), (Nat.le_of_ble_eq_true rfl)⟩ rfl rfl (Nat.le_of_ble_eq_true rfl) ?_
    refine mt_iconst (pc := 17) (v := 1) dX4_doNight_17 (by decide) ?_
    exact mt_zret rfl (by first | exact Or.inl rfl | exact Or.inr rfl) dX4_doNight_18 (Nat.le_of_ble_eq_true rfl) (Nat.le_of_ble_eq_true rfl) ⟨by rw [if_pos c7], rfl, by rw [if_pos c7]⟩
  · skip
    refine mt_iconst (pc := 10) (v := 0) dX4_doNight_10 (by decide) ?_
    exact mt_zret rfl (by first | exact Or.inl rfl | exact Or.inr rfl) dX4_doNight_11 (Nat.le_of_ble_eq_true rfl) (Nat.le_of_ble_eq_true rfl) ⟨by rw [if_neg c7], rfl, by rw [if_neg c7]⟩
theorem c_pay {n : Nat} {i : Nat} (hd : 4 ≤ d) (hx : 34 ≤ nx) (hi : i < n) (hw : RW f n) (hA : LA h cs) (hW : LWF cs) (hC : CO h k) (h33 : h 33 = ruE) (hs5 : 35 ≤ s) (hr5 : 35 ≤ r) (hne : s ≠ r) (hs : s < nx) (hr : r < nx) (hS : h s = stE r) (hR : h r = rwE f) : mm_Con G l yX4_pay cX4_pay 6 (some .boolean) d 0 0 [.ref 33, .ref s, .int (nI i)] nx h (P_row (some (.int (if f (18 + lsoul f i) < owI k cs f i then 0 else 1))) r (if f (18 + lsoul f i) < owI k cs f i then f else payF k cs f i) nx h) := by
  have hn := hw.2.1
  have so := hw.so hi
  have sl := hw.sl hi
  refine mm_start (lo := [some (.ref 33), some (.ref s), some (.int (nI i)), none, none, none]) pn_X4 rfl rfl (Nat.le_of_ble_eq_true rfl) ?_
  refine mt_aload_n (pc := 0) dX4_pay_0 rfl ?_
  refine mt_iload_n (pc := 1) dX4_pay_1 rfl ?_
  refine mt_cV (pc := 2) (c_hasLoan (d := 1) hs hr hS hR) cal_X6_hasLoan vir_X6_hasLoan ml_X4_84 dX4_pay_2 (by first | assumption | omega) (by repeat (first | exact hset_eq _ _ _ | assumption | rw [hset_ne (by first | assumption | decide | omega)])) (by first | assumption | (show _ ≤ d; omega)) ⟨(Nat.le_of_ble_eq_true rfl), (Nat.le_of_ble_eq_true rfl)⟩ rfl rfl (Nat.le_of_ble_eq_true rfl) ?_
  rw [hw.1, if_neg (nI_pos (by omega)), if_neg (nI_ge hi (by omega))]
  refine mt_if_ne (pc := 5) (tgt := 10) dX4_pay_5 (by decide) (fun c5 => ?_) (fun c5 => ?_)
  · skip
    refine mt_aload_n (pc := 10) dX4_pay_10 rfl ?_
    refine mt_iload_n (pc := 11) dX4_pay_11 rfl ?_
    refine mt_iconst (pc := 12) (v := 0) dX4_pay_12 (by decide) ?_
    refine mt_cV (pc := 13) (c_ofLoan (d := 1) (k := 0) (Nat.le_refl 1) (by omega) (by decide) hs hr hS hR) cal_X6_ofLoan vir_X6_ofLoan ml_X4_46 dX4_pay_13 (by first | assumption | omega) (by repeat (first | exact hset_eq _ _ _ | assumption | rw [hset_ne (by first | assumption | decide | omega)])) (by first | assumption | (show _ ≤ d; omega)) ⟨(Nat.le_of_ble_eq_true rfl), (Nat.le_of_ble_eq_true rfl)⟩ rfl rfl (Nat.le_of_ble_eq_true rfl) ?_
    rw [so.1]
    refine mt_istore_n (pc := 16) dX4_pay_16 (Nat.le_of_ble_eq_true rfl) rfl ?_
    refine mt_aload_n (pc := 17) dX4_pay_17 rfl ?_
    refine mt_iload_n (pc := 18) dX4_pay_18 rfl ?_
    refine mt_iconst (pc := 19) (v := 1) dX4_pay_19 (by decide) ?_
    refine mt_cV (pc := 20) (c_ofLoan (d := 1) (k := 1) (Nat.le_refl 1) (by omega) (by decide) hs hr hS hR) cal_X6_ofLoan vir_X6_ofLoan ml_X4_46 dX4_pay_20 (by first | assumption | omega) (by repeat (first | exact hset_eq _ _ _ | assumption | rw [hset_ne (by first | assumption | decide | omega)])) (by first | assumption | (show _ ≤ d; omega)) ⟨(Nat.le_of_ble_eq_true rfl), (Nat.le_of_ble_eq_true rfl)⟩ rfl rfl (Nat.le_of_ble_eq_true rfl) ?_
    rw [sl.1]
    refine mt_istore (pc := 23) dX4_pay_23 (Nat.le_of_ble_eq_true rfl) rfl ?_
    refine mt_aload_n (pc := 25) dX4_pay_25 rfl ?_
    refine mt_aload_n (pc := 26) dX4_pay_26 rfl ?_
    refine mt_iload_n (pc := 27) dX4_pay_27 rfl ?_
    refine mt_aV (pc := 28) (c_rowes (d := 3) (Nat.le_refl 3) hx (by omega) so.1 so.2 sl.1 sl.2 hA hW hC h33 hs5 hr5 hs hr hS hR) cal_X4_owes vir_X4_owes ml_X4_71 dX4_pay_28 (by first | assumption | omega) (by repeat (first | exact hset_eq _ _ _ | assumption | rw [hset_ne (by first | assumption | decide | omega)])) (by first | assumption | (show _ ≤ d; omega)) ⟨(Nat.le_of_ble_eq_true rfl), (Nat.le_of_ble_eq_true rfl)⟩ rfl rfl (Nat.le_of_ble_eq_true rfl) ?_ ?_
    · rintro x9 n9 k9 h9
      simp [P_ow] at h9
    · rintro v9 n9 k9 ⟨hv9, rfl, hF9⟩
      cases hv9
      refine ⟨rfl, ?_⟩
      have hS' := (hF9.1 s (by omega) (by omega)).trans hS
      have hR' := (hF9.1 r (by omega) (by omega)).trans hR
      have hq2 : ∀ g, hset k9 r (rwE g) s = stE r := fun g => by rw [hset_ne hne]; exact hS'
      rw [show owV k cs f i (lsoul f i) (lslab f i) = owI k cs f i from rfl]
      generalize hv : owI k cs f i = v
      refine mt_istore (pc := 31) dX4_pay_31 (Nat.le_of_ble_eq_true rfl) rfl ?_
      refine mt_iload (pc := 33) dX4_pay_33 rfl ?_
      refine mt_aload_n (pc := 35) dX4_pay_35 rfl ?_
      refine mt_iload_n (pc := 36) dX4_pay_36 rfl ?_
      refine mt_cV (pc := 37) (c_purse (d := 1) (Nat.le_refl 1) so.2 hs hr hS' hR') cal_X6_purse vir_X6_purse ml_X4_87 dX4_pay_37 (by first | assumption | omega) (by repeat (first | exact hset_eq _ _ _ | assumption | rw [hset_ne (by first | assumption | decide | omega)])) (by first | assumption | (show _ ≤ d; omega)) ⟨(Nat.le_of_ble_eq_true rfl), (Nat.le_of_ble_eq_true rfl)⟩ rfl rfl (Nat.le_of_ble_eq_true rfl) ?_
      refine mt_icmp_le (pc := 40) (tgt := 45) dX4_pay_40 (by decide) (fun c40 => ?_) (fun c40 => ?_)
      · skip
        have hle : ¬ f (18 + lsoul f i) < v := Int32.not_lt.mpr c40
        refine mt_aload_n (pc := 45) dX4_pay_45 rfl ?_
        refine mt_iload_n (pc := 46) dX4_pay_46 rfl ?_
        refine mt_aload_n (pc := 47) dX4_pay_47 rfl ?_
        refine mt_iload_n (pc := 48) dX4_pay_48 rfl ?_
        refine mt_cV (pc := 49) (c_purse (d := 1) (Nat.le_refl 1) so.2 hs hr hS' hR') cal_X6_purse vir_X6_purse ml_X4_87 dX4_pay_49 (by first | assumption | omega) (by repeat (first | exact hset_eq _ _ _ | assumption | rw [hset_ne (by first | assumption | decide | omega)])) (by first | assumption | (show _ ≤ d; omega)) ⟨(Nat.le_of_ble_eq_true rfl), (Nat.le_of_ble_eq_true rfl)⟩ rfl rfl (Nat.le_of_ble_eq_true rfl) ?_
        refine mt_iload (pc := 52) dX4_pay_52 rfl ?_
        refine mt_isub (pc := 54) dX4_pay_54 ?_
        refine mt_cV (pc := 55) (c_setPurse (d := 1) (Nat.le_refl 1) so.2 hs hr hS' hR') cal_X6_setPurse vir_X6_setPurse ml_X4_90 dX4_pay_55 (by first | assumption | omega) (by repeat (first | exact hset_eq _ _ _ | assumption | rw [hset_ne (by first | assumption | decide | omega)])) (by first | assumption | (show _ ≤ d; omega)) ⟨(Nat.le_of_ble_eq_true rfl), (Nat.le_of_ble_eq_true rfl)⟩ rfl rfl (Nat.le_of_ble_eq_true rfl) ?_
        refine mt_aload_n (pc := 58) dX4_pay_58 rfl ?_
        refine mt_iload (pc := 59) dX4_pay_59 rfl ?_
        refine mt_bipush (pc := 61) (v := 99) dX4_pay_61 (by decide) ?_
        refine mt_aload_n (pc := 63) dX4_pay_63 rfl ?_
        refine mt_iload (pc := 64) dX4_pay_64 rfl ?_
        refine mt_cV (pc := 66) (c_under (d := 1) (Nat.le_refl 1) sl.2 hs hr (hq2 _) (hset_eq _ _ _)) cal_X6_under vir_X6_under ml_X4_25 dX4_pay_66 (by first | assumption | omega) (hq2 _) (by first | assumption | (show _ ≤ d; omega)) ⟨(Nat.le_of_ble_eq_true rfl), (Nat.le_of_ble_eq_true rfl)⟩ rfl rfl (Nat.le_of_ble_eq_true rfl) ?_
        refine mt_iload (pc := 69) dX4_pay_69 rfl ?_
        refine mt_iadd (pc := 71) dX4_pay_71 ?_
        refine mt_mmin (pc := 72) ml_X4_93 dX4_pay_72 (by first | assumption | (show _ ≤ d; omega)) ⟨(Nat.le_of_ble_eq_true rfl), (Nat.le_of_ble_eq_true rfl)⟩ (Nat.le_of_ble_eq_true rfl) ?_
        refine mt_cV (pc := 75) (c_setUnder (d := 1) (Nat.le_refl 1) sl.2 hs hr (hq2 _) (hset_eq _ _ _)) cal_X6_setUnder vir_X6_setUnder ml_X4_77 dX4_pay_75 (by first | assumption | omega) (hq2 _) (by first | assumption | (show _ ≤ d; omega)) ⟨(Nat.le_of_ble_eq_true rfl), (Nat.le_of_ble_eq_true rfl)⟩ rfl rfl (Nat.le_of_ble_eq_true rfl) ?_
        rw [hset_hset]
        have e2 : upd (upd f (18 + lsoul f i) (f (18 + lsoul f i) - v)) (4 + lslab f i) (min99 (upd f (18 + lsoul f i) (f (18 + lsoul f i) - v) (4 + lslab f i) + v)) = pay2 k cs f i := by rw [← hv]; rfl
        show mm_T _ _ _ _ (hset k9 r (rwE (upd (upd f (18 + lsoul f i) (f (18 + lsoul f i) - v)) (4 + lslab f i) (min99 (upd f (18 + lsoul f i) (f (18 + lsoul f i) - v) (4 + lslab f i) + v))))) _ _ _ _ _
        rw [e2]
        have hw2 : RW (pay2 k cs f i) n := RW_upd (RW_upd hw (by omega) (Or.inl (by omega))) (by omega) (Or.inl (by omega))
        have e3 : payF k cs f i = endF (pay3 k cs f i) i := rfl
        have hw3 : RW (pay3 k cs f i) n := by
          unfold pay3
          split
          · exact hw2
          · exact RW_upd hw2 (by omega) (Or.inl (by omega))
        refine mt_aload_n (pc := 78) dX4_pay_78 rfl ?_
        refine mt_iload_n (pc := 79) dX4_pay_79 rfl ?_
        refine mt_cV (pc := 80) (c_isOverdue (d := 2) (Nat.le_refl 2) (by omega) hs hr (hq2 _) (hset_eq _ _ _)) cal_X6_isOverdue vir_X6_isOverdue ml_X4_98 dX4_pay_80 (by first | assumption | omega) (hq2 _) (by first | assumption | (show _ ≤ d; omega)) ⟨(Nat.le_of_ble_eq_true rfl), (Nat.le_of_ble_eq_true rfl)⟩ rfl rfl (Nat.le_of_ble_eq_true rfl) ?_
        refine mt_if_ne (pc := 83) (tgt := 103) dX4_pay_83 (by decide) (fun c83 => ?_) (fun c83 => ?_)
        · skip
          have e4 : pay3 k cs f i = pay2 k cs f i := if_pos (Classical.not_not.mp fun z => c83 (if_neg z))
          rw [← e4]
          try rw [hset_hset]
          try (show mm_T _ _ _ _ (hset k9 r (rwE (upd (pay2 k cs f i) (12 + lsoul f i) (min9 (pay2 k cs f i (12 + lsoul f i) + 1))))) _ _ _ _ _; rw [← e4])
          refine mt_aload_n (pc := 103) dX4_pay_103 rfl ?_
          refine mt_iload_n (pc := 104) dX4_pay_104 rfl ?_
          refine mt_cV (pc := 105) (c_endLoan (d := 1) (Nat.le_refl 1) hn hi hw3.1 hne hs hr (hq2 _) (hset_eq _ _ _)) cal_X6_endLoan vir_X6_endLoan ml_X4_104 dX4_pay_105 (by first | assumption | omega) (hq2 _) (by first | assumption | (show _ ≤ d; omega)) ⟨(Nat.le_of_ble_eq_true rfl), (Nat.le_of_ble_eq_true rfl)⟩ rfl rfl (Nat.le_of_ble_eq_true rfl) ?_
          rw [hset_hset]
          refine mt_iconst (pc := 108) (v := 1) dX4_pay_108 (by decide) ?_
          exact mt_zret rfl (by first | exact Or.inl rfl | exact Or.inr rfl) dX4_pay_109 (Nat.le_of_ble_eq_true rfl) (Nat.le_of_ble_eq_true rfl) ⟨by rw [if_neg hle], rfl, FRr_of hr5 hF9, by rw [if_neg hle, hset_eq]; rfl⟩
        · skip
          have e4 : pay3 k cs f i = upd (pay2 k cs f i) (12 + lsoul f i) (min9 (pay2 k cs f i (12 + lsoul f i) + 1)) := if_neg fun z => by rw [if_pos z] at c83; exact absurd c83 (by decide)
          refine mt_aload_n (pc := 86) dX4_pay_86 rfl ?_
          refine mt_iload_n (pc := 87) dX4_pay_87 rfl ?_
          refine mt_bipush (pc := 88) (v := 9) dX4_pay_88 (by decide) ?_
          refine mt_aload_n (pc := 90) dX4_pay_90 rfl ?_
          refine mt_iload_n (pc := 91) dX4_pay_91 rfl ?_
          refine mt_cV (pc := 92) (c_standing (d := 1) (Nat.le_refl 1) so.2 hs hr (hq2 _) (hset_eq _ _ _)) cal_X6_standing vir_X6_standing ml_X4_29 dX4_pay_92 (by first | assumption | omega) (hq2 _) (by first | assumption | (show _ ≤ d; omega)) ⟨(Nat.le_of_ble_eq_true rfl), (Nat.le_of_ble_eq_true rfl)⟩ rfl rfl (Nat.le_of_ble_eq_true rfl) ?_
          refine mt_iconst (pc := 95) (v := 1) dX4_pay_95 (by decide) ?_
          refine mt_iadd (pc := 96) dX4_pay_96 ?_
          refine mt_mmin (pc := 97) ml_X4_93 dX4_pay_97 (by first | assumption | (show _ ≤ d; omega)) ⟨(Nat.le_of_ble_eq_true rfl), (Nat.le_of_ble_eq_true rfl)⟩ (Nat.le_of_ble_eq_true rfl) ?_
          refine mt_cV (pc := 100) (c_setStanding (d := 1) (Nat.le_refl 1) so.2 hs hr (hq2 _) (hset_eq _ _ _)) cal_X6_setStanding vir_X6_setStanding ml_X4_101 dX4_pay_100 (by first | assumption | omega) (hq2 _) (by first | assumption | (show _ ≤ d; omega)) ⟨(Nat.le_of_ble_eq_true rfl), (Nat.le_of_ble_eq_true rfl)⟩ rfl rfl (Nat.le_of_ble_eq_true rfl) ?_
          try rw [hset_hset]
          try (show mm_T _ _ _ _ (hset k9 r (rwE (upd (pay2 k cs f i) (12 + lsoul f i) (min9 (pay2 k cs f i (12 + lsoul f i) + 1))))) _ _ _ _ _; rw [← e4])
          refine mt_aload_n (pc := 103) dX4_pay_103 rfl ?_
          refine mt_iload_n (pc := 104) dX4_pay_104 rfl ?_
          refine mt_cV (pc := 105) (c_endLoan (d := 1) (Nat.le_refl 1) hn hi hw3.1 hne hs hr (hq2 _) (hset_eq _ _ _)) cal_X6_endLoan vir_X6_endLoan ml_X4_104 dX4_pay_105 (by first | assumption | omega) (hq2 _) (by first | assumption | (show _ ≤ d; omega)) ⟨(Nat.le_of_ble_eq_true rfl), (Nat.le_of_ble_eq_true rfl)⟩ rfl rfl (Nat.le_of_ble_eq_true rfl) ?_
          rw [hset_hset]
          refine mt_iconst (pc := 108) (v := 1) dX4_pay_108 (by decide) ?_
          exact mt_zret rfl (by first | exact Or.inl rfl | exact Or.inr rfl) dX4_pay_109 (Nat.le_of_ble_eq_true rfl) (Nat.le_of_ble_eq_true rfl) ⟨by rw [if_neg hle], rfl, FRr_of hr5 hF9, by rw [if_neg hle, hset_eq]; rfl⟩
      · skip
        refine mt_iconst (pc := 43) (v := 0) dX4_pay_43 (by decide) ?_
        exact mt_zret rfl (by first | exact Or.inl rfl | exact Or.inr rfl) dX4_pay_44 (Nat.le_of_ble_eq_true rfl) (Nat.le_of_ble_eq_true rfl) ⟨by rw [if_pos (Int32.not_le.mp c40)], rfl, by rw [if_pos (Int32.not_le.mp c40)]; exact ⟨⟨fun j a b c => hF9.1 j a b, hF9.2⟩, hR'⟩⟩
  · exact absurd c5 (by decide)
end RULES4
