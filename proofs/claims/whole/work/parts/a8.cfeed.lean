/-! The class: feed. -/
def shI (c : Nat) : Int32 := if c = 4 then -8 else nI (24 - 8 * c)
def bt (y : Int32) : Int32 := vp_nar .byte (y.toInt8.toInt32)
theorem shI_ge {c : Nat} (h : c < 4) : ¬ shI c < 0 := by
  unfold shI
  rw [if_neg (by omega)]
  exact nI_pos (by omega)
theorem shI_s {c : Nat} (h : c < 4) : shI c + (-8) = shI (c + 1) := by
  rcases (show c = 0 ∨ c = 1 ∨ c = 2 ∨ c = 3 by omega) with rfl | rfl | rfl | rfl <;> decide
theorem shI_n {c : Nat} (h : c < 4) : shI c = nI (24 - 8 * c) := if_neg (by omega)
/-- four bytes of a number, c of them so far -/
def fd4 (b : Nat → Int32) (s : Nat) (x : Int32) (c : Nat) : Nat → Int32 := fun i => if s ≤ i ∧ i < s + c then bt (x >>> (shI (i - s) &&& 31)) else b i
theorem fd4_0 (b : Nat → Int32) (s : Nat) (x : Int32) : fd4 b s x 0 = b := by
  funext i
  exact if_neg (by omega)
theorem fd4_s (b : Nat → Int32) (s : Nat) (x : Int32) (c : Nat) : upd (fd4 b s x c) (s + c) (bt (x >>> (shI c &&& 31))) = fd4 b s x (c + 1) := by
  funext i
  by_cases h : i = s + c
  · subst h
    rw [upd_eq]
    unfold fd4
    rw [if_pos (by omega), show s + c - s = c by omega]
  · rw [upd_ne h]
    unfold fd4
    by_cases h2 : s ≤ i ∧ i < s + c
    · rw [if_pos h2, if_pos (by omega)]
    · rw [if_neg h2, if_neg (by omega)]
theorem hw2 {h : Nat → mm_E} {i j : Nat} (hn : i ≠ j) (a b c d : mm_E) : hset (hset (hset (hset h i a) j b) i c) j d = hset (hset h i c) j d := by
  funext q
  by_cases h1 : q = j
  · subst h1
    rw [hset_eq, hset_eq]
  · rw [hset_ne h1, hset_ne h1]
    by_cases h2 : q = i
    · subst h2
      rw [hset_eq, hset_eq]
    · rw [hset_ne h2, hset_ne h1, hset_ne h2, hset_ne h2]
/-- a feed of the class, c bytes of it so far -/
def fdB (b : Nat → Int32) (sz : Nat) (xs : Nat → Int32) (c : Nat) : Nat → Int32 := fun i => if sz ≤ i ∧ i < sz + c then bt (xs ((i - sz) / 4) >>> (nI (24 - 8 * ((i - sz) % 4)) &&& 31)) else b i
theorem fdB_0 (b : Nat → Int32) (sz : Nat) (xs : Nat → Int32) : fdB b sz xs 0 = b := by
  funext i
  exact if_neg (by omega)
theorem fdB_4 (b : Nat → Int32) (sz : Nat) (xs : Nat → Int32) (m : Nat) : fd4 (fdB b sz xs (4 * m)) (sz + 4 * m) (xs m) 4 = fdB b sz xs (4 * (m + 1)) := by
  funext i
  unfold fd4
  by_cases h : sz + 4 * m ≤ i ∧ i < sz + 4 * m + 4
  · rw [if_pos h]
    unfold fdB
    rw [if_pos (by omega), shI_n (by omega), show (i - sz) / 4 = m by omega, show (i - sz) % 4 = i - (sz + 4 * m) by omega]
  · rw [if_neg h]
    unfold fdB
    by_cases h2 : sz ≤ i ∧ i < sz + 4 * m
    · rw [if_pos h2, if_pos (by omega)]
    · rw [if_neg h2, if_neg (by omega)]
theorem bt_eq (y : Int32) : bt y = y.toInt8.toInt32 := by
  show y.toInt8.toInt32.toInt8.toInt32 = _
  rw [Int8.toInt8_toInt32]
theorem bt_255 (y : Int32) : bt y &&& 255 = y &&& 255 := by
  rw [bt_eq]
  exact bp_b y
theorem bt_by (y : Int32) : -128 ≤ (bt y).toInt ∧ (bt y).toInt < 128 := by
  rw [bt_eq, Int8.toInt_toInt32]
  exact ⟨Int8.le_toInt _, Int8.toInt_lt _⟩
theorem fdB_TP {T b : Nat → Int32} {sz : Nat} {xs : Nat → Int32} {c : Nat} (h : TP T b) : TP (fdM T sz xs c) (fdB b sz xs c) := by
  intro i hi
  unfold fdM fdB
  by_cases h2 : sz ≤ i ∧ i < sz + c
  · rw [if_pos h2, if_pos h2, bt_255]
  · rw [if_neg h2, if_neg h2]
    exact h i hi
theorem fdB_BY {b : Nat → Int32} {sz : Nat} {xs : Nat → Int32} {c : Nat} (h : BY b) : BY (fdB b sz xs c) := by
  intro i
  unfold fdB
  by_cases h2 : sz ≤ i ∧ i < sz + c
  · rw [if_pos h2]
    exact bt_by _
  · rw [if_neg h2]
    exact h i
section CFD
variable {G : mm_G} {l : Launch} {d nx : Nat} {h : Nat → mm_E} {b : Nat → Int32} {en pl st fk fp ic rs ne ia : Int32}
theorem c_add {s : Nat} {x : Int32} (hx : 188 ≤ nx) (hs : s + 4 ≤ 600) (hT : h 1 = tpE (nI s) en pl st fk fp) (hB : h 2 = byE b) : mm_Con G l yX7_add cX7_add 3 none d 0 0 [.ref 1, .int x] nx h (mm_ret none nx (hset (hset h 2 (byE (fd4 b s x 4))) 1 (tpE (nI (s + 4)) en pl st fk fp))) := by
  refine mm_start (lo := [some (.ref 1), some (.int x), none]) pn_X7 rfl rfl (Nat.le_of_ble_eq_true rfl) ?_
  refine mt_bipush (pc := 0) (v := 24) dX7_add_0 (by decide) ?_
  refine mt_istore_n (pc := 2) dX7_add_2 (Nat.le_of_ble_eq_true rfl) rfl ?_
  refine mt_heq (h' := hset (hset h 2 (byE (fd4 b s x 0))) 1 (tpE (nI (s + 0)) en pl st fk fp)) (by rw [fd4_0, hset_self hB, Nat.add_zero, hset_self hT]) ?_
  rw [show (24 : Int32) = shI 0 from rfl]
  refine mt_for (pc := 3) (H := fun c => hset (hset h 2 (byE (fd4 b s x c))) 1 (tpE (nI (s + c)) en pl st fk fp)) (L := fun c => [some (.ref 1), some (.int x), some (.int (shI c))]) 4 (fun c hc nc => ?_) ?_
  · skip
    refine mt_iload_n (pc := 3) dX7_add_3 rfl ?_
    refine mt_if_lt (pc := 4) (tgt := 55) dX7_add_4 (by decide) (fun c4 => ?_) (fun c4 => ?_)
    · exact absurd c4 (shI_ge hc)
    · skip
      refine mt_aload_n (pc := 7) dX7_add_7 rfl ?_
      refine mt_get (pc := 8) gf_X7_19 dX7_add_8 (by first | assumption | omega) (by repeat (first | exact hset_eq _ _ _ | assumption | rw [hset_ne (by first | assumption | decide | omega)])) rfl ?_
      refine mt_if_lt (pc := 11) (tgt := 49) dX7_add_11 (by decide) (fun c11 => ?_) (fun c11 => ?_)
      · exact absurd c11 (nI_pos (by omega))
      · skip
        refine mt_aload_n (pc := 14) dX7_add_14 rfl ?_
        refine mt_get (pc := 15) gf_X7_19 dX7_add_15 (by first | assumption | omega) (by repeat (first | exact hset_eq _ _ _ | assumption | rw [hset_ne (by first | assumption | decide | omega)])) rfl ?_
        refine mt_aload_n (pc := 18) dX7_add_18 rfl ?_
        refine mt_get (pc := 19) gf_X7_9 dX7_add_19 (by first | assumption | omega) (by repeat (first | exact hset_eq _ _ _ | assumption | rw [hset_ne (by first | assumption | decide | omega)])) rfl ?_
        refine mt_alen (pc := 22) dX7_add_22 (by first | assumption | omega) (by repeat (first | exact hset_eq _ _ _ | assumption | rw [hset_ne (by first | assumption | decide | omega)])) (by decide) ?_
        refine mt_icmp_ge (pc := 23) (tgt := 49) dX7_add_23 (by decide) (fun c23 => ?_) (fun c23 => ?_)
        · exact absurd c23 (nI_ge (b := 600) (by omega) (by decide))
        · skip
          refine mt_aload_n (pc := 26) dX7_add_26 rfl ?_
          refine mt_get (pc := 27) gf_X7_9 dX7_add_27 (by first | assumption | omega) (by repeat (first | exact hset_eq _ _ _ | assumption | rw [hset_ne (by first | assumption | decide | omega)])) rfl ?_
          refine mt_aload_n (pc := 30) dX7_add_30 rfl ?_
          refine mt_get (pc := 31) gf_X7_19 dX7_add_31 (by first | assumption | omega) (by repeat (first | exact hset_eq _ _ _ | assumption | rw [hset_ne (by first | assumption | decide | omega)])) rfl ?_
          refine mt_iload_n (pc := 34) dX7_add_34 rfl ?_
          refine mt_iload_n (pc := 35) dX7_add_35 rfl ?_
          refine mt_ishr (pc := 36) dX7_add_36 ?_
          refine mt_i2b (pc := 37) dX7_add_37 rfl ?_
          first
            | refine mt_bast2 (pc := 38) dX7_add_38 (by first | assumption | omega) (by first | assumption | (exact vp_in_nI (by omega) (by omega)) | decide) ?_
            | refine mt_bast (pc := 38) dX7_add_38 (by first | assumption | omega) (by repeat (first | exact hset_eq _ _ _ | assumption | rw [hset_ne (by first | assumption | decide | omega)])) (by first | assumption | (exact vp_in_nI (by omega) (by omega)) | decide) ?_
          refine mt_aload_n (pc := 39) dX7_add_39 rfl ?_
          refine mt_dup (pc := 40) dX7_add_40 rfl ?_
          refine mt_get (pc := 41) gf_X7_19 dX7_add_41 (by first | assumption | omega) (by repeat (first | exact hset_eq _ _ _ | assumption | rw [hset_ne (by first | assumption | decide | omega)])) rfl ?_
          refine mt_iconst (pc := 44) (v := 1) dX7_add_44 (by decide) ?_
          refine mt_iadd (pc := 45) dX7_add_45 ?_
          first
            | refine mt_puti2 (pc := 46) pf_X7_19 dX7_add_46 (by first | assumption | omega) (Nat.le_of_ble_eq_true rfl) ?_
            | refine mt_puti (pc := 46) pf_X7_19 dX7_add_46 (by first | assumption | omega) (by repeat (first | exact hset_eq _ _ _ | assumption | rw [hset_ne (by first | assumption | decide | omega)])) (Nat.le_of_ble_eq_true rfl) ?_
          rw [hw2 (by decide), nI_clamp (by omega), show vp_nar .byte (x >>> (shI c &&& 31)).toInt8.toInt32 = bt (x >>> (shI c &&& 31)) from rfl, fd4_s]
          refine mt_iinc (pc := 49) (c9 := (-8)) dX7_add_49 rfl (by decide) (Nat.le_of_ble_eq_true rfl) rfl ?_
          refine mt_goto (pc := 52) (tgt := 3) dX7_add_52 (by decide) ?_
          rw [shI_s hc, show (nI (s + c) + 1 : Int32) = nI (s + (c + 1)) from nI_1 (s + c)]
          exact nc
  · skip
    refine mt_iload_n (pc := 3) dX7_add_3 rfl ?_
    refine mt_if_lt (pc := 4) (tgt := 55) dX7_add_4 (by decide) (fun c4 => ?_) (fun c4 => ?_)
    · skip
      exact mt_vret rfl dX7_add_55 (Nat.le_of_ble_eq_true rfl) (Nat.le_of_ble_eq_true rfl) ⟨rfl, rfl, rfl⟩
    · exact absurd (show shI 4 < 0 by decide) c4
theorem c_feedN {a0 a1 a2 a3 a4 : Int32} {s : Nat} (hd : 1 ≤ d) (hx : 188 ≤ nx) (h0 : h 0 = cbE ic rs ne ia) (hs : s ≤ 600) (hs2 : 600 < s + 20) (hT : h 1 = tpE (nI s) en pl st fk fp) (hB : h 2 = byE b) : mm_Con G l yX10_feed cX10_feed 6 (some .int) d 0 0 [.ref 0, .int a0, .int a1, .int a2, .int a3, .int a4] nx h (mm_ret (some (.int (-1))) nx h) := by
  refine mm_start (lo := [some (.ref 0), some (.int a0), some (.int a1), some (.int a2), some (.int a3), some (.int a4)]) pn_X10 rfl rfl (Nat.le_of_ble_eq_true rfl) ?_
  refine mt_aload_n (pc := 0) dX10_feed_0 rfl ?_
  refine mt_get (pc := 1) gf_X10_10 dX10_feed_1 (by first | assumption | omega) (by repeat (first | exact hset_eq _ _ _ | assumption | rw [hset_ne (by first | assumption | decide | omega)])) rfl ?_
  refine mt_bipush (pc := 4) (v := 20) dX10_feed_4 (by decide) ?_
  refine mt_cV (pc := 6) (c_hasRoomFor (d := 0) (by omega) hT hB) cal_X7_hasRoomFor vir_X7_hasRoomFor ml_X10_98 dX10_feed_6 (by first | assumption | omega) (by repeat (first | exact hset_eq _ _ _ | assumption | rw [hset_ne (by first | assumption | decide | omega)])) (by first | assumption | (show _ ≤ d; omega)) ⟨(Nat.le_of_ble_eq_true rfl), (Nat.le_of_ble_eq_true rfl)⟩ rfl rfl (Nat.le_of_ble_eq_true rfl) ?_
  rw [if_pos (by rw [show (20 : Int32) = nI 20 from rfl, nI_add]; exact nI_lt hs2 (by omega))]
  refine mt_if_ne (pc := 9) (tgt := 14) dX10_feed_9 (by decide) (fun c9 => ?_) (fun c9 => ?_)
  · exact absurd rfl c9
  · skip
    refine mt_iconst (pc := 12) (v := (-1)) dX10_feed_12 (by decide) ?_
    exact mt_iret rfl dX10_feed_13 (Nat.le_of_ble_eq_true rfl) (Nat.le_of_ble_eq_true rfl) ⟨rfl, rfl, rfl⟩
theorem c_feedY {a0 a1 a2 a3 a4 : Int32} {s : Nat} (hd : 1 ≤ d) (hx : 188 ≤ nx) (h0 : h 0 = cbE ic rs ne ia) (hs : s + 20 ≤ 600) (hT : h 1 = tpE (nI s) en pl st fk fp) (hB : h 2 = byE b) : mm_Con G l yX10_feed cX10_feed 6 (some .int) d 0 0 [.ref 0, .int a0, .int a1, .int a2, .int a3, .int a4] nx h (mm_ret (some (.int (nI (s + 20)))) nx (hset (hset h 2 (byE (fdB b s (xs5 a0 a1 a2 a3 a4) 20))) 1 (tpE (nI (s + 20)) en pl st fk fp))) := by
  have st5 : ∀ m, m < 5 → fd4 (fdB b s (xs5 a0 a1 a2 a3 a4) (4 * m)) (s + 4 * m) (xs5 a0 a1 a2 a3 a4 m) 4 = fdB b s (xs5 a0 a1 a2 a3 a4) (4 * (m + 1)) := fun m _ => fdB_4 b s _ m
  have hA : ∀ m, m < 5 → mm_Con G l yX7_add cX7_add 3 none 0 0 0 [.ref 1, .int (xs5 a0 a1 a2 a3 a4 m)] nx (hset (hset h 2 (byE (fdB b s (xs5 a0 a1 a2 a3 a4) (4 * m)))) 1 (tpE (nI (s + 4 * m)) en pl st fk fp)) (mm_ret none nx (hset (hset h 2 (byE (fdB b s (xs5 a0 a1 a2 a3 a4) (4 * (m + 1))))) 1 (tpE (nI (s + 4 * (m + 1))) en pl st fk fp))) := by
    intro m hm
    have q := c_add (G := G) (l := l) (d := 0) (h := hset (hset h 2 (byE (fdB b s (xs5 a0 a1 a2 a3 a4) (4 * m)))) 1 (tpE (nI (s + 4 * m)) en pl st fk fp)) (s := s + 4 * m) (x := xs5 a0 a1 a2 a3 a4 m) hx (by omega) (hset_eq _ _ _) (by rw [hset_ne (by decide), hset_eq])
    rwa [hw2 (by decide), st5 m hm, show s + 4 * m + 4 = s + 4 * (m + 1) by omega] at q
  refine mm_start (lo := [some (.ref 0), some (.int a0), some (.int a1), some (.int a2), some (.int a3), some (.int a4)]) pn_X10 rfl rfl (Nat.le_of_ble_eq_true rfl) ?_
  refine mt_aload_n (pc := 0) dX10_feed_0 rfl ?_
  refine mt_get (pc := 1) gf_X10_10 dX10_feed_1 (by first | assumption | omega) (by repeat (first | exact hset_eq _ _ _ | assumption | rw [hset_ne (by first | assumption | decide | omega)])) rfl ?_
  refine mt_bipush (pc := 4) (v := 20) dX10_feed_4 (by decide) ?_
  refine mt_cV (pc := 6) (c_hasRoomFor (d := 0) (by omega) hT hB) cal_X7_hasRoomFor vir_X7_hasRoomFor ml_X10_98 dX10_feed_6 (by first | assumption | omega) (by repeat (first | exact hset_eq _ _ _ | assumption | rw [hset_ne (by first | assumption | decide | omega)])) (by first | assumption | (show _ ≤ d; omega)) ⟨(Nat.le_of_ble_eq_true rfl), (Nat.le_of_ble_eq_true rfl)⟩ rfl rfl (Nat.le_of_ble_eq_true rfl) ?_
  rw [if_neg (by rw [show (20 : Int32) = nI 20 from rfl, nI_add]; exact nI_nlt hs (by omega))]
  refine mt_if_ne (pc := 9) (tgt := 14) dX10_feed_9 (by decide) (fun c9 => ?_) (fun c9 => ?_)
  · skip
    refine mt_heq (h' := hset (hset h 2 (byE (fdB b s (xs5 a0 a1 a2 a3 a4) (4 * 0)))) 1 (tpE (nI (s + 4 * 0)) en pl st fk fp)) (by rw [Nat.mul_zero, fdB_0, hset_self hB, Nat.add_zero, hset_self hT]) ?_
    refine mt_aload_n (pc := 14) dX10_feed_14 rfl ?_
    refine mt_get (pc := 15) gf_X10_10 dX10_feed_15 (by first | assumption | omega) (by repeat (first | exact hset_eq _ _ _ | assumption | rw [hset_ne (by first | assumption | decide | omega)])) rfl ?_
    refine mt_iload_n (pc := 18) dX10_feed_18 rfl ?_
    refine mt_cV (pc := 19) (hA 0 (by decide)) cal_X7_add vir_X7_add ml_X10_102 dX10_feed_19 (by first | assumption | omega) (by repeat (first | exact hset_eq _ _ _ | assumption | rw [hset_ne (by first | assumption | decide | omega)])) (by first | assumption | (show _ ≤ d; omega)) ⟨(Nat.le_of_ble_eq_true rfl), (Nat.le_of_ble_eq_true rfl)⟩ rfl rfl (Nat.le_of_ble_eq_true rfl) ?_
    refine mt_aload_n (pc := 22) dX10_feed_22 rfl ?_
    refine mt_get (pc := 23) gf_X10_10 dX10_feed_23 (by first | assumption | omega) (by repeat (first | exact hset_eq _ _ _ | assumption | rw [hset_ne (by first | assumption | decide | omega)])) rfl ?_
    refine mt_iload_n (pc := 26) dX10_feed_26 rfl ?_
    refine mt_cV (pc := 27) (hA 1 (by decide)) cal_X7_add vir_X7_add ml_X10_102 dX10_feed_27 (by first | assumption | omega) (by repeat (first | exact hset_eq _ _ _ | assumption | rw [hset_ne (by first | assumption | decide | omega)])) (by first | assumption | (show _ ≤ d; omega)) ⟨(Nat.le_of_ble_eq_true rfl), (Nat.le_of_ble_eq_true rfl)⟩ rfl rfl (Nat.le_of_ble_eq_true rfl) ?_
    refine mt_aload_n (pc := 30) dX10_feed_30 rfl ?_
    refine mt_get (pc := 31) gf_X10_10 dX10_feed_31 (by first | assumption | omega) (by repeat (first | exact hset_eq _ _ _ | assumption | rw [hset_ne (by first | assumption | decide | omega)])) rfl ?_
    refine mt_iload_n (pc := 34) dX10_feed_34 rfl ?_
    refine mt_cV (pc := 35) (hA 2 (by decide)) cal_X7_add vir_X7_add ml_X10_102 dX10_feed_35 (by first | assumption | omega) (by repeat (first | exact hset_eq _ _ _ | assumption | rw [hset_ne (by first | assumption | decide | omega)])) (by first | assumption | (show _ ≤ d; omega)) ⟨(Nat.le_of_ble_eq_true rfl), (Nat.le_of_ble_eq_true rfl)⟩ rfl rfl (Nat.le_of_ble_eq_true rfl) ?_
    refine mt_aload_n (pc := 38) dX10_feed_38 rfl ?_
    refine mt_get (pc := 39) gf_X10_10 dX10_feed_39 (by first | assumption | omega) (by repeat (first | exact hset_eq _ _ _ | assumption | rw [hset_ne (by first | assumption | decide | omega)])) rfl ?_
    refine mt_iload (pc := 42) dX10_feed_42 rfl ?_
    refine mt_cV (pc := 44) (hA 3 (by decide)) cal_X7_add vir_X7_add ml_X10_102 dX10_feed_44 (by first | assumption | omega) (by repeat (first | exact hset_eq _ _ _ | assumption | rw [hset_ne (by first | assumption | decide | omega)])) (by first | assumption | (show _ ≤ d; omega)) ⟨(Nat.le_of_ble_eq_true rfl), (Nat.le_of_ble_eq_true rfl)⟩ rfl rfl (Nat.le_of_ble_eq_true rfl) ?_
    refine mt_aload_n (pc := 47) dX10_feed_47 rfl ?_
    refine mt_get (pc := 48) gf_X10_10 dX10_feed_48 (by first | assumption | omega) (by repeat (first | exact hset_eq _ _ _ | assumption | rw [hset_ne (by first | assumption | decide | omega)])) rfl ?_
    refine mt_iload (pc := 51) dX10_feed_51 rfl ?_
    refine mt_cV (pc := 53) (hA 4 (by decide)) cal_X7_add vir_X7_add ml_X10_102 dX10_feed_53 (by first | assumption | omega) (by repeat (first | exact hset_eq _ _ _ | assumption | rw [hset_ne (by first | assumption | decide | omega)])) (by first | assumption | (show _ ≤ d; omega)) ⟨(Nat.le_of_ble_eq_true rfl), (Nat.le_of_ble_eq_true rfl)⟩ rfl rfl (Nat.le_of_ble_eq_true rfl) ?_
    refine mt_aload_n (pc := 56) dX10_feed_56 rfl ?_
    refine mt_get (pc := 57) gf_X10_10 dX10_feed_57 (by first | assumption | omega) (by repeat (first | exact hset_eq _ _ _ | assumption | rw [hset_ne (by first | assumption | decide | omega)])) rfl ?_
    refine mt_get (pc := 60) gf_X10_106 dX10_feed_60 (by first | assumption | omega) (by repeat (first | exact hset_eq _ _ _ | assumption | rw [hset_ne (by first | assumption | decide | omega)])) rfl ?_
    exact mt_iret rfl dX10_feed_63 (Nat.le_of_ble_eq_true rfl) (Nat.le_of_ble_eq_true rfl) ⟨rfl, rfl, rfl⟩
  · exact absurd c9 (by decide)
end CFD
