/-! The TAPE: words, what is fed. -/
/-- from q to r stands the text j -/
abbrev WD (b : Nat → Int32) (q r j : Nat) : Prop := r = q + mm_tl.getD j 0 ∧ ∀ i, i < mm_tl.getD j 0 → b (q + i) = (mm_tb.getD j []).getD i 0
def wdi (b : Nat → Int32) (q r j : Nat) : Int32 := if WD b q r j then 1 else 0
section WORD
variable {G : mm_G} {l : Launch} {d nx : Nat} {h : Nat → mm_E} {b : Nat → Int32} {sz fk fp : Int32}
theorem c_wordIs {e q r j : Nat} (hd : 4 ≤ d) (hx : 3 ≤ nx) (hj : j < 19) (hB : h 2 = byE b) (hT : h 1 = tpE sz (nI e) (nI r) (nI q) fk fp) (hq : q ≤ r) (hr : r ≤ 600) : mm_Con G l yX7_wordIs cX7_wordIs 3 (some .boolean) d 0 0 [.ref 1, .ref (1000000 + j)] nx h (mm_ret (some (.int (wdi b q r j))) nx h) := by
  have hl := tl_ok j hj
  have yes : WD b q r j → wdi b q r j = 1 := fun z => if_pos z
  have no : ¬ WD b q r j → wdi b q r j = 0 := fun z => if_neg z
  have loop : ∀ k i, i + k = mm_tl.getD j 0 → r = q + mm_tl.getD j 0 → (∀ a, a < i → b (q + a) = (mm_tb.getD j []).getD a 0) → mm_T (G, l, yX7_wordIs, 3, some .boolean, d, 0, 0, mm_ret (some (.int (wdi b q r j))) nx h, nx) RX7 cX7_wordIs nx h 0 0 39 [some (.ref 1), some (.ref (1000000 + j)), some (.int (nI i))] [] := by
    intro k
    induction k with
    | zero =>
      intro i hi hrl ha
      obtain rfl : i = mm_tl.getD j 0 := by omega
      refine mt_iload_n (pc := 39) dX7_wordIs_39 rfl ?_
      refine mt_aload_n (pc := 40) dX7_wordIs_40 rfl ?_
      refine mt_cX (pc := 41) (c_length (d := 1) (Nat.le_refl 1) hj) cal_J0_length_8abf5 virJ_length ml_X7_51 dX7_wordIs_41 hj (by show 1 + 1 ≤ d; omega) ⟨Nat.zero_le _, Nat.zero_le _⟩ rfl rfl (Nat.le_of_ble_eq_true rfl) ?_
      refine mt_icmp_ge (pc := 44) (tgt := 74) dX7_wordIs_44 (by decide) (fun c44 => ?_) (fun c44 => ?_)
      · skip
        refine mt_iconst (pc := 74) (v := 1) dX7_wordIs_74 (by decide) ?_
        exact mt_zret rfl (by first | exact Or.inl rfl | exact Or.inr rfl) dX7_wordIs_75 (Nat.le_of_ble_eq_true rfl) (Nat.le_of_ble_eq_true rfl) ⟨by rw [yes ⟨hrl, ha⟩], rfl, rfl⟩
      · exact absurd (nI_le (Nat.le_refl _) (by omega)) c44
    | succ k ih =>
      intro i hi hrl ha
      have hlt : i < mm_tl.getD j 0 := by omega
      have hv : b (nI q + nI i).toNatClampNeg = b (q + i) := by rw [nI_add, nI_clamp (by omega)]
      refine mt_iload_n (pc := 39) dX7_wordIs_39 rfl ?_
      refine mt_aload_n (pc := 40) dX7_wordIs_40 rfl ?_
      refine mt_cX (pc := 41) (c_length (d := 1) (Nat.le_refl 1) hj) cal_J0_length_8abf5 virJ_length ml_X7_51 dX7_wordIs_41 hj (by show 1 + 1 ≤ d; omega) ⟨Nat.zero_le _, Nat.zero_le _⟩ rfl rfl (Nat.le_of_ble_eq_true rfl) ?_
      refine mt_icmp_ge (pc := 44) (tgt := 74) dX7_wordIs_44 (by decide) (fun c44 => ?_) (fun c44 => ?_)
      · exact absurd c44 (nI_ge hlt (by omega))
      · skip
        refine mt_aload_n (pc := 47) dX7_wordIs_47 rfl ?_
        refine mt_get (pc := 48) gf_X7_9 dX7_wordIs_48 (by first | assumption | omega) (by repeat (first | exact hset_eq _ _ _ | assumption | rw [hset_ne (by first | assumption | decide | omega)])) rfl ?_
        refine mt_aload_n (pc := 51) dX7_wordIs_51 rfl ?_
        refine mt_get (pc := 52) gf_X7_34 dX7_wordIs_52 (by first | assumption | omega) (by repeat (first | exact hset_eq _ _ _ | assumption | rw [hset_ne (by first | assumption | decide | omega)])) rfl ?_
        refine mt_iload_n (pc := 55) dX7_wordIs_55 rfl ?_
        refine mt_iadd (pc := 56) dX7_wordIs_56 ?_
        refine mt_bald (pc := 57) dX7_wordIs_57 (by first | assumption | omega) (by repeat (first | exact hset_eq _ _ _ | assumption | rw [hset_ne (by first | assumption | decide | omega)])) (by rw [nI_add]; exact vp_in_nI (by omega) (by decide)) ?_
        refine mt_aload_n (pc := 58) dX7_wordIs_58 rfl ?_
        refine mt_iload_n (pc := 59) dX7_wordIs_59 rfl ?_
        refine mt_cX (pc := 60) (c_charAt (d := 3) (Nat.le_refl 3) hj hlt) cal_J0_charAt_5068e virJ_charAt ml_X7_56 dX7_wordIs_60 hj (by show 3 + 1 ≤ d; omega) ⟨Nat.zero_le _, Nat.zero_le _⟩ rfl rfl (Nat.le_of_ble_eq_true rfl) ?_
        rw [hv]
        refine mt_icmp_eq (pc := 63) (tgt := 68) dX7_wordIs_63 (by decide) (fun c63 => ?_) (fun c63 => ?_)
        · skip
          refine mt_iinc (pc := 68) (c9 := 1) dX7_wordIs_68 rfl (by decide) (Nat.le_of_ble_eq_true rfl) rfl ?_
          refine mt_goto (tgt := 39) dX7_wordIs_71 (by decide) ?_
          rw [show (nI i + 1 : Int32) = nI (i + 1) from nI_1 i]
          refine ih (i + 1) (by omega) hrl (fun a hai => ?_)
          rcases Nat.lt_or_ge a i with q1 | q1
          · exact ha a q1
          · rw [show a = i by omega]; exact c63
        · skip
          have hno : ¬ WD b q r j := fun z => c63 (z.2 i hlt)
          refine mt_iconst (pc := 66) (v := 0) dX7_wordIs_66 (by decide) ?_
          exact mt_zret rfl (by first | exact Or.inl rfl | exact Or.inr rfl) dX7_wordIs_67 (Nat.le_of_ble_eq_true rfl) (Nat.le_of_ble_eq_true rfl) ⟨by rw [no hno], rfl, rfl⟩
  refine mm_start (lo := [some (.ref 1), some (.ref (1000000 + j)), none]) pn_X7 rfl rfl (Nat.le_of_ble_eq_true rfl) ?_
  refine mt_aload_n (pc := 0) dX7_wordIs_0 rfl ?_
  refine mt_get (pc := 1) gf_X7_31 dX7_wordIs_1 (by first | assumption | omega) (by repeat (first | exact hset_eq _ _ _ | assumption | rw [hset_ne (by first | assumption | decide | omega)])) rfl ?_
  refine mt_aload_n (pc := 4) dX7_wordIs_4 rfl ?_
  refine mt_get (pc := 5) gf_X7_34 dX7_wordIs_5 (by first | assumption | omega) (by repeat (first | exact hset_eq _ _ _ | assumption | rw [hset_ne (by first | assumption | decide | omega)])) rfl ?_
  skip
  refine mt_isub (pc := 8) dX7_wordIs_8 ?_
  refine mt_aload_n (pc := 9) dX7_wordIs_9 rfl ?_
  refine mt_cX (pc := 10) (c_length (d := 1) (Nat.le_refl 1) hj) cal_J0_length_8abf5 virJ_length ml_X7_51 dX7_wordIs_10 hj (by show 1 + 1 ≤ d; omega) ⟨Nat.zero_le _, Nat.zero_le _⟩ rfl rfl (Nat.le_of_ble_eq_true rfl) ?_
  rw [pk_sub hq]
  refine mt_icmp_ne (pc := 13) (tgt := 35) dX7_wordIs_13 (by decide) (fun c13 => ?_) (fun c13 => ?_)
  · skip
    have hno : ¬ WD b q r j := fun z => c13 (by rw [show r - q = mm_tl.getD j 0 by have := z.1; omega])
    refine mt_iconst (pc := 35) (v := 0) dX7_wordIs_35 (by decide) ?_
    exact mt_zret rfl (by first | exact Or.inl rfl | exact Or.inr rfl) dX7_wordIs_36 (Nat.le_of_ble_eq_true rfl) (Nat.le_of_ble_eq_true rfl) ⟨by rw [no hno], rfl, rfl⟩
  · skip
    have hrl : r = q + mm_tl.getD j 0 := by
      have := (nI_eq (by omega) (by omega)).mp c13
      omega
    refine mt_aload_n (pc := 16) dX7_wordIs_16 rfl ?_
    refine mt_get (pc := 17) gf_X7_34 dX7_wordIs_17 (by first | assumption | omega) (by repeat (first | exact hset_eq _ _ _ | assumption | rw [hset_ne (by first | assumption | decide | omega)])) rfl ?_
    refine mt_if_lt (pc := 20) (tgt := 35) dX7_wordIs_20 (by decide) (fun c20 => ?_) (fun c20 => ?_)
    · exact absurd c20 (nI_pos (by omega))
    · skip
      refine mt_aload_n (pc := 23) dX7_wordIs_23 rfl ?_
      refine mt_get (pc := 24) gf_X7_31 dX7_wordIs_24 (by first | assumption | omega) (by repeat (first | exact hset_eq _ _ _ | assumption | rw [hset_ne (by first | assumption | decide | omega)])) rfl ?_
      refine mt_aload_n (pc := 27) dX7_wordIs_27 rfl ?_
      refine mt_get (pc := 28) gf_X7_9 dX7_wordIs_28 (by first | assumption | omega) (by repeat (first | exact hset_eq _ _ _ | assumption | rw [hset_ne (by first | assumption | decide | omega)])) rfl ?_
      refine mt_alen (pc := 31) dX7_wordIs_31 (by first | assumption | omega) (by repeat (first | exact hset_eq _ _ _ | assumption | rw [hset_ne (by first | assumption | decide | omega)])) (by decide) ?_
      refine mt_icmp_le (pc := 32) (tgt := 37) dX7_wordIs_32 (by decide) (fun c32 => ?_) (fun c32 => ?_)
      · skip
        refine mt_iconst (pc := 37) (v := 0) dX7_wordIs_37 (by decide) ?_
        refine mt_istore_n (pc := 38) dX7_wordIs_38 (Nat.le_of_ble_eq_true rfl) rfl ?_
        exact loop (mm_tl.getD j 0) 0 (by omega) hrl (fun a ha => absurd ha (Nat.not_lt_zero a))
      · exact absurd (nI_le (a := r) (b := 600) (by omega) (by decide)) c32
end WORD
