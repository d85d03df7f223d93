/-! Texts: length, charAt. -/
section TEXT
variable {G : mm_G} {l : Launch} {d nx : Nat} {h : Nat → mm_E} {j : Nat}
theorem c_coder (hj : j < 19) : mm_Con G l yJ0_coder_7d493 cJ0_coder_7d493 1 (some .byte) d 0 0 [.ref (1000000 + j)] nx h (mm_ret (some (.int 0)) nx h) := by
  refine mm_start (lo := [some (.ref (1000000 + j))]) pn_J0 rfl rfl (Nat.le_of_ble_eq_true rfl) ?_
  refine mt_compact (pc := 0) fs_compact dJ0_coder_7d493_0 ?_
  refine mt_if_eq (pc := 3) (tgt := 13) dJ0_coder_7d493_3 (by decide) (fun c3 => ?_) (fun c3 => ?_)
  · exact absurd c3 (by decide)
  · skip
    refine mt_aload_n (pc := 6) dJ0_coder_7d493_6 rfl ?_
    refine mt_strC (pc := 7) hj fs_coder dJ0_coder_7d493_7 ?_
    refine mt_goto (pc := 10) (tgt := 14) dJ0_coder_7d493_10 (by decide) ?_
    exact mt_tret rfl rfl dJ0_coder_7d493_14 (Nat.le_of_ble_eq_true rfl) (Nat.le_of_ble_eq_true rfl) ⟨rfl, rfl, rfl⟩
theorem c_isLatin1 (hj : j < 19) : mm_Con G l yJ0_isLatin1_aae02 cJ0_isLatin1_aae02 1 (some .boolean) d 0 0 [.ref (1000000 + j)] nx h (mm_ret (some (.int 1)) nx h) := by
  refine mm_start (lo := [some (.ref (1000000 + j))]) pn_J0 rfl rfl (Nat.le_of_ble_eq_true rfl) ?_
  refine mt_compact (pc := 0) fs_compact dJ0_isLatin1_aae02_0 ?_
  refine mt_if_eq (pc := 3) (tgt := 17) dJ0_isLatin1_aae02_3 (by decide) (fun c3 => ?_) (fun c3 => ?_)
  · exact absurd c3 (by decide)
  · skip
    refine mt_aload_n (pc := 6) dJ0_isLatin1_aae02_6 rfl ?_
    refine mt_strC (pc := 7) hj fs_coder dJ0_isLatin1_aae02_7 ?_
    refine mt_if_ne (pc := 10) (tgt := 17) dJ0_isLatin1_aae02_10 (by decide) (fun c10 => ?_) (fun c10 => ?_)
    · exact absurd rfl c10
    · skip
      refine mt_iconst (pc := 13) (v := 1) dJ0_isLatin1_aae02_13 (by decide) ?_
      refine mt_goto (pc := 14) (tgt := 18) dJ0_isLatin1_aae02_14 (by decide) ?_
      exact mt_zret rfl (by first | exact Or.inl rfl | exact Or.inr rfl) dJ0_isLatin1_aae02_18 (Nat.le_of_ble_eq_true rfl) (Nat.le_of_ble_eq_true rfl) ⟨rfl, rfl, rfl⟩
theorem c_length (hd : 1 ≤ d) (hj : j < 19) : mm_Con G l yJ0_length_8abf5 cJ0_length_8abf5 1 (some .int) d 0 0 [.ref (1000000 + j)] nx h (mm_ret (some (.int (nI (mm_tl.getD j 0)))) nx h) := by
  refine mm_start (lo := [some (.ref (1000000 + j))]) pn_J0 rfl rfl (Nat.le_of_ble_eq_true rfl) ?_
  refine mt_aload_n (pc := 0) dJ0_length_8abf5_0 rfl ?_
  refine mt_strV (pc := 1) hj fs_value dJ0_length_8abf5_1 ?_
  refine mt_strN (pc := 4) hj dJ0_length_8abf5_4 ?_
  refine mt_aload_n (pc := 5) dJ0_length_8abf5_5 rfl ?_
  refine mt_cX (pc := 6) (c_coder (d := 0) hj) cal_J0_coder_7d493 virJ_coder ml_J0_335 dJ0_length_8abf5_6 hj hd ⟨Nat.zero_le _, Nat.zero_le _⟩ rfl rfl (Nat.le_of_ble_eq_true rfl) ?_
  refine mt_ishr (pc := 9) dJ0_length_8abf5_9 ?_
  exact mt_iret rfl dJ0_length_8abf5_10 (Nat.le_of_ble_eq_true rfl) (Nat.le_of_ble_eq_true rfl) ⟨by rw [show ((0 : Int32) &&& 31) = 0 from by decide, show ∀ x : Int32, x >>> (0 : Int32) = x from fun x => by apply Int32.toBitVec_inj.mp; simp [Int32.toBitVec_shiftRight]], rfl, rfl⟩
theorem c_pchk {i n : Int32} {v : Value} (hv : v = .null ∨ v = .ref 1003000) (h0 : ¬ i < 0) (hn : i < n) : mm_Con G l yJ3_checkIndex_8e157 cJ3_checkIndex_8e157 3 (some .int) d 0 0 [.int i, .int n, v] nx h (mm_ret (some (.int i)) nx h) := by
  refine mm_start (lo := [some (.int i), some (.int n), some v]) pn_J3 rfl (by rcases hv with rfl | rfl <;> rfl) (by rcases hv with rfl | rfl <;> exact (Nat.le_of_ble_eq_true rfl)) ?_
  refine mt_iload_n (pc := 0) dJ3_checkIndex_8e157_0 rfl ?_
  refine mt_if_lt (pc := 1) (tgt := 9) dJ3_checkIndex_8e157_1 (by decide) (fun c1 => ?_) (fun c1 => ?_)
  · exact absurd c1 h0
  · skip
    refine mt_iload_n (pc := 4) dJ3_checkIndex_8e157_4 rfl ?_
    refine mt_iload_n (pc := 5) dJ3_checkIndex_8e157_5 rfl ?_
    refine mt_icmp_lt (pc := 6) (tgt := 16) dJ3_checkIndex_8e157_6 (by decide) (fun c6 => ?_) (fun c6 => ?_)
    · skip
      refine mt_iload_n (pc := 16) dJ3_checkIndex_8e157_16 rfl ?_
      exact mt_iret rfl dJ3_checkIndex_8e157_17 (Nat.le_of_ble_eq_true rfl) (Nat.le_of_ble_eq_true rfl) ⟨rfl, rfl, rfl⟩
    · exact absurd hn c6
theorem c_schk {i n : Int32} (hd : 1 ≤ d) (h0 : ¬ i < 0) (hn : i < n) : mm_Con G l yJ0_checkIndex_df160 cJ0_checkIndex_df160 2 none d 0 0 [.int i, .int n] nx h (mm_ret none nx h) := by
  refine mm_start (lo := [some (.int i), some (.int n)]) pn_J0 rfl rfl (Nat.le_of_ble_eq_true rfl) ?_
  refine mt_iload_n (pc := 0) dJ0_checkIndex_df160_0 rfl ?_
  refine mt_iload_n (pc := 1) dJ0_checkIndex_df160_1 rfl ?_
  refine mt_sioobe (pc := 2) fs_sioobe dJ0_checkIndex_df160_2 (fun v hv => ?_)
  refine mt_cS (pc := 5) (c_pchk (d := 0) hv h0 hn) cal_J3_checkIndex_8e157 sta_J3_checkIndex_8e157 ml_J0_1059 dJ0_checkIndex_df160_5 hd ⟨Nat.zero_le _, Nat.zero_le _⟩ rfl rfl (Nat.le_of_ble_eq_true rfl) ?_
  refine mt_pop (pc := 8) dJ0_checkIndex_df160_8 rfl ?_
  exact mt_vret rfl dJ0_checkIndex_df160_9 (Nat.le_of_ble_eq_true rfl) (Nat.le_of_ble_eq_true rfl) ⟨rfl, rfl, rfl⟩
/-- the texts are of small letters and blanks -/
theorem tb_ok : ∀ j, j < 19 → ∀ i, i < mm_tl.getD j 0 → (((mm_tb.getD j []).getD i 0 &&& 255).toUInt32 % 65536).toInt32 = (mm_tb.getD j []).getD i 0 := by decide +kernel
theorem tl_ok : ∀ j, j < 19 → mm_tl.getD j 0 < 100 := by decide +kernel
theorem c_lcharAt {i : Nat} (hd : 2 ≤ d) (hj : j < 19) (hi : i < mm_tl.getD j 0) : mm_Con G l yJ1_charAt_3b067 cJ1_charAt_3b067 2 (some .char) d 0 0 [.ref (1001000 + j), .int (nI i)] nx h (mm_ret (some (.int ((mm_tb.getD j []).getD i 0))) nx h) := by
  refine mm_start (lo := [some (.ref (1001000 + j)), some (.int (nI i))]) pn_J1 rfl rfl (Nat.le_of_ble_eq_true rfl) ?_
  have hl := tl_ok j hj
  have e1 := tb_ok j hj i hi
  refine mt_iload_n (pc := 0) dJ1_charAt_3b067_0 rfl ?_
  refine mt_aload_n (pc := 1) dJ1_charAt_3b067_1 rfl ?_
  refine mt_strN (pc := 2) hj dJ1_charAt_3b067_2 ?_
  refine mt_cS (pc := 3) (c_schk (d := 1) (Nat.le_refl 1) (nI_pos (by omega)) (nI_lt hi (by omega))) cal_J0_checkIndex_df160 sta_J0_checkIndex_df160 ml_J1_9 dJ1_charAt_3b067_3 (by first | assumption | (show _ ≤ d; omega)) ⟨(Nat.le_of_ble_eq_true rfl), (Nat.le_of_ble_eq_true rfl)⟩ rfl rfl (Nat.le_of_ble_eq_true rfl) ?_
  refine mt_aload_n (pc := 6) dJ1_charAt_3b067_6 rfl ?_
  refine mt_iload_n (pc := 7) dJ1_charAt_3b067_7 rfl ?_
  refine mt_strB (pc := 8) hj (vp_in_nI hi (by omega)) dJ1_charAt_3b067_8 ?_
  rw [nI_clamp (by omega)]
  refine mt_sipush (pc := 9) (v := 255) dJ1_charAt_3b067_9 (by decide) ?_
  refine mt_iand (pc := 12) dJ1_charAt_3b067_12 ?_
  refine mt_i2c (pc := 13) dJ1_charAt_3b067_13 e1 ?_
  exact mt_tret rfl (by rw [← e1]; exact pk_nc _) dJ1_charAt_3b067_14 (Nat.le_of_ble_eq_true rfl) (Nat.le_of_ble_eq_true rfl) ⟨rfl, rfl, rfl⟩
theorem c_charAt {i : Nat} (hd : 3 ≤ d) (hj : j < 19) (hi : i < mm_tl.getD j 0) : mm_Con G l yJ0_charAt_5068e cJ0_charAt_5068e 2 (some .char) d 0 0 [.ref (1000000 + j), .int (nI i)] nx h (mm_ret (some (.int ((mm_tb.getD j []).getD i 0))) nx h) := by
  refine mm_start (lo := [some (.ref (1000000 + j)), some (.int (nI i))]) pn_J0 rfl rfl (Nat.le_of_ble_eq_true rfl) ?_
  refine mt_aload_n (pc := 0) dJ0_charAt_5068e_0 rfl ?_
  refine mt_cX (pc := 1) (c_isLatin1 (d := 0) hj) cal_J0_isLatin1_aae02 virJ_isLatin1 ml_J0_492 dJ0_charAt_5068e_1 hj (by show 0 + 1 ≤ d; omega) ⟨Nat.zero_le _, Nat.zero_le _⟩ rfl rfl (Nat.le_of_ble_eq_true rfl) ?_
  refine mt_if_eq (pc := 4) (tgt := 16) dJ0_charAt_5068e_4 (by decide) (fun c4 => ?_) (fun c4 => ?_)
  · exact absurd c4 (by decide)
  · skip
    refine mt_aload_n (pc := 7) dJ0_charAt_5068e_7 rfl ?_
    refine mt_strV (pc := 8) hj fs_value dJ0_charAt_5068e_8 ?_
    refine mt_iload_n (pc := 11) dJ0_charAt_5068e_11 rfl ?_
    refine mt_cS (pc := 12) (c_lcharAt (d := 2) (Nat.le_refl 2) hj hi) cal_J1_charAt_3b067 sta_J1_charAt_3b067 ml_J0_495 dJ0_charAt_5068e_12 (by show 2 + 1 ≤ d; omega) ⟨(Nat.le_of_ble_eq_true rfl), (Nat.le_of_ble_eq_true rfl)⟩ rfl rfl (Nat.le_of_ble_eq_true rfl) ?_
    exact mt_tret rfl (by rw [← tb_ok j hj i hi]; exact pk_nc _) dJ0_charAt_5068e_15 (Nat.le_of_ble_eq_true rfl) (Nat.le_of_ble_eq_true rfl) ⟨rfl, rfl, rfl⟩
end TEXT
