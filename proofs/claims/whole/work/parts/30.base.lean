/-! Leaves: Math, entry, setEntry, signs. -/
/-- what stands at a place of a row, 0 outside of it -/
def mm_at (f : Nat → Int32) (n : Nat) (i : Int32) : Int32 := if i < 0 then 0 else if nI n ≤ i then 0 else f i.toNatClampNeg
theorem mm_in_of {n : Nat} {i : Int32} (h0 : ¬ i < 0) (h1 : ¬ nI n ≤ i) (hn : n < 2 ^ 31) : vp_in i n := by
  obtain ⟨j, hj, hij⟩ := nI_of h0
  subst hij
  refine vp_in_nI (Nat.lt_of_not_le fun q => h1 (nI_le q hj)) hn
theorem c_entry {G : mm_G} {l : Launch} {d nx : Nat} {h : Nat → mm_E} {r n : Nat} {f : Nat → Int32} {i : Int32} (hd : 1 ≤ d) (hr : r < nx) (hR : h r = .inl (0, n, .inl f)) (hn : n < 2 ^ 31) : mm_Con G l yX10_entry cX10_entry 2 (some .int) d 0 0 [.ref r, .int i] nx h (mm_ret (some (.int (mm_at f n i))) nx h) := by
  refine mm_start (lo := [some (.ref r), some (.int i)]) (by decide) rfl (Nat.le_of_ble_eq_true rfl) ?_
  refine mt_iload_n (pc := 0) dX10_entry_0 rfl ?_
  refine mt_if_lt (pc := 1) (tgt := 16) dX10_entry_1 (by decide) (fun c1 => ?_) (fun c1 => ?_)
  · skip
    have e1 : mm_at f n i = 0 := by simp [mm_at, c1]
    refine mt_iconst (pc := 16) (v := 0) dX10_entry_16 (by decide) ?_
    exact mt_iret rfl dX10_entry_17 (Nat.le_of_ble_eq_true rfl) (Nat.le_of_ble_eq_true rfl) ⟨by rw [e1], rfl, rfl⟩
  · skip
    refine mt_iload_n (pc := 4) dX10_entry_4 rfl ?_
    refine mt_aload_n (pc := 5) dX10_entry_5 rfl ?_
    refine mt_alen (pc := 6) dX10_entry_6 (by first | assumption | omega) (by decide) (by first | exact hset_eq _ _ _ | assumption | simp only [hset_eq, hset_ne, ne_eq, not_false_eq_true, *]) rfl ?_
    refine mt_icmp_ge (pc := 7) (tgt := 16) dX10_entry_7 (by decide) (fun c7 => ?_) (fun c7 => ?_)
    · skip
      have e1 : mm_at f n i = 0 := by simp only [mm_at, if_neg c1]; exact if_pos c7
      refine mt_iconst (pc := 16) (v := 0) dX10_entry_16 (by decide) ?_
      exact mt_iret rfl dX10_entry_17 (Nat.le_of_ble_eq_true rfl) (Nat.le_of_ble_eq_true rfl) ⟨by rw [e1], rfl, rfl⟩
    · skip
      refine mt_aload_n (pc := 10) dX10_entry_10 rfl ?_
      refine mt_iload_n (pc := 11) dX10_entry_11 rfl ?_
      have e1 : mm_at f n i = f i.toNatClampNeg := by simp only [mm_at, if_neg c1]; exact if_neg c7
      refine mt_iald (pc := 12) dX10_entry_12 (by first | assumption | omega) (by first | exact hset_eq _ _ _ | assumption | simp only [hset_eq, hset_ne, ne_eq, not_false_eq_true, *]) (mm_in_of c1 c7 hn) ?_
      refine mt_goto (pc := 13) (tgt := 17) dX10_entry_13 (by decide) ?_
      exact mt_iret rfl dX10_entry_17 (Nat.le_of_ble_eq_true rfl) (Nat.le_of_ble_eq_true rfl) ⟨by rw [e1], rfl, rfl⟩
