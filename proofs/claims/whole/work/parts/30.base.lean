/-! Leaves: Math, entry, setEntry, signs. -/
/-- what stands at a place of a row, 0 outside of it -/
def mm_at (f : Nat → Int32) (n : Nat) (i : Int32) : Int32 := if i < 0 then 0 else if nI n ≤ i then 0 else f i.toNatClampNeg
/-- a row with x at a place, the same if there is no such -/
def mm_wr (f : Nat → Int32) (n : Nat) (i x : Int32) : Nat → Int32 := if i < 0 then f else if nI n ≤ i then f else upd f i.toNatClampNeg x
theorem mm_in_of {n : Nat} {i : Int32} (h0 : ¬ i < 0) (h1 : ¬ nI n ≤ i) (hn : n < 2 ^ 31) : vp_in i n := by
  obtain ⟨j, hj, hij⟩ := nI_of h0
  subst hij
  refine vp_in_nI (Nat.lt_of_not_le fun q => h1 (nI_le q hj)) hn

theorem c_entry {G : mm_G} {l : Launch} {d nx : Nat} {h : Nat → mm_E} {r n : Nat} {f : Nat → Int32} {i : Int32} (hr : r < nx) (hR : h r = .inl (0, n, .inl f)) (hn : n < 2 ^ 31) : mm_Con G l yX10_entry cX10_entry 2 (some .int) d 0 0 [.ref r, .int i] nx h (mm_ret (some (.int (mm_at f n i))) nx h) := by
  refine mm_start (lo := [some (.ref r), some (.int i)]) pn_X10 rfl rfl (Nat.le_of_ble_eq_true rfl) ?_
  refine mt_iload_n (pc := 0) dX10_entry_0 rfl ?_
  refine mt_if_lt (pc := 1) (tgt := 16) dX10_entry_1 (by decide) (fun c1 => ?_) (fun c1 => ?_)
  · skip
    have e1 : mm_at f n i = 0 := by simp [mm_at, c1]
    refine mt_iconst (pc := 16) (v := 0) dX10_entry_16 (by decide) ?_
    exact mt_iret rfl dX10_entry_17 (Nat.le_of_ble_eq_true rfl) (Nat.le_of_ble_eq_true rfl) ⟨by rw [e1], rfl, rfl⟩
  · skip
    refine mt_iload_n (pc := 4) dX10_entry_4 rfl ?_
    refine mt_aload_n (pc := 5) dX10_entry_5 rfl ?_
    refine mt_alen (pc := 6) dX10_entry_6 (by first | assumption | omega) (by repeat (first | exact hset_eq _ _ _ | assumption | rw [hset_ne (by first | assumption | decide | omega)])) (by decide) ?_
    refine mt_icmp_ge (pc := 7) (tgt := 16) dX10_entry_7 (by decide) (fun c7 => ?_) (fun c7 => ?_)
    · skip
      have e1 : mm_at f n i = 0 := by simp only [mm_at, if_neg c1]; exact if_pos c7
      refine mt_iconst (pc := 16) (v := 0) dX10_entry_16 (by decide) ?_
      exact mt_iret rfl dX10_entry_17 (Nat.le_of_ble_eq_true rfl) (Nat.le_of_ble_eq_true rfl) ⟨by rw [e1], rfl, rfl⟩
    · skip
      refine mt_aload_n (pc := 10) dX10_entry_10 rfl ?_
      refine mt_iload_n (pc := 11) dX10_entry_11 rfl ?_
      have e1 : mm_at f n i = f i.toNatClampNeg := by simp only [mm_at, if_neg c1]; exact if_neg c7
      refine mt_iald (pc := 12) dX10_entry_12 (by first | assumption | omega) (by repeat (first | exact hset_eq _ _ _ | assumption | rw [hset_ne (by first | assumption | decide | omega)])) (mm_in_of c1 c7 hn) ?_
      refine mt_goto (pc := 13) (tgt := 17) dX10_entry_13 (by decide) ?_
      exact mt_iret rfl dX10_entry_17 (Nat.le_of_ble_eq_true rfl) (Nat.le_of_ble_eq_true rfl) ⟨by rw [e1], rfl, rfl⟩
theorem c_setEntry {G : mm_G} {l : Launch} {d nx : Nat} {h : Nat → mm_E} {r n : Nat} {f : Nat → Int32} {i x : Int32} (hr : r < nx) (hR : h r = .inl (0, n, .inl f)) (hn : n < 2 ^ 31) : mm_Con G l yX10_setEntry cX10_setEntry 3 none d 0 0 [.ref r, .int i, .int x] nx h (mm_ret none nx (hset h r (.inl (0, n, .inl (mm_wr f n i x))))) := by
  refine mm_start (lo := [some (.ref r), some (.int i), some (.int x)]) pn_X10 rfl rfl (Nat.le_of_ble_eq_true rfl) ?_
  refine mt_iload_n (pc := 0) dX10_setEntry_0 rfl ?_
  refine mt_if_lt (pc := 1) (tgt := 14) dX10_setEntry_1 (by decide) (fun c1 => ?_) (fun c1 => ?_)
  · skip
    have e1 : hset h r (.inl (0, n, .inl (mm_wr f n i x))) = h := by simp only [mm_wr, if_pos c1]; exact hset_self hR
    exact mt_vret rfl dX10_setEntry_14 (Nat.le_of_ble_eq_true rfl) (Nat.le_of_ble_eq_true rfl) ⟨rfl, rfl, e1.symm⟩
  · skip
    refine mt_iload_n (pc := 4) dX10_setEntry_4 rfl ?_
    refine mt_aload_n (pc := 5) dX10_setEntry_5 rfl ?_
    refine mt_alen (pc := 6) dX10_setEntry_6 (by first | assumption | omega) (by repeat (first | exact hset_eq _ _ _ | assumption | rw [hset_ne (by first | assumption | decide | omega)])) (by decide) ?_
    refine mt_icmp_ge (pc := 7) (tgt := 14) dX10_setEntry_7 (by decide) (fun c7 => ?_) (fun c7 => ?_)
    · skip
      have e1 : hset h r (.inl (0, n, .inl (mm_wr f n i x))) = h := by simp only [mm_wr, if_neg c1]; rw [if_pos c7]; exact hset_self hR
      exact mt_vret rfl dX10_setEntry_14 (Nat.le_of_ble_eq_true rfl) (Nat.le_of_ble_eq_true rfl) ⟨rfl, rfl, e1.symm⟩
    · skip
      refine mt_aload_n (pc := 10) dX10_setEntry_10 rfl ?_
      refine mt_iload_n (pc := 11) dX10_setEntry_11 rfl ?_
      refine mt_iload_n (pc := 12) dX10_setEntry_12 rfl ?_
      have e1 : hset h r (.inl (0, n, .inl (mm_wr f n i x))) = hset h r (.inl (0, n, .inl (upd f i.toNatClampNeg x))) := by simp only [mm_wr, if_neg c1]; rw [if_neg c7]
      first
        | refine mt_iast2 (pc := 13) dX10_setEntry_13 (by first | assumption | omega) (mm_in_of c1 c7 hn) ?_
        | refine mt_iast (pc := 13) dX10_setEntry_13 (by first | assumption | omega) (by repeat (first | exact hset_eq _ _ _ | assumption | rw [hset_ne (by first | assumption | decide | omega)])) (mm_in_of c1 c7 hn) ?_
      exact mt_vret rfl dX10_setEntry_14 (Nat.le_of_ble_eq_true rfl) (Nat.le_of_ble_eq_true rfl) ⟨rfl, rfl, e1.symm⟩
theorem c_isLetter {G : mm_G} {l : Launch} {d nx : Nat} {h : Nat → mm_E} {a : Int32} : mm_Con G l yX10_isLetter cX10_isLetter 1 (some .boolean) d 0 0 [.int a] nx h (mm_ret (some (.int (if a < 97 then 0 else if 122 < a then 0 else 1))) nx h) := by
  refine mm_start (lo := [some (.int a)]) pn_X10 rfl rfl (Nat.le_of_ble_eq_true rfl) ?_
  refine mt_iload_n (pc := 0) dX10_isLetter_0 rfl ?_
  refine mt_bipush (pc := 1) (v := 97) dX10_isLetter_1 (by decide) ?_
  refine mt_icmp_lt (pc := 3) (tgt := 16) dX10_isLetter_3 (by decide) (fun c3 => ?_) (fun c3 => ?_)
  · skip
    refine mt_iconst (pc := 16) (v := 0) dX10_isLetter_16 (by decide) ?_
    exact mt_zret rfl (by first | exact Or.inl rfl | exact Or.inr rfl) dX10_isLetter_17 (Nat.le_of_ble_eq_true rfl) (Nat.le_of_ble_eq_true rfl) ⟨by simp [*], rfl, rfl⟩
  · skip
    refine mt_iload_n (pc := 6) dX10_isLetter_6 rfl ?_
    refine mt_bipush (pc := 7) (v := 122) dX10_isLetter_7 (by decide) ?_
    refine mt_icmp_gt (pc := 9) (tgt := 16) dX10_isLetter_9 (by decide) (fun c9 => ?_) (fun c9 => ?_)
    · skip
      refine mt_iconst (pc := 16) (v := 0) dX10_isLetter_16 (by decide) ?_
      exact mt_zret rfl (by first | exact Or.inl rfl | exact Or.inr rfl) dX10_isLetter_17 (Nat.le_of_ble_eq_true rfl) (Nat.le_of_ble_eq_true rfl) ⟨by simp [*], rfl, rfl⟩
    · skip
      refine mt_iconst (pc := 12) (v := 1) dX10_isLetter_12 (by decide) ?_
      refine mt_goto (pc := 13) (tgt := 17) dX10_isLetter_13 (by decide) ?_
      exact mt_zret rfl (by first | exact Or.inl rfl | exact Or.inr rfl) dX10_isLetter_17 (Nat.le_of_ble_eq_true rfl) (Nat.le_of_ble_eq_true rfl) ⟨by simp [*], rfl, rfl⟩
theorem c_isDigit {G : mm_G} {l : Launch} {d nx : Nat} {h : Nat → mm_E} {a : Int32} : mm_Con G l yX10_isDigit cX10_isDigit 1 (some .boolean) d 0 0 [.int a] nx h (mm_ret (some (.int (if a < 48 then 0 else if 57 < a then 0 else 1))) nx h) := by
  refine mm_start (lo := [some (.int a)]) pn_X10 rfl rfl (Nat.le_of_ble_eq_true rfl) ?_
  refine mt_iload_n (pc := 0) dX10_isDigit_0 rfl ?_
  refine mt_bipush (pc := 1) (v := 48) dX10_isDigit_1 (by decide) ?_
  refine mt_icmp_lt (pc := 3) (tgt := 16) dX10_isDigit_3 (by decide) (fun c3 => ?_) (fun c3 => ?_)
  · skip
    refine mt_iconst (pc := 16) (v := 0) dX10_isDigit_16 (by decide) ?_
    exact mt_zret rfl (by first | exact Or.inl rfl | exact Or.inr rfl) dX10_isDigit_17 (Nat.le_of_ble_eq_true rfl) (Nat.le_of_ble_eq_true rfl) ⟨by simp [*], rfl, rfl⟩
  · skip
    refine mt_iload_n (pc := 6) dX10_isDigit_6 rfl ?_
    refine mt_bipush (pc := 7) (v := 57) dX10_isDigit_7 (by decide) ?_
    refine mt_icmp_gt (pc := 9) (tgt := 16) dX10_isDigit_9 (by decide) (fun c9 => ?_) (fun c9 => ?_)
    · skip
      refine mt_iconst (pc := 16) (v := 0) dX10_isDigit_16 (by decide) ?_
      exact mt_zret rfl (by first | exact Or.inl rfl | exact Or.inr rfl) dX10_isDigit_17 (Nat.le_of_ble_eq_true rfl) (Nat.le_of_ble_eq_true rfl) ⟨by simp [*], rfl, rfl⟩
    · skip
      refine mt_iconst (pc := 12) (v := 1) dX10_isDigit_12 (by decide) ?_
      refine mt_goto (pc := 13) (tgt := 17) dX10_isDigit_13 (by decide) ?_
      exact mt_zret rfl (by first | exact Or.inl rfl | exact Or.inr rfl) dX10_isDigit_17 (Nat.le_of_ble_eq_true rfl) (Nat.le_of_ble_eq_true rfl) ⟨by simp [*], rfl, rfl⟩
