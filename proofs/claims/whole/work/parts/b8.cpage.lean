/-! Constructors: Rules, Page. -/
section CCB
variable {G : mm_G} {l : Launch} {d nx : Nat} {h : Nat → mm_E}
theorem c_X4i {i a b : Nat} (hd : 4 ≤ d) (hi : i < nx) (ha : a < nx) (hb : b < nx) (hh : h i = .inr (4, [.null, .null])) (hw : mm_wf nx h) : mm_Con G l yX4_init cX4_init 3 none d 0 0 [.ref i, .ref a, .ref b] nx h (fun o n m => o = .inl none ∧ n = nx ∧ mm_wf nx m ∧ FRi nx i h m ∧ m i = .inr (4, [.ref a, .ref b])) := by
  refine mm_start (lo := [some (.ref i), some (.ref a), some (.ref b)]) pn_X4 rfl rfl (Nat.le_of_ble_eq_true rfl) ?_
  refine mt_aload_n (pc := 0) dX4_init_0 rfl ?_
  refine mt_objI (pc := 1) ol_X4 dX4_init_1 (by show 1 ≤ d; omega) (Nat.le_of_ble_eq_true rfl) ?_
  refine mt_aload_n (pc := 4) dX4_init_4 rfl ?_
  refine mt_aload_n (pc := 5) dX4_init_5 rfl ?_
  refine mt_putr (pc := 6) pf_X4_9 rfl (fun _ => rfl) (fun _ => rfl) dX4_init_6 hi hh (Nat.le_of_ble_eq_true rfl) ?_
  refine mt_aload_n (pc := 9) dX4_init_9 rfl ?_
  refine mt_aload_n (pc := 10) dX4_init_10 rfl ?_
  refine mt_putr (pc := 11) pf_X4_15 rfl (fun _ => rfl) (fun _ => rfl) dX4_init_11 hi (hset_eq _ _ _) (Nat.le_of_ble_eq_true rfl) ?_
  have hE := mm_ew_set (k := 1) (mm_ew_set (k := 0) (mm_wf_at hw hi hh) (Nat.le_refl _) ha) (Nat.le_refl _) hb
  refine mt_vret rfl dX4_init_14 (Nat.le_of_ble_eq_true rfl) (Nat.le_of_ble_eq_true rfl) ⟨rfl, rfl, ?_, fun j h1 h2 => by rw [hset_ne h2, hset_ne h2], hset_eq _ _ _⟩
  rw [hset_hset]
  exact mm_wf_set hw hE
def psC (b c : Nat) : Nat → Option Nat := fun k => if k < c then some (b + 4 + 2 * k) else none
abbrev psE2 (b c : Nat) : mm_E := .inl (3, 16, .inr (.inr (.inr (.inr (psC b c)))))
theorem psC_s (b c : Nat) : va_up (psC b c) c (some (b + 4 + 2 * c)) = psC b (c + 1) := by
  funext k
  by_cases hk : k = c
  · subst hk
    rw [va_up_self]
    exact (if_pos (Nat.lt_succ_self k)).symm
  · rw [va_up_ne _ _ hk]
    unfold psC
    by_cases h2 : k < c
    · rw [if_pos h2, if_pos (by omega)]
    · rw [if_neg h2, if_neg (by omega)]
theorem psC_ew {b c nx : Nat} (h : b + 4 + 2 * c ≤ nx) : mm_ew nx (psE2 b c) := mm_ew_q fun j r hr => by
  unfold psC at hr
  split at hr
  · cases hr
    omega
  · cases hr
/-- a page in the making: c past states -/
def PGm (b c : Nat) (h0 h : Nat → mm_E) : Prop := mm_wf (b + 4 + 2 * c) h ∧ (∀ j, j < b → h j = h0 j) ∧ h b = pgE b 0 ∧ h (b + 1) = stE (b + 2) ∧ h (b + 2) = rwE (fun _ => 0) ∧ h (b + 3) = psE2 b c ∧ ∀ i, i < c → h (b + 4 + 2 * i) = stE (b + 5 + 2 * i) ∧ h (b + 5 + 2 * i) = rwE (fun _ => 0)
theorem l_X3i {b : Nat} {h0 : Nat → mm_E} {Po : mm_P} (hd : 6 ≤ d) (hb : b < 800000) (hao : va_AO "CryptBank$State" (mm_s0 G)) (kx : ∀ h, PGm b 16 h0 h → Po (.inl none) (b + 36) h) : ∀ (q c : Nat) (h : Nat → mm_E), c + q = 16 → PGm b c h0 h → mm_T (G, l, yX3_init, 2, none, d, 35, 1461, Po, b + 1) RX3 cX3_init (b + 4 + 2 * c) h (3 + 2 * c) (101 + 85 * c) 26 [some (.ref b), some (.int (nI c))] [] := by
  intro q
  induction q with
  | zero =>
    intro c h hc hP
    obtain rfl : c = 16 := by omega
    obtain ⟨p1, p2, p3, p4, p5, p6, p7⟩ := id hP
    refine mt_iload_n (pc := 26) dX3_init_26 rfl ?_
    refine mt_aload_n (pc := 27) dX3_init_27 rfl ?_
    refine mt_get (pc := 28) gf_X3_18 dX3_init_28 (by omega) p3 rfl ?_
    refine mt_alen (pc := 31) dX3_init_31 (by omega) p6 (by decide) ?_
    refine mt_icmp_ge (pc := 32) (tgt := 54) dX3_init_32 (by decide) (fun c32 => ?_) (fun c32 => absurd (nI_le (Nat.le_refl 16) (by decide)) c32)
    exact mt_vret rfl dX3_init_54 (Nat.le_of_ble_eq_true rfl) (Nat.le_of_ble_eq_true rfl) (kx h hP)
  | succ q ih =>
    intro c h hc hP
    obtain ⟨p1, p2, p3, p4, p5, p6, p7⟩ := id hP
    have hlo : ∀ v, some v ∈ ([some (.ref b), some (.int (nI c))] : List (Option Value)) → ∀ n, b < n → mm_vw n v := by
      intro v hv n hn
      simp at hv
      rcases hv with rfl | rfl
      · exact mm_vw_ref hn
      · exact mm_vw_int _ _
    have hst : ∀ v ∈ ([.int (nI c), .ref (b + 3)] : List Value), ∀ n, b + 3 < n → mm_vw n v := by
      intro v hv n hn
      simp at hv
      rcases hv with rfl | rfl
      · exact mm_vw_int _ _
      · exact mm_vw_ref hn
    refine mt_iload_n (pc := 26) dX3_init_26 rfl ?_
    refine mt_aload_n (pc := 27) dX3_init_27 rfl ?_
    refine mt_get (pc := 28) gf_X3_18 dX3_init_28 (by omega) p3 rfl ?_
    refine mt_alen (pc := 31) dX3_init_31 (by omega) p6 (by decide) ?_
    refine mt_icmp_ge (pc := 32) (tgt := 54) dX3_init_32 (by decide) (fun c32 => absurd c32 (nI_ge (by omega) (by decide))) (fun c32 => ?_)
    refine mt_aload_n (pc := 35) dX3_init_35 rfl ?_
    refine mt_get (pc := 36) gf_X3_18 dX3_init_36 (by omega) p3 rfl ?_
    refine mt_iload_n (pc := 39) dX3_init_39 rfl ?_
    refine mt_new (pc := 40) nf_X3_9 dX3_init_40 (by omega) p1 (fun v hv => hst v hv _ (by omega)) (fun v hv => hlo v hv _ (by omega)) (by show _ ≤ 35; omega) (by show _ ≤ 1461; omega) ?_
    refine mt_dup (pc := 43) dX3_init_43 rfl ?_
    have hw1 : mm_wf (b + 4 + 2 * c + 1) (hset h (b + 4 + 2 * c) (.inr (6, [.null]))) := mm_wf_push p1 (mm_ew_obj fun v hv => by rcases List.mem_singleton.mp hv with rfl; exact mm_vw_null _)
    refine mt_callIN (pc := 44) (av := []) (c_X6i (d := 4) (i := b + 4 + 2 * c) (Nat.le_refl 4) (Nat.lt_succ_self _) (by omega) (hset_eq _ _ _) hw1) cal_X6_init rfl ii_X6 mn_X3_11 dX3_init_44 (by show _ ≤ d; omega) ⟨by show _ ≤ 35; omega, by show _ ≤ 1461; omega⟩ rfl rfl (Nat.le_of_ble_eq_true rfl) (fun x n k hx => by simp at hx) (fun v hv => hlo v hv _ (by omega)) (fun v hv => ?_) ?_
    · rcases List.mem_cons.mp hv with rfl | hv
      · exact mm_vw_ref (Nat.lt_succ_self _)
      · exact hst v hv _ (by omega)
    rintro v9 n9 m ⟨hv9, rfl, hwm, hF, m1, m2⟩
    cases hv9
    have e : ∀ j, j < b + 4 + 2 * c → m j = h j := fun j hj => (hF j (by omega) (by omega)).trans (hset_ne (by omega))
    refine mt_astq (pc := 47) (q := 3) (ci := 6) (v := b + 4 + 2 * c) (i := b + 3) rfl rfl dX3_init_47 (by omega) ((e _ (by omega)).trans p6) (by omega) m1 (vp_in_nI (by omega) (by decide)) ?_
    rw [nI_clamp (by omega), psC_s]
    refine mt_iinc (pc := 48) (c9 := 1) dX3_init_48 rfl (by decide) (Nat.le_of_ble_eq_true rfl) rfl ?_
    refine mt_goto (pc := 51) (tgt := 26) dX3_init_51 (by decide) ?_
    rw [show (nI c + 1 : Int32) = nI (c + 1) from nI_1 c]
    have := ih (c + 1) (hset m (b + 3) (psE2 b (c + 1))) (by omega) ⟨?_, fun j hj => ?_, ?_, ?_, ?_, hset_eq _ _ _, fun i hi => ?_⟩
    · rw [show b + 4 + 2 * (c + 1) = b + 4 + 2 * c + 1 + 1 by omega, show 3 + 2 * (c + 1) = 3 + 2 * c + 1 + 1 by omega, show 101 + 85 * (c + 1) = 101 + 85 * c + 1 + 84 by omega] at this
      exact this
    · rw [show b + 4 + 2 * (c + 1) = b + 4 + 2 * c + 1 + 1 by omega]
      exact mm_wf_set hwm (psC_ew (by omega))
    · rw [hset_ne (by omega), e j (by omega)]
      exact p2 j hj
    · rw [hset_ne (by omega), e _ (by omega)]
      exact p3
    · rw [hset_ne (by omega), e _ (by omega)]
      exact p4
    · rw [hset_ne (by omega), e _ (by omega)]
      exact p5
    · rcases Nat.lt_or_ge i c with hi2 | hi2
      · rw [hset_ne (by omega), hset_ne (by omega), e _ (by omega), e _ (by omega)]
        exact p7 i hi2
      · obtain rfl : i = c := by omega
        rw [hset_ne (by omega), hset_ne (by omega)]
        exact ⟨by rw [m1, show b + 5 + 2 * i = b + 4 + 2 * i + 1 by omega], by rw [show b + 5 + 2 * i = b + 4 + 2 * i + 1 by omega]; exact m2⟩
end CCB
