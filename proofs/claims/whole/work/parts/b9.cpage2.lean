/-! Constructors: Page, CryptBank. -/
theorem kl_X3_9 : Cond.classLink RX3 9 "CryptBank$State" ∈ mm_ws := mm_in 209 (by decide +kernel) rfl
theorem kl_X10_62 : Cond.classLink RX10 62 "CryptBank$Page" ∈ mm_ws := mm_in 203 (by decide +kernel) rfl
section CCC
variable {G : mm_G} {l : Launch} {d nx : Nat} {h : Nat → mm_E}
theorem c_X3i {b : Nat} (hd : 6 ≤ d) (hb : b < 700000) (hao : va_AO "CryptBank$State" (mm_s0 G)) (hh : h b = .inr (3, [.null, .null, .int 0])) (hw : mm_wf (b + 1) h) : mm_Con G l yX3_init cX3_init 2 none d 35 1461 [.ref b] (b + 1) h (fun o n m => o = .inl none ∧ n = b + 36 ∧ PGm b 16 h m) := by
  have hlo : ∀ v, some v ∈ ([some (.ref b), none] : List (Option Value)) → ∀ n, b < n → mm_vw n v := by
    intro v hv n hn
    simp at hv
    subst hv
    exact mm_vw_ref hn
  refine mm_start (lo := [some (.ref b), none]) pn_X3 rfl rfl (Nat.le_of_ble_eq_true rfl) ?_
  refine mt_aload_n (pc := 0) dX3_init_0 rfl ?_
  refine mt_objI (pc := 1) ol_X3 dX3_init_1 (by show 1 ≤ d; omega) (Nat.le_of_ble_eq_true rfl) ?_
  refine mt_aload_n (pc := 4) dX3_init_4 rfl ?_
  have hw1 : mm_wf (b + 1 + 1) (hset h (b + 1) (.inr (6, [.null]))) := mm_wf_push hw (mm_ew_obj fun v hv => by rcases List.mem_singleton.mp hv with rfl; exact mm_vw_null _)
  refine mt_mkO (pc := 5) (i := b) (ci := 3) (fs := [.null, .null, .int 0]) dX3_init_5 dX3_init_8 dX3_init_9 dX3_init_12 nf_X3_9 (fun v hv => by rcases List.mem_singleton.mp hv with rfl; exact mm_vw_null _) (c_X6i (d := 4) (i := b + 1) (Nat.le_refl 4) (Nat.lt_succ_self _) (by omega) (hset_eq _ _ _) hw1) cal_X6_init rfl ii_X6 (Or.inr ⟨_, mn_X3_11⟩) pf_X3_12 rfl (by show _ ≤ d; omega) (Nat.le_of_ble_eq_true rfl) (Nat.le_of_ble_eq_true rfl) (fun x n k hx => by simp at hx) (Nat.le_of_ble_eq_true rfl) (Nat.lt_succ_self _) (by omega) hw (fun v hv => hlo v hv _ (by omega)) ?_
  rintro v9 n9 m ⟨hv9, rfl, hwm, hF, m1, m2⟩
  cases hv9
  have e : ∀ j, j < b + 1 → m j = h j := fun j hj => (hF j (by omega) (by omega)).trans (hset_ne (by omega))
  refine ⟨rfl, by omega, (e b (by omega)).trans hh, hwm, fun hw2 => ?_⟩
  refine mt_aload_n (pc := 15) dX3_init_15 rfl ?_
  refine mt_bipush (pc := 16) (v := 16) dX3_init_16 (by decide) ?_
  refine mt_newq (pc := 18) (q := 3) (N := 16) rfl kl_X3_9 hao dX3_init_18 (by decide) (by decide) (by decide) (by omega) hw2 (fun v hv => by rcases List.mem_singleton.mp hv with rfl; exact mm_vw_ref (by omega)) (fun v hv => hlo v hv _ (by omega)) (Nat.le_of_ble_eq_true rfl) (Nat.le_of_ble_eq_true rfl) ?_
  have hw3 := mm_wf_push (e := psE2 b 0) hw2 (psC_ew (by omega))
  refine mt_putr (pc := 21) pf_X3_18 rfl (fun _ => rfl) (fun _ => rfl) dX3_init_21 (by omega) (by rw [hset_ne (by omega), hset_eq]) (Nat.le_of_ble_eq_true rfl) ?_
  refine mt_iconst (pc := 24) (v := 0) dX3_init_24 (by decide) ?_
  refine mt_istore_n (pc := 25) dX3_init_25 (Nat.le_of_ble_eq_true rfl) rfl ?_
  refine l_X3i (h0 := h) hd (by omega) hao (fun m2 hP => ⟨rfl, rfl, hP⟩) 16 0 _ rfl ⟨?_, fun j hj => ?_, hset_eq _ _ _, ?_, ?_, ?_, fun i hi => absurd hi (Nat.not_lt_zero i)⟩
  · exact mm_wf_set hw3 (mm_ew_set (k := 1) (j := b + 3) (mm_wf_at (i := b) hw3 (by omega) (by rw [hset_ne (by omega), hset_eq])) (Nat.le_refl _) (by omega))
  · rw [hset_ne (by omega), hset_ne (by omega), hset_ne (by omega)]
    exact e j (by omega)
  · rw [hset_ne (by omega), hset_ne (by omega), hset_ne (by omega)]
    exact m1
  · rw [hset_ne (by omega), hset_ne (by omega), hset_ne (by omega)]
    exact m2
  · rw [hset_ne (by omega)]
    exact hset_eq _ _ _
end CCC
