/-! Rules: what is owed, lend, pay, earn, seal, open, nights. -/
/-- what a method promises that changes the law's scratch alone -/
def P_ow (v : Int32) (nx : Nat) (h : Nat → mm_E) : mm_P := fun o n m => o = .inl (some (.int v)) ∧ n = nx ∧ FRl h m
theorem lawV_of {cs : List Nat} {F F' : Nat → Int32} {v : Int32} (h : ∀ j, j < 8 → F j = F' j) (he : evL F cs [] = some [v]) : lawV cs F' = v := by
  rw [evL_congr h] at he
  simp only [lawV, he]
section RULES2
variable {G : mm_G} {l : Launch} {d nx : Nat} {h : Nat → mm_E} {s r : Nat} {f : Nat → Int32} {k : CS} {cs : List Nat}
theorem c_rowes {i a p : Nat} (hd : 3 ≤ d) (hx : 34 ≤ nx) (hi : i < 10) (ha : f (24 + 6 * i + 0) = nI a) (ha6 : a < 6) (hp : f (24 + 6 * i + 1) = nI p) (hp8 : p < 8) (hA : LA h cs) (hW : LWF cs) (hC : CO h k) (h33 : h 33 = ruE) (hs5 : 35 ≤ s) (hr5 : 35 ≤ r) (hs : s < nx) (hr : r < nx) (hS : h s = stE r) (hR : h r = rwE f) : mm_Con G l yX4_owes cX4_owes 6 (some .int) d 0 0 [.ref 33, .ref s, .int (nI i)] nx h (P_ow (owV k cs f i a p) nx h) := by
  obtain ⟨a15, ⟨R, a16, aR⟩, ⟨F, a17⟩, S, a18⟩ := hA
  have c1 := hC.1
  refine mm_start (lo := [some (.ref 33), some (.ref s), some (.int (nI i)), none, none, none]) pn_X4 rfl rfl (Nat.le_of_ble_eq_true rfl) ?_
  refine mt_aload_n (pc := 0) dX4_owes_0 rfl ?_
  refine mt_iload_n (pc := 1) dX4_owes_1 rfl ?_
  refine mt_iconst (pc := 2) (v := 0) dX4_owes_2 (by decide) ?_
  refine mt_cV (pc := 3) (c_ofLoan (d := 1) (k := 0) (Nat.le_refl 1) hi (by decide) hs hr hS hR) cal_X6_ofLoan vir_X6_ofLoan ml_X4_46 dX4_owes_3 (by first | assumption | omega) (by repeat (first | exact hset_eq _ _ _ | assumption | rw [hset_ne (by first | assumption | decide | omega)])) (by first | assumption | (show _ ≤ d; omega)) ⟨(Nat.le_of_ble_eq_true rfl), (Nat.le_of_ble_eq_true rfl)⟩ rfl rfl (Nat.le_of_ble_eq_true rfl) ?_
  rw [ha]
  refine mt_istore_n (pc := 6) dX4_owes_6 (Nat.le_of_ble_eq_true rfl) rfl ?_
  refine mt_aload_n (pc := 7) dX4_owes_7 rfl ?_
  refine mt_iload_n (pc := 8) dX4_owes_8 rfl ?_
  refine mt_iconst (pc := 9) (v := 1) dX4_owes_9 (by decide) ?_
  refine mt_cV (pc := 10) (c_ofLoan (d := 1) (k := 1) (Nat.le_refl 1) hi (by decide) hs hr hS hR) cal_X6_ofLoan vir_X6_ofLoan ml_X4_46 dX4_owes_10 (by first | assumption | omega) (by repeat (first | exact hset_eq _ _ _ | assumption | rw [hset_ne (by first | assumption | decide | omega)])) (by first | assumption | (show _ ≤ d; omega)) ⟨(Nat.le_of_ble_eq_true rfl), (Nat.le_of_ble_eq_true rfl)⟩ rfl rfl (Nat.le_of_ble_eq_true rfl) ?_
  rw [hp]
  refine mt_istore (pc := 13) dX4_owes_13 (Nat.le_of_ble_eq_true rfl) rfl ?_
  refine mt_aload_n (pc := 15) dX4_owes_15 rfl ?_
  refine mt_cV (pc := 16) (c_night (d := 1) hs hr hS hR) cal_X6_night vir_X6_night ml_X4_50 dX4_owes_16 (by first | assumption | omega) (by repeat (first | exact hset_eq _ _ _ | assumption | rw [hset_ne (by first | assumption | decide | omega)])) (by first | assumption | (show _ ≤ d; omega)) ⟨(Nat.le_of_ble_eq_true rfl), (Nat.le_of_ble_eq_true rfl)⟩ rfl rfl (Nat.le_of_ble_eq_true rfl) ?_
  refine mt_aload_n (pc := 19) dX4_owes_19 rfl ?_
  refine mt_iload_n (pc := 20) dX4_owes_20 rfl ?_
  refine mt_iconst (pc := 21) (v := 3) dX4_owes_21 (by decide) ?_
  refine mt_cV (pc := 22) (c_ofLoan (d := 1) (k := 3) (Nat.le_refl 1) hi (by decide) hs hr hS hR) cal_X6_ofLoan vir_X6_ofLoan ml_X4_46 dX4_owes_22 (by first | assumption | omega) (by repeat (first | exact hset_eq _ _ _ | assumption | rw [hset_ne (by first | assumption | decide | omega)])) (by first | assumption | (show _ ≤ d; omega)) ⟨(Nat.le_of_ble_eq_true rfl), (Nat.le_of_ble_eq_true rfl)⟩ rfl rfl (Nat.le_of_ble_eq_true rfl) ?_
  refine mt_isub (pc := 25) dX4_owes_25 ?_
  refine mt_istore (pc := 26) dX4_owes_26 (Nat.le_of_ble_eq_true rfl) rfl ?_
  refine mt_aload_n (pc := 28) dX4_owes_28 rfl ?_
  refine mt_get (pc := 29) gf_X4_15 dX4_owes_29 (by first | assumption | omega) (by repeat (first | exact hset_eq _ _ _ | assumption | rw [hset_ne (by first | assumption | decide | omega)])) rfl ?_
  refine mt_aload_n (pc := 32) dX4_owes_32 rfl ?_
  refine mt_iload_n (pc := 33) dX4_owes_33 rfl ?_
  refine mt_iconst (pc := 34) (v := 2) dX4_owes_34 (by decide) ?_
  refine mt_cV (pc := 35) (c_ofLoan (d := 1) (k := 2) (Nat.le_refl 1) hi (by decide) hs hr hS hR) cal_X6_ofLoan vir_X6_ofLoan ml_X4_46 dX4_owes_35 (by first | assumption | omega) (by repeat (first | exact hset_eq _ _ _ | assumption | rw [hset_ne (by first | assumption | decide | omega)])) (by first | assumption | (show _ ≤ d; omega)) ⟨(Nat.le_of_ble_eq_true rfl), (Nat.le_of_ble_eq_true rfl)⟩ rfl rfl (Nat.le_of_ble_eq_true rfl) ?_
  refine mt_iload (pc := 38) dX4_owes_38 rfl ?_
  refine mt_aload_n (pc := 40) dX4_owes_40 rfl ?_
  refine mt_get (pc := 41) gf_X4_9 dX4_owes_41 (by first | assumption | omega) (by repeat (first | exact hset_eq _ _ _ | assumption | rw [hset_ne (by first | assumption | decide | omega)])) rfl ?_
  refine mt_iload (pc := 44) dX4_owes_44 rfl ?_
  refine mt_cV (pc := 46) (c_kindOf (d := 1) (Nat.le_refl 1) hx hp8 hC) cal_X1_kindOf vir_X1_kindOf ml_X4_53 dX4_owes_46 (by first | assumption | omega) (by repeat (first | exact hset_eq _ _ _ | assumption | rw [hset_ne (by first | assumption | decide | omega)])) (by first | assumption | (show _ ≤ d; omega)) ⟨(Nat.le_of_ble_eq_true rfl), (Nat.le_of_ble_eq_true rfl)⟩ rfl rfl (Nat.le_of_ble_eq_true rfl) ?_
  refine mt_aload_n (pc := 49) dX4_owes_49 rfl ?_
  refine mt_iload_n (pc := 50) dX4_owes_50 rfl ?_
  refine mt_iload (pc := 51) dX4_owes_51 rfl ?_
  refine mt_cV (pc := 53) (c_kinAsNumber (d := 2) (a := a) (Nat.le_refl 2) hx hp8 hC h33) cal_X4_kinAsNumber vir_X4_kinAsNumber ml_X4_56 dX4_owes_53 (by first | assumption | omega) (by repeat (first | exact hset_eq _ _ _ | assumption | rw [hset_ne (by first | assumption | decide | omega)])) (by first | assumption | (show _ ≤ d; omega)) ⟨(Nat.le_of_ble_eq_true rfl), (Nat.le_of_ble_eq_true rfl)⟩ rfl rfl (Nat.le_of_ble_eq_true rfl) ?_
  refine mt_cV (pc := 56) (c_tellLoan (d := 0) (by omega) a15 a17) cal_X2_tellLoan vir_X2_tellLoan ml_X4_59 dX4_owes_56 (by first | assumption | omega) (by repeat (first | exact hset_eq _ _ _ | assumption | rw [hset_ne (by first | assumption | decide | omega)])) (by first | assumption | (show _ ≤ d; omega)) ⟨(Nat.le_of_ble_eq_true rfl), (Nat.le_of_ble_eq_true rfl)⟩ rfl rfl (Nat.le_of_ble_eq_true rfl) ?_
  refine mt_aload_n (pc := 59) dX4_owes_59 rfl ?_
  refine mt_get (pc := 60) gf_X4_15 dX4_owes_60 (by first | assumption | omega) (by rw [hset_ne (by decide)]; exact h33) rfl ?_
  refine mt_aload_n (pc := 63) dX4_owes_63 rfl ?_
  refine mt_iload_n (pc := 64) dX4_owes_64 rfl ?_
  refine mt_cV (pc := 65) (c_standing (d := 1) (Nat.le_refl 1) ha6 hs hr (by rw [hset_ne (by omega)]; exact hS) (by rw [hset_ne (by omega)]; exact hR)) cal_X6_standing vir_X6_standing ml_X4_29 dX4_owes_65 (by first | assumption | omega) (by repeat (first | exact hset_eq _ _ _ | assumption | rw [hset_ne (by first | assumption | decide | omega)])) (by first | assumption | (show _ ≤ d; omega)) ⟨(Nat.le_of_ble_eq_true rfl), (Nat.le_of_ble_eq_true rfl)⟩ rfl rfl (Nat.le_of_ble_eq_true rfl) ?_
  refine mt_aload_n (pc := 68) dX4_owes_68 rfl ?_
  refine mt_iload (pc := 69) dX4_owes_69 rfl ?_
  refine mt_cV (pc := 71) (c_under (d := 1) (Nat.le_refl 1) hp8 hs hr (by rw [hset_ne (by omega)]; exact hS) (by rw [hset_ne (by omega)]; exact hR)) cal_X6_under vir_X6_under ml_X4_25 dX4_owes_71 (by first | assumption | omega) (by repeat (first | exact hset_eq _ _ _ | assumption | rw [hset_ne (by first | assumption | decide | omega)])) (by first | assumption | (show _ ≤ d; omega)) ⟨(Nat.le_of_ble_eq_true rfl), (Nat.le_of_ble_eq_true rfl)⟩ rfl rfl (Nat.le_of_ble_eq_true rfl) ?_
  refine mt_aload_n (pc := 74) dX4_owes_74 rfl ?_
  refine mt_cV (pc := 75) (c_night (d := 1) hs hr (by rw [hset_ne (by omega)]; exact hS) (by rw [hset_ne (by omega)]; exact hR)) cal_X6_night vir_X6_night ml_X4_50 dX4_owes_75 (by first | assumption | omega) (by repeat (first | exact hset_eq _ _ _ | assumption | rw [hset_ne (by first | assumption | decide | omega)])) (by first | assumption | (show _ ≤ d; omega)) ⟨(Nat.le_of_ble_eq_true rfl), (Nat.le_of_ble_eq_true rfl)⟩ rfl rfl (Nat.le_of_ble_eq_true rfl) ?_
  refine mt_iload_n (pc := 78) dX4_owes_78 rfl ?_
  refine mt_cV (pc := 79) (c_tellRest (d := 0) (by omega) (by rw [hset_ne (by decide)]; exact a15) (hset_eq _ _ _)) cal_X2_tellRest vir_X2_tellRest ml_X4_65 dX4_owes_79 (by first | assumption | omega) (by repeat (first | exact hset_eq _ _ _ | assumption | rw [hset_ne (by first | assumption | decide | omega)])) (by first | assumption | (show _ ≤ d; omega)) ⟨(Nat.le_of_ble_eq_true rfl), (Nat.le_of_ble_eq_true rfl)⟩ rfl rfl (Nat.le_of_ble_eq_true rfl) ?_
  rw [hset_hset]
  obtain ⟨v, hv⟩ := hW.2.2 (upd (upd (upd (upd (upd (upd (upd (upd F 0 (f (24 + 6 * i + 2))) 1 (f 0 - f (24 + 6 * i + 3))) 2 (k.2.2.1 p)) 3 (kinN k a p)) 4 (f (12 + a))) 5 (f (4 + p))) 6 (f 0)) 7 (nI a))
  have hlv := lawV_of fact_base hv
  refine mt_aload_n (pc := 82) dX4_owes_82 rfl ?_
  refine mt_get (pc := 83) gf_X4_15 dX4_owes_83 (by first | assumption | omega) (by rw [hset_ne (by decide)]; exact h33) rfl ?_
  refine mt_aV (pc := 86) (c_owes (d := 1) (Nat.le_refl 1) (by omega) aR hv (by rw [hset_ne (by decide)]; exact a15) (by rw [hset_ne (by decide)]; exact a16) (hset_eq _ _ _) (by rw [hset_ne (by decide)]; exact a18)) cal_X2_owes vir_X2_owes ml_X4_68 dX4_owes_86 (by first | assumption | omega) (by repeat (first | exact hset_eq _ _ _ | assumption | rw [hset_ne (by first | assumption | decide | omega)])) (by first | assumption | (show _ ≤ d; omega)) ⟨(Nat.le_of_ble_eq_true rfl), (Nat.le_of_ble_eq_true rfl)⟩ rfl rfl (Nat.le_of_ble_eq_true rfl) ?_ ?_
  · rintro x9 n9 k9 h9
    simp at h9
  · rintro v9 n9 k9 ⟨hv9, rfl, S', rfl⟩
    cases hv9
    refine ⟨rfl, ?_⟩
    exact mt_iret rfl dX4_owes_89 (Nat.le_of_ble_eq_true rfl) (Nat.le_of_ble_eq_true rfl) ⟨by rw [owV, hlv], rfl, fun j h1 h2 => by rw [hset_ne h2, hset_ne h1], ⟨_, by rw [hset_ne (by decide), hset_eq]⟩, _, hset_eq _ _ _⟩
theorem c_wouldOwe {a p : Nat} {n t : Int32} (hd : 3 ≤ d) (hx : 34 ≤ nx) (ha6 : a < 6) (hp8 : p < 8) (hA : LA h cs) (hW : LWF cs) (hC : CO h k) (h33 : h 33 = ruE) (hs5 : 35 ≤ s) (hr5 : 35 ≤ r) (hs : s < nx) (hr : r < nx) (hS : h s = stE r) (hR : h r = rwE f) : mm_Con G l yX4_wouldOwe cX4_wouldOwe 6 (some .int) d 0 0 [.ref 33, .ref s, .int (nI a), .int (nI p), .int n, .int t] nx h (P_ow (clamp (lawV cs (factF n t (k.2.2.1 p) (kinN k a p) (f (12 + a)) (f (4 + p) - n) (f 0 + t) (nI a)))) nx h) := by
  obtain ⟨a15, ⟨R, a16, aR⟩, ⟨F, a17⟩, S, a18⟩ := hA
  have c1 := hC.1
  refine mm_start (lo := [some (.ref 33), some (.ref s), some (.int (nI a)), some (.int (nI p)), some (.int n), some (.int t)]) pn_X4 rfl rfl (Nat.le_of_ble_eq_true rfl) ?_
  refine mt_aload_n (pc := 0) dX4_wouldOwe_0 rfl ?_
  refine mt_get (pc := 1) gf_X4_15 dX4_wouldOwe_1 (by first | assumption | omega) (by repeat (first | exact hset_eq _ _ _ | assumption | rw [hset_ne (by first | assumption | decide | omega)])) rfl ?_
  refine mt_iload (pc := 4) dX4_wouldOwe_4 rfl ?_
  refine mt_iload (pc := 6) dX4_wouldOwe_6 rfl ?_
  refine mt_aload_n (pc := 8) dX4_wouldOwe_8 rfl ?_
  refine mt_get (pc := 9) gf_X4_9 dX4_wouldOwe_9 (by first | assumption | omega) (by repeat (first | exact hset_eq _ _ _ | assumption | rw [hset_ne (by first | assumption | decide | omega)])) rfl ?_
  refine mt_iload_n (pc := 12) dX4_wouldOwe_12 rfl ?_
  refine mt_cV (pc := 13) (c_kindOf (d := 1) (Nat.le_refl 1) hx hp8 hC) cal_X1_kindOf vir_X1_kindOf ml_X4_53 dX4_wouldOwe_13 (by first | assumption | omega) (by repeat (first | exact hset_eq _ _ _ | assumption | rw [hset_ne (by first | assumption | decide | omega)])) (by first | assumption | (show _ ≤ d; omega)) ⟨(Nat.le_of_ble_eq_true rfl), (Nat.le_of_ble_eq_true rfl)⟩ rfl rfl (Nat.le_of_ble_eq_true rfl) ?_
  refine mt_aload_n (pc := 16) dX4_wouldOwe_16 rfl ?_
  refine mt_iload_n (pc := 17) dX4_wouldOwe_17 rfl ?_
  refine mt_iload_n (pc := 18) dX4_wouldOwe_18 rfl ?_
  refine mt_cV (pc := 19) (c_kinAsNumber (d := 2) (a := a) (Nat.le_refl 2) hx hp8 hC h33) cal_X4_kinAsNumber vir_X4_kinAsNumber ml_X4_56 dX4_wouldOwe_19 (by first | assumption | omega) (by repeat (first | exact hset_eq _ _ _ | assumption | rw [hset_ne (by first | assumption | decide | omega)])) (by first | assumption | (show _ ≤ d; omega)) ⟨(Nat.le_of_ble_eq_true rfl), (Nat.le_of_ble_eq_true rfl)⟩ rfl rfl (Nat.le_of_ble_eq_true rfl) ?_
  refine mt_cV (pc := 22) (c_tellLoan (d := 0) (by omega) a15 a17) cal_X2_tellLoan vir_X2_tellLoan ml_X4_59 dX4_wouldOwe_22 (by first | assumption | omega) (by repeat (first | exact hset_eq _ _ _ | assumption | rw [hset_ne (by first | assumption | decide | omega)])) (by first | assumption | (show _ ≤ d; omega)) ⟨(Nat.le_of_ble_eq_true rfl), (Nat.le_of_ble_eq_true rfl)⟩ rfl rfl (Nat.le_of_ble_eq_true rfl) ?_
  refine mt_aload_n (pc := 25) dX4_wouldOwe_25 rfl ?_
  refine mt_get (pc := 26) gf_X4_15 dX4_wouldOwe_26 (by first | assumption | omega) (by rw [hset_ne (by decide)]; exact h33) rfl ?_
  refine mt_aload_n (pc := 29) dX4_wouldOwe_29 rfl ?_
  refine mt_iload_n (pc := 30) dX4_wouldOwe_30 rfl ?_
  refine mt_cV (pc := 31) (c_standing (d := 1) (Nat.le_refl 1) ha6 hs hr (by rw [hset_ne (by omega)]; exact hS) (by rw [hset_ne (by omega)]; exact hR)) cal_X6_standing vir_X6_standing ml_X4_29 dX4_wouldOwe_31 (by first | assumption | omega) (by repeat (first | exact hset_eq _ _ _ | assumption | rw [hset_ne (by first | assumption | decide | omega)])) (by first | assumption | (show _ ≤ d; omega)) ⟨(Nat.le_of_ble_eq_true rfl), (Nat.le_of_ble_eq_true rfl)⟩ rfl rfl (Nat.le_of_ble_eq_true rfl) ?_
  refine mt_aload_n (pc := 34) dX4_wouldOwe_34 rfl ?_
  refine mt_iload_n (pc := 35) dX4_wouldOwe_35 rfl ?_
  refine mt_cV (pc := 36) (c_under (d := 1) (Nat.le_refl 1) hp8 hs hr (by rw [hset_ne (by omega)]; exact hS) (by rw [hset_ne (by omega)]; exact hR)) cal_X6_under vir_X6_under ml_X4_25 dX4_wouldOwe_36 (by first | assumption | omega) (by repeat (first | exact hset_eq _ _ _ | assumption | rw [hset_ne (by first | assumption | decide | omega)])) (by first | assumption | (show _ ≤ d; omega)) ⟨(Nat.le_of_ble_eq_true rfl), (Nat.le_of_ble_eq_true rfl)⟩ rfl rfl (Nat.le_of_ble_eq_true rfl) ?_
  refine mt_iload (pc := 39) dX4_wouldOwe_39 rfl ?_
  refine mt_isub (pc := 41) dX4_wouldOwe_41 ?_
  refine mt_aload_n (pc := 42) dX4_wouldOwe_42 rfl ?_
  refine mt_cV (pc := 43) (c_night (d := 1) hs hr (by rw [hset_ne (by omega)]; exact hS) (by rw [hset_ne (by omega)]; exact hR)) cal_X6_night vir_X6_night ml_X4_50 dX4_wouldOwe_43 (by first | assumption | omega) (by repeat (first | exact hset_eq _ _ _ | assumption | rw [hset_ne (by first | assumption | decide | omega)])) (by first | assumption | (show _ ≤ d; omega)) ⟨(Nat.le_of_ble_eq_true rfl), (Nat.le_of_ble_eq_true rfl)⟩ rfl rfl (Nat.le_of_ble_eq_true rfl) ?_
  refine mt_iload (pc := 46) dX4_wouldOwe_46 rfl ?_
  refine mt_iadd (pc := 48) dX4_wouldOwe_48 ?_
  refine mt_iload_n (pc := 49) dX4_wouldOwe_49 rfl ?_
  refine mt_cV (pc := 50) (c_tellRest (d := 0) (by omega) (by rw [hset_ne (by decide)]; exact a15) (hset_eq _ _ _)) cal_X2_tellRest vir_X2_tellRest ml_X4_65 dX4_wouldOwe_50 (by first | assumption | omega) (by repeat (first | exact hset_eq _ _ _ | assumption | rw [hset_ne (by first | assumption | decide | omega)])) (by first | assumption | (show _ ≤ d; omega)) ⟨(Nat.le_of_ble_eq_true rfl), (Nat.le_of_ble_eq_true rfl)⟩ rfl rfl (Nat.le_of_ble_eq_true rfl) ?_
  rw [hset_hset]
  obtain ⟨v, hv⟩ := hW.2.2 (upd (upd (upd (upd (upd (upd (upd (upd F 0 n) 1 t) 2 (k.2.2.1 p)) 3 (kinN k a p)) 4 (f (12 + a))) 5 (f (4 + p) - n)) 6 (f 0 + t)) 7 (nI a))
  have hlv := lawV_of fact_base hv
  refine mt_aload_n (pc := 53) dX4_wouldOwe_53 rfl ?_
  refine mt_get (pc := 54) gf_X4_15 dX4_wouldOwe_54 (by first | assumption | omega) (by rw [hset_ne (by decide)]; exact h33) rfl ?_
  refine mt_aV (pc := 57) (c_owes (d := 1) (Nat.le_refl 1) (by omega) aR hv (by rw [hset_ne (by decide)]; exact a15) (by rw [hset_ne (by decide)]; exact a16) (hset_eq _ _ _) (by rw [hset_ne (by decide)]; exact a18)) cal_X2_owes vir_X2_owes ml_X4_68 dX4_wouldOwe_57 (by first | assumption | omega) (by repeat (first | exact hset_eq _ _ _ | assumption | rw [hset_ne (by first | assumption | decide | omega)])) (by first | assumption | (show _ ≤ d; omega)) ⟨(Nat.le_of_ble_eq_true rfl), (Nat.le_of_ble_eq_true rfl)⟩ rfl rfl (Nat.le_of_ble_eq_true rfl) ?_ ?_
  · rintro x9 n9 k9 h9
    simp at h9
  · rintro v9 n9 k9 ⟨hv9, rfl, S', rfl⟩
    cases hv9
    refine ⟨rfl, ?_⟩
    exact mt_iret rfl dX4_wouldOwe_60 (Nat.le_of_ble_eq_true rfl) (Nat.le_of_ble_eq_true rfl) ⟨by rw [hlv], rfl, fun j h1 h2 => by rw [hset_ne h2, hset_ne h1], ⟨_, by rw [hset_ne (by decide), hset_eq]⟩, _, hset_eq _ _ _⟩
/-- a row whose LOANS name SOULS and SLABS -/
def RW (f : Nat → Int32) (n : Nat) : Prop := f 3 = nI n ∧ n ≤ 10 ∧ ∀ i, i < n → (∃ a, f (24 + 6 * i + 0) = nI a ∧ a < 6) ∧ ∃ p, f (24 + 6 * i + 1) = nI p ∧ p < 8
def lsoul (f : Nat → Int32) (i : Nat) : Nat := (f (24 + 6 * i + 0)).toNatClampNeg
def lslab (f : Nat → Int32) (i : Nat) : Nat := (f (24 + 6 * i + 1)).toNatClampNeg
theorem RW.so {n i : Nat} (hw : RW f n) (hi : i < n) : f (24 + 6 * i + 0) = nI (lsoul f i) ∧ lsoul f i < 6 := by
  obtain ⟨a, h1, h2⟩ := (hw.2.2 i hi).1
  have e1 : lsoul f i = a := by rw [lsoul, h1, nI_clamp (by omega)]
  rw [e1]
  exact ⟨h1, h2⟩
theorem RW.sl {n i : Nat} (hw : RW f n) (hi : i < n) : f (24 + 6 * i + 1) = nI (lslab f i) ∧ lslab f i < 8 := by
  obtain ⟨a, h1, h2⟩ := (hw.2.2 i hi).2
  have e1 : lslab f i = a := by rw [lslab, h1, nI_clamp (by omega)]
  rw [e1]
  exact ⟨h1, h2⟩
/-- what LOAN i owes in a row -/
def owI (k : CS) (cs : List Nat) (f : Nat → Int32) (i : Nat) : Int32 := owV k cs f i (lsoul f i) (lslab f i)
/-- what all LOANS of a soul owe (of all: who = -1) -/
def owA (k : CS) (cs : List Nat) (f : Nat → Int32) (who : Int32) : Nat → Int32 := fld (fun i acc => if who = -1 ∨ f (24 + 6 * i + 0) = who then acc + owI k cs f i else acc) 0
theorem c_owesInAll {n : Nat} {who : Int32} (hd : 4 ≤ d) (hx : 34 ≤ nx) (hw : RW f n) (hA : LA h cs) (hW : LWF cs) (hC : CO h k) (h33 : h 33 = ruE) (hs5 : 35 ≤ s) (hr5 : 35 ≤ r) (hs : s < nx) (hr : r < nx) (hS : h s = stE r) (hR : h r = rwE f) : mm_Con G l yX4_owesInAll cX4_owesInAll 5 (some .int) d 0 0 [.ref 33, .ref s, .int who] nx h (P_ow (owA k cs f who n) nx h) := by
  have hw2 := hw.2.1
  have loop : ∀ (q i : Nat) (h' : Nat → mm_E), i + q = n → FRl h h' → mm_T (G, l, yX4_owesInAll, 5, some .int, d, 0, 0, P_ow (owA k cs f who n) nx h, nx) RX4 cX4_owesInAll nx h' 0 0 5 [some (.ref 33), some (.ref s), some (.int who), some (.int (owA k cs f who i)), some (.int (nI i))] [] := by
    intro q
    induction q with
    | zero =>
      intro i h' hi hF
      obtain rfl : i = n := by omega
      have hS' := (hF.1 s (by omega) (by omega)).trans hS
      have hR' := (hF.1 r (by omega) (by omega)).trans hR
      refine mt_iload (pc := 5) dX4_owesInAll_5 rfl ?_
      refine mt_aload_n (pc := 7) dX4_owesInAll_7 rfl ?_
      refine mt_cV (pc := 8) (c_loans (d := 1) hs hr hS' hR') cal_X6_loans vir_X6_loans ml_X4_38 dX4_owesInAll_8 (by first | assumption | omega) (by repeat (first | exact hset_eq _ _ _ | assumption | rw [hset_ne (by first | assumption | decide | omega)])) (by first | assumption | (show _ ≤ d; omega)) ⟨(Nat.le_of_ble_eq_true rfl), (Nat.le_of_ble_eq_true rfl)⟩ rfl rfl (Nat.le_of_ble_eq_true rfl) ?_
      rw [hw.1]
      refine mt_icmp_ge (pc := 11) (tgt := 46) dX4_owesInAll_11 (by decide) (fun c11 => ?_) (fun c11 => ?_)
      · skip
        refine mt_iload_n (pc := 46) dX4_owesInAll_46 rfl ?_
        exact mt_iret rfl dX4_owesInAll_47 (Nat.le_of_ble_eq_true rfl) (Nat.le_of_ble_eq_true rfl) ⟨rfl, rfl, hF⟩
      · exact absurd (nI_le (Nat.le_refl _) (by omega)) c11
    | succ q ih =>
      intro i h' hi hF
      have hlt : i < n := by omega
      have hS' := (hF.1 s (by omega) (by omega)).trans hS
      have hR' := (hF.1 r (by omega) (by omega)).trans hR
      have h33' := (hF.1 33 (by omega) (by omega)).trans h33
      have e1 : owA k cs f who (i + 1) = if who = -1 ∨ f (24 + 6 * i + 0) = who then owA k cs f who i + owI k cs f i else owA k cs f who i := rfl
      have so := hw.so hlt
      have sl := hw.sl hlt
      have go : ∀ (h2 : Nat → mm_E), FRl h h2 → (who = -1 ∨ f (24 + 6 * i + 0) = who) → mm_T (G, l, yX4_owesInAll, 5, some .int, d, 0, 0, P_ow (owA k cs f who n) nx h, nx) RX4 cX4_owesInAll nx h' 0 0 30 [some (.ref 33), some (.ref s), some (.int who), some (.int (owA k cs f who i)), some (.int (nI i))] [] := by
        intro h2 _ hc
        refine mt_iload_n (pc := 30) dX4_owesInAll_30 rfl ?_
        refine mt_aload_n (pc := 31) dX4_owesInAll_31 rfl ?_
        refine mt_aload_n (pc := 32) dX4_owesInAll_32 rfl ?_
        refine mt_iload (pc := 33) dX4_owesInAll_33 rfl ?_
        refine mt_aV (pc := 35) (c_rowes (d := 3) (Nat.le_refl 3) hx (by omega) so.1 so.2 sl.1 sl.2 (LA_fr hA hF) hW (CO_fr hC hF) h33' hs5 hr5 hs hr hS' hR') cal_X4_owes vir_X4_owes ml_X4_71 dX4_owesInAll_35 (by first | assumption | omega) (by repeat (first | exact hset_eq _ _ _ | assumption | rw [hset_ne (by first | assumption | decide | omega)])) (by first | assumption | (show _ ≤ d; omega)) ⟨(Nat.le_of_ble_eq_true rfl), (Nat.le_of_ble_eq_true rfl)⟩ rfl rfl (Nat.le_of_ble_eq_true rfl) ?_ ?_
        · rintro x9 n9 k9 h9
          simp [P_ow] at h9
        · rintro v9 n9 k9 ⟨hv9, rfl, hF9⟩
          cases hv9
          refine ⟨rfl, ?_⟩
          refine mt_iadd (pc := 38) dX4_owesInAll_38 ?_
          refine mt_istore_n (pc := 39) dX4_owesInAll_39 (Nat.le_of_ble_eq_true rfl) rfl ?_
          refine mt_iinc (pc := 40) (c9 := 1) dX4_owesInAll_40 rfl (by decide) (Nat.le_of_ble_eq_true rfl) rfl ?_
          refine mt_goto (pc := 43) (tgt := 5) dX4_owesInAll_43 (by decide) ?_
          have nxt := ih (i + 1) k9 (by omega) (FRl_trans hF hF9)
          rw [e1, if_pos hc] at nxt
          rw [show (nI i + 1 : Int32) = nI (i + 1) from nI_1 i]
          exact nxt
      refine mt_iload (pc := 5) dX4_owesInAll_5 rfl ?_
      refine mt_aload_n (pc := 7) dX4_owesInAll_7 rfl ?_
      refine mt_cV (pc := 8) (c_loans (d := 1) hs hr hS' hR') cal_X6_loans vir_X6_loans ml_X4_38 dX4_owesInAll_8 (by first | assumption | omega) (by repeat (first | exact hset_eq _ _ _ | assumption | rw [hset_ne (by first | assumption | decide | omega)])) (by first | assumption | (show _ ≤ d; omega)) ⟨(Nat.le_of_ble_eq_true rfl), (Nat.le_of_ble_eq_true rfl)⟩ rfl rfl (Nat.le_of_ble_eq_true rfl) ?_
      rw [hw.1]
      refine mt_icmp_ge (pc := 11) (tgt := 46) dX4_owesInAll_11 (by decide) (fun c11 => ?_) (fun c11 => ?_)
      · exact absurd c11 (nI_ge hlt (by omega))
      · skip
        refine mt_iload_n (pc := 14) dX4_owesInAll_14 rfl ?_
        refine mt_iconst (pc := 15) (v := (-1)) dX4_owesInAll_15 (by decide) ?_
        refine mt_icmp_eq (pc := 16) (tgt := 30) dX4_owesInAll_16 (by decide) (fun c16 => ?_) (fun c16 => ?_)
        · exact go h' hF (Or.inl c16)
        · skip
          refine mt_aload_n (pc := 19) dX4_owesInAll_19 rfl ?_
          refine mt_iload (pc := 20) dX4_owesInAll_20 rfl ?_
          refine mt_iconst (pc := 22) (v := 0) dX4_owesInAll_22 (by decide) ?_
          refine mt_cV (pc := 23) (c_ofLoan (d := 1) (k := 0) (Nat.le_refl 1) (by omega) (by decide) hs hr hS' hR') cal_X6_ofLoan vir_X6_ofLoan ml_X4_46 dX4_owesInAll_23 (by first | assumption | omega) (by repeat (first | exact hset_eq _ _ _ | assumption | rw [hset_ne (by first | assumption | decide | omega)])) (by first | assumption | (show _ ≤ d; omega)) ⟨(Nat.le_of_ble_eq_true rfl), (Nat.le_of_ble_eq_true rfl)⟩ rfl rfl (Nat.le_of_ble_eq_true rfl) ?_
          refine mt_iload_n (pc := 26) dX4_owesInAll_26 rfl ?_
          refine mt_icmp_ne (pc := 27) (tgt := 40) dX4_owesInAll_27 (by decide) (fun c27 => ?_) (fun c27 => ?_)
          · skip
            refine mt_iinc (pc := 40) (c9 := 1) dX4_owesInAll_40 rfl (by decide) (Nat.le_of_ble_eq_true rfl) rfl ?_
            refine mt_goto (pc := 43) (tgt := 5) dX4_owesInAll_43 (by decide) ?_
            have nxt := ih (i + 1) h' (by omega) hF
            rw [e1, if_neg (fun z => z.elim c16 c27)] at nxt
            rw [show (nI i + 1 : Int32) = nI (i + 1) from nI_1 i]
            exact nxt
          · exact go h' hF (Or.inr c27)
  refine mm_start (lo := [some (.ref 33), some (.ref s), some (.int who), none, none]) pn_X4 rfl rfl (Nat.le_of_ble_eq_true rfl) ?_
  refine mt_iconst (pc := 0) (v := 0) dX4_owesInAll_0 (by decide) ?_
  refine mt_istore_n (pc := 1) dX4_owesInAll_1 (Nat.le_of_ble_eq_true rfl) rfl ?_
  refine mt_iconst (pc := 2) (v := 0) dX4_owesInAll_2 (by decide) ?_
  refine mt_istore (pc := 3) dX4_owesInAll_3 (Nat.le_of_ble_eq_true rfl) rfl ?_
  exact loop n 0 h (by omega) (FRl_rf hA)
end RULES2
