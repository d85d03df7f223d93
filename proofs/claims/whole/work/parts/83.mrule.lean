/-! The reference: what loans owe, who lends. -/
def MQs (k : CS) (cs : List Nat) (g : MG) (A : MA) : Prop := g 18 = nI k.1 ∧ g 19 = nI k.2.1 ∧ MCN k (A 194) (A 195) (A 196) ∧ MLR cs (g 26) (A 199) (A 200)
def SC (A A' : MA) : Prop := ∀ j, j ≠ 201 → j ≠ 202 → A' j = A j
theorem SC_rf {A : MA} : SC A A := fun _ _ _ => rfl
theorem SC.trans {A B C : MA} (h1 : SC A B) (h2 : SC B C) : SC A C := fun j a b => (h2 j a b).trans (h1 j a b)
theorem MQs.sc {k : CS} {cs : List Nat} {g : MG} {A A' : MA} (h : MQs k cs g A) (hs : ∀ j, j = 194 ∨ j = 195 ∨ j = 196 ∨ j = 199 ∨ j = 200 → A' j = A j) : MQs k cs g A' := by
  obtain ⟨h1, h2, h3, h4⟩ := h
  refine ⟨h1, h2, ?_, ?_⟩
  · rw [hs 194 (by simp), hs 195 (by simp), hs 196 (by simp)]
    exact h3
  · rw [hs 199 (by simp), hs 200 (by simp)]
    exact h4
theorem clamp_eq (v : Int32) : clamp v = if v < 0 then 0 else if 200 < v then 200 else v := by
  unfold clamp
  by_cases h1 : v < 0
  · rw [if_pos h1, if_pos (Int32.lt_trans h1 (by decide)), if_neg (fun z => Int32.lt_irrefl (Int32.lt_trans h1 z))]
  · rw [if_neg h1]
    by_cases h2 : v < 200
    · rw [if_pos h2, if_neg (fun z => Int32.lt_irrefl (Int32.lt_trans h2 z))]
      by_cases h3 : 0 < v
      · rw [if_pos h3]
      · rw [if_neg h3]
        exact Int32.le_antisymm (Int32.not_lt.mp h1) (Int32.not_lt.mp h3)
    · rw [if_neg h2, if_pos (show (0 : Int32) < 200 by decide)]
      by_cases h3 : 200 < v
      · rw [if_pos h3]
      · rw [if_neg h3]
        exact Int32.le_antisymm (Int32.not_lt.mp h2) (Int32.not_lt.mp h3)
theorem lawV_unt (F : Nat → Int32) : lawV untL F = F 0 + F 0 * F 1 / 10 + 1 := rfl
theorem kin_eq {k : CS} {S2 S3 K : Nat → Int32} {a p : Nat} (hM : MCN k S2 S3 K) (ha : a < 6) (hp : p < k.1) : (K a >>> (nI p &&& 31)) &&& 1 = kinN k a p := by
  obtain ⟨h1, h2, h3, h4, h5⟩ := hM
  obtain ⟨K', k1, k2, k3⟩ := h5 a ha
  obtain ⟨-, -, -, j, j1, j2⟩ := h3 p hp
  have e1 : 2 ^ k.1 ≤ 2 ^ 8 := pow_mono h1
  have e2 : 2 ^ k.2.1 ≤ 2 ^ 6 := pow_mono h2
  have e3 := k3 p hp
  rw [j1, nI_clamp (by omega)] at e3
  unfold kinN
  rw [k1, j1, bit32 (by omega) (by omega), bit32 (by omega) (by omega), e3]
  rcases Nat.mod_two_eq_zero_or_one (j / 2 ^ a) with z | z <;> rw [z] <;> rfl
section MRU
variable {G : mm_G} {l : Launch} {d nx : Nat} {h : Nat → mm_E} {g : MG} {A : MA} {k : CS} {cs : List Nat} {f : Nat → Int32}
theorem n_owesNow {F : Nat → Int32} (hd : 2 ≤ d) (hx : 215 ≤ nx) (hL : MLR cs (g 26) (A 199) (A 200)) (hF : ∀ j, j < 8 → A 202 j = F j) : mm_Con G l yX11_owesNow cX11_owesNow 2 (some .int) d 0 0 [.ref 188] nx (mos h g A) (fun o n m => o = .inl (some (.int (clamp (lawV cs F)))) ∧ n = nx ∧ ∃ S, m = mos h g (updR A 201 S)) := by
  refine mm_start (lo := [some (.ref 188), none]) pn_X11 rfl rfl (Nat.le_of_ble_eq_true rfl) ?_
  rw [clamp_eq]
  rcases hL with ⟨h1, rfl⟩ | ⟨h1, h2, ⟨w1, w2, w3⟩, h4, h5⟩
  · rw [lawV_unt]
    refine mt_aload_n (pc := 0) dX11_owesNow_0 rfl ?_
    refine mt_mgetI (pc := 1) (x := 0) gf_X11_164 dX11_owesNow_1 hx rfl h1 ?_
    refine mt_if_ne (pc := 4) (tgt := 35) dX11_owesNow_4 (by decide) (fun c4 => ?_) (fun c4 => ?_)
    · exact absurd rfl c4
    · skip
      refine mt_aload_n (pc := 7) dX11_owesNow_7 rfl ?_
      refine mt_mget (pc := 8) gf_X11_56 dX11_owesNow_8 hx rfl ?_
      refine mt_iconst (pc := 11) (v := 0) dX11_owesNow_11 (by decide) ?_
      refine mt_mald (pc := 12) (i := 202) (j := 0) (x := F 0) dX11_owesNow_12 hx rfl rfl (by show _ < 8; omega) (hF 0 (by decide)) ?_
      refine mt_aload_n (pc := 13) dX11_owesNow_13 rfl ?_
      refine mt_mget (pc := 14) gf_X11_56 dX11_owesNow_14 hx rfl ?_
      refine mt_iconst (pc := 17) (v := 0) dX11_owesNow_17 (by decide) ?_
      refine mt_mald (pc := 18) (i := 202) (j := 0) (x := F 0) dX11_owesNow_18 hx rfl rfl (by show _ < 8; omega) (hF 0 (by decide)) ?_
      refine mt_aload_n (pc := 19) dX11_owesNow_19 rfl ?_
      refine mt_mget (pc := 20) gf_X11_56 dX11_owesNow_20 hx rfl ?_
      refine mt_iconst (pc := 23) (v := 1) dX11_owesNow_23 (by decide) ?_
      refine mt_mald (pc := 24) (i := 202) (j := 1) (x := F 1) dX11_owesNow_24 hx rfl rfl (by show _ < 8; omega) (hF 1 (by decide)) ?_
      refine mt_imul (pc := 25) dX11_owesNow_25 ?_
      refine mt_bipush (pc := 26) (v := 10) dX11_owesNow_26 (by decide) ?_
      refine mt_idiv (pc := 28) dX11_owesNow_28 (by decide) ?_
      refine mt_iadd (pc := 29) dX11_owesNow_29 ?_
      refine mt_iconst (pc := 30) (v := 1) dX11_owesNow_30 (by decide) ?_
      refine mt_iadd (pc := 31) dX11_owesNow_31 ?_
      refine mt_goto (pc := 32) (tgt := 39) dX11_owesNow_32 (by decide) ?_
      refine mt_istore_n (pc := 39) dX11_owesNow_39 (Nat.le_of_ble_eq_true rfl) rfl ?_
      refine mt_iload_n (pc := 40) dX11_owesNow_40 rfl ?_
      refine mt_if_ge (pc := 41) (tgt := 48) dX11_owesNow_41 (by decide) (fun c41 => ?_) (fun c41 => ?_)
      · skip
        refine mt_iload_n (pc := 48) dX11_owesNow_48 rfl ?_
        refine mt_sipush (pc := 49) (v := 200) dX11_owesNow_49 (by decide) ?_
        refine mt_icmp_le (pc := 52) (tgt := 61) dX11_owesNow_52 (by decide) (fun c52 => ?_) (fun c52 => ?_)
        · skip
          refine mt_iload_n (pc := 61) dX11_owesNow_61 rfl ?_
          exact mt_iret rfl dX11_owesNow_62 (Nat.le_of_ble_eq_true rfl) (Nat.le_of_ble_eq_true rfl) ⟨by rw [if_neg (Int32.not_lt.mpr c41), if_neg (Int32.not_lt.mpr c52)], rfl, A 201, by rw [updR_self rfl]⟩
        · skip
          refine mt_sipush (pc := 55) (v := 200) dX11_owesNow_55 (by decide) ?_
          refine mt_goto (pc := 58) (tgt := 62) dX11_owesNow_58 (by decide) ?_
          exact mt_iret rfl dX11_owesNow_62 (Nat.le_of_ble_eq_true rfl) (Nat.le_of_ble_eq_true rfl) ⟨by rw [if_neg (Int32.not_lt.mpr c41), if_pos (Int32.not_le.mp c52)], rfl, A 201, by rw [updR_self rfl]⟩
      · skip
        refine mt_iconst (pc := 44) (v := 0) dX11_owesNow_44 (by decide) ?_
        refine mt_goto (pc := 45) (tgt := 62) dX11_owesNow_45 (by decide) ?_
        exact mt_iret rfl dX11_owesNow_62 (Nat.le_of_ble_eq_true rfl) (Nat.le_of_ble_eq_true rfl) ⟨by rw [if_pos (Int32.not_le.mp c41)], rfl, A 201, by rw [updR_self rfl]⟩
  · obtain ⟨v, hv⟩ := w3 F
    have eV : lawV cs F = v := by unfold lawV; rw [hv]
    rw [eV]
    refine mt_aload_n (pc := 0) dX11_owesNow_0 rfl ?_
    refine mt_mgetI (pc := 1) (x := nI cs.length) gf_X11_164 dX11_owesNow_1 hx rfl h1 ?_
    refine mt_if_ne (pc := 4) (tgt := 35) dX11_owesNow_4 (by decide) (fun c4 => ?_) (fun c4 => ?_)
    · skip
      refine mt_aload_n (pc := 35) dX11_owesNow_35 rfl ?_
      refine mt_aV (pc := 36) (n_valueNow (d := 1) (F := F) (Nat.le_refl 1) hx hF h1 w1 w2 h4 h5 hv) cal_X11_valueNow vir_X11_valueNow ml_X11_268 dX11_owesNow_36 (by omega) (mos_o _ _ _) (by first | assumption | (show _ ≤ d; omega)) ⟨(Nat.le_of_ble_eq_true rfl), (Nat.le_of_ble_eq_true rfl)⟩ rfl rfl (Nat.le_of_ble_eq_true rfl) ?_ ?_
      · rintro x9 n9 k9 h9
        simp at h9
      · rintro v9 n9 k9 ⟨⟨⟩, rfl, S, rfl⟩
        refine ⟨rfl, ?_⟩
        refine mt_istore_n (pc := 39) dX11_owesNow_39 (Nat.le_of_ble_eq_true rfl) rfl ?_
        refine mt_iload_n (pc := 40) dX11_owesNow_40 rfl ?_
        refine mt_if_ge (pc := 41) (tgt := 48) dX11_owesNow_41 (by decide) (fun c41 => ?_) (fun c41 => ?_)
        · skip
          refine mt_iload_n (pc := 48) dX11_owesNow_48 rfl ?_
          refine mt_sipush (pc := 49) (v := 200) dX11_owesNow_49 (by decide) ?_
          refine mt_icmp_le (pc := 52) (tgt := 61) dX11_owesNow_52 (by decide) (fun c52 => ?_) (fun c52 => ?_)
          · skip
            refine mt_iload_n (pc := 61) dX11_owesNow_61 rfl ?_
            exact mt_iret rfl dX11_owesNow_62 (Nat.le_of_ble_eq_true rfl) (Nat.le_of_ble_eq_true rfl) ⟨by rw [if_neg (Int32.not_lt.mpr c41), if_neg (Int32.not_lt.mpr c52)], rfl, S, rfl⟩
          · skip
            refine mt_sipush (pc := 55) (v := 200) dX11_owesNow_55 (by decide) ?_
            refine mt_goto (pc := 58) (tgt := 62) dX11_owesNow_58 (by decide) ?_
            exact mt_iret rfl dX11_owesNow_62 (Nat.le_of_ble_eq_true rfl) (Nat.le_of_ble_eq_true rfl) ⟨by rw [if_neg (Int32.not_lt.mpr c41), if_pos (Int32.not_le.mp c52)], rfl, S, rfl⟩
        · skip
          refine mt_iconst (pc := 44) (v := 0) dX11_owesNow_44 (by decide) ?_
          refine mt_goto (pc := 45) (tgt := 62) dX11_owesNow_45 (by decide) ?_
          exact mt_iret rfl dX11_owesNow_62 (Nat.le_of_ble_eq_true rfl) (Nat.le_of_ble_eq_true rfl) ⟨by rw [if_pos (Int32.not_le.mp c41)], rfl, S, rfl⟩
    · exact absurd c4 (nI_ne0 h2 (by omega))
theorem n_owesOf {a0 a1 a2 a3 a4 a5 a6 a7 : Int32} (hd : 3 ≤ d) (hx : 215 ≤ nx) (hL : MLR cs (g 26) (A 199) (A 200)) : mm_Con G l yX11_owesOf cX11_owesOf 9 (some .int) d 0 0 [.ref 188, .int a0, .int a1, .int a2, .int a3, .int a4, .int a5, .int a6, .int a7] nx (mos h g A) (fun o n m => o = .inl (some (.int (clamp (lawV cs (factF a0 a1 a2 a3 a4 a5 a6 a7))))) ∧ n = nx ∧ ∃ A', m = mos h g A' ∧ SC A A') := by
  refine mm_start (lo := [some (.ref 188), some (.int a0), some (.int a1), some (.int a2), some (.int a3), some (.int a4), some (.int a5), some (.int a6), some (.int a7)]) pn_X11 rfl rfl (Nat.le_of_ble_eq_true rfl) ?_
  refine mt_aload_n (pc := 0) dX11_owesOf_0 rfl ?_
  refine mt_mget (pc := 1) gf_X11_56 dX11_owesOf_1 hx rfl ?_
  refine mt_iconst (pc := 4) (v := 0) dX11_owesOf_4 (by decide) ?_
  refine mt_iload_n (pc := 5) dX11_owesOf_5 rfl ?_
  refine mt_mast (pc := 6) (i := 202) (j := 0) dX11_owesOf_6 hx rfl rfl (by show _ < 8; omega) ?_
  refine mt_aload_n (pc := 7) dX11_owesOf_7 rfl ?_
  refine mt_mget (pc := 8) gf_X11_56 dX11_owesOf_8 hx rfl ?_
  refine mt_iconst (pc := 11) (v := 1) dX11_owesOf_11 (by decide) ?_
  refine mt_iload_n (pc := 12) dX11_owesOf_12 rfl ?_
  refine mt_mast (pc := 13) (i := 202) (j := 1) dX11_owesOf_13 hx rfl rfl (by show _ < 8; omega) ?_
  refine mt_aload_n (pc := 14) dX11_owesOf_14 rfl ?_
  refine mt_mget (pc := 15) gf_X11_56 dX11_owesOf_15 hx rfl ?_
  refine mt_iconst (pc := 18) (v := 2) dX11_owesOf_18 (by decide) ?_
  refine mt_iload_n (pc := 19) dX11_owesOf_19 rfl ?_
  refine mt_mast (pc := 20) (i := 202) (j := 2) dX11_owesOf_20 hx rfl rfl (by show _ < 8; omega) ?_
  refine mt_aload_n (pc := 21) dX11_owesOf_21 rfl ?_
  refine mt_mget (pc := 22) gf_X11_56 dX11_owesOf_22 hx rfl ?_
  refine mt_iconst (pc := 25) (v := 3) dX11_owesOf_25 (by decide) ?_
  refine mt_iload (pc := 26) dX11_owesOf_26 rfl ?_
  refine mt_mast (pc := 28) (i := 202) (j := 3) dX11_owesOf_28 hx rfl rfl (by show _ < 8; omega) ?_
  refine mt_aload_n (pc := 29) dX11_owesOf_29 rfl ?_
  refine mt_mget (pc := 30) gf_X11_56 dX11_owesOf_30 hx rfl ?_
  refine mt_iconst (pc := 33) (v := 4) dX11_owesOf_33 (by decide) ?_
  refine mt_iload (pc := 34) dX11_owesOf_34 rfl ?_
  refine mt_mast (pc := 36) (i := 202) (j := 4) dX11_owesOf_36 hx rfl rfl (by show _ < 8; omega) ?_
  refine mt_aload_n (pc := 37) dX11_owesOf_37 rfl ?_
  refine mt_mget (pc := 38) gf_X11_56 dX11_owesOf_38 hx rfl ?_
  refine mt_iconst (pc := 41) (v := 5) dX11_owesOf_41 (by decide) ?_
  refine mt_iload (pc := 42) dX11_owesOf_42 rfl ?_
  refine mt_mast (pc := 44) (i := 202) (j := 5) dX11_owesOf_44 hx rfl rfl (by show _ < 8; omega) ?_
  refine mt_aload_n (pc := 45) dX11_owesOf_45 rfl ?_
  refine mt_mget (pc := 46) gf_X11_56 dX11_owesOf_46 hx rfl ?_
  refine mt_bipush (pc := 49) (v := 6) dX11_owesOf_49 (by decide) ?_
  refine mt_iload (pc := 51) dX11_owesOf_51 rfl ?_
  refine mt_mast (pc := 53) (i := 202) (j := 6) dX11_owesOf_53 hx rfl rfl (by show _ < 8; omega) ?_
  refine mt_aload_n (pc := 54) dX11_owesOf_54 rfl ?_
  refine mt_mget (pc := 55) gf_X11_56 dX11_owesOf_55 hx rfl ?_
  refine mt_bipush (pc := 58) (v := 7) dX11_owesOf_58 (by decide) ?_
  refine mt_iload (pc := 60) dX11_owesOf_60 rfl ?_
  refine mt_mast (pc := 62) (i := 202) (j := 7) dX11_owesOf_62 hx rfl rfl (by show _ < 8; omega) ?_
  rw [updR_eq, updR_updR, updR_eq, updR_updR, updR_eq, updR_updR, updR_eq, updR_updR, updR_eq, updR_updR, updR_eq, updR_updR, updR_eq, updR_updR]
  refine mt_aload_n (pc := 63) dX11_owesOf_63 rfl ?_
  refine mt_aV (pc := 64) (n_owesNow (d := 2) (cs := cs) (F := factF a0 a1 a2 a3 a4 a5 a6 a7) (Nat.le_refl 2) hx hL (fun j hj => by rw [updR_eq]; exact fact_base j hj)) cal_X11_owesNow vir_X11_owesNow ml_X11_311 dX11_owesOf_64 (by omega) (mos_o _ _ _) (by first | assumption | (show _ ≤ d; omega)) ⟨(Nat.le_of_ble_eq_true rfl), (Nat.le_of_ble_eq_true rfl)⟩ rfl rfl (Nat.le_of_ble_eq_true rfl) ?_ ?_
  · rintro x9 n9 k9 h9
    simp at h9
  · rintro v9 n9 k9 ⟨⟨⟩, rfl, S, rfl⟩
    refine ⟨rfl, ?_⟩
    exact mt_iret rfl dX11_owesOf_67 (Nat.le_of_ble_eq_true rfl) (Nat.le_of_ble_eq_true rfl) ⟨rfl, rfl, _, rfl, fun j b1 b2 => by rw [updR_ne b1, updR_ne b2]⟩
theorem n_take (hd : 1 ≤ d) (hx : 215 ≤ nx) : mm_Con G l yX11_take cX11_take 1 none d 0 0 [.ref 188] nx (mos h g A) (mm_ret none nx (mos h g (updR A 206 (fun q => if q < 91 then A 205 q else A 206 q)))) := by
  refine mm_start (lo := [some (.ref 188)]) pn_X11 rfl rfl (Nat.le_of_ble_eq_true rfl) ?_
  refine mt_aload_n (pc := 0) dX11_take_0 rfl ?_
  refine mt_aload_n (pc := 1) dX11_take_1 rfl ?_
  refine mt_mget (pc := 2) gf_X11_65 dX11_take_2 hx rfl ?_
  refine mt_aload_n (pc := 5) dX11_take_5 rfl ?_
  refine mt_mget (pc := 6) gf_X11_68 dX11_take_6 hx rfl ?_
  refine mt_bipush (pc := 9) (v := 91) dX11_take_9 (by decide) ?_
  refine mt_cV (pc := 11) (n_copies (d := 0) (i := 205) (j := 206) (n := 91) hx rfl rfl (by decide) (Nat.le_of_ble_eq_true rfl) (Nat.le_of_ble_eq_true rfl)) cal_X11_copies vir_X11_copies ml_X11_160 dX11_take_11 (by omega) (mos_o _ _ _) (by first | assumption | (show _ ≤ d; omega)) ⟨(Nat.le_of_ble_eq_true rfl), (Nat.le_of_ble_eq_true rfl)⟩ rfl rfl (Nat.le_of_ble_eq_true rfl) ?_
  exact mt_vret rfl dX11_take_14 (Nat.le_of_ble_eq_true rfl) (Nat.le_of_ble_eq_true rfl) ⟨rfl, rfl, rfl⟩
theorem RR.ln {s : Nat → Int32} {i j : Nat} (hR : RR s f) (hi : i < nlo f) (hj : j < 6) : s (28 + 6 * i + j) = f (24 + 6 * i + j) := by
  have := hR.2.2.2.2.1 (6 * i + j) (by omega)
  rw [show 28 + 6 * i + j = 28 + (6 * i + j) by omega, show 24 + 6 * i + j = 24 + (6 * i + j) by omega]
  exact this
theorem RI.nl (hI : RI k f) : nlo f ≤ 10 ∧ f 3 = nI (nlo f) ∧ RW f (nlo f) := by
  obtain ⟨⟨⟨n, hw⟩, -⟩, -⟩ := hI
  rw [nlo_eq hw]
  exact ⟨hw.2.1, hw.1, hw⟩
theorem n_owes {i : Nat} (hd : 4 ≤ d) (hx : 215 ≤ nx) (hQ : MQs k cs g A) (hR : RR (A 206) f) (hI : RI k f) (hi : i < nlo f) : mm_Con G l yX11_owes cX11_owes 4 (some .int) d 0 0 [.ref 188, .int (nI i)] nx (mos h g A) (fun o n m => o = .inl (some (.int (owI k cs f i))) ∧ n = nx ∧ ∃ A', m = mos h g A' ∧ SC A A') := by
  obtain ⟨hn10, -, hw⟩ := hI.nl
  have so := hw.so hi
  have sl := hw.sl hi
  obtain ⟨l1, l2, -⟩ := hI.2.2.2.2.2.2 i hi
  obtain ⟨q1, q2, hM, hL⟩ := hQ
  have e0 : A 206 (28 + 6 * i + 0) = nI (lsoul f i) := (hR.ln hi (by decide)).trans so.1
  have e1 : A 206 (28 + 6 * i + 1) = nI (lslab f i) := (hR.ln hi (by decide)).trans sl.1
  refine mm_start (lo := [some (.ref 188), some (.int (nI i)), none, none]) pn_X11 rfl rfl (Nat.le_of_ble_eq_true rfl) ?_
  refine mt_aload_n (pc := 0) dX11_owes_0 rfl ?_
  refine mt_iload_n (pc := 1) dX11_owes_1 rfl ?_
  refine mt_iconst (pc := 2) (v := 0) dX11_owes_2 (by decide) ?_
  refine mt_cV (pc := 3) (n_loanOf (d := 0) (i := i) (k := 0) hx (by omega) (by decide)) cal_X11_loanOf vir_X11_loanOf ml_X11_314 dX11_owes_3 (by omega) (mos_o _ _ _) (by first | assumption | (show _ ≤ d; omega)) ⟨(Nat.le_of_ble_eq_true rfl), (Nat.le_of_ble_eq_true rfl)⟩ rfl rfl (Nat.le_of_ble_eq_true rfl) ?_
  rw [e0]
  refine mt_istore_n (pc := 6) dX11_owes_6 (Nat.le_of_ble_eq_true rfl) rfl ?_
  refine mt_aload_n (pc := 7) dX11_owes_7 rfl ?_
  refine mt_iload_n (pc := 8) dX11_owes_8 rfl ?_
  refine mt_iconst (pc := 9) (v := 1) dX11_owes_9 (by decide) ?_
  refine mt_cV (pc := 10) (n_loanOf (d := 0) (i := i) (k := 1) hx (by omega) (by decide)) cal_X11_loanOf vir_X11_loanOf ml_X11_314 dX11_owes_10 (by omega) (mos_o _ _ _) (by first | assumption | (show _ ≤ d; omega)) ⟨(Nat.le_of_ble_eq_true rfl), (Nat.le_of_ble_eq_true rfl)⟩ rfl rfl (Nat.le_of_ble_eq_true rfl) ?_
  rw [e1]
  refine mt_istore_n (pc := 13) dX11_owes_13 (Nat.le_of_ble_eq_true rfl) rfl ?_
  refine mt_aload_n (pc := 14) dX11_owes_14 rfl ?_
  refine mt_aload_n (pc := 15) dX11_owes_15 rfl ?_
  refine mt_iload_n (pc := 16) dX11_owes_16 rfl ?_
  refine mt_iconst (pc := 17) (v := 2) dX11_owes_17 (by decide) ?_
  refine mt_cV (pc := 18) (n_loanOf (d := 0) (i := i) (k := 2) hx (by omega) (by decide)) cal_X11_loanOf vir_X11_loanOf ml_X11_314 dX11_owes_18 (by omega) (mos_o _ _ _) (by first | assumption | (show _ ≤ d; omega)) ⟨(Nat.le_of_ble_eq_true rfl), (Nat.le_of_ble_eq_true rfl)⟩ rfl rfl (Nat.le_of_ble_eq_true rfl) ?_
  rw [hR.ln hi (show 2 < 6 by decide)]
  refine mt_aload_n (pc := 21) dX11_owes_21 rfl ?_
  refine mt_mget (pc := 22) gf_X11_68 dX11_owes_22 hx rfl ?_
  refine mt_bipush (pc := 25) (v := 90) dX11_owes_25 (by decide) ?_
  refine mt_mald (pc := 27) (i := 206) (j := 90) (x := f 0) dX11_owes_27 hx rfl rfl (by show _ < 91; omega) (hR.2.2.2.2.2.2.2) ?_
  refine mt_aload_n (pc := 28) dX11_owes_28 rfl ?_
  refine mt_iload_n (pc := 29) dX11_owes_29 rfl ?_
  refine mt_iconst (pc := 30) (v := 3) dX11_owes_30 (by decide) ?_
  refine mt_cV (pc := 31) (n_loanOf (d := 0) (i := i) (k := 3) hx (by omega) (by decide)) cal_X11_loanOf vir_X11_loanOf ml_X11_314 dX11_owes_31 (by omega) (mos_o _ _ _) (by first | assumption | (show _ ≤ d; omega)) ⟨(Nat.le_of_ble_eq_true rfl), (Nat.le_of_ble_eq_true rfl)⟩ rfl rfl (Nat.le_of_ble_eq_true rfl) ?_
  rw [hR.ln hi (show 3 < 6 by decide)]
  refine mt_isub (pc := 34) dX11_owes_34 ?_
  refine mt_aload_n (pc := 35) dX11_owes_35 rfl ?_
  refine mt_mget (pc := 36) gf_X11_32 dX11_owes_36 hx rfl ?_
  refine mt_iconst (pc := 39) (v := 2) dX11_owes_39 (by decide) ?_
  refine mt_iload_n (pc := 40) dX11_owes_40 rfl ?_
  refine mt_imulN (pc := 41) (a := 2) (b := lslab f i) dX11_owes_41 rfl rfl ?_
  refine mt_mald (pc := 42) (i := 194) (j := 2 * (lslab f i)) (x := k.2.2.1 (lslab f i)) dX11_owes_42 hx rfl rfl (by show _ < 16; omega) ((hM.2.2.1 _ l2).1) ?_
  refine mt_aload_n (pc := 43) dX11_owes_43 rfl ?_
  refine mt_mget (pc := 44) gf_X11_38 dX11_owes_44 hx rfl ?_
  refine mt_iload_n (pc := 47) dX11_owes_47 rfl ?_
  refine mt_mald (pc := 48) (i := 196) (j := lsoul f i) dX11_owes_48 hx rfl rfl (by show _ < 6; omega) rfl ?_
  refine mt_iload_n (pc := 49) dX11_owes_49 rfl ?_
  refine mt_ishr (pc := 50) dX11_owes_50 ?_
  refine mt_iconst (pc := 51) (v := 1) dX11_owes_51 (by decide) ?_
  refine mt_iand (pc := 52) dX11_owes_52 ?_
  rw [kin_eq hM so.2 l2]
  refine mt_aload_n (pc := 53) dX11_owes_53 rfl ?_
  refine mt_mget (pc := 54) gf_X11_68 dX11_owes_54 hx rfl ?_
  refine mt_bipush (pc := 57) (v := 16) dX11_owes_57 (by decide) ?_
  refine mt_iload_n (pc := 59) dX11_owes_59 rfl ?_
  refine mt_iaddN (pc := 60) (a := 16) (b := lsoul f i) dX11_owes_60 rfl rfl ?_
  refine mt_mald (pc := 61) (i := 206) (j := 16 + (lsoul f i)) (x := f (12 + lsoul f i)) dX11_owes_61 hx rfl rfl (by show _ < 91; omega) (hR.2.2.1 _ so.2) ?_
  refine mt_aload_n (pc := 62) dX11_owes_62 rfl ?_
  refine mt_mget (pc := 63) gf_X11_68 dX11_owes_63 hx rfl ?_
  refine mt_iconst (pc := 66) (v := 0) dX11_owes_66 (by decide) ?_
  refine mt_iload_n (pc := 67) dX11_owes_67 rfl ?_
  refine mt_iaddN (pc := 68) (a := 0) (b := lslab f i) dX11_owes_68 rfl rfl ?_
  refine mt_mald (pc := 69) (i := 206) (j := 0 + (lslab f i)) (x := f (4 + lslab f i)) dX11_owes_69 hx rfl rfl (by show _ < 91; omega) (by rw [Nat.zero_add]; exact hR.1 _ sl.2) ?_
  refine mt_aload_n (pc := 70) dX11_owes_70 rfl ?_
  refine mt_mget (pc := 71) gf_X11_68 dX11_owes_71 hx rfl ?_
  refine mt_bipush (pc := 74) (v := 90) dX11_owes_74 (by decide) ?_
  refine mt_mald (pc := 76) (i := 206) (j := 90) (x := f 0) dX11_owes_76 hx rfl rfl (by show _ < 91; omega) (hR.2.2.2.2.2.2.2) ?_
  refine mt_iload_n (pc := 77) dX11_owes_77 rfl ?_
  refine mt_aV (pc := 78) (n_owesOf (d := 3) (cs := cs) (Nat.le_refl 3) hx hL) cal_X11_owesOf vir_X11_owesOf ml_X11_317 dX11_owes_78 (by omega) (mos_o _ _ _) (by first | assumption | (show _ ≤ d; omega)) ⟨(Nat.le_of_ble_eq_true rfl), (Nat.le_of_ble_eq_true rfl)⟩ rfl rfl (Nat.le_of_ble_eq_true rfl) ?_ ?_
  · rintro x9 n9 k9 h9
    simp at h9
  · rintro v9 n9 k9 ⟨⟨⟩, rfl, A1, rfl, hS⟩
    refine ⟨rfl, ?_⟩
    exact mt_iret rfl dX11_owes_81 (Nat.le_of_ble_eq_true rfl) (Nat.le_of_ble_eq_true rfl) ⟨rfl, rfl, A1, rfl, hS⟩
theorem n_wouldLend {a p : Nat} {x : Int32} (hx : 215 ≤ nx) (hM : MCN k (A 194) (A 195) (A 196)) (hR : RR (A 206) f) (ha : a < 6) (hp : p < k.1) : mm_Con G l yX11_wouldLend cX11_wouldLend 4 (some .boolean) d 0 0 [.ref 188, .int (nI a), .int (nI p), .int x] nx (mos h g A) (mm_ret (some (.int (if openC k f a p x then 1 else 0))) nx (mos h g A)) := by
  have hk := hM.1
  have e3 := kin_eq hM ha hp
  have e4 : (f 1 >>> (nI p &&& 31)) &&& 1 = 0 ∨ (f 1 >>> (nI p &&& 31)) &&& 1 = 1 := by
    have := pk_andE (f 1 >>> (nI p &&& 31)) (m := 1) 1 (by decide)
    obtain ⟨j, hj, e⟩ := this
    rw [e]
    rcases (show j = 0 ∨ j = 1 by omega) with rfl | rfl
    · exact Or.inl rfl
    · exact Or.inr rfl
  refine mm_start (lo := [some (.ref 188), some (.int (nI a)), some (.int (nI p)), some (.int x)]) pn_X11 rfl rfl (Nat.le_of_ble_eq_true rfl) ?_
  refine mt_aload_n (pc := 0) dX11_wouldLend_0 rfl ?_
  refine mt_mget (pc := 1) gf_X11_68 dX11_wouldLend_1 hx rfl ?_
  refine mt_bipush (pc := 4) (v := 8) dX11_wouldLend_4 (by decide) ?_
  refine mt_iload_n (pc := 6) dX11_wouldLend_6 rfl ?_
  refine mt_iaddN (pc := 7) (a := 8) (b := p) dX11_wouldLend_7 rfl rfl ?_
  refine mt_mald (pc := 8) (i := 206) (j := 8 + p) (x := (f 1 >>> (nI p &&& 31)) &&& 1) dX11_wouldLend_8 hx rfl rfl (by show _ < 91; omega) (hR.2.1 p (by omega)) ?_
  refine mt_if_ne (pc := 9) (tgt := 54) dX11_wouldLend_9 (by decide) (fun c9 => ?_) (fun c9 => ?_)
  · skip
    have no : ¬ openC k f a p x := fun z => by
      rcases e4 with y | y
      · exact c9 y
      · exact z.1 y
    refine mt_iconst (pc := 54) (v := 0) dX11_wouldLend_54 (by decide) ?_
    exact mt_zret rfl (by first | exact Or.inl rfl | exact Or.inr rfl) dX11_wouldLend_55 (Nat.le_of_ble_eq_true rfl) (Nat.le_of_ble_eq_true rfl) ⟨by rw [if_neg no], rfl, rfl⟩
  · skip
    have y1 : ¬ (f 1 >>> (nI p &&& 31)) &&& 1 = 1 := by rw [c9]; decide
    refine mt_aload_n (pc := 12) dX11_wouldLend_12 rfl ?_
    refine mt_mget (pc := 13) gf_X11_68 dX11_wouldLend_13 hx rfl ?_
    refine mt_iconst (pc := 16) (v := 0) dX11_wouldLend_16 (by decide) ?_
    refine mt_iload_n (pc := 17) dX11_wouldLend_17 rfl ?_
    refine mt_iaddN (pc := 18) (a := 0) (b := p) dX11_wouldLend_18 rfl rfl ?_
    refine mt_mald (pc := 19) (i := 206) (j := 0 + p) (x := f (4 + p)) dX11_wouldLend_19 hx rfl rfl (by show _ < 91; omega) (by rw [Nat.zero_add]; exact hR.1 p (by omega)) ?_
    refine mt_iload_n (pc := 20) dX11_wouldLend_20 rfl ?_
    refine mt_icmp_lt (pc := 21) (tgt := 54) dX11_wouldLend_21 (by decide) (fun c21 => ?_) (fun c21 => ?_)
    · skip
      have no : ¬ openC k f a p x := fun z => z.2.1 c21
      refine mt_iconst (pc := 54) (v := 0) dX11_wouldLend_54 (by decide) ?_
      exact mt_zret rfl (by first | exact Or.inl rfl | exact Or.inr rfl) dX11_wouldLend_55 (Nat.le_of_ble_eq_true rfl) (Nat.le_of_ble_eq_true rfl) ⟨by rw [if_neg no], rfl, rfl⟩
    · skip
      refine mt_aload_n (pc := 24) dX11_wouldLend_24 rfl ?_
      refine mt_mget (pc := 25) gf_X11_68 dX11_wouldLend_25 hx rfl ?_
      refine mt_bipush (pc := 28) (v := 16) dX11_wouldLend_28 (by decide) ?_
      refine mt_iload_n (pc := 30) dX11_wouldLend_30 rfl ?_
      refine mt_iaddN (pc := 31) (a := 16) (b := a) dX11_wouldLend_31 rfl rfl ?_
      refine mt_mald (pc := 32) (i := 206) (j := 16 + a) (x := f (12 + a)) dX11_wouldLend_32 hx rfl rfl (by show _ < 91; omega) (hR.2.2.1 a ha) ?_
      refine mt_if_gt (pc := 33) (tgt := 50) dX11_wouldLend_33 (by decide) (fun c33 => ?_) (fun c33 => ?_)
      · skip
        have yes : openC k f a p x := ⟨y1, c21, Or.inl c33⟩
        refine mt_iconst (pc := 50) (v := 1) dX11_wouldLend_50 (by decide) ?_
        refine mt_goto (pc := 51) (tgt := 55) dX11_wouldLend_51 (by decide) ?_
        exact mt_zret rfl (by first | exact Or.inl rfl | exact Or.inr rfl) dX11_wouldLend_55 (Nat.le_of_ble_eq_true rfl) (Nat.le_of_ble_eq_true rfl) ⟨by rw [if_pos yes], rfl, rfl⟩
      · skip
        refine mt_aload_n (pc := 36) dX11_wouldLend_36 rfl ?_
        refine mt_mget (pc := 37) gf_X11_38 dX11_wouldLend_37 hx rfl ?_
        refine mt_iload_n (pc := 40) dX11_wouldLend_40 rfl ?_
        refine mt_mald (pc := 41) (i := 196) (j := a) dX11_wouldLend_41 hx rfl rfl (by show _ < 6; omega) rfl ?_
        refine mt_iload_n (pc := 42) dX11_wouldLend_42 rfl ?_
        refine mt_ishr (pc := 43) dX11_wouldLend_43 ?_
        refine mt_iconst (pc := 44) (v := 1) dX11_wouldLend_44 (by decide) ?_
        refine mt_iand (pc := 45) dX11_wouldLend_45 ?_
        rw [e3]
        refine mt_iconst (pc := 46) (v := 1) dX11_wouldLend_46 (by decide) ?_
        refine mt_icmp_ne (pc := 47) (tgt := 54) dX11_wouldLend_47 (by decide) (fun c47 => ?_) (fun c47 => ?_)
        · skip
          have no : ¬ openC k f a p x := fun z => by
            rcases z.2.2 with y | y
            · exact c33 y
            · exact c47 (by unfold kinN; rw [if_pos y])
          refine mt_iconst (pc := 54) (v := 0) dX11_wouldLend_54 (by decide) ?_
          exact mt_zret rfl (by first | exact Or.inl rfl | exact Or.inr rfl) dX11_wouldLend_55 (Nat.le_of_ble_eq_true rfl) (Nat.le_of_ble_eq_true rfl) ⟨by rw [if_neg no], rfl, rfl⟩
        · skip
          have yes : openC k f a p x := ⟨y1, c21, Or.inr (Classical.not_not.mp fun z => by unfold kinN at c47; rw [if_neg z] at c47; exact absurd c47 (by decide))⟩
          refine mt_iconst (pc := 50) (v := 1) dX11_wouldLend_50 (by decide) ?_
          refine mt_goto (pc := 51) (tgt := 55) dX11_wouldLend_51 (by decide) ?_
          exact mt_zret rfl (by first | exact Or.inl rfl | exact Or.inr rfl) dX11_wouldLend_55 (Nat.le_of_ble_eq_true rfl) (Nat.le_of_ble_eq_true rfl) ⟨by rw [if_pos yes], rfl, rfl⟩
theorem n_canLend {a p : Nat} {x : Int32} (hd : 1 ≤ d) (hx : 215 ≤ nx) (hM : MCN k (A 194) (A 195) (A 196)) (hR : RR (A 206) f) (ha : a < 6) (hp : p < k.1) : mm_Con G l yX11_canLend cX11_canLend 4 (some .boolean) d 0 0 [.ref 188, .int (nI a), .int (nI p), .int x] nx (mos h g A) (mm_ret (some (.int (if ¬ 10 ≤ f 3 ∧ openC k f a p x then 1 else 0))) nx (mos h g A)) := by
  refine mm_start (lo := [some (.ref 188), some (.int (nI a)), some (.int (nI p)), some (.int x)]) pn_X11 rfl rfl (Nat.le_of_ble_eq_true rfl) ?_
  refine mt_aload_n (pc := 0) dX11_canLend_0 rfl ?_
  refine mt_iload_n (pc := 1) dX11_canLend_1 rfl ?_
  refine mt_iload_n (pc := 2) dX11_canLend_2 rfl ?_
  refine mt_iload_n (pc := 3) dX11_canLend_3 rfl ?_
  refine mt_cV (pc := 4) (n_wouldLend (d := 0) hx hM hR ha hp) cal_X11_wouldLend vir_X11_wouldLend ml_X11_321 dX11_canLend_4 (by omega) (mos_o _ _ _) (by first | assumption | (show _ ≤ d; omega)) ⟨(Nat.le_of_ble_eq_true rfl), (Nat.le_of_ble_eq_true rfl)⟩ rfl rfl (Nat.le_of_ble_eq_true rfl) ?_
  refine mt_if_eq (pc := 7) (tgt := 26) dX11_canLend_7 (by decide) (fun c7 => ?_) (fun c7 => ?_)
  · skip
    have no : ¬ openC k f a p x := fun z => by rw [if_pos z] at c7; exact absurd c7 (by decide)
    refine mt_iconst (pc := 26) (v := 0) dX11_canLend_26 (by decide) ?_
    exact mt_zret rfl (by first | exact Or.inl rfl | exact Or.inr rfl) dX11_canLend_27 (Nat.le_of_ble_eq_true rfl) (Nat.le_of_ble_eq_true rfl) ⟨by rw [if_neg (fun z => no z.2)], rfl, rfl⟩
  · skip
    have yes : openC k f a p x := Classical.not_not.mp fun z => c7 (if_neg z)
    refine mt_aload_n (pc := 10) dX11_canLend_10 rfl ?_
    refine mt_mget (pc := 11) gf_X11_68 dX11_canLend_11 hx rfl ?_
    refine mt_bipush (pc := 14) (v := 88) dX11_canLend_14 (by decide) ?_
    refine mt_mald (pc := 16) (i := 206) (j := 88) (x := f 3) dX11_canLend_16 hx rfl rfl (by show _ < 91; omega) (hR.2.2.2.2.2.1) ?_
    refine mt_bipush (pc := 17) (v := 10) dX11_canLend_17 (by decide) ?_
    refine mt_icmp_ge (pc := 19) (tgt := 26) dX11_canLend_19 (by decide) (fun c19 => ?_) (fun c19 => ?_)
    · skip
      refine mt_iconst (pc := 26) (v := 0) dX11_canLend_26 (by decide) ?_
      exact mt_zret rfl (by first | exact Or.inl rfl | exact Or.inr rfl) dX11_canLend_27 (Nat.le_of_ble_eq_true rfl) (Nat.le_of_ble_eq_true rfl) ⟨by rw [if_neg (fun z => z.1 c19)], rfl, rfl⟩
    · skip
      refine mt_iconst (pc := 22) (v := 1) dX11_canLend_22 (by decide) ?_
      refine mt_goto (pc := 23) (tgt := 27) dX11_canLend_23 (by decide) ?_
      exact mt_zret rfl (by first | exact Or.inl rfl | exact Or.inr rfl) dX11_canLend_27 (Nat.le_of_ble_eq_true rfl) (Nat.le_of_ble_eq_true rfl) ⟨by rw [if_pos ⟨c19, yes⟩], rfl, rfl⟩
end MRU
