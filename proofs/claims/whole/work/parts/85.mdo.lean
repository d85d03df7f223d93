/-! The reference: what STEPS do to its row s (cell 206). -/
section MODR2
variable {M : mm_M} {own : String} {cc : ByteArray} {nx : Nat} {h : Nat → mm_E} {g : MG} {A : MA} {S : Nat → Int32} {kc ks pc : Nat} {lo : List (Option Value)} {st : List Value}
theorem mt_mald2 {i j : Nat} {y x : Int32} (hd : decode cc pc = .ok (.iaload, 1)) (hx : 215 ≤ nx) (hr : mAr i = true) (hy : y = nI j) (hj : j < mlen i) (he : S j = x) (kk : mm_T M own cc nx (mos h g (updR A i S)) kc ks (pc + 1) lo (.int x :: st)) : mm_T M own cc nx (mos h g (updR A i S)) kc ks pc lo (.int y :: .ref i :: st) := mt_mald hd hx hr hy hj (by rw [updR_eq]; exact he) kk
theorem mt_mast2 {i j : Nat} {y x : Int32} (hd : decode cc pc = .ok (.iastore, 1)) (hx : 215 ≤ nx) (hr : mAr i = true) (hy : y = nI j) (hj : j < mlen i) (kk : mm_T M own cc nx (mos h g (updR A i (upd S j x))) kc ks (pc + 1) lo st) : mm_T M own cc nx (mos h g (updR A i S)) kc ks pc lo (.int x :: .int y :: .ref i :: st) := by
  refine mt_mast hd hx hr hy hj ?_
  rw [updR_eq, updR_updR]
  exact kk
end MODR2
def SD (A A' : MA) : Prop := ∀ j, j ≠ 201 → j ≠ 202 → j ≠ 206 → A' j = A j
theorem SD_rf {A : MA} : SD A A := fun _ _ _ _ => rfl
theorem SD.trans {A B C : MA} (h1 : SD A B) (h2 : SD B C) : SD A C := fun j a b c => (h2 j a b c).trans (h1 j a b c)
theorem SC.sd {A A' : MA} (h : SC A A') : SD A A' := fun j a b _ => h j a b
theorem SD_s {A A' : MA} {S : Nat → Int32} (h : SD A A') : SD A (updR A' 206 S) := fun j a b c => (updR_ne c).trans (h j a b c)
theorem SD_u {A : MA} {S : Nat → Int32} : SD A (updR A 206 S) := SD_s SD_rf
theorem SD.mq {k : CS} {cs : List Nat} {g : MG} {A A' : MA} (hs : SD A A') (h : MQs k cs g A) : MQs k cs g A' := h.sc (fun j hj => hs j (by omega) (by omega) (by omega))
/-- what a deed promises of the row s -/
def P_mrow (v : Int32) (f : Nat → Int32) (nx : Nat) (h : Nat → mm_E) (g : MG) (A : MA) : mm_P := fun o n m => o = .inl (some (.int v)) ∧ n = nx ∧ ∃ A', m = mos h g A' ∧ SD A A' ∧ RR (A' 206) f
theorem RR_lend {s f : Nat → Int32} {n a p : Nat} {x t : Int32} (h : RR s f) (hn : nlo f = n) (hn2 : n < 10) (hp : p < 8) : RR (upd (upd (upd (upd (upd (upd (upd (upd s p (f (4 + p) - x)) (28 + 6 * n + 0) (nI a)) (28 + 6 * n + 1) (nI p)) (28 + 6 * n + 2) x) (28 + 6 * n + 3) (f 0)) (28 + 6 * n + 4) (f 0 + t)) (28 + 6 * n + 5) 0) 88 (nI (n + 1))) (lendF f n a p x t) := by
  rw [RR_m, hn] at h
  unfold lendF addF
  rw [show upd f (4 + p) (f (4 + p) - x) 0 = f 0 from upd_ne (by omega)]
  have hm : n ≤ 10 := by omega
  have b1 := RRm_upd (x := f (4 + p) - x) (i := p) (j := 4 + p) hm h (by omega)
  have b2 := RRm_upd (x := nI a) (i := 28 + 6 * n + 0) (j := 24 + 6 * n + 0) hm b1 (by omega)
  have b3 := RRm_upd (x := nI p) (i := 28 + 6 * n + 1) (j := 24 + 6 * n + 1) hm b2 (by omega)
  have b4 := RRm_upd (x := x) (i := 28 + 6 * n + 2) (j := 24 + 6 * n + 2) hm b3 (by omega)
  have b5 := RRm_upd (x := f 0) (i := 28 + 6 * n + 3) (j := 24 + 6 * n + 3) hm b4 (by omega)
  have b6 := RRm_upd (x := f 0 + t) (i := 28 + 6 * n + 4) (j := 24 + 6 * n + 4) hm b5 (by omega)
  have b7 := RRm_upd (x := 0) (i := 28 + 6 * n + 5) (j := 24 + 6 * n + 5) hm b6 (by omega)
  have q0 : ∀ c, c < 6 → upd (upd (upd (upd (upd (upd (upd s p (f (4 + p) - x)) (28 + 6 * n + 0) (nI a)) (28 + 6 * n + 1) (nI p)) (28 + 6 * n + 2) x) (28 + 6 * n + 3) (f 0)) (28 + 6 * n + 4) (f 0 + t)) (28 + 6 * n + 5) 0 (28 + 6 * n + c) = upd (upd (upd (upd (upd (upd (upd f (4 + p) (f (4 + p) - x)) (24 + 6 * n + 0) (nI a)) (24 + 6 * n + 1) (nI p)) (24 + 6 * n + 2) x) (24 + 6 * n + 3) (f 0)) (24 + 6 * n + 4) (f 0 + t)) (24 + 6 * n + 5) 0 (24 + 6 * n + c) := fun c hc => by
    refine upd2 (by omega) (fun e5 => upd2 (by omega) (fun e4 => upd2 (by omega) (fun e3 => upd2 (by omega) (fun e2 => upd2 (by omega) (fun e1 => upd2 (by omega) (fun e0 => by omega))))))
  generalize upd (upd (upd (upd (upd (upd (upd s p (f (4 + p) - x)) (28 + 6 * n + 0) (nI a)) (28 + 6 * n + 1) (nI p)) (28 + 6 * n + 2) x) (28 + 6 * n + 3) (f 0)) (28 + 6 * n + 4) (f 0 + t)) (28 + 6 * n + 5) 0 = s7 at *
  generalize upd (upd (upd (upd (upd (upd (upd f (4 + p) (f (4 + p) - x)) (24 + 6 * n + 0) (nI a)) (24 + 6 * n + 1) (nI p)) (24 + 6 * n + 2) x) (24 + 6 * n + 3) (f 0)) (24 + 6 * n + 4) (f 0 + t)) (24 + 6 * n + 5) 0 = f7 at *
  have e : nlo (upd f7 3 (nI (n + 1))) = n + 1 := by
    unfold nlo
    rw [upd_eq, nI_clamp (by omega)]
  rw [RR_m, e]
  obtain ⟨h1, h2, h3, h4, h5, h6, h7, h8⟩ := b7
  refine ⟨fun q hq => by rw [upd_ne (by omega), upd_ne (by omega)]; exact h1 q hq, fun q hq => by rw [upd_ne (by omega), upd_ne (by omega)]; exact h2 q hq, fun a ha => by rw [upd_ne (by omega), upd_ne (by omega)]; exact h3 a ha, fun a ha => by rw [upd_ne (by omega), upd_ne (by omega)]; exact h4 a ha, fun i hi => ?_, by rw [upd_eq, upd_eq], by rw [upd_ne (by omega), upd_ne (by omega)]; exact h7, by rw [upd_ne (by omega), upd_ne (by omega)]; exact h8⟩
  rw [upd_ne (by omega), upd_ne (by omega)]
  by_cases hi2 : i < 6 * n
  · exact h5 i hi2
  · have := q0 (i - 6 * n) (by omega)
    rw [show 28 + 6 * n + (i - 6 * n) = 28 + i by omega, show 24 + 6 * n + (i - 6 * n) = 24 + i by omega] at this
    exact this
theorem RR_end {s f : Nat → Int32} {n i : Nat} (h : RR s f) (hn : nlo f = n) (hf : f 3 = nI n) (hn2 : n ≤ 10) (hi : i < n) : RR (upd (shF (upd s 88 (nI (n - 1))) (28 + 6 * i) (6 * (n - 1 - i))) 89 (f 2 + 1)) (endF f i) := by
  have e : nlo (endF f i) = n - 1 := by
    unfold nlo endF
    rw [upd_ne (by omega), upd_eq, hf, show (1 : Int32) = nI 1 from rfl, pk_sub (by omega), nI_clamp (by omega)]
  obtain ⟨h1, h2, h3, h4, h5, h6, h7, h8⟩ := h
  rw [hn] at h5
  rw [RR_m, e]
  have ls : ∀ j, (j < 28 ∨ 88 ≤ j) → j ≠ 88 → j ≠ 89 → upd (shF (upd s 88 (nI (n - 1))) (28 + 6 * i) (6 * (n - 1 - i))) 89 (f 2 + 1) j = s j := fun j a1 a2 a3 => by
    rw [upd_ne a3]
    unfold shF
    rw [if_neg (by omega), upd_ne a2]
  have lf : ∀ j, j < 24 → j ≠ 3 → j ≠ 2 → endF f i j = f j := fun j a1 a2 a3 => by
    unfold endF
    rw [upd_ne a3, upd_ne a2]
    exact if_neg (by omega)
  refine ⟨fun p hp => by rw [ls _ (by omega) (by omega) (by omega), lf _ (by omega) (by omega) (by omega)]; exact h1 p hp, fun p hp => by rw [ls _ (by omega) (by omega) (by omega), lf _ (by omega) (by omega) (by omega)]; exact h2 p hp, fun p hp => by rw [ls _ (by omega) (by omega) (by omega), lf _ (by omega) (by omega) (by omega)]; exact h3 p hp, fun p hp => by rw [ls _ (by omega) (by omega) (by omega), lf _ (by omega) (by omega) (by omega)]; exact h4 p hp, fun j hj => ?_, ?_, ?_, by rw [ls _ (by omega) (by omega) (by omega), lf _ (by omega) (by omega) (by omega)]; exact h8⟩
  · unfold endF
    rw [upd_ne (by omega), upd_ne (by omega), upd_ne (by omega)]
    unfold shF
    by_cases z : 6 * i ≤ j
    · rw [if_pos (by omega), if_pos (by omega), upd_ne (by omega), show 28 + j + 6 = 28 + (j + 6) by omega, show 24 + j + 6 = 24 + (j + 6) by omega]
      exact h5 (j + 6) (by omega)
    · rw [if_neg (by omega), if_neg (by omega), upd_ne (by omega)]
      exact h5 j (by omega)
  · unfold endF
    rw [upd_ne (by omega), upd_ne (by omega), upd_eq]
    unfold shF
    rw [if_neg (by omega), upd_eq, hf, show (1 : Int32) = nI 1 from rfl, pk_sub (by omega)]
  · unfold endF
    rw [upd_eq, upd_eq]
theorem held_99 (x : Int32) : (if 99 < x then 99 else x) = min99 x := by
  unfold min99
  by_cases h1 : x < 99
  · rw [if_pos h1, if_neg (fun z => Int32.lt_irrefl (Int32.lt_trans h1 z))]
  · rw [if_neg h1]
    split
    · rfl
    · next h2 => exact Int32.le_antisymm (Int32.not_lt.mp h2) (Int32.not_lt.mp h1)
theorem held_9 (x : Int32) : (if 9 < x then 9 else x) = min9 x := by
  unfold min9
  by_cases h1 : x < 9
  · rw [if_pos h1, if_neg (fun z => Int32.lt_irrefl (Int32.lt_trans h1 z))]
  · rw [if_neg h1]
    split
    · rfl
    · next h2 => exact Int32.le_antisymm (Int32.not_lt.mp h2) (Int32.not_lt.mp h1)
theorem held_300 (x : Int32) : (if 300 < x then 300 else x) = min300 x := by
  unfold min300
  by_cases h1 : x < 300
  · rw [if_pos h1, if_neg (fun z => Int32.lt_irrefl (Int32.lt_trans h1 z))]
  · rw [if_neg h1]
    split
    · rfl
    · next h2 => exact Int32.le_antisymm (Int32.not_lt.mp h2) (Int32.not_lt.mp h1)
theorem max0_n {u : Nat} (hu : u ≤ 9) : max0 (nI u - 1) = nI u - (if 0 < nI u then 1 else 0) := by
  have : ∀ u, u ≤ 9 → max0 (nI u - 1) = nI u - (if 0 < nI u then 1 else 0) := by decide +kernel
  exact this u hu
section MDO
variable {G : mm_G} {l : Launch} {d nx : Nat} {h : Nat → mm_E} {g : MG} {A : MA} {k : CS} {cs : List Nat} {f : Nat → Int32} {N : Nat}
theorem n_lendsTo {a p x t : Nat} (hd : 2 ≤ d) (hx : 215 ≤ nx) (hM : MCN k (A 194) (A 195) (A 196)) (hR : RR (A 206) f) (hJ : RI k f) (ha : a < 6) (hp : p < k.1) : mm_Con G l yX11_lendsTo cX11_lendsTo 6 (some .boolean) d 0 0 [.ref 188, .int (nI a), .int (nI p), .int (nI x), .int (nI t)] nx (mos h g A) (P_mrow (doS k cs (0, [a, p, x, t], 0) f).2 (doS k cs (0, [a, p, x, t], 0) f).1 nx h g A) := by
  have hp8 : p < 8 := by have := hM.1; omega
  obtain ⟨hn10, e3, -⟩ := hJ.nl
  obtain ⟨s, hs⟩ : ∃ s, A 206 = s := ⟨_, rfl⟩
  simp only [doS]
  by_cases hc : ¬ 10 ≤ f 3 ∧ openC k f a p (nI x)
  · rw [if_pos hc]
    have hn : nlo f < 10 := Nat.lt_of_not_le fun z => hc.1 (by rw [e3]; exact nI_le (a := 10) z (by omega))
    generalize hnn : nlo f = n at hn e3 hn10 ⊢
    have e0 : s 90 = f 0 := by rw [← hs]; exact hR.2.2.2.2.2.2.2
    refine mm_start (lo := [some (.ref 188), some (.int (nI a)), some (.int (nI p)), some (.int (nI x)), some (.int (nI t)), none]) pn_X11 rfl rfl (Nat.le_of_ble_eq_true rfl) ?_
    refine mt_aload_n (pc := 0) dX11_lendsTo_0 rfl ?_
    refine mt_iload_n (pc := 1) dX11_lendsTo_1 rfl ?_
    refine mt_iload_n (pc := 2) dX11_lendsTo_2 rfl ?_
    refine mt_iload_n (pc := 3) dX11_lendsTo_3 rfl ?_
    refine mt_cV (pc := 4) (n_canLend (d := 1) (k := k) (f := f) (Nat.le_refl 1) hx hM hR ha hp) cal_X11_canLend vir_X11_canLend ml_X11_325 dX11_lendsTo_4 (by omega) (mos_o _ _ _) (by first | assumption | (show _ ≤ d; omega)) ⟨(Nat.le_of_ble_eq_true rfl), (Nat.le_of_ble_eq_true rfl)⟩ rfl rfl (Nat.le_of_ble_eq_true rfl) ?_
    rw [if_pos hc]
    refine mt_if_ne (pc := 7) (tgt := 12) dX11_lendsTo_7 (by decide) (fun c7 => ?_) (fun c7 => ?_)
    · skip
      rw [show mos h g A = mos h g (updR A 206 s) by rw [updR_self hs]]
      refine mt_bipush (pc := 12) (v := 28) dX11_lendsTo_12 (by decide) ?_
      refine mt_bipush (pc := 14) (v := 6) dX11_lendsTo_14 (by decide) ?_
      refine mt_aload_n (pc := 16) dX11_lendsTo_16 rfl ?_
      refine mt_mget (pc := 17) gf_X11_68 dX11_lendsTo_17 hx rfl ?_
      refine mt_bipush (pc := 20) (v := 88) dX11_lendsTo_20 (by decide) ?_
      refine mt_mald2 (pc := 22) (i := 206) (j := 88) (x := nI n) dX11_lendsTo_22 hx rfl rfl (by show _ < 91; omega) (by rw [← hs, hR.2.2.2.2.2.1]; exact e3) ?_
      refine mt_imulN (pc := 23) (a := 6) (b := n) dX11_lendsTo_23 rfl rfl ?_
      refine mt_iaddN (pc := 24) (a := 28) (b := 6 * n) dX11_lendsTo_24 rfl rfl ?_
      refine mt_istore (pc := 25) dX11_lendsTo_25 (Nat.le_of_ble_eq_true rfl) rfl ?_
      refine mt_aload_n (pc := 27) dX11_lendsTo_27 rfl ?_
      refine mt_mget (pc := 28) gf_X11_68 dX11_lendsTo_28 hx rfl ?_
      refine mt_iconst (pc := 31) (v := 0) dX11_lendsTo_31 (by decide) ?_
      refine mt_iload_n (pc := 32) dX11_lendsTo_32 rfl ?_
      refine mt_iaddN (pc := 33) (a := 0) (b := p) dX11_lendsTo_33 rfl rfl ?_
      refine mt_dup2 (pc := 34) dX11_lendsTo_34 rfl rfl ?_
      refine mt_mald2 (pc := 35) (i := 206) (j := p) (x := f (4 + p)) dX11_lendsTo_35 hx rfl (by rw [Nat.zero_add]) (by show _ < 91; omega) (by rw [← hs]; exact hR.1 p hp8) ?_
      refine mt_iload_n (pc := 36) dX11_lendsTo_36 rfl ?_
      refine mt_isub (pc := 37) dX11_lendsTo_37 ?_
      refine mt_mast2 (pc := 38) (i := 206) (j := p) dX11_lendsTo_38 hx rfl (by rw [Nat.zero_add]) (by show _ < 91; omega) ?_
      refine mt_aload_n (pc := 39) dX11_lendsTo_39 rfl ?_
      refine mt_mget (pc := 40) gf_X11_68 dX11_lendsTo_40 hx rfl ?_
      refine mt_iload (pc := 43) dX11_lendsTo_43 rfl ?_
      refine mt_iconst (pc := 45) (v := 0) dX11_lendsTo_45 (by decide) ?_
      refine mt_iaddN (pc := 46) (a := 28 + (6 * n)) (b := 0) dX11_lendsTo_46 rfl rfl ?_
      refine mt_iload_n (pc := 47) dX11_lendsTo_47 rfl ?_
      refine mt_mast2 (pc := 48) (i := 206) (j := (28 + (6 * n)) + 0) dX11_lendsTo_48 hx rfl rfl (by show _ < 91; omega) ?_
      refine mt_aload_n (pc := 49) dX11_lendsTo_49 rfl ?_
      refine mt_mget (pc := 50) gf_X11_68 dX11_lendsTo_50 hx rfl ?_
      refine mt_iload (pc := 53) dX11_lendsTo_53 rfl ?_
      refine mt_iconst (pc := 55) (v := 1) dX11_lendsTo_55 (by decide) ?_
      refine mt_iaddN (pc := 56) (a := 28 + (6 * n)) (b := 1) dX11_lendsTo_56 rfl rfl ?_
      refine mt_iload_n (pc := 57) dX11_lendsTo_57 rfl ?_
      refine mt_mast2 (pc := 58) (i := 206) (j := (28 + (6 * n)) + 1) dX11_lendsTo_58 hx rfl rfl (by show _ < 91; omega) ?_
      refine mt_aload_n (pc := 59) dX11_lendsTo_59 rfl ?_
      refine mt_mget (pc := 60) gf_X11_68 dX11_lendsTo_60 hx rfl ?_
      refine mt_iload (pc := 63) dX11_lendsTo_63 rfl ?_
      refine mt_iconst (pc := 65) (v := 2) dX11_lendsTo_65 (by decide) ?_
      refine mt_iaddN (pc := 66) (a := 28 + (6 * n)) (b := 2) dX11_lendsTo_66 rfl rfl ?_
      refine mt_iload_n (pc := 67) dX11_lendsTo_67 rfl ?_
      refine mt_mast2 (pc := 68) (i := 206) (j := (28 + (6 * n)) + 2) dX11_lendsTo_68 hx rfl rfl (by show _ < 91; omega) ?_
      refine mt_aload_n (pc := 69) dX11_lendsTo_69 rfl ?_
      refine mt_mget (pc := 70) gf_X11_68 dX11_lendsTo_70 hx rfl ?_
      refine mt_iload (pc := 73) dX11_lendsTo_73 rfl ?_
      refine mt_iconst (pc := 75) (v := 3) dX11_lendsTo_75 (by decide) ?_
      refine mt_iaddN (pc := 76) (a := 28 + (6 * n)) (b := 3) dX11_lendsTo_76 rfl rfl ?_
      refine mt_aload_n (pc := 77) dX11_lendsTo_77 rfl ?_
      refine mt_mget (pc := 78) gf_X11_68 dX11_lendsTo_78 hx rfl ?_
      refine mt_bipush (pc := 81) (v := 90) dX11_lendsTo_81 (by decide) ?_
      refine mt_mald2 (pc := 83) (i := 206) (j := 90) (x := f 0) dX11_lendsTo_83 hx rfl rfl (by show _ < 91; omega) (by rw [upd_ne (by omega), upd_ne (by omega), upd_ne (by omega), upd_ne (by omega)]; exact e0) ?_
      refine mt_mast2 (pc := 84) (i := 206) (j := (28 + (6 * n)) + 3) dX11_lendsTo_84 hx rfl rfl (by show _ < 91; omega) ?_
      refine mt_aload_n (pc := 85) dX11_lendsTo_85 rfl ?_
      refine mt_mget (pc := 86) gf_X11_68 dX11_lendsTo_86 hx rfl ?_
      refine mt_iload (pc := 89) dX11_lendsTo_89 rfl ?_
      refine mt_iconst (pc := 91) (v := 4) dX11_lendsTo_91 (by decide) ?_
      refine mt_iaddN (pc := 92) (a := 28 + (6 * n)) (b := 4) dX11_lendsTo_92 rfl rfl ?_
      refine mt_aload_n (pc := 93) dX11_lendsTo_93 rfl ?_
      refine mt_mget (pc := 94) gf_X11_68 dX11_lendsTo_94 hx rfl ?_
      refine mt_bipush (pc := 97) (v := 90) dX11_lendsTo_97 (by decide) ?_
      refine mt_mald2 (pc := 99) (i := 206) (j := 90) (x := f 0) dX11_lendsTo_99 hx rfl rfl (by show _ < 91; omega) (by rw [upd_ne (by omega), upd_ne (by omega), upd_ne (by omega), upd_ne (by omega), upd_ne (by omega)]; exact e0) ?_
      refine mt_iload (pc := 100) dX11_lendsTo_100 rfl ?_
      refine mt_iadd (pc := 102) dX11_lendsTo_102 ?_
      refine mt_mast2 (pc := 103) (i := 206) (j := (28 + (6 * n)) + 4) dX11_lendsTo_103 hx rfl rfl (by show _ < 91; omega) ?_
      refine mt_aload_n (pc := 104) dX11_lendsTo_104 rfl ?_
      refine mt_mget (pc := 105) gf_X11_68 dX11_lendsTo_105 hx rfl ?_
      refine mt_iload (pc := 108) dX11_lendsTo_108 rfl ?_
      refine mt_iconst (pc := 110) (v := 5) dX11_lendsTo_110 (by decide) ?_
      refine mt_iaddN (pc := 111) (a := 28 + (6 * n)) (b := 5) dX11_lendsTo_111 rfl rfl ?_
      refine mt_iconst (pc := 112) (v := 0) dX11_lendsTo_112 (by decide) ?_
      refine mt_mast2 (pc := 113) (i := 206) (j := (28 + (6 * n)) + 5) dX11_lendsTo_113 hx rfl rfl (by show _ < 91; omega) ?_
      refine mt_aload_n (pc := 114) dX11_lendsTo_114 rfl ?_
      refine mt_mget (pc := 115) gf_X11_68 dX11_lendsTo_115 hx rfl ?_
      refine mt_bipush (pc := 118) (v := 88) dX11_lendsTo_118 (by decide) ?_
      refine mt_dup2 (pc := 120) dX11_lendsTo_120 rfl rfl ?_
      refine mt_mald2 (pc := 121) (i := 206) (j := 88) (x := nI n) dX11_lendsTo_121 hx rfl rfl (by show _ < 91; omega) (by rw [upd_ne (by omega), upd_ne (by omega), upd_ne (by omega), upd_ne (by omega), upd_ne (by omega), upd_ne (by omega), upd_ne (by omega), ← hs, hR.2.2.2.2.2.1]; exact e3) ?_
      refine mt_iconst (pc := 122) (v := 1) dX11_lendsTo_122 (by decide) ?_
      refine mt_iaddN (pc := 123) (a := n) (b := 1) dX11_lendsTo_123 rfl rfl ?_
      refine mt_mast2 (pc := 124) (i := 206) (j := 88) dX11_lendsTo_124 hx rfl rfl (by show _ < 91; omega) ?_
      refine mt_iconst (pc := 125) (v := 1) dX11_lendsTo_125 (by decide) ?_
      exact mt_zret rfl (by first | exact Or.inl rfl | exact Or.inr rfl) dX11_lendsTo_126 (Nat.le_of_ble_eq_true rfl) (Nat.le_of_ble_eq_true rfl) ⟨rfl, rfl, _, rfl, SD_u, by rw [updR_eq]; rw [← hnn] at hn ⊢; exact RR_lend (hs ▸ hR) rfl hn hp8⟩
    · exact absurd c7 (by decide)
  · rw [if_neg hc]
    refine mm_start (lo := [some (.ref 188), some (.int (nI a)), some (.int (nI p)), some (.int (nI x)), some (.int (nI t)), none]) pn_X11 rfl rfl (Nat.le_of_ble_eq_true rfl) ?_
    refine mt_aload_n (pc := 0) dX11_lendsTo_0 rfl ?_
    refine mt_iload_n (pc := 1) dX11_lendsTo_1 rfl ?_
    refine mt_iload_n (pc := 2) dX11_lendsTo_2 rfl ?_
    refine mt_iload_n (pc := 3) dX11_lendsTo_3 rfl ?_
    refine mt_cV (pc := 4) (n_canLend (d := 1) (k := k) (f := f) (Nat.le_refl 1) hx hM hR ha hp) cal_X11_canLend vir_X11_canLend ml_X11_325 dX11_lendsTo_4 (by omega) (mos_o _ _ _) (by first | assumption | (show _ ≤ d; omega)) ⟨(Nat.le_of_ble_eq_true rfl), (Nat.le_of_ble_eq_true rfl)⟩ rfl rfl (Nat.le_of_ble_eq_true rfl) ?_
    rw [if_neg hc]
    refine mt_if_ne (pc := 7) (tgt := 12) dX11_lendsTo_7 (by decide) (fun c7 => ?_) (fun c7 => ?_)
    · exact absurd rfl c7
    · skip
      refine mt_iconst (pc := 10) (v := 0) dX11_lendsTo_10 (by decide) ?_
      exact mt_zret rfl (by first | exact Or.inl rfl | exact Or.inr rfl) dX11_lendsTo_11 (Nat.le_of_ble_eq_true rfl) (Nat.le_of_ble_eq_true rfl) ⟨rfl, rfl, A, rfl, SD_rf, hR⟩
theorem n_earns {a x : Nat} (hd : 1 ≤ d) (hx : 215 ≤ nx) (hR : RR (A 206) f) (hJ : RI k f) (ha : a < 6) : mm_Con G l yX11_earns cX11_earns 3 (some .boolean) d 0 0 [.ref 188, .int (nI a), .int (nI x)] nx (mos h g A) (P_mrow (doS k cs (2, [a, x], 0) f).2 (doS k cs (2, [a, x], 0) f).1 nx h g A) := by
  obtain ⟨hn10, e3, -⟩ := hJ.nl
  obtain ⟨s, hs⟩ : ∃ s, A 206 = s := ⟨_, rfl⟩
  obtain ⟨u, u1, u2⟩ := hJ.2.2.2.1 a ha
  have e0 : s (22 + a) = f (18 + a) := by rw [← hs]; exact hR.2.2.2.1 a ha
  simp only [doS]
  by_cases hc : f (18 + a) < 300
  · rw [if_pos hc]
    refine mm_start (lo := [some (.ref 188), some (.int (nI a)), some (.int (nI x))]) pn_X11 rfl rfl (Nat.le_of_ble_eq_true rfl) ?_
    rw [show mos h g A = mos h g (updR A 206 s) by rw [updR_self hs]]
    refine mt_aload_n (pc := 0) dX11_earns_0 rfl ?_
    refine mt_mget (pc := 1) gf_X11_68 dX11_earns_1 hx rfl ?_
    refine mt_bipush (pc := 4) (v := 22) dX11_earns_4 (by decide) ?_
    refine mt_iload_n (pc := 6) dX11_earns_6 rfl ?_
    refine mt_iaddN (pc := 7) (a := 22) (b := a) dX11_earns_7 rfl rfl ?_
    refine mt_mald2 (pc := 8) (i := 206) (j := 22 + a) (x := f (18 + a)) dX11_earns_8 hx rfl rfl (by show _ < 91; omega) e0 ?_
    refine mt_sipush (pc := 9) (v := 300) dX11_earns_9 (by decide) ?_
    refine mt_icmp_ne (pc := 12) (tgt := 17) dX11_earns_12 (by decide) (fun c12 => ?_) (fun c12 => ?_)
    · skip
      refine mt_aload_n (pc := 17) dX11_earns_17 rfl ?_
      refine mt_mget (pc := 18) gf_X11_68 dX11_earns_18 hx rfl ?_
      refine mt_bipush (pc := 21) (v := 22) dX11_earns_21 (by decide) ?_
      refine mt_iload_n (pc := 23) dX11_earns_23 rfl ?_
      refine mt_iaddN (pc := 24) (a := 22) (b := a) dX11_earns_24 rfl rfl ?_
      refine mt_aload_n (pc := 25) dX11_earns_25 rfl ?_
      refine mt_mget (pc := 26) gf_X11_68 dX11_earns_26 hx rfl ?_
      refine mt_bipush (pc := 29) (v := 22) dX11_earns_29 (by decide) ?_
      refine mt_iload_n (pc := 31) dX11_earns_31 rfl ?_
      refine mt_iaddN (pc := 32) (a := 22) (b := a) dX11_earns_32 rfl rfl ?_
      refine mt_mald2 (pc := 33) (i := 206) (j := 22 + a) (x := f (18 + a)) dX11_earns_33 hx rfl rfl (by show _ < 91; omega) e0 ?_
      refine mt_iload_n (pc := 34) dX11_earns_34 rfl ?_
      refine mt_iadd (pc := 35) dX11_earns_35 ?_
      refine mt_sipush (pc := 36) (v := 300) dX11_earns_36 (by decide) ?_
      refine mt_cS (pc := 39) (n_held) cal_X11_held sta_X11_held ml_X11_331 dX11_earns_39 (by first | assumption | (show _ ≤ d; omega)) ⟨(Nat.le_of_ble_eq_true rfl), (Nat.le_of_ble_eq_true rfl)⟩ rfl rfl (Nat.le_of_ble_eq_true rfl) ?_
      rw [held_300]
      refine mt_mast2 (pc := 42) (i := 206) (j := 22 + a) dX11_earns_42 hx rfl rfl (by show _ < 91; omega) ?_
      refine mt_iconst (pc := 43) (v := 1) dX11_earns_43 (by decide) ?_
      exact mt_zret rfl (by first | exact Or.inl rfl | exact Or.inr rfl) dX11_earns_44 (Nat.le_of_ble_eq_true rfl) (Nat.le_of_ble_eq_true rfl) ⟨rfl, rfl, _, rfl, SD_u, by rw [updR_eq]; exact RR_upd hn10 (hs ▸ hR) (Or.inr (Or.inl ⟨by omega, by omega, by omega⟩))⟩
    · exact absurd hc (by rw [c12]; decide)
  · rw [if_neg hc]
    have e1 : f (18 + a) = 300 := by
      rw [u1] at hc ⊢
      have : ¬ u < 300 := fun z => hc (nI_lt (b := 300) z (by decide))
      rw [show u = 300 by omega]
      rfl
    refine mm_start (lo := [some (.ref 188), some (.int (nI a)), some (.int (nI x))]) pn_X11 rfl rfl (Nat.le_of_ble_eq_true rfl) ?_
    rw [show mos h g A = mos h g (updR A 206 s) by rw [updR_self hs]]
    refine mt_aload_n (pc := 0) dX11_earns_0 rfl ?_
    refine mt_mget (pc := 1) gf_X11_68 dX11_earns_1 hx rfl ?_
    refine mt_bipush (pc := 4) (v := 22) dX11_earns_4 (by decide) ?_
    refine mt_iload_n (pc := 6) dX11_earns_6 rfl ?_
    refine mt_iaddN (pc := 7) (a := 22) (b := a) dX11_earns_7 rfl rfl ?_
    refine mt_mald2 (pc := 8) (i := 206) (j := 22 + a) (x := f (18 + a)) dX11_earns_8 hx rfl rfl (by show _ < 91; omega) e0 ?_
    refine mt_sipush (pc := 9) (v := 300) dX11_earns_9 (by decide) ?_
    refine mt_icmp_ne (pc := 12) (tgt := 17) dX11_earns_12 (by decide) (fun c12 => ?_) (fun c12 => ?_)
    · exact absurd e1 c12
    · skip
      refine mt_iconst (pc := 15) (v := 0) dX11_earns_15 (by decide) ?_
      exact mt_zret rfl (by first | exact Or.inl rfl | exact Or.inr rfl) dX11_earns_16 (Nat.le_of_ble_eq_true rfl) (Nat.le_of_ble_eq_true rfl) ⟨rfl, rfl, _, rfl, SD_u, by rw [updR_eq]; exact hs ▸ hR⟩
theorem n_passes (hd : 1 ≤ d) (hx : 215 ≤ nx) (hk : k.1 ≤ 8) (hR : RR (A 206) f) (hJ : RJ N k f) (hN : N < 1000) : mm_Con G l yX11_passes cX11_passes 2 none d 0 0 [.ref 188] nx (mos h g A) (fun o n m => o = .inl none ∧ n = nx ∧ ∃ S, m = mos h g (updR A 206 S) ∧ RR S (nigF f (nlo f))) := by
  obtain ⟨hn10, e3, -⟩ := hJ.1.nl
  obtain ⟨s, hs⟩ : ∃ s, A 206 = s := ⟨_, rfl⟩
  rw [hs] at hR
  have e0 : s 90 = f 0 := hR.2.2.2.2.2.2.2
  refine mm_start (lo := [some (.ref 188), none]) pn_X11 rfl rfl (Nat.le_of_ble_eq_true rfl) ?_
  rw [show mos h g A = mos h g (updR A 206 s) by rw [updR_self hs]]
  refine mt_aload_n (pc := 0) dX11_passes_0 rfl ?_
  refine mt_mget (pc := 1) gf_X11_68 dX11_passes_1 hx rfl ?_
  refine mt_bipush (pc := 4) (v := 90) dX11_passes_4 (by decide) ?_
  refine mt_dup2 (pc := 6) dX11_passes_6 rfl rfl ?_
  refine mt_mald2 (pc := 7) (i := 206) (j := 90) (x := f 0) dX11_passes_7 hx rfl rfl (by show _ < 91; omega) e0 ?_
  refine mt_iconst (pc := 8) (v := 1) dX11_passes_8 (by decide) ?_
  refine mt_iadd (pc := 9) dX11_passes_9 ?_
  refine mt_mast2 (pc := 10) (i := 206) (j := 90) dX11_passes_10 hx rfl rfl (by show _ < 91; omega) ?_
  refine mt_iconst (pc := 11) (v := 0) dX11_passes_11 (by decide) ?_
  refine mt_istore_n (pc := 12) dX11_passes_12 (Nat.le_of_ble_eq_true rfl) rfl ?_
  refine mt_forE (pc := 13) (α := Nat → Int32) (H := fun c (a : Nat → Int32) => mos h g (updR A 206 a)) (L := fun c (a : Nat → Int32) => [some (.ref 188), some (.int (nI c))]) (I := fun c (a : Nat → Int32) => RR a (nigF f c)) (nlo f) (fun c a hc fc nc => ?_) (fun a fc => ?_) _ (RR_upd hn10 hR (Or.inr (Or.inr (Or.inr ⟨rfl, rfl⟩))))
  · skip
    obtain ⟨hJ1, hnl⟩ := nigF_RJ hk hN hJ c (by omega)
    have hw := hJ1.1.nl.2.2
    have hc2 : c < nlo (nigF f c) := by rw [hnl]; exact hc
    have so := hw.so hc2
    have sl := hw.sl hc2
    have e9 : nigF f (c + 1) = ovF (nigF f c) c := rfl
    rw [e9] at nc
    have e3' := hJ1.1.nl.2.1
    rw [hnl] at e3'
    generalize nigF f c = F at fc hJ1 hnl hw hc2 so sl nc e3'
    refine mt_iload_n (pc := 13) dX11_passes_13 rfl ?_
    refine mt_aload_n (pc := 14) dX11_passes_14 rfl ?_
    refine mt_mget (pc := 15) gf_X11_68 dX11_passes_15 hx rfl ?_
    refine mt_bipush (pc := 18) (v := 88) dX11_passes_18 (by decide) ?_
    refine mt_mald2 (pc := 20) (i := 206) (j := 88) (x := nI (nlo f)) dX11_passes_20 hx rfl rfl (by show _ < 91; omega) (by rw [fc.2.2.2.2.2.1]; exact e3') ?_
    refine mt_icmp_ge (pc := 21) (tgt := 128) dX11_passes_21 (by decide) (fun c21 => ?_) (fun c21 => ?_)
    · exact absurd c21 (nI_ge hc (by first | omega | decide))
    · skip
      refine mt_aload_n (pc := 24) dX11_passes_24 rfl ?_
      refine mt_iload_n (pc := 25) dX11_passes_25 rfl ?_
      refine mt_iconst (pc := 26) (v := 4) dX11_passes_26 (by decide) ?_
      refine mt_cV (pc := 27) (n_loanOf (d := 0) (i := c) (k := 4) hx (by omega) (by decide)) cal_X11_loanOf vir_X11_loanOf ml_X11_314 dX11_passes_27 (by omega) (mos_o _ _ _) (by first | assumption | (show _ ≤ d; omega)) ⟨(Nat.le_of_ble_eq_true rfl), (Nat.le_of_ble_eq_true rfl)⟩ rfl rfl (Nat.le_of_ble_eq_true rfl) ?_
      rw [updR_eq, fc.ln hc2 (show 4 < 6 by decide)]
      refine mt_aload_n (pc := 30) dX11_passes_30 rfl ?_
      refine mt_mget (pc := 31) gf_X11_68 dX11_passes_31 hx rfl ?_
      refine mt_bipush (pc := 34) (v := 90) dX11_passes_34 (by decide) ?_
      refine mt_mald2 (pc := 36) (i := 206) (j := 90) (x := F 0) dX11_passes_36 hx rfl rfl (by show _ < 91; omega) (fc.2.2.2.2.2.2.2) ?_
      refine mt_icmp_ge (pc := 37) (tgt := 122) dX11_passes_37 (by decide) (fun c37 => ?_) (fun c37 => ?_)
      · refine mt_iinc (pc := 122) (c9 := 1) dX11_passes_122 rfl (by decide) (Nat.le_of_ble_eq_true rfl) rfl ?_
        refine mt_goto (pc := 125) (tgt := 13) dX11_passes_125 (by decide) ?_
        rw [show (nI c + 1 : Int32) = nI (c + 1) from nI_1 c]
        refine nc a ?_
        unfold ovF
        rw [if_neg (fun z => absurd z.1 (Int32.not_lt.mpr c37))]
        exact fc
      · skip
        refine mt_aload_n (pc := 40) dX11_passes_40 rfl ?_
        refine mt_iload_n (pc := 41) dX11_passes_41 rfl ?_
        refine mt_iconst (pc := 42) (v := 5) dX11_passes_42 (by decide) ?_
        refine mt_cV (pc := 43) (n_loanOf (d := 0) (i := c) (k := 5) hx (by omega) (by decide)) cal_X11_loanOf vir_X11_loanOf ml_X11_314 dX11_passes_43 (by omega) (mos_o _ _ _) (by first | assumption | (show _ ≤ d; omega)) ⟨(Nat.le_of_ble_eq_true rfl), (Nat.le_of_ble_eq_true rfl)⟩ rfl rfl (Nat.le_of_ble_eq_true rfl) ?_
        rw [updR_eq, fc.ln hc2 (show 5 < 6 by decide)]
        refine mt_iconst (pc := 46) (v := 1) dX11_passes_46 (by decide) ?_
        refine mt_icmp_ne (pc := 47) (tgt := 53) dX11_passes_47 (by decide) (fun c47 => ?_) (fun c47 => ?_)
        · skip
          refine mt_aload_n (pc := 53) dX11_passes_53 rfl ?_
          refine mt_mget (pc := 54) gf_X11_68 dX11_passes_54 hx rfl ?_
          refine mt_bipush (pc := 57) (v := 28) dX11_passes_57 (by decide) ?_
          refine mt_bipush (pc := 59) (v := 6) dX11_passes_59 (by decide) ?_
          refine mt_iload_n (pc := 61) dX11_passes_61 rfl ?_
          refine mt_imulN (pc := 62) (a := 6) (b := c) dX11_passes_62 rfl rfl ?_
          refine mt_iaddN (pc := 63) (a := 28) (b := 6 * c) dX11_passes_63 rfl rfl ?_
          refine mt_iconst (pc := 64) (v := 5) dX11_passes_64 (by decide) ?_
          refine mt_iaddN (pc := 65) (a := 28 + (6 * c)) (b := 5) dX11_passes_65 rfl rfl ?_
          refine mt_iconst (pc := 66) (v := 1) dX11_passes_66 (by decide) ?_
          refine mt_mast2 (pc := 67) (i := 206) (j := (28 + (6 * c)) + 5) dX11_passes_67 hx rfl rfl (by show _ < 91; omega) ?_
          refine mt_aload_n (pc := 68) dX11_passes_68 rfl ?_
          refine mt_mget (pc := 69) gf_X11_68 dX11_passes_69 hx rfl ?_
          refine mt_bipush (pc := 72) (v := 16) dX11_passes_72 (by decide) ?_
          refine mt_aload_n (pc := 74) dX11_passes_74 rfl ?_
          refine mt_iload_n (pc := 75) dX11_passes_75 rfl ?_
          refine mt_iconst (pc := 76) (v := 0) dX11_passes_76 (by decide) ?_
          refine mt_cV (pc := 77) (n_loanOf (d := 0) (i := c) (k := 0) hx (by omega) (by decide)) cal_X11_loanOf vir_X11_loanOf ml_X11_314 dX11_passes_77 (by omega) (mos_o _ _ _) (by first | assumption | (show _ ≤ d; omega)) ⟨(Nat.le_of_ble_eq_true rfl), (Nat.le_of_ble_eq_true rfl)⟩ rfl rfl (Nat.le_of_ble_eq_true rfl) ?_
          rw [updR_eq, upd_ne (by omega), fc.ln hc2 (show 0 < 6 by decide), so.1]
          refine mt_iaddN (pc := 80) (a := 16) (b := lsoul F c) dX11_passes_80 rfl rfl ?_
          refine mt_dup2 (pc := 81) dX11_passes_81 rfl rfl ?_
          refine mt_mald2 (pc := 82) (i := 206) (j := 16 + (lsoul F c)) (x := F (12 + lsoul F c)) dX11_passes_82 hx rfl rfl (by show _ < 91; omega) (by rw [upd_ne (by omega)]; exact fc.2.2.1 _ so.2) ?_
          refine mt_aload_n (pc := 83) dX11_passes_83 rfl ?_
          refine mt_mget (pc := 84) gf_X11_68 dX11_passes_84 hx rfl ?_
          refine mt_bipush (pc := 87) (v := 16) dX11_passes_87 (by decide) ?_
          refine mt_aload_n (pc := 89) dX11_passes_89 rfl ?_
          refine mt_iload_n (pc := 90) dX11_passes_90 rfl ?_
          refine mt_iconst (pc := 91) (v := 0) dX11_passes_91 (by decide) ?_
          refine mt_cV (pc := 92) (n_loanOf (d := 0) (i := c) (k := 0) hx (by omega) (by decide)) cal_X11_loanOf vir_X11_loanOf ml_X11_314 dX11_passes_92 (by omega) (mos_o _ _ _) (by first | assumption | (show _ ≤ d; omega)) ⟨(Nat.le_of_ble_eq_true rfl), (Nat.le_of_ble_eq_true rfl)⟩ rfl rfl (Nat.le_of_ble_eq_true rfl) ?_
          rw [updR_eq, upd_ne (by omega), fc.ln hc2 (show 0 < 6 by decide), so.1]
          refine mt_iaddN (pc := 95) (a := 16) (b := lsoul F c) dX11_passes_95 rfl rfl ?_
          refine mt_mald2 (pc := 96) (i := 206) (j := 16 + (lsoul F c)) (x := F (12 + lsoul F c)) dX11_passes_96 hx rfl rfl (by show _ < 91; omega) (by rw [upd_ne (by omega)]; exact fc.2.2.1 _ so.2) ?_
          refine mt_if_le (pc := 97) (tgt := 104) dX11_passes_97 (by decide) (fun c97 => ?_) (fun c97 => ?_)
          · skip
            have ev : F (12 + lsoul F c) - 0 = max0 (F (12 + lsoul F c) - 1) := by
              obtain ⟨u, u1, u2⟩ := hJ1.1.2.2.1 _ so.2
              rw [u1] at c97 ⊢
              rw [max0_n u2, if_neg (Int32.not_lt.mpr c97)]
            refine mt_iconst (pc := 104) (v := 0) dX11_passes_104 (by decide) ?_
            refine mt_isub (pc := 105) dX11_passes_105 ?_
            rw [ev]
            refine mt_mast2 (pc := 106) (i := 206) (j := 16 + (lsoul F c)) dX11_passes_106 hx rfl rfl (by show _ < 91; omega) ?_
            refine mt_aload_n (pc := 107) dX11_passes_107 rfl ?_
            refine mt_mget (pc := 108) gf_X11_68 dX11_passes_108 hx rfl ?_
            refine mt_bipush (pc := 111) (v := 8) dX11_passes_111 (by decide) ?_
            refine mt_aload_n (pc := 113) dX11_passes_113 rfl ?_
            refine mt_iload_n (pc := 114) dX11_passes_114 rfl ?_
            refine mt_iconst (pc := 115) (v := 1) dX11_passes_115 (by decide) ?_
            refine mt_cV (pc := 116) (n_loanOf (d := 0) (i := c) (k := 1) hx (by omega) (by decide)) cal_X11_loanOf vir_X11_loanOf ml_X11_314 dX11_passes_116 (by omega) (mos_o _ _ _) (by first | assumption | (show _ ≤ d; omega)) ⟨(Nat.le_of_ble_eq_true rfl), (Nat.le_of_ble_eq_true rfl)⟩ rfl rfl (Nat.le_of_ble_eq_true rfl) ?_
            rw [updR_eq, upd_ne (by omega), upd_ne (by omega), fc.ln hc2 (show 1 < 6 by decide), sl.1]
            refine mt_iaddN (pc := 119) (a := 8) (b := lslab F c) dX11_passes_119 rfl rfl ?_
            refine mt_iconst (pc := 120) (v := 1) dX11_passes_120 (by decide) ?_
            refine mt_mast2 (pc := 121) (i := 206) (j := 8 + (lslab F c)) dX11_passes_121 hx rfl rfl (by show _ < 91; omega) ?_
            refine mt_iinc (pc := 122) (c9 := 1) dX11_passes_122 rfl (by decide) (Nat.le_of_ble_eq_true rfl) rfl ?_
            refine mt_goto (pc := 125) (tgt := 13) dX11_passes_125 (by decide) ?_
            rw [show (nI c + 1 : Int32) = nI (c + 1) from nI_1 c]
            refine nc _ ?_
            unfold ovF
            rw [if_pos ⟨Int32.not_le.mp c37, c47⟩]
            unfold ov2 ov1
            rw [show upd F (24 + 6 * c + 5) 1 (12 + lsoul F c) = F (12 + lsoul F c) from upd_ne (by omega)]
            obtain ⟨z, z1, z2⟩ := hJ1.1.2.2.2.2.1
            have z3 := pow_mono hk
            refine RR_seal (z := z) (RR_upd (i := 16 + lsoul F c) (by rw [nlo_upd (by omega)]; omega) (RR_upd (i := 28 + 6 * c + 5) (by omega) fc (Or.inr (Or.inl ⟨by omega, by omega, by omega⟩))) (Or.inr (Or.inl ⟨by omega, by omega, by omega⟩))) sl.2 ?_ (by omega)
            rw [upd_ne (by omega), upd_ne (by omega)]
            exact z1
          · skip
            have ev : F (12 + lsoul F c) - 1 = max0 (F (12 + lsoul F c) - 1) := by
              obtain ⟨u, u1, u2⟩ := hJ1.1.2.2.1 _ so.2
              rw [u1] at c97 ⊢
              rw [max0_n u2, if_pos (Int32.not_le.mp c97)]
            refine mt_iconst (pc := 100) (v := 1) dX11_passes_100 (by decide) ?_
            refine mt_goto (pc := 101) (tgt := 105) dX11_passes_101 (by decide) ?_
            refine mt_isub (pc := 105) dX11_passes_105 ?_
            rw [ev]
            refine mt_mast2 (pc := 106) (i := 206) (j := 16 + (lsoul F c)) dX11_passes_106 hx rfl rfl (by show _ < 91; omega) ?_
            refine mt_aload_n (pc := 107) dX11_passes_107 rfl ?_
            refine mt_mget (pc := 108) gf_X11_68 dX11_passes_108 hx rfl ?_
            refine mt_bipush (pc := 111) (v := 8) dX11_passes_111 (by decide) ?_
            refine mt_aload_n (pc := 113) dX11_passes_113 rfl ?_
            refine mt_iload_n (pc := 114) dX11_passes_114 rfl ?_
            refine mt_iconst (pc := 115) (v := 1) dX11_passes_115 (by decide) ?_
            refine mt_cV (pc := 116) (n_loanOf (d := 0) (i := c) (k := 1) hx (by omega) (by decide)) cal_X11_loanOf vir_X11_loanOf ml_X11_314 dX11_passes_116 (by omega) (mos_o _ _ _) (by first | assumption | (show _ ≤ d; omega)) ⟨(Nat.le_of_ble_eq_true rfl), (Nat.le_of_ble_eq_true rfl)⟩ rfl rfl (Nat.le_of_ble_eq_true rfl) ?_
            rw [updR_eq, upd_ne (by omega), upd_ne (by omega), fc.ln hc2 (show 1 < 6 by decide), sl.1]
            refine mt_iaddN (pc := 119) (a := 8) (b := lslab F c) dX11_passes_119 rfl rfl ?_
            refine mt_iconst (pc := 120) (v := 1) dX11_passes_120 (by decide) ?_
            refine mt_mast2 (pc := 121) (i := 206) (j := 8 + (lslab F c)) dX11_passes_121 hx rfl rfl (by show _ < 91; omega) ?_
            refine mt_iinc (pc := 122) (c9 := 1) dX11_passes_122 rfl (by decide) (Nat.le_of_ble_eq_true rfl) rfl ?_
            refine mt_goto (pc := 125) (tgt := 13) dX11_passes_125 (by decide) ?_
            rw [show (nI c + 1 : Int32) = nI (c + 1) from nI_1 c]
            refine nc _ ?_
            unfold ovF
            rw [if_pos ⟨Int32.not_le.mp c37, c47⟩]
            unfold ov2 ov1
            rw [show upd F (24 + 6 * c + 5) 1 (12 + lsoul F c) = F (12 + lsoul F c) from upd_ne (by omega)]
            obtain ⟨z, z1, z2⟩ := hJ1.1.2.2.2.2.1
            have z3 := pow_mono hk
            refine RR_seal (z := z) (RR_upd (i := 16 + lsoul F c) (by rw [nlo_upd (by omega)]; omega) (RR_upd (i := 28 + 6 * c + 5) (by omega) fc (Or.inr (Or.inl ⟨by omega, by omega, by omega⟩))) (Or.inr (Or.inl ⟨by omega, by omega, by omega⟩))) sl.2 ?_ (by omega)
            rw [upd_ne (by omega), upd_ne (by omega)]
            exact z1
        · skip
          refine mt_goto (pc := 50) (tgt := 122) dX11_passes_50 (by decide) ?_
          refine mt_iinc (pc := 122) (c9 := 1) dX11_passes_122 rfl (by decide) (Nat.le_of_ble_eq_true rfl) rfl ?_
          refine mt_goto (pc := 125) (tgt := 13) dX11_passes_125 (by decide) ?_
          rw [show (nI c + 1 : Int32) = nI (c + 1) from nI_1 c]
          refine nc a ?_
          unfold ovF
          rw [if_neg (fun z => z.2 c47)]
          exact fc
  · skip
    have e3' := (nigF_RJ hk hN hJ _ (Nat.le_refl _)).1.1.nl.2.1
    rw [(nigF_RJ hk hN hJ _ (Nat.le_refl _)).2] at e3'
    refine mt_iload_n (pc := 13) dX11_passes_13 rfl ?_
    refine mt_aload_n (pc := 14) dX11_passes_14 rfl ?_
    refine mt_mget (pc := 15) gf_X11_68 dX11_passes_15 hx rfl ?_
    refine mt_bipush (pc := 18) (v := 88) dX11_passes_18 (by decide) ?_
    refine mt_mald2 (pc := 20) (i := 206) (j := 88) (x := nI (nlo f)) dX11_passes_20 hx rfl rfl (by show _ < 91; omega) (by rw [fc.2.2.2.2.2.1]; exact e3') ?_
    refine mt_icmp_ge (pc := 21) (tgt := 128) dX11_passes_21 (by decide) (fun c21 => ?_) (fun c21 => ?_)
    · skip
      exact mt_vret rfl dX11_passes_128 (Nat.le_of_ble_eq_true rfl) (Nat.le_of_ble_eq_true rfl) ⟨rfl, rfl, a, rfl, fc⟩
    · exact absurd (nI_le (Nat.le_refl _) (by first | omega | decide)) c21
end MDO
