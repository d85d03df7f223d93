/-! The reference's questions: serves, served, call. -/
/-- what findServed leaves -/
def P_fs (k : CS) (f : Nat → Int32) (bk : BS) (nx : Nat) (h : Nat → mm_E) (g : MG) (A : MA) : mm_P := fun o n m => o = .inl none ∧ n = nx ∧ ∃ g' A', m = mos h g' A' ∧ (∀ j, j ≠ 45 → j ≠ 46 → g' j = g j) ∧ AQ A A' ∧ g' 45 = nI (bsV bk.1 k.1 (amN bk) (fun p => lnM k f bk p bk.1) 0 (rmN f) / 1000) ∧ g' 46 = nI (bsV bk.1 k.1 (amN bk) (fun p => lnM k f bk p bk.1) 0 (rmN f) % 1000) ∧ ∀ j, j < bk.1 → A' 212 j = oI (cgG bk.1 k.1 (amN bk) (fun p => lnM k f bk p bk.1) 0 (rmN f) j)
theorem GQ_45 {g g' : MG} (h : ∀ j, j ≠ 45 → j ≠ 46 → g' j = upd g 0 0 j) : GQ g g' := ⟨h 0 (by decide) (by decide), fun j a b c _ => (h j b c).trans (upd_ne a)⟩
/-- rooms as they are filled -/
def rmF (s r : Nat → Int32) (c : Nat) : Nat → Int32 := fun q => if q < c then s q else r q
theorem rmF_s (s r : Nat → Int32) (c : Nat) : upd (rmF s r c) c (s c) = rmF s r (c + 1) := by
  funext q
  unfold rmF
  by_cases h : q = c
  · subst h
    rw [upd_eq, if_pos (by omega)]
  · rw [upd_ne h]
    by_cases h2 : q < c
    · rw [if_pos h2, if_pos (by omega)]
    · rw [if_neg h2, if_neg (by omega)]
theorem rmF_0 (s r : Nat → Int32) : rmF s r 0 = r := by
  funext q
  exact if_neg (Nat.not_lt_zero q)
theorem oI_inj {x y : Option Nat} (hx : ∀ v, x = some v → v < 2 ^ 31) (hy : ∀ v, y = some v → v < 2 ^ 31) (h : oI x = oI y) : x = y := by
  rcases x with _ | u <;> rcases y with _ | v
  · rfl
  · exact absurd h.symm (fun z => by
      have := hy v rfl
      have h9 : (nI v).toInt = (-1 : Int32).toInt := congrArg _ z
      rw [nI_toInt this, show (-1 : Int32).toInt = -1 from rfl] at h9
      omega)
  · exact absurd h (fun z => by
      have := hx u rfl
      have h9 : (nI u).toInt = (-1 : Int32).toInt := congrArg _ z
      rw [nI_toInt this, show (-1 : Int32).toInt = -1 from rfl] at h9
      omega)
  · have := (nI_eq (hx u rfl) (hy v rfl)).mp h
    rw [this]
/-- lines from one on that aren't left out -/
def cSet (n b i s : Nat) : Prop := ∀ j, s.testBit j = (decide (i ≤ j) && (decide (j < n) && !b.testBit j))
theorem cSet_0 {n b : Nat} (hb : b < 2 ^ n) : cSet n b 0 (2 ^ n - 1 - b) := fun j => by
  rw [show 2 ^ n - 1 - b = 2 ^ n - (b + 1) by omega, Nat.testBit_two_pow_sub_succ hb]
  simp
section MCALL
variable {G : mm_G} {l : Launch} {d nx : Nat} {h : Nat → mm_E} {g : MG} {A : MA} {k : CS} {cs : List Nat} {f : Nat → Int32} {bk : BS}
theorem n_findServed (hd : 9 ≤ d) (hx : 215 ≤ nx) (hQ : MQs k cs g A) (h41 : g 41 = nI bk.1) (hB : MBK k.2.1 bk (A 209)) (hR : RR (A 205) f) (hI : RI k f) : mm_Con G l yX11_findServed cX11_findServed 2 none d 0 0 [.ref 188] nx (mos h g A) (P_fs k f bk nx h g A) := by
  obtain ⟨h18, h19, hM, hL⟩ := id hQ
  have hk1 := hM.1
  have hk2 := hM.2.1
  have hn := hB.1
  obtain ⟨hn10, e3, -⟩ := hI.nl
  have hU := hI.uw
  refine mm_start (lo := [some (.ref 188), none]) pn_X11 rfl rfl (Nat.le_of_ble_eq_true rfl) ?_
  refine mt_aload_n (pc := 0) dX11_findServed_0 rfl ?_
  refine mt_aV (pc := 1) (n_takeR (d := 1) (f := f) (Nat.le_refl 1) hx hR hn10) cal_X11_take vir_X11_take ml_X11_293 dX11_findServed_1 (by omega) (mos_o _ _ _) (by first | assumption | (show _ ≤ d; omega)) ⟨(Nat.le_of_ble_eq_true rfl), (Nat.le_of_ble_eq_true rfl)⟩ rfl rfl (Nat.le_of_ble_eq_true rfl) ?_ ?_
  · rintro x9 n9 k9 h9
    obtain ⟨⟨⟩, -⟩ := h9
  · rintro v9 n9 k9 ⟨⟨⟩, rfl, S, rfl, hS⟩
    refine ⟨rfl, ?_⟩
    refine mt_aload_n (pc := 4) dX11_findServed_4 rfl ?_
    refine mt_iconst (pc := 5) (v := 0) dX11_findServed_5 (by decide) ?_
    refine mt_mput (pc := 6) pf_X11_375 dX11_findServed_6 hx rfl ?_
    refine mt_aload_n (pc := 9) dX11_findServed_9 rfl ?_
    refine mt_iconst (pc := 10) (v := (-1)) dX11_findServed_10 (by decide) ?_
    refine mt_mput (pc := 11) pf_X11_378 dX11_findServed_11 hx rfl ?_
    refine mt_iconst (pc := 14) (v := 0) dX11_findServed_14 (by decide) ?_
    refine mt_istore_n (pc := 15) dX11_findServed_15 (Nat.le_of_ble_eq_true rfl) rfl ?_
    obtain ⟨ro, hro⟩ : ∃ ro, A 210 = ro := ⟨_, rfl⟩
    rw [show updR A 206 S = updR (updR A 206 S) 210 (rmF S ro 0) by rw [rmF_0]; exact (updR_self (by rw [updR_ne (by decide)]; exact hro)).symm]
    refine mt_for (pc := 16) (H := fun c => mos h (upd (upd g 45 0) 46 (-1)) (updR (updR A 206 S) 210 (rmF S ro c))) (L := fun c => [some (.ref 188), some (.int (nI c))]) (k.1) (fun c hc nc => ?_) ?_
    · skip
      refine mt_iload_n (pc := 16) dX11_findServed_16 rfl ?_
      refine mt_aload_n (pc := 17) dX11_findServed_17 rfl ?_
      refine mt_mgetI (pc := 18) (x := nI k.1) gf_X11_154 dX11_findServed_18 hx rfl h18 ?_
      refine mt_icmp_ge (pc := 21) (tgt := 44) dX11_findServed_21 (by decide) (fun c21 => ?_) (fun c21 => ?_)
      · exact absurd c21 (nI_ge hc (by first | omega | decide))
      · skip
        refine mt_aload_n (pc := 24) dX11_findServed_24 rfl ?_
        refine mt_mget (pc := 25) gf_X11_80 dX11_findServed_25 hx rfl ?_
        refine mt_iload_n (pc := 28) dX11_findServed_28 rfl ?_
        refine mt_aload_n (pc := 29) dX11_findServed_29 rfl ?_
        refine mt_mget (pc := 30) gf_X11_68 dX11_findServed_30 hx rfl ?_
        refine mt_iconst (pc := 33) (v := 0) dX11_findServed_33 (by decide) ?_
        refine mt_iload_n (pc := 34) dX11_findServed_34 rfl ?_
        refine mt_iaddN (pc := 35) (a := 0) (b := c) dX11_findServed_35 rfl rfl ?_
        refine mt_mald (pc := 36) (i := 206) (j := c) (x := S c) dX11_findServed_36 hx rfl (by rw [Nat.zero_add]) (by show _ < 91; omega) (by rw [updR_ne (by decide), updR_eq]) ?_
        refine mt_mast2 (pc := 37) (i := 210) (j := c) dX11_findServed_37 hx rfl rfl (by show _ < 8; omega) ?_
        refine mt_iinc (pc := 38) (c9 := 1) dX11_findServed_38 rfl (by decide) (Nat.le_of_ble_eq_true rfl) rfl ?_
        refine mt_goto (pc := 41) (tgt := 16) dX11_findServed_41 (by decide) ?_
        rw [show (nI c + 1 : Int32) = nI (c + 1) from nI_1 c, rmF_s]
        exact nc
    · skip
      refine mt_iload_n (pc := 16) dX11_findServed_16 rfl ?_
      refine mt_aload_n (pc := 17) dX11_findServed_17 rfl ?_
      refine mt_mgetI (pc := 18) (x := nI k.1) gf_X11_154 dX11_findServed_18 hx rfl h18 ?_
      refine mt_icmp_ge (pc := 21) (tgt := 44) dX11_findServed_21 (by decide) (fun c21 => ?_) (fun c21 => ?_)
      · skip
        refine mt_aload_n (pc := 44) dX11_findServed_44 rfl ?_
        refine mt_iconst (pc := 45) (v := 0) dX11_findServed_45 (by decide) ?_
        refine mt_iconst (pc := 46) (v := 0) dX11_findServed_46 (by decide) ?_
        refine mt_iconst (pc := 47) (v := 0) dX11_findServed_47 (by decide) ?_
        generalize hA2 : updR (updR A 206 S) 210 (rmF S ro k.1) = A2
        have q210 : A2 210 = rmF S ro k.1 := by rw [← hA2, updR_eq]
        have q206 : A2 206 = S := by rw [← hA2, updR_ne (by decide), updR_eq]
        have qo : ∀ j, j ≠ 206 → j ≠ 210 → A2 j = A j := fun j b1 b2 => by rw [← hA2, updR_ne b2, updR_ne b1]
        have hSV : MSV k cs bk f (upd (upd g 45 0) 46 (-1)) A2 := ⟨⟨h18, h19, by rw [qo 194 (by decide) (by decide), qo 195 (by decide) (by decide), qo 196 (by decide) (by decide)]; exact hM, by rw [qo 199 (by decide) (by decide), qo 200 (by decide) (by decide)]; exact hL⟩, h41, by rw [qo 209 (by decide) (by decide)]; exact hB, by rw [q206]; exact hS⟩
        have hRM : RMq k.1 (rmN f) (A2 210) := fun p hp => by
          rw [q210]
          show (if p < k.1 then S p else ro p) = _ ∧ _
          rw [if_pos hp, hS.1 p (by omega)]
          exact hU p (by omega)
        have hE : EM 0 (upd (upd g 45 0) 46 (-1)) := ⟨0, -1, rfl, rfl, by decide, by decide, by decide, by decide, fun _ => rfl⟩
        refine mt_aV (pc := 48) (n_tries (cs := cs) (bk := bk) hI bk.1 0 8 n9 _ A2 (rmN f) 0 0 0 (by omega) (by omega) (by omega) hx hSV (by omega) (by omega) hRM hE) cal_X11_tries vir_X11_tries ml_X11_384 dX11_findServed_48 (by omega) (mos_o _ _ _) (by first | assumption | (show _ ≤ d; omega)) ⟨(Nat.le_of_ble_eq_true rfl), (Nat.le_of_ble_eq_true rfl)⟩ rfl rfl (Nat.le_of_ble_eq_true rfl) ?_ ?_
        · rintro x9 n9 k9 h9
          obtain ⟨⟨⟩, -⟩ := h9
        · rintro v9 n9 k9 ⟨⟨⟩, rfl, g3, A3, M3, rfl, v1, v2, v3, v4, v5⟩
          refine ⟨rfl, ?_⟩
          exact mt_vret rfl dX11_findServed_51 (Nat.le_of_ble_eq_true rfl) (Nat.le_of_ble_eq_true rfl) ⟨rfl, rfl, g3, A3, rfl, fun j b1 b2 => (v1.1 j b1 b2).trans (by rw [upd_ne b2, upd_ne b1]), fun j b1 b2 b3 b4 b5 b6 => (v1.2 j b4 b5 b6).trans (qo j b3 b4), by
            rcases v5 with ⟨z1, z2, z3, z4⟩ | ⟨z1, z2, z3⟩
            · obtain ⟨ml, mm, e1, e2, e3, e4, e5, e6, e7⟩ := v4
              have hmm : 0 ≤ mm := by
                rcases (show mm = -1 ∨ 0 ≤ mm by omega) with y | y
                · have := e7 y
                  omega
                · exact y
              refine ⟨by rw [e1]; congr 1; omega, ?_, fun j hj => ?_⟩
              · apply Int32.toInt_inj.mp
                rw [e2, nI_toInt (by omega)]
                omega
              · have := z4 j (by omega)
                rw [Nat.zero_add] at this
                exact this
            · omega⟩
      · exact absurd (nI_le (Nat.le_refl _) (by first | omega | decide)) c21
theorem n_serves {x : Int32} (hd : 10 ≤ d) (hx : 215 ≤ nx) (hQ : MQs k cs g A) (h41 : g 41 = nI bk.1) (hB : MBK k.2.1 bk (A 209)) (hR : RR (A 205) f) (hI : RI k f) : mm_Con G l yX11_serves cX11_serves 2 (some .int) d 0 0 [.ref 188, .int x] nx (mos h g A) (P_mq 1 1 (ifR x 0 1 (.inr (if x = 0 then nI (bsV bk.1 k.1 (amN bk) (fun p => lnM k f bk p bk.1) 0 (rmN f) / 1000) else nI (bsV bk.1 k.1 (amN bk) (fun p => lnM k f bk p bk.1) 0 (rmN f) % 1000)))) nx h g A) := by
  have hQ0 : MQs k cs (upd g 0 0) A := hQ
  by_cases hok : ¬ x < 0 ∧ ¬ 1 < x
  · rw [ifR_p hok]
    obtain ⟨r, hr⟩ : ∃ r : Nat ⊕ Int32, r = .inr (if x = 0 then nI (bsV bk.1 k.1 (amN bk) (fun p => lnM k f bk p bk.1) 0 (rmN f) / 1000) else nI (bsV bk.1 k.1 (amN bk) (fun p => lnM k f bk p bk.1) 0 (rmN f) % 1000)) := ⟨_, rfl⟩
    rw [← hr]
    refine mm_start (lo := [some (.ref 188), some (.int x)]) pn_X11 rfl rfl (Nat.le_of_ble_eq_true rfl) ?_
    refine mt_aload_n (pc := 0) dX11_serves_0 rfl ?_
    refine mt_iconst (pc := 1) (v := 0) dX11_serves_1 (by decide) ?_
    refine mt_mput (pc := 2) pf_X11_3 dX11_serves_2 hx rfl ?_
    refine mt_aload_n (pc := 5) dX11_serves_5 rfl ?_
    refine mt_iload_n (pc := 6) dX11_serves_6 rfl ?_
    refine mt_iconst (pc := 7) (v := 0) dX11_serves_7 (by decide) ?_
    refine mt_iconst (pc := 8) (v := 1) dX11_serves_8 (by decide) ?_
    refine mt_cS (pc := 9) (n_within) cal_X11_within sta_X11_within ml_X11_348 dX11_serves_9 (by first | assumption | (show _ ≤ d; omega)) ⟨(Nat.le_of_ble_eq_true rfl), (Nat.le_of_ble_eq_true rfl)⟩ rfl rfl (Nat.le_of_ble_eq_true rfl) ?_
    rw [in_w hok]
    refine mt_iconst (pc := 12) (v := 1) dX11_serves_12 (by decide) ?_
    refine mt_iconst (pc := 13) (v := 1) dX11_serves_13 (by decide) ?_
    refine mt_cV (pc := 14) (n_mayY (d := 0) (q := 1) hx rfl (by decide)) cal_X11_may vir_X11_may ml_X11_190 dX11_serves_14 (by omega) (mos_o _ _ _) (by first | assumption | (show _ ≤ d; omega)) ⟨(Nat.le_of_ble_eq_true rfl), (Nat.le_of_ble_eq_true rfl)⟩ rfl rfl (Nat.le_of_ble_eq_true rfl) ?_
    refine mt_if_ne (pc := 17) (tgt := 22) dX11_serves_17 (by decide) (fun c17 => ?_) (fun c17 => ?_)
    · skip
      refine mt_aload_n (pc := 22) dX11_serves_22 rfl ?_
      refine mt_aV (pc := 23) (n_findServed (d := 9) (k := k) (cs := cs) (f := f) (bk := bk) (Nat.le_refl 9) hx hQ0 h41 hB hR hI) cal_X11_findServed vir_X11_findServed ml_X11_388 dX11_serves_23 (by omega) (mos_o _ _ _) (by first | assumption | (show _ ≤ d; omega)) ⟨(Nat.le_of_ble_eq_true rfl), (Nat.le_of_ble_eq_true rfl)⟩ rfl rfl (Nat.le_of_ble_eq_true rfl) ?_ ?_
      · rintro x9 n9 k9 h9
        obtain ⟨⟨⟩, -⟩ := h9
      · rintro v9 n9 k9 ⟨⟨⟩, rfl, g3, A3, rfl, v1, v2, v3, v4, v5⟩
        refine ⟨rfl, ?_⟩
        refine mt_iload_n (pc := 26) dX11_serves_26 rfl ?_
        refine mt_if_ne (pc := 27) (tgt := 37) dX11_serves_27 (by decide) (fun c27 => ?_) (fun c27 => ?_)
        · skip
          refine mt_aload_n (pc := 37) dX11_serves_37 rfl ?_
          refine mt_mgetI (pc := 38) (x := nI (bsV bk.1 k.1 (amN bk) (fun p => lnM k f bk p bk.1) 0 (rmN f) % 1000)) gf_X11_378 dX11_serves_38 hx rfl v4 ?_
          exact mt_iret rfl dX11_serves_41 (Nat.le_of_ble_eq_true rfl) (Nat.le_of_ble_eq_true rfl) (P_mqv (c0 := 1) (c1 := 1) (r := r) (by rw [hr, if_neg c27]) (GQ_45 v1) v2)
        · skip
          refine mt_aload_n (pc := 30) dX11_serves_30 rfl ?_
          refine mt_mgetI (pc := 31) (x := nI (bsV bk.1 k.1 (amN bk) (fun p => lnM k f bk p bk.1) 0 (rmN f) / 1000)) gf_X11_375 dX11_serves_31 hx rfl v3 ?_
          refine mt_goto (pc := 34) (tgt := 41) dX11_serves_34 (by decide) ?_
          exact mt_iret rfl dX11_serves_41 (Nat.le_of_ble_eq_true rfl) (Nat.le_of_ble_eq_true rfl) (P_mqv (c0 := 1) (c1 := 1) (r := r) (by rw [hr, if_pos c27]) (GQ_45 v1) v2)
    · exact absurd c17 (by decide)
  · rw [ifR_n hok]
    refine mm_start (lo := [some (.ref 188), some (.int x)]) pn_X11 rfl rfl (Nat.le_of_ble_eq_true rfl) ?_
    refine mt_aload_n (pc := 0) dX11_serves_0 rfl ?_
    refine mt_iconst (pc := 1) (v := 0) dX11_serves_1 (by decide) ?_
    refine mt_mput (pc := 2) pf_X11_3 dX11_serves_2 hx rfl ?_
    refine mt_aload_n (pc := 5) dX11_serves_5 rfl ?_
    refine mt_iload_n (pc := 6) dX11_serves_6 rfl ?_
    refine mt_iconst (pc := 7) (v := 0) dX11_serves_7 (by decide) ?_
    refine mt_iconst (pc := 8) (v := 1) dX11_serves_8 (by decide) ?_
    refine mt_cS (pc := 9) (n_within) cal_X11_within sta_X11_within ml_X11_348 dX11_serves_9 (by first | assumption | (show _ ≤ d; omega)) ⟨(Nat.le_of_ble_eq_true rfl), (Nat.le_of_ble_eq_true rfl)⟩ rfl rfl (Nat.le_of_ble_eq_true rfl) ?_
    rw [in_nw hok]
    refine mt_iconst (pc := 12) (v := 1) dX11_serves_12 (by decide) ?_
    refine mt_iconst (pc := 13) (v := 1) dX11_serves_13 (by decide) ?_
    refine mt_cV (pc := 14) (n_mayN (d := 0) (q := 1) hx (by decide) rfl rfl (by decide)) cal_X11_may vir_X11_may ml_X11_190 dX11_serves_14 (by omega) (mos_o _ _ _) (by first | assumption | (show _ ≤ d; omega)) ⟨(Nat.le_of_ble_eq_true rfl), (Nat.le_of_ble_eq_true rfl)⟩ rfl rfl (Nat.le_of_ble_eq_true rfl) ?_
    refine mt_if_ne (pc := 17) (tgt := 22) dX11_serves_17 (by decide) (fun c17 => ?_) (fun c17 => ?_)
    · exact absurd rfl c17
    · skip
      refine mt_iconst (pc := 20) (v := 0) dX11_serves_20 (by decide) ?_
      exact mt_iret rfl dX11_serves_21 (Nat.le_of_ble_eq_true rfl) (Nat.le_of_ble_eq_true rfl) (P_mq1 (c0 := 1) (c1 := 1) (r := .inl 1) rfl)
theorem n_served {x : Int32} (hd : 10 ≤ d) (hx : 215 ≤ nx) (hQ : MQs k cs g A) (h41 : g 41 = nI bk.1) (hB : MBK k.2.1 bk (A 209)) (hR : RR (A 205) f) (hI : RI k f) : mm_Con G l yX11_served cX11_served 2 (some .int) d 0 0 [.ref 188, .int x] nx (mos h g A) (P_mq 1 1 (if inR x bk.1 then .inr (oI (slS (bsV bk.1 k.1 (amN bk) (fun p => lnM k f bk p bk.1)) (amN bk) (fun p => lnM k f bk p bk.1) k.1 (rmN f) (x.toNatClampNeg + 1)).2.1) else .inl 0) nx h g A) := by
  have hQ0 : MQs k cs (upd g 0 0) A := hQ
  have hn := hB.1
  by_cases hp : inR x bk.1
  · rw [if_pos hp]
    obtain ⟨j, hj, rfl⟩ := inR_of hp (by omega)
    rw [nI_clamp (by omega), sl_cg hj]
    refine mm_start (lo := [some (.ref 188), some (.int (nI j))]) pn_X11 rfl rfl (Nat.le_of_ble_eq_true rfl) ?_
    refine mt_aload_n (pc := 0) dX11_served_0 rfl ?_
    refine mt_iconst (pc := 1) (v := 0) dX11_served_1 (by decide) ?_
    refine mt_mput (pc := 2) pf_X11_3 dX11_served_2 hx rfl ?_
    refine mt_aload_n (pc := 5) dX11_served_5 rfl ?_
    refine mt_iload_n (pc := 6) dX11_served_6 rfl ?_
    refine mt_iconst (pc := 7) (v := 0) dX11_served_7 (by decide) ?_
    refine mt_aload_n (pc := 8) dX11_served_8 rfl ?_
    refine mt_mgetI (pc := 9) (x := nI bk.1) gf_X11_167 dX11_served_9 hx rfl h41 ?_
    refine mt_iconst (pc := 12) (v := 1) dX11_served_12 (by decide) ?_
    refine mt_isub (pc := 13) dX11_served_13 ?_
    refine mt_cS (pc := 14) (n_within) cal_X11_within sta_X11_within ml_X11_348 dX11_served_14 (by first | assumption | (show _ ≤ d; omega)) ⟨(Nat.le_of_ble_eq_true rfl), (Nat.le_of_ble_eq_true rfl)⟩ rfl rfl (Nat.le_of_ble_eq_true rfl) ?_
    rw [in_wR (by omega) hp]
    refine mt_iconst (pc := 17) (v := 1) dX11_served_17 (by decide) ?_
    refine mt_iconst (pc := 18) (v := 0) dX11_served_18 (by decide) ?_
    refine mt_cV (pc := 19) (n_mayY (d := 0) (q := 0) hx rfl (by decide)) cal_X11_may vir_X11_may ml_X11_190 dX11_served_19 (by omega) (mos_o _ _ _) (by first | assumption | (show _ ≤ d; omega)) ⟨(Nat.le_of_ble_eq_true rfl), (Nat.le_of_ble_eq_true rfl)⟩ rfl rfl (Nat.le_of_ble_eq_true rfl) ?_
    refine mt_if_ne (pc := 22) (tgt := 27) dX11_served_22 (by decide) (fun c22 => ?_) (fun c22 => ?_)
    · skip
      refine mt_aload_n (pc := 27) dX11_served_27 rfl ?_
      refine mt_aV (pc := 28) (n_findServed (d := 9) (k := k) (cs := cs) (f := f) (bk := bk) (Nat.le_refl 9) hx hQ0 h41 hB hR hI) cal_X11_findServed vir_X11_findServed ml_X11_388 dX11_served_28 (by omega) (mos_o _ _ _) (by first | assumption | (show _ ≤ d; omega)) ⟨(Nat.le_of_ble_eq_true rfl), (Nat.le_of_ble_eq_true rfl)⟩ rfl rfl (Nat.le_of_ble_eq_true rfl) ?_ ?_
      · rintro x9 n9 k9 h9
        obtain ⟨⟨⟩, -⟩ := h9
      · rintro v9 n9 k9 ⟨⟨⟩, rfl, g3, A3, rfl, v1, v2, v3, v4, v5⟩
        refine ⟨rfl, ?_⟩
        refine mt_aload_n (pc := 31) dX11_served_31 rfl ?_
        refine mt_mget (pc := 32) gf_X11_86 dX11_served_32 hx rfl ?_
        refine mt_iload_n (pc := 35) dX11_served_35 rfl ?_
        refine mt_mald (pc := 36) (i := 212) (j := j) (x := oI (cgG bk.1 k.1 (amN bk) (fun p => lnM k f bk p bk.1) 0 (rmN f) j)) dX11_served_36 hx rfl rfl (by show _ < 6; omega) (v5 j hj) ?_
        exact mt_iret rfl dX11_served_37 (Nat.le_of_ble_eq_true rfl) (Nat.le_of_ble_eq_true rfl) (P_mqv (c0 := 1) (c1 := 1) (r := .inr (oI (cgG bk.1 k.1 (amN bk) (fun p => lnM k f bk p bk.1) 0 (rmN f) j))) rfl (GQ_45 v1) v2)
    · exact absurd c22 (by decide)
  · rw [if_neg hp]
    refine mm_start (lo := [some (.ref 188), some (.int x)]) pn_X11 rfl rfl (Nat.le_of_ble_eq_true rfl) ?_
    refine mt_aload_n (pc := 0) dX11_served_0 rfl ?_
    refine mt_iconst (pc := 1) (v := 0) dX11_served_1 (by decide) ?_
    refine mt_mput (pc := 2) pf_X11_3 dX11_served_2 hx rfl ?_
    refine mt_aload_n (pc := 5) dX11_served_5 rfl ?_
    refine mt_iload_n (pc := 6) dX11_served_6 rfl ?_
    refine mt_iconst (pc := 7) (v := 0) dX11_served_7 (by decide) ?_
    refine mt_aload_n (pc := 8) dX11_served_8 rfl ?_
    refine mt_mgetI (pc := 9) (x := nI bk.1) gf_X11_167 dX11_served_9 hx rfl h41 ?_
    refine mt_iconst (pc := 12) (v := 1) dX11_served_12 (by decide) ?_
    refine mt_isub (pc := 13) dX11_served_13 ?_
    refine mt_cS (pc := 14) (n_within) cal_X11_within sta_X11_within ml_X11_348 dX11_served_14 (by first | assumption | (show _ ≤ d; omega)) ⟨(Nat.le_of_ble_eq_true rfl), (Nat.le_of_ble_eq_true rfl)⟩ rfl rfl (Nat.le_of_ble_eq_true rfl) ?_
    rw [in_nwR (by omega) hp]
    refine mt_iconst (pc := 17) (v := 1) dX11_served_17 (by decide) ?_
    refine mt_iconst (pc := 18) (v := 0) dX11_served_18 (by decide) ?_
    refine mt_cV (pc := 19) (n_mayN (d := 0) (q := 0) hx (by decide) rfl rfl (by decide)) cal_X11_may vir_X11_may ml_X11_190 dX11_served_19 (by omega) (mos_o _ _ _) (by first | assumption | (show _ ≤ d; omega)) ⟨(Nat.le_of_ble_eq_true rfl), (Nat.le_of_ble_eq_true rfl)⟩ rfl rfl (Nat.le_of_ble_eq_true rfl) ?_
    refine mt_if_ne (pc := 22) (tgt := 27) dX11_served_22 (by decide) (fun c22 => ?_) (fun c22 => ?_)
    · exact absurd rfl c22
    · skip
      refine mt_iconst (pc := 25) (v := 0) dX11_served_25 (by decide) ?_
      exact mt_iret rfl dX11_served_26 (Nat.le_of_ble_eq_true rfl) (Nat.le_of_ble_eq_true rfl) (P_mq0 (c0 := 1) (c1 := 1) (r := .inl 0) rfl)
/-- whether it is so -/
def zI (z : Int32) (c : Prop) : Prop := (z = 1 ∧ c) ∨ (z = 0 ∧ ¬ c)
theorem zI_dec (c : Prop) : ∃ z, zI z c := by
  by_cases h : c
  · exact ⟨1, Or.inl ⟨rfl, h⟩⟩
  · exact ⟨0, Or.inr ⟨rfl, h⟩⟩
def P_ars (c : Prop) (k : CS) (nx : Nat) (h : Nat → mm_E) (g : MG) (A : MA) : mm_P := fun o n m => n = nx ∧ ∃ z, o = .inl (some (.int z)) ∧ zI z c ∧ ∃ ro, m = mos h g (updR A 210 ro) ∧ ∀ p, p < k.1 → ro p = A 210 p
theorem n_areServed (hI : RI k f) {b : Nat} (hb : b < 64) : ∀ (q i d nx : Nat) (g : MG) (A : MA) (R : Nat → Nat) (s : Nat), bk.1 - i = q → i ≤ bk.1 → q + 2 ≤ d → 215 ≤ nx → MSV k cs bk f g A → RMq k.1 R (A 210) → cSet bk.1 b i s → mm_Con G l yX11_areServed cX11_areServed 6 (some .boolean) d 0 0 [.ref 188, .int (nI i), .int (nI b)] nx (mos h g A) (P_ars (rch bk.1 (amN bk) (fun p => lnM k f bk p bk.1) R i k.1 s) k nx h g A)
  | 0, i, d, nx, g, A, R, s, hq, hi, hd, hx, hS, hR, hs => by
    obtain rfl : i = bk.1 := by omega
    have s0 : s = 0 := by
      apply Nat.eq_of_testBit_eq
      intro j
      rw [hs j, Nat.zero_testBit]
      by_cases z : bk.1 ≤ j
      · simp [show ¬ j < bk.1 by omega]
      · simp [z]
    refine mm_start (lo := [some (.ref 188), some (.int (nI bk.1)), some (.int (nI b)), none, none, none]) pn_X11 rfl rfl (Nat.le_of_ble_eq_true rfl) ?_
    refine mt_iload_n (pc := 0) dX11_areServed_0 rfl ?_
    refine mt_aload_n (pc := 1) dX11_areServed_1 rfl ?_
    refine mt_mgetI (pc := 2) (x := nI bk.1) gf_X11_167 dX11_areServed_2 hx rfl (hS.2.1) ?_
    refine mt_icmp_ne (pc := 5) (tgt := 10) dX11_areServed_5 (by decide) (fun c5 => ?_) (fun c5 => ?_)
    · exact absurd rfl c5
    · skip
      refine mt_iconst (pc := 8) (v := 1) dX11_areServed_8 (by decide) ?_
      exact mt_zret rfl (by first | exact Or.inl rfl | exact Or.inr rfl) dX11_areServed_9 (Nat.le_of_ble_eq_true rfl) (Nat.le_of_ble_eq_true rfl) ⟨rfl, 1, rfl, Or.inl ⟨rfl, (rch_n (Nat.le_refl _) _ _).mpr s0⟩, A 210, by rw [updR_self rfl], fun _ _ => rfl⟩
  | q + 1, i, d, nx, g, A, R, s, hq, hi, hd, hx, hS, hR, hs => by
    have hn := hS.2.2.1.1
    have hil : i < bk.1 := by omega
    obtain ⟨⟨h18, -, hM, -⟩, h41, hB, hRR⟩ := id hS
    have hk1 := hM.1
    have hk2 := hM.2.1
    obtain ⟨a1, a2, a3, -⟩ := hB.am hk2 hil
    have ih := n_areServed hI hb q (i + 1)
    have hq1 : bk.1 - (i + 1) = q := by omega
    have hd1 : q + 2 ≤ d - 1 := by omega
    have hdep : d - 1 + 1 ≤ d := by omega
    have hbit : ∀ p, (lnM k f bk p bk.1).testBit i = true ↔ elg k f bk i p := fun p => by rw [lnM_bit]; exact ⟨fun z => z.2, fun z => ⟨hil, z⟩⟩
    have hsi := hs i
    by_cases hbi : b.testBit i = true
    · have hsb : s.testBit i = false := by rw [hsi, hbi]; simp
      have hs1 : cSet bk.1 b (i + 1) s := fun j => by
        rw [hs j]
        by_cases z : i = j
        · subst z
          rw [hbi]
          simp
        · by_cases y : i ≤ j
          · simp [y, show i + 1 ≤ j by omega]
          · simp [y, show ¬ i + 1 ≤ j by omega]
      have hiff : rch bk.1 (amN bk) (fun p => lnM k f bk p bk.1) R (i + 1) k.1 s ↔ rch bk.1 (amN bk) (fun p => lnM k f bk p bk.1) R i k.1 s := by
        constructor
        · exact rch_up _ _
        · intro z
          rcases peel_1 hil _ _ z with y | ⟨p, y1, y2, y3, s', y4, y5, y6⟩
          · exact y
          · rw [y5, Nat.testBit_or, tb_2] at hsb
            simp at hsb
      rw [← show P_ars (rch bk.1 (amN bk) (fun p => lnM k f bk p bk.1) R (i + 1) k.1 s) k nx h g A = P_ars (rch bk.1 (amN bk) (fun p => lnM k f bk p bk.1) R i k.1 s) k nx h g A by rw [propext hiff]]
      have e1 : b / 2 ^ i % 2 = 1 := tb_and1.mpr hbi
      refine mm_start (lo := [some (.ref 188), some (.int (nI i)), some (.int (nI b)), none, none, none]) pn_X11 rfl rfl (Nat.le_of_ble_eq_true rfl) ?_
      refine mt_iload_n (pc := 0) dX11_areServed_0 rfl ?_
      refine mt_aload_n (pc := 1) dX11_areServed_1 rfl ?_
      refine mt_mgetI (pc := 2) (x := nI bk.1) gf_X11_167 dX11_areServed_2 hx rfl h41 ?_
      refine mt_icmp_ne (pc := 5) (tgt := 10) dX11_areServed_5 (by decide) (fun c5 => ?_) (fun c5 => ?_)
      · skip
        refine mt_iload_n (pc := 10) dX11_areServed_10 rfl ?_
        refine mt_iload_n (pc := 11) dX11_areServed_11 rfl ?_
        refine mt_ishr (pc := 12) dX11_areServed_12 ?_
        refine mt_iconst (pc := 13) (v := 1) dX11_areServed_13 (by decide) ?_
        refine mt_iand (pc := 14) dX11_areServed_14 ?_
        rw [bit32 (by omega) (by omega), e1]
        refine mt_iconst (pc := 15) (v := 1) dX11_areServed_15 (by decide) ?_
        refine mt_icmp_ne (pc := 16) (tgt := 28) dX11_areServed_16 (by decide) (fun c16 => ?_) (fun c16 => ?_)
        · exact absurd rfl c16
        · skip
          refine mt_aload_n (pc := 19) dX11_areServed_19 rfl ?_
          refine mt_iload_n (pc := 20) dX11_areServed_20 rfl ?_
          refine mt_iconst (pc := 21) (v := 1) dX11_areServed_21 (by decide) ?_
          refine mt_iaddN (pc := 22) (a := i) (b := 1) dX11_areServed_22 rfl rfl ?_
          refine mt_iload_n (pc := 23) dX11_areServed_23 rfl ?_
          refine mt_aV (pc := 24) (ih (d - 1) nx g A R s (by omega) (by omega) (by omega) hx hS hR hs1) cal_X11_areServed vir_X11_areServed ml_X11_391 dX11_areServed_24 (by omega) (mos_o _ _ _) (by show _ ≤ d; omega) ⟨(Nat.le_of_ble_eq_true rfl), (Nat.le_of_ble_eq_true rfl)⟩ rfl rfl (Nat.le_of_ble_eq_true rfl) ?_ ?_
          · rintro x9 n9 k9 h9
            obtain ⟨-, -, ⟨⟩, -⟩ := h9
          · rintro v9 n9 k9 ⟨rfl, z, ⟨⟩, hz, ro, rfl, hro⟩
            refine ⟨rfl, ?_⟩
            exact mt_zret rfl (by rcases hz with z | z; exact Or.inr z.1; exact Or.inl z.1) dX11_areServed_27 (Nat.le_of_ble_eq_true rfl) (Nat.le_of_ble_eq_true rfl) ⟨rfl, z, rfl, hz, ro, rfl, hro⟩
      · exact absurd c5 (nI_ne hil (by omega))
    · have hsb : s.testBit i = true := by
        rw [hsi]
        simp [hbi, hil]
      obtain ⟨s', r1, r2, r3⟩ := or_split hsb
      have hs1 : cSet bk.1 b (i + 1) s' := fun j => by
        rw [r3 j, hs j]
        by_cases z : i = j
        · subst z
          simp [show ¬ i + 1 ≤ i by omega]
        · by_cases y : i ≤ j
          · simp [y, z, show i + 1 ≤ j by omega]
          · simp [y, show ¬ i + 1 ≤ j by omega]
      have hiff : rch bk.1 (amN bk) (fun p => lnM k f bk p bk.1) R i k.1 s ↔ ∃ p, p < k.1 ∧ (elg k f bk i p ∧ amN bk i ≤ R p) ∧ rch bk.1 (amN bk) (fun p => lnM k f bk p bk.1) (updN R p (R p - amN bk i)) (i + 1) k.1 s' := by
        constructor
        · intro z
          rcases peel_1 hil _ _ z with y | ⟨p, y1, y2, y3, t, y4, y5, y6⟩
          · have := rch_bit _ _ y i hsb
            omega
          · refine ⟨p, y1, ⟨(hbit p).mp y2, y3⟩, ?_⟩
            have : t = s' := by
              apply Nat.eq_of_testBit_eq
              intro j
              by_cases e : i = j
              · subst e
                rw [y4, r1]
              · have h9 := congrArg (fun v => Nat.testBit v j) (r2.symm.trans y5)
                simp only [Nat.testBit_or, tb_2, decide_eq_false e, Bool.or_false] at h9
                exact h9.symm
            rw [← this]
            exact y6
        · rintro ⟨p, y1, ⟨y2, y3⟩, y4⟩
          rw [r2]
          exact peel_2 hil _ p s' y1 ((hbit p).mpr y2) y3 y4
      have e1 : b / 2 ^ i % 2 = 0 := by
        have : ¬ b / 2 ^ i % 2 = 1 := fun z => hbi (tb_and1.mp z)
        omega
      obtain ⟨ro0, hro0⟩ : ∃ ro, A 210 = ro := ⟨_, rfl⟩
      refine mm_start (lo := [some (.ref 188), some (.int (nI i)), some (.int (nI b)), none, none, none]) pn_X11 rfl rfl (Nat.le_of_ble_eq_true rfl) ?_
      refine mt_iload_n (pc := 0) dX11_areServed_0 rfl ?_
      refine mt_aload_n (pc := 1) dX11_areServed_1 rfl ?_
      refine mt_mgetI (pc := 2) (x := nI bk.1) gf_X11_167 dX11_areServed_2 hx rfl h41 ?_
      refine mt_icmp_ne (pc := 5) (tgt := 10) dX11_areServed_5 (by decide) (fun c5 => ?_) (fun c5 => ?_)
      · skip
        refine mt_iload_n (pc := 10) dX11_areServed_10 rfl ?_
        refine mt_iload_n (pc := 11) dX11_areServed_11 rfl ?_
        refine mt_ishr (pc := 12) dX11_areServed_12 ?_
        refine mt_iconst (pc := 13) (v := 1) dX11_areServed_13 (by decide) ?_
        refine mt_iand (pc := 14) dX11_areServed_14 ?_
        rw [bit32 (by omega) (by omega), e1]
        refine mt_iconst (pc := 15) (v := 1) dX11_areServed_15 (by decide) ?_
        refine mt_icmp_ne (pc := 16) (tgt := 28) dX11_areServed_16 (by decide) (fun c16 => ?_) (fun c16 => ?_)
        · skip
          refine mt_iconst (pc := 28) (v := 0) dX11_areServed_28 (by decide) ?_
          refine mt_istore_n (pc := 29) dX11_areServed_29 (Nat.le_of_ble_eq_true rfl) rfl ?_
          refine mt_aload_n (pc := 30) dX11_areServed_30 rfl ?_
          refine mt_mget (pc := 31) gf_X11_77 dX11_areServed_31 hx rfl ?_
          refine mt_iconst (pc := 34) (v := 3) dX11_areServed_34 (by decide) ?_
          refine mt_iload_n (pc := 35) dX11_areServed_35 rfl ?_
          refine mt_imulN (pc := 36) (a := 3) (b := i) dX11_areServed_36 rfl rfl ?_
          refine mt_iconst (pc := 37) (v := 2) dX11_areServed_37 (by decide) ?_
          refine mt_iaddN (pc := 38) (a := 3 * i) (b := 2) dX11_areServed_38 rfl rfl ?_
          refine mt_mald (pc := 39) (i := 209) (j := (3 * i) + 2) (x := nI (amN bk i)) dX11_areServed_39 hx rfl rfl (by show _ < 18; omega) a1 ?_
          refine mt_istore (pc := 40) dX11_areServed_40 (Nat.le_of_ble_eq_true rfl) rfl ?_
          refine mt_iconst (pc := 42) (v := 0) dX11_areServed_42 (by decide) ?_
          refine mt_istore (pc := 43) dX11_areServed_43 (Nat.le_of_ble_eq_true rfl) rfl ?_
          rw [show mos h g A = mos h g (updR A 210 ro0) by rw [updR_self hro0]]
          refine mt_forE (pc := 45) (α := (Nat → Int32) × Int32) (H := fun c (w : (Nat → Int32) × Int32) => mos h g (updR A 210 w.1)) (L := fun c (w : (Nat → Int32) × Int32) => [some (.ref 188), some (.int (nI i)), some (.int (nI b)), some (.int (w.2)), some (.int (nI (amN bk i))), some (.int (nI c))]) (I := fun c (w : (Nat → Int32) × Int32) => (∀ p, p < k.1 → w.1 p = A 210 p) ∧ zI w.2 (∃ p, p < c ∧ (elg k f bk i p ∧ amN bk i ≤ R p) ∧ rch bk.1 (amN bk) (fun p => lnM k f bk p bk.1) (updN R p (R p - amN bk i)) (i + 1) k.1 s')) (k.1) (fun c w hc fc nc => ?_) (fun w fc => ?_) ((ro0, 0)) (⟨fun p _ => by rw [hro0], Or.inr ⟨rfl, fun ⟨p, hp, _⟩ => absurd hp (Nat.not_lt_zero p)⟩⟩)
          · skip
            obtain ⟨ro, z⟩ := w
            obtain ⟨w1, w2⟩ := fc
            dsimp only at w1 w2 ⊢
            have hrc : ro c = nI (R c) := by rw [w1 c hc]; exact (hR c hc).1
            have hRc := (hR c hc).2
            have hS1 : MSV k cs bk f g (updR A 210 ro) := hS.tw ⟨fun _ _ _ => rfl, fun j b1 _ _ => updR_ne b1⟩
            refine mt_iload (pc := 45) dX11_areServed_45 rfl ?_
            refine mt_aload_n (pc := 47) dX11_areServed_47 rfl ?_
            refine mt_mgetI (pc := 48) (x := nI k.1) gf_X11_154 dX11_areServed_48 hx rfl h18 ?_
            refine mt_icmp_ge (pc := 51) (tgt := 122) dX11_areServed_51 (by decide) (fun c51 => ?_) (fun c51 => ?_)
            · exact absurd c51 (nI_ge hc (by first | omega | decide))
            · skip
              refine mt_iload_n (pc := 54) dX11_areServed_54 rfl ?_
              refine mt_if_ne (pc := 55) (tgt := 122) dX11_areServed_55 (by decide) (fun c55 => ?_) (fun c55 => ?_)
              · have yes := w2.resolve_right (fun y => c55 y.1)
                refine mt_iload_n (pc := 122) dX11_areServed_122 rfl ?_
                obtain ⟨z1, p, p1, p2, p3⟩ := yes
                exact mt_zret rfl (Or.inr z1) dX11_areServed_123 (Nat.le_of_ble_eq_true rfl) (Nat.le_of_ble_eq_true rfl) ⟨rfl, z, rfl, Or.inl ⟨z1, hiff.mpr ⟨p, by omega, p2, p3⟩⟩, ro, rfl, w1⟩
              · skip
                have no := w2.resolve_left (fun y => by rw [y.1] at c55; exact absurd c55 (by decide))
                obtain rfl : z = 0 := no.1
                refine mt_aload_n (pc := 58) dX11_areServed_58 rfl ?_
                refine mt_iload_n (pc := 59) dX11_areServed_59 rfl ?_
                refine mt_iload (pc := 60) dX11_areServed_60 rfl ?_
                refine mt_cV (pc := 62) (n_isFor (d := 1) (k := k) (cs := cs) (f := f) (bk := bk) (Nat.le_refl 1) hx hS1 hil hc) cal_X11_isFor vir_X11_isFor ml_X11_381 dX11_areServed_62 (by omega) (mos_o _ _ _) (by first | assumption | (show _ ≤ d; omega)) ⟨(Nat.le_of_ble_eq_true rfl), (Nat.le_of_ble_eq_true rfl)⟩ rfl rfl (Nat.le_of_ble_eq_true rfl) ?_
                refine mt_if_eq (pc := 65) (tgt := 116) dX11_areServed_65 (by decide) (fun c65 => ?_) (fun c65 => ?_)
                · skip
                  have ne : ¬ elg k f bk i c := fun y => by rw [if_pos y] at c65; exact absurd c65 (by decide)
                  refine mt_iinc (pc := 116) (c9 := 1) dX11_areServed_116 rfl (by decide) (Nat.le_of_ble_eq_true rfl) rfl ?_
                  refine mt_goto (pc := 119) (tgt := 45) dX11_areServed_119 (by decide) ?_
                  rw [show (nI c + 1 : Int32) = nI (c + 1) from nI_1 c]
                  refine nc (ro, 0) ⟨w1, Or.inr ⟨rfl, fun ⟨p, p1, p2, p3⟩ => ?_⟩⟩
                  rcases Nat.lt_or_eq_of_le (Nat.le_of_lt_succ p1) with y | rfl
                  · exact no.2 ⟨p, y, p2, p3⟩
                  · exact ne p2.1
                · skip
                  have el : elg k f bk i c := Classical.not_not.mp fun y => c65 (if_neg y)
                  refine mt_aload_n (pc := 68) dX11_areServed_68 rfl ?_
                  refine mt_mget (pc := 69) gf_X11_80 dX11_areServed_69 hx rfl ?_
                  refine mt_iload (pc := 72) dX11_areServed_72 rfl ?_
                  refine mt_mald2 (pc := 74) (i := 210) (j := c) (x := nI (R c)) dX11_areServed_74 hx rfl rfl (by show _ < 8; omega) hrc ?_
                  refine mt_iload (pc := 75) dX11_areServed_75 rfl ?_
                  refine mt_icmp_ge (pc := 77) (tgt := 83) dX11_areServed_77 (by decide) (fun c77 => ?_) (fun c77 => ?_)
                  · skip
                    have ge : amN bk i ≤ R c := Nat.le_of_not_lt fun y => nI_ge y (by omega) c77
                    refine mt_aload_n (pc := 83) dX11_areServed_83 rfl ?_
                    refine mt_mget (pc := 84) gf_X11_80 dX11_areServed_84 hx rfl ?_
                    refine mt_iload (pc := 87) dX11_areServed_87 rfl ?_
                    refine mt_dup2 (pc := 89) dX11_areServed_89 rfl rfl ?_
                    refine mt_mald2 (pc := 90) (i := 210) (j := c) (x := nI (R c)) dX11_areServed_90 hx rfl rfl (by show _ < 8; omega) hrc ?_
                    refine mt_iload (pc := 91) dX11_areServed_91 rfl ?_
                    refine mt_isubN (pc := 93) (a := R c) (b := amN bk i) dX11_areServed_93 rfl rfl (by omega) ?_
                    refine mt_mast2 (pc := 94) (i := 210) (j := c) dX11_areServed_94 hx rfl rfl (by show _ < 8; omega) ?_
                    refine mt_aload_n (pc := 95) dX11_areServed_95 rfl ?_
                    refine mt_iload_n (pc := 96) dX11_areServed_96 rfl ?_
                    refine mt_iconst (pc := 97) (v := 1) dX11_areServed_97 (by decide) ?_
                    refine mt_iaddN (pc := 98) (a := i) (b := 1) dX11_areServed_98 rfl rfl ?_
                    refine mt_iload_n (pc := 99) dX11_areServed_99 rfl ?_
                    have hRM : RMq k.1 (updN R c (R c - amN bk i)) (updR A 210 (upd ro c (nI (R c - amN bk i))) 210) := fun p hp => by
                      rw [updR_eq]
                      by_cases hpc : p = c
                      · subst hpc
                        rw [upd_eq, updN_eq]
                        exact ⟨rfl, by omega⟩
                      · rw [upd_ne hpc, updN_ne hpc, w1 p hp]
                        exact hR p hp
                    have hS2 : MSV k cs bk f g (updR A 210 (upd ro c (nI (R c - amN bk i)))) := hS.tw ⟨fun _ _ _ => rfl, fun j b1 _ _ => updR_ne b1⟩
                    refine mt_aV (pc := 100) (ih (d - 1) nx g (updR A 210 (upd ro c (nI (R c - amN bk i)))) (updN R c (R c - amN bk i)) s' hq1 hil hd1 hx hS2 hRM hs1) cal_X11_areServed vir_X11_areServed ml_X11_391 dX11_areServed_100 (by omega) (mos_o _ _ _) hdep ⟨(Nat.le_of_ble_eq_true rfl), (Nat.le_of_ble_eq_true rfl)⟩ rfl rfl (Nat.le_of_ble_eq_true rfl) ?_ ?_
                    · rintro x9 n9 k9 h9
                      obtain ⟨-, -, ⟨⟩, -⟩ := h9
                    · rintro v9 n9 k9 ⟨rfl, z3, ⟨⟩, hz3, ro3, rfl, hro3⟩
                      refine ⟨rfl, ?_⟩
                      rw [updR_updR]
                      have hr3 : ∀ p, p < k.1 → ro3 p = upd ro c (nI (R c - amN bk i)) p := fun p hp => by rw [hro3 p hp, updR_eq]
                      refine mt_istore_n (pc := 103) dX11_areServed_103 (Nat.le_of_ble_eq_true rfl) rfl ?_
                      refine mt_aload_n (pc := 104) dX11_areServed_104 rfl ?_
                      refine mt_mget (pc := 105) gf_X11_80 dX11_areServed_105 hx rfl ?_
                      refine mt_iload (pc := 108) dX11_areServed_108 rfl ?_
                      refine mt_dup2 (pc := 110) dX11_areServed_110 rfl rfl ?_
                      refine mt_mald2 (pc := 111) (i := 210) (j := c) (x := nI (R c - amN bk i)) dX11_areServed_111 hx rfl rfl (by show _ < 8; omega) (by rw [hr3 c hc, upd_eq]) ?_
                      refine mt_iload (pc := 112) dX11_areServed_112 rfl ?_
                      refine mt_iaddN (pc := 114) (a := R c - amN bk i) (b := amN bk i) dX11_areServed_114 rfl rfl ?_
                      refine mt_mast2 (pc := 115) (i := 210) (j := c) dX11_areServed_115 hx rfl rfl (by show _ < 8; omega) ?_
                      refine mt_iinc (pc := 116) (c9 := 1) dX11_areServed_116 rfl (by decide) (Nat.le_of_ble_eq_true rfl) rfl ?_
                      refine mt_goto (pc := 119) (tgt := 45) dX11_areServed_119 (by decide) ?_
                      rw [show (nI c + 1 : Int32) = nI (c + 1) from nI_1 c]
                      refine nc (upd ro3 c (nI (R c - amN bk i + amN bk i)), z3) ⟨fun p hp => ?_, ?_⟩
                      · show upd ro3 c (nI (R c - amN bk i + amN bk i)) p = _
                        by_cases hpc : p = c
                        · subst hpc
                          rw [upd_eq, show R p - amN bk i + amN bk i = R p by omega]
                          exact (hR p hp).1.symm
                        · rw [upd_ne hpc, hr3 p hp, upd_ne hpc]
                          exact w1 p hp
                      · rcases hz3 with ⟨y1, y2⟩ | ⟨y1, y2⟩
                        · exact Or.inl ⟨y1, c, by omega, ⟨el, ge⟩, y2⟩
                        · refine Or.inr ⟨y1, fun ⟨p, p1, p2, p3⟩ => ?_⟩
                          rcases Nat.lt_or_eq_of_le (Nat.le_of_lt_succ p1) with y | rfl
                          · exact no.2 ⟨p, y, p2, p3⟩
                          · exact y2 p3
                  · skip
                    have lt : ¬ amN bk i ≤ R c := fun y => c77 (nI_le y (by omega))
                    refine mt_goto (pc := 80) (tgt := 116) dX11_areServed_80 (by decide) ?_
                    refine mt_iinc (pc := 116) (c9 := 1) dX11_areServed_116 rfl (by decide) (Nat.le_of_ble_eq_true rfl) rfl ?_
                    refine mt_goto (pc := 119) (tgt := 45) dX11_areServed_119 (by decide) ?_
                    rw [show (nI c + 1 : Int32) = nI (c + 1) from nI_1 c]
                    refine nc (ro, 0) ⟨w1, Or.inr ⟨rfl, fun ⟨p, p1, p2, p3⟩ => ?_⟩⟩
                    rcases Nat.lt_or_eq_of_le (Nat.le_of_lt_succ p1) with y | rfl
                    · exact no.2 ⟨p, y, p2, p3⟩
                    · exact lt p2.2
          · skip
            obtain ⟨ro, z⟩ := w
            obtain ⟨w1, w2⟩ := fc
            dsimp only at w1 w2 ⊢
            have w2' : zI z (rch bk.1 (amN bk) (fun p => lnM k f bk p bk.1) R i k.1 s) := by rw [propext hiff]; exact w2
            refine mt_iload (pc := 45) dX11_areServed_45 rfl ?_
            refine mt_aload_n (pc := 47) dX11_areServed_47 rfl ?_
            refine mt_mgetI (pc := 48) (x := nI k.1) gf_X11_154 dX11_areServed_48 hx rfl h18 ?_
            refine mt_icmp_ge (pc := 51) (tgt := 122) dX11_areServed_51 (by decide) (fun c51 => ?_) (fun c51 => ?_)
            · skip
              refine mt_iload_n (pc := 122) dX11_areServed_122 rfl ?_
              exact mt_zret rfl (by rcases w2' with y | y; exact Or.inr y.1; exact Or.inl y.1) dX11_areServed_123 (Nat.le_of_ble_eq_true rfl) (Nat.le_of_ble_eq_true rfl) ⟨rfl, z, rfl, w2', ro, rfl, w1⟩
            · exact absurd (nI_le (Nat.le_refl _) (by first | omega | decide)) c51
        · exact absurd c16 (by decide)
      · exact absurd c5 (nI_ne hil (by omega))
end MCALL
