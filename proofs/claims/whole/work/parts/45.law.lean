/-! Law: becomeUntold, copyFrom; what is read always leaves one value. -/
def untF : Nat → Int32 := fun j => ([1000, 1000, 1001, 2002, 10, 2003, 2000, 1, 2000] : List Int32).getD j 0
def untL : List Nat := [1000, 1000, 1001, 2002, 10, 2003, 2000, 1, 2000]
section UNT
variable {M : mm_M} {own : String} {cc : ByteArray} {nx : Nat} {h : Nat → mm_E} {kc ks pc : Nat} {lo : List (Option Value)} {st : List Value}
theorem mt_acopyU {index j n1 : Nat} {g : Nat → Int32} (hl : Cond.methodLink own index arraycopyName ∈ mm_ws) (hd : decode cc pc = .ok (.invokestatic index, 3)) (hj : j < nx) (hh2 : h j = .inl (0, n1, .inl g)) (h1 : 9 ≤ n1) (hdep : 1 ≤ mm_d M) (hst : (st.map fun v => v.category).sum ≤ 8) (kk : mm_T M own cc nx (hset h j (.inl (0, n1, .inl (va_cpy untF g 0 0 9)))) kc ks (pc + 3) lo st) : mm_T M own cc nx h kc ks pc lo (.int (nI 9) :: .int 0 :: .ref j :: .int 0 :: .ref 1002000 :: st) := by
  intro p e s m args below meth c H locs ad ad0 ls C A B L
  have e0 : ((st.map (mm_rv ad)).map fun v => v.category).sum ≤ 8 := by rw [List.map_map, show ((fun v : Value => v.category) ∘ mm_rv ad) = (fun v => v.category) from funext (mm_rv_cat ad)]; exact hst
  obtain ⟨cell, hs1, hs2, hs3, hs4, -, hs6, hs7⟩ := (B.1.2.2.1.2.moved B.2.1).kept B.low
  have hx : ad 1002000 = mm_xa (mm_mG M) 1002000 := B.ext (by omega)
  have hD := B.2.2.2.2.2.1
  have hS := B.2.2.2.2.2.2.1
  have ha1 : (mm_w ad (mm_cA (mm_mG M)) nx h)[j]? = some (ad j, .inl (mm_cA (mm_mG M) 0, n1, .inl g)) := by rw [mm_w_get hj, hh2]; rfl
  have hcs : H[mm_xa (mm_mG M) 1002000]? = some cell := by rw [hS.2.1 _ (Array.getElem?_eq_some_iff.mp hs1).1 hs7]; exact hs1
  have hcd := B.2.2.2.2.1 j _ ha1
  obtain ⟨hv, k0, hk0, cm0, hkk0⟩ := hs2
  obtain ⟨-, k1, hk1, cm1, hkk1⟩ := (B.K.2 0 _ rfl).1 n1 (fun j => .int (g j))
  have hget : ∀ i, i < 9 → cell.slots[i]? = some (.int (untF i)) := hs6
  intro T hT X
  obtain ⟨vm', X', step⟩ := X.arraycopy C.1 C.own (C.ts _ hl) (C.ts _ ac_nat) (C.ts _ ac_sta) (C.ts _ ac_ini) (src := mm_xa (mm_mG M) 1002000) (dst := ad j) (cs := cell) (cd := vp_cell (mm_cA (mm_mG M) 0) (n1, .inl g)) (srcPos := 0) (destPos := 0) (n := nI 9) (by rw [hT]; exact hcs) (by rw [hT]; exact hcd) hv (fun _ q => by cases q) hs3 (fun q => by cases q) hk0 hk1 hkk0 hkk1 (by simp [refKind]) (by decide) (by decide) (by decide)
    (by rw [show (0 : Int32).toInt = 0 from rfl, show (nI 9).toInt = 9 from rfl]; omega)
    (by rw [show (0 : Int32).toInt = 0 from rfl, show (nI 9).toInt = 9 from rfl]; show ¬ _ > ((arrV (mm_cA (mm_mG M) 0) n1 (fun j => .int (g j))).slots.size : Int); rw [arrV_size]; omega)
    (fun vm₁ _ i hi => by
      have e : cell.slots.getD ((0 : Int32).toNatClampNeg + i) .null = .int (untF i) := by
        rw [show (0 : Int32).toNatClampNeg + i = i from Nat.zero_add i, Array.getD_eq_getD_getElem?, hget i hi]
        rfl
      rw [e]
      exact ⟨rfl, trivial⟩)
    (g := F0 m pc ls (.int (nI 9) :: .int 0 :: .ref (ad j) :: .int 0 :: .ref (mm_xa (mm_mG M) 1002000) :: st.map (mm_rv ad))) rfl (by rw [C.2.2.1, L.1]) (rest := st.map (mm_rv ad)) rfl (by rw [C.2.1]; exact hd) hdep (by show 2 * 0 + _ + (7 + 11) ≤ 40 * mm_d M; omega)
  have e1 : copied cell (vp_cell (mm_cA (mm_mG M) 0) (n1, .inl g)) 0 0 (nI 9) = vp_cell (mm_cA (mm_mG M) 0) (n1, .inl (va_cpy untF g 0 0 9)) := va_copiedX (fun z => .int z) cell (mm_cA (mm_mG M) 0) untF g hget (by decide)
  rw [e1] at X' step
  have hlt : ad j < H.size := (Array.getElem?_eq_some_iff.mp hcd).1
  have oq : ∀ q : Nat, q ≠ ad j → (H.setIfInBounds (ad j) (vp_cell (mm_cA (mm_mG M) 0) (n1, .inl (va_cpy untF g 0 0 9))))[q]? = H[q]? := fun q hq => by simp [Array.getElem?_setIfInBounds, Ne.symm hq]
  have hP2 := B.2.2.2.2.1.set hD ha1 (e := .inl (mm_cA (mm_mG M) 0, n1, .inl (va_cpy untF g 0 0 9))) (show (H.setIfInBounds (ad j) _)[ad j]? = some _ by simp [Array.getElem?_setIfInBounds, hlt]) oq
  obtain ⟨t, a1, b1⟩ := kk p e s m args below meth c _ _ ad ad0 ls C A (B.put (e := .inl (0, n1, .inl (va_cpy untF g 0 0 9))) hP2 (hD.set ha1) ⟨by simp; exact hS.1, fun q g1 g2 => by
      rw [oq q (fun e => g2 (by rw [e]; exact hD.2 j _ ha1))]
      exact hS.2.1 q g1 g2, fun q hq => by
      rcases List.mem_append.mp hq with h | h
      · exact hS.2.2 q h
      · obtain ⟨z, -, hz⟩ := List.mem_map.mp h
        rw [← hz]
        exact hD.2 j _ ha1⟩) L _ (by rw [← hT]; rfl) X'
  refine ⟨t, ?_, b1⟩
  have := step t a1
  show _
  simp only [List.map_cons, mm_rv]
  rw [hx]
  exact this
end UNT
theorem fs_untold : Cond.fieldLink RX2 24 "CryptBank$Law" "UNTOLD" "[I" ∈ mm_ws := by decide +kernel
section LAWC
variable {G : mm_G} {l : Launch} {d nx : Nat} {h : Nat → mm_E}
theorem c_copyRowU {j n : Nat} {g : Nat → Int32} (hd : 1 ≤ d) (hn : n < 2 ^ 31) (h9 : 9 ≤ n) (hj : j < nx) (hJ : h j = .inl (0, n, .inl g)) : mm_Con G l yX10_copyRow cX10_copyRow 2 none d 0 0 [.ref 1002000, .ref j] nx h (mm_ret none nx (hset h j (.inl (0, n, .inl (va_cpy untF g 0 0 9))))) := by
  refine mm_start (lo := [some (.ref 1002000), some (.ref j)]) pn_X10 rfl rfl (Nat.le_of_ble_eq_true rfl) ?_
  refine mt_aload_n (pc := 0) dX10_copyRow_0 rfl ?_
  refine mt_iconst (pc := 1) (v := 0) dX10_copyRow_1 (by decide) ?_
  refine mt_aload_n (pc := 2) dX10_copyRow_2 rfl ?_
  refine mt_iconst (pc := 3) (v := 0) dX10_copyRow_3 (by decide) ?_
  refine mt_aload_n (pc := 4) dX10_copyRow_4 rfl ?_
  refine mt_untoldN (pc := 5) dX10_copyRow_5 ?_
  refine mt_aload_n (pc := 6) dX10_copyRow_6 rfl ?_
  refine mt_alen (pc := 7) dX10_copyRow_7 (by first | assumption | omega) (by repeat (first | exact hset_eq _ _ _ | assumption | rw [hset_ne (by first | assumption | decide | omega)])) (by decide) ?_
  refine mt_mmin (pc := 8) ml_X10_342 dX10_copyRow_8 (by first | assumption | (show _ ≤ d; omega)) ⟨(Nat.le_of_ble_eq_true rfl), (Nat.le_of_ble_eq_true rfl)⟩ (Nat.le_of_ble_eq_true rfl) ?_
  rw [if_neg (nI_nlt h9 hn)]
  refine mt_acopyU (pc := 11) ac_link dX10_copyRow_11 hj hJ h9 hd (Nat.le_of_ble_eq_true rfl) ?_
  exact mt_vret rfl dX10_copyRow_14 (Nat.le_of_ble_eq_true rfl) (Nat.le_of_ble_eq_true rfl) ⟨rfl, rfl, rfl⟩
theorem c_becomeUntold {s r q t n : Nat} {z : Int32} {g : Nat → Int32} (hd : 2 ≤ d) (hs : s < nx) (hr : r < nx) (hne : s ≠ r) (hS : h s = .inr (2, [.ref r, .ref q, .ref t, .int z])) (hJ : h r = iaE 150 g) : mm_Con G l yX2_becomeUntold cX2_becomeUntold 1 none d 0 0 [.ref s] nx h (mm_ret none nx (hset (hset h r (iaE 150 (va_cpy untF g 0 0 9))) s (.inr (2, [.ref r, .ref q, .ref t, .int (nI 9)])))) := by
  refine mm_start (lo := [some (.ref s)]) pn_X2 rfl rfl (Nat.le_of_ble_eq_true rfl) ?_
  refine mt_untold (pc := 0) fs_untold dX2_becomeUntold_0 ?_
  refine mt_aload_n (pc := 3) dX2_becomeUntold_3 rfl ?_
  refine mt_get (pc := 4) gf_X2_9 dX2_becomeUntold_4 (by first | assumption | omega) (by repeat (first | exact hset_eq _ _ _ | assumption | rw [hset_ne (by first | assumption | decide | omega)])) rfl ?_
  refine mt_cN (pc := 7) (c_copyRowU (d := 1) (n := 150) (Nat.le_refl 1) (by decide) (by decide) hr hJ) cal_X10_copyRow sta_X10_copyRow mn_X2_27 dX2_becomeUntold_7 (by first | assumption | (show _ ≤ d; omega)) ⟨(Nat.le_of_ble_eq_true rfl), (Nat.le_of_ble_eq_true rfl)⟩ rfl rfl (Nat.le_of_ble_eq_true rfl) ?_
  refine mt_aload_n (pc := 10) dX2_becomeUntold_10 rfl ?_
  refine mt_untold (pc := 11) fs_untold dX2_becomeUntold_11 ?_
  refine mt_untoldN (pc := 14) dX2_becomeUntold_14 ?_
  first
    | refine mt_puti2 (pc := 15) pf_X2_31 dX2_becomeUntold_15 (by first | assumption | omega) (Nat.le_of_ble_eq_true rfl) ?_
    | refine mt_puti (pc := 15) pf_X2_31 dX2_becomeUntold_15 (by first | assumption | omega) (by repeat (first | exact hset_eq _ _ _ | assumption | rw [hset_ne (by first | assumption | decide | omega)])) (Nat.le_of_ble_eq_true rfl) ?_
  exact mt_vret rfl dX2_becomeUntold_18 (Nat.le_of_ble_eq_true rfl) (Nat.le_of_ble_eq_true rfl) ⟨rfl, rfl, rfl⟩
theorem c_lcopyFrom {R g : Nat → Int32} {n z : Int32} (hd : 2 ≤ d) (hx : 34 ≤ nx) (h15 : h 15 = laE z) (h16 : h 16 = iaE 150 g) (h19 : h 19 = lrE n) (h20 : h 20 = iaE 150 R) : mm_Con G l yX2_copyFrom cX2_copyFrom 2 none d 0 0 [.ref 15, .ref 19] nx h (mm_ret none nx (hset (hset h 16 (iaE 150 (va_cpy R g 0 0 150))) 15 (laE n))) := by
  refine mm_start (lo := [some (.ref 15), some (.ref 19)]) pn_X2 rfl rfl (Nat.le_of_ble_eq_true rfl) ?_
  refine mt_aload_n (pc := 0) dX2_copyFrom_0 rfl ?_
  refine mt_get (pc := 1) gf_X2_9 dX2_copyFrom_1 (by first | assumption | omega) (by repeat (first | exact hset_eq _ _ _ | assumption | rw [hset_ne (by first | assumption | decide | omega)])) rfl ?_
  refine mt_aload_n (pc := 4) dX2_copyFrom_4 rfl ?_
  refine mt_get (pc := 5) gf_X2_9 dX2_copyFrom_5 (by first | assumption | omega) (by repeat (first | exact hset_eq _ _ _ | assumption | rw [hset_ne (by first | assumption | decide | omega)])) rfl ?_
  refine mt_cN (pc := 8) (c_copyRow (d := 1) (n := 150) (Nat.le_refl 1) (by decide) (by omega) (by omega) h20 h16) cal_X10_copyRow sta_X10_copyRow mn_X2_27 dX2_copyFrom_8 (by first | assumption | (show _ ≤ d; omega)) ⟨(Nat.le_of_ble_eq_true rfl), (Nat.le_of_ble_eq_true rfl)⟩ rfl rfl (Nat.le_of_ble_eq_true rfl) ?_
  refine mt_aload_n (pc := 11) dX2_copyFrom_11 rfl ?_
  refine mt_aload_n (pc := 12) dX2_copyFrom_12 rfl ?_
  refine mt_get (pc := 13) gf_X2_31 dX2_copyFrom_13 (by first | assumption | omega) (by repeat (first | exact hset_eq _ _ _ | assumption | rw [hset_ne (by first | assumption | decide | omega)])) rfl ?_
  first
    | refine mt_puti2 (pc := 16) pf_X2_31 dX2_copyFrom_16 (by first | assumption | omega) (Nat.le_of_ble_eq_true rfl) ?_
    | refine mt_puti (pc := 16) pf_X2_31 dX2_copyFrom_16 (by first | assumption | omega) (by repeat (first | exact hset_eq _ _ _ | assumption | rw [hset_ne (by first | assumption | decide | omega)])) (Nat.le_of_ble_eq_true rfl) ?_
  exact mt_vret rfl dX2_copyFrom_19 (Nat.le_of_ble_eq_true rfl) (Nat.le_of_ble_eq_true rfl) ⟨rfl, rfl, rfl⟩
end LAWC
theorem LW_cpy {R g : Nat → Int32} {cs : List Nat} (h : LW R cs) : LW (va_cpy R g 0 0 150) cs := by
  refine ⟨h.1, fun i k hk => ?_⟩
  have hl : i < cs.length := (List.getElem?_eq_some_iff.mp hk).1
  have := h.1
  rw [pk_cpy_in (by omega) (by omega)]
  have := h.2 i k hk
  rwa [show 0 + (i - 0) = i by omega]
theorem LW_unt {g : Nat → Int32} : LW (va_cpy untF g 0 0 9) untL := by
  refine ⟨by decide, fun i k hk => ?_⟩
  have hl : i < 9 := (List.getElem?_eq_some_iff.mp hk).1
  rw [pk_cpy_in (by omega) (by omega), show 0 + (i - 0) = i by omega]
  rcases (show i = 0 ∨ i = 1 ∨ i = 2 ∨ i = 3 ∨ i = 4 ∨ i = 5 ∨ i = 6 ∨ i = 7 ∨ i = 8 by omega) with rfl | rfl | rfl | rfl | rfl | rfl | rfl | rfl | rfl <;> (cases hk; exact ⟨rfl, by decide⟩)
/-- codes that push one value, wherever they stand -/
def EvU (e : Nat) (U : Nat → rsL) (w : Nat) : Prop := ∀ p r cs, U p = .inr (r, cs) → ∀ (F : Nat → Int32) (rest : List Nat) (s : List Int32), s.length + w ≤ 32 → ∃ v, evL F (cs ++ rest) s = evL F rest (v :: s)
theorem opS_ge {m : Nat} {c : Int32} {k : Nat} (h : opS m c = some k) : 2000 ≤ k := by
  unfold opS at h
  repeat' split at h
  all_goals cases h
  all_goals omega
theorem evL_op {F : Nat → Int32} {k : Nat} {cs : List Nat} {s : List Int32} {x y : Int32} (hk : 2000 ≤ k) : evL F (k :: cs) (y :: x :: s) = evL F cs (resL k x y :: s) := by
  rw [evL_c, if_pos hk]
theorem evL_p {F : Nat → Int32} {k : Nat} {cs : List Nat} {s : List Int32} (hk : k < 2000) (hs : s.length < 32) : ∃ v, evL F (k :: cs) s = evL F cs (v :: s) := ⟨_, by rw [evL_c, if_neg (by omega), if_pos hs]⟩
theorem rstS_ev {b : Nat → Int32} {e m w : Nat} {U : Nat → rsL} (hU : EvU e U w) : ∀ (q p r : Nat) (cs : List Nat), rstS b e m U q p = .inr (r, cs) → ∀ (F : Nat → Int32) (rest : List Nat) (s : List Int32) (v : Int32), s.length + 1 + w ≤ 32 → ∃ v', evL F (cs ++ rest) (v :: s) = evL F rest (v' :: s)
  | 0, p, r, cs, h, F, rest, s, v, hs => by cases h; exact ⟨v, rfl⟩
  | q + 1, p, r, cs, h, F, rest, s, v, hs => by
    simp only [rstS] at h
    split at h
    · cases h; exact ⟨v, rfl⟩
    · next k hk =>
      obtain ⟨⟨r1, c1⟩, h1, h⟩ := sbind_inr h
      obtain ⟨⟨r2, c2⟩, h2, h⟩ := sbind_inr h
      cases h
      dsimp only
      obtain ⟨u, hu⟩ := hU _ _ _ h1 F (k :: c2 ++ rest) (v :: s) (by simp only [List.length_cons]; omega)
      obtain ⟨z, hz⟩ := rstS_ev hU q _ _ _ h2 F rest s (resL k v u) hs
      refine ⟨z, ?_⟩
      rw [List.append_assoc, hu, List.cons_append, evL_op (opS_ge hk), hz]
theorem stS_ev {b : Nat → Int32} {e m w : Nat} {U : Nat → rsL} (hU : EvU e U w) : EvU e (stS b e m U) (w + 1) := by
  intro p r cs h F rest s hs
  obtain ⟨⟨r1, c1⟩, h1, h⟩ := sbind_inr h
  obtain ⟨⟨r2, c2⟩, h2, h⟩ := sbind_inr h
  cases h
  dsimp only
  obtain ⟨u, hu⟩ := hU _ _ _ h1 F (c2 ++ rest) s (by omega)
  obtain ⟨z, hz⟩ := rstS_ev hU _ _ _ _ h2 F rest s u (by omega)
  exact ⟨z, by rw [List.append_assoc, hu, hz]⟩
theorem prS_ev {b : Nat → Int32} {e o st w k : Nat} {T : Nat → rsL} (hT : EvU e T w) (hk : 2000 ≤ k) {p r : Nat} {cs : List Nat} (h : prS b e T o st p = .inr (r, cs)) (F : Nat → Int32) (rest : List Nat) (s : List Int32) (hs : s.length + (w + 1) ≤ 32) : ∃ v, evL F ((cs ++ [k]) ++ rest) s = evL F rest (v :: s) := by
  simp only [prS] at h
  split at h
  · cases h
  · obtain ⟨q, h0, h⟩ := sbind_inr h
    obtain ⟨⟨r1, c1⟩, h1, h⟩ := sbind_inr h
    obtain ⟨z, h2, h⟩ := sbind_inr h
    obtain ⟨⟨r3, c3⟩, h3, h⟩ := sbind_inr h
    obtain ⟨z4, h4, h⟩ := sbind_inr h
    cases h
    dsimp only
    obtain ⟨u, hu⟩ := hT _ _ _ h1 F (c3 ++ ([k] ++ rest)) s (by omega)
    obtain ⟨v, hv⟩ := hT _ _ _ h3 F ([k] ++ rest) (u :: s) (by simp only [List.length_cons]; omega)
    exact ⟨_, by rw [List.append_assoc, List.append_assoc, hu, hv]; exact evL_op hk⟩
theorem namS_lt {b : Nat → Int32} {q r k : Nat} (h : namS b q r = some k) : k < 2000 := by
  unfold namS at h
  repeat' split at h
  all_goals cases h
  all_goals omega
theorem unS_ev {b : Nat → Int32} {e o w : Nat} {T : Nat → rsL} (hT : EvU e T w) : EvU e (unS b e T o) (w + 1) := by
  intro p r cs h F rest s hs
  simp only [unS] at h
  split at h
  · obtain ⟨⟨v, r1⟩, h1, h⟩ := sbind_inr h
    cases h
    simp only [numS] at h1
    split at h1
    · cases h1
    · split at h1
      · cases h1
      · next hc =>
        cases h1
        rw [show (999 : Int32).toInt = 999 from rfl] at hc
        exact evL_p (by omega) (by omega)
  · split at h
    · simp only [brS] at h
      split at h
      · cases h
      · obtain ⟨q, h0, h⟩ := sbind_inr h
        obtain ⟨⟨r1, c1⟩, h1, h⟩ := sbind_inr h
        obtain ⟨z, h2, h⟩ := sbind_inr h
        cases h
        exact hT _ _ _ h1 F rest s (by omega)
    · split at h
      · cases h
      · split at h
        · obtain ⟨⟨r1, c1⟩, h1, h⟩ := sbind_inr h
          cases h
          exact prS_ev hT (by decide) h1 F rest s (by omega)
        · split at h
          · obtain ⟨⟨r1, c1⟩, h1, h⟩ := sbind_inr h
            cases h
            exact prS_ev hT (by decide) h1 F rest s (by omega)
          · split at h
            · cases h
            · next k hk =>
              cases h
              exact evL_p (namS_lt hk) (by omega)
theorem sumS_ev {b : Nat → Int32} {e : Nat} : ∀ j, EvU e (sumS b e j) (3 + 3 * j)
  | 0 => stS_ev (w := 2) (stS_ev (w := 1) (unS_ev (w := 0) (fun p r cs h => by cases h)))
  | j + 1 => by
    have := stS_ev (b := b) (m := 1) (stS_ev (b := b) (m := 3) (unS_ev (b := b) (o := 6 - (j + 1)) (sumS_ev (b := b) (e := e) j)))
    rw [show 3 + 3 * (j + 1) = 3 + 3 * j + 1 + 1 + 1 by omega]
    exact this
theorem lawS_wf {b : Nat → Int32} {e : Nat} {cs : List Nat} (hb : BY b) (he : e ≤ 150) (h : lawS b e = .inr cs) : LWF cs := by
  obtain ⟨⟨r, c⟩, h1, h⟩ := sbind_inr h
  dsimp only at h
  split at h
  · cases h
  · cases h
    obtain ⟨a1, a2, a3, a4⟩ := sumS_le hb 6 0 (Nat.zero_le _) _ _ h1
    refine ⟨by omega, a4, fun F => ?_⟩
    obtain ⟨v, hv⟩ := sumS_ev 6 _ _ _ h1 F [] [] (by simp)
    rw [List.append_nil] at hv
    exact ⟨v, hv⟩
theorem unt_wf : LWF untL := by
  refine ⟨by decide, by decide, fun F => ⟨_, rfl⟩⟩
