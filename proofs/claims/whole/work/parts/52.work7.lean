/-! Work.carryOut at every level; where agains end. -/
section WORK7
variable {G : mm_G} {l : Launch} {s r : Nat} {R : Nat → Int32} {k : CS} {cs : List Nat} {ss : List ST} {z1 z2 z3 : Int32} {so sl : Nat}
theorem c_carL (hlen : ss.length ≤ 30) (hbw : BWf ss) (hSW : SW R ss) (hTW : ∀ t ∈ ss, TW so sl t) (hso : so ≤ 6) (hsl : sl ≤ 8) (hLW : LWF cs) (hs5 : 35 ≤ s) (hr5 : 35 ≤ r) (hne : s ≠ r) : ∀ (j d : Nat), j ≤ 7 → 7 + j ≤ d → CAc G l k cs ss R s r z1 z2 z3 d (7 - j) (carS k cs ss j)
  | 0, d, hj, hd => fun nx h w i to hx hs hr hW hto hi => c_car7 hx hs hr hW
  | j + 1, d, hj, hd => fun nx h w i to hx hs hr hW hto hi => c_carAt (d := d) (by omega) (by omega) hlen hbw hSW hTW hso hsl hLW hs5 hr5 hne (by rw [show 7 - (j + 1) + 1 = 7 - j by omega]; exact c_carL hlen hbw hSW hTW hso hsl hLW hs5 hr5 hne j (d - 1) (by omega) (by omega)) hx hs hr hW hto hi
end WORK7
def GdB (U : Nat → Nat → rsW) : Prop := ∀ n p r ss, U n p = .inr (r, ss) → ∀ (i : Nat) (t : ST), ss[i]? = some t → t.1 = 6 → n + i < t.2.2 ∧ t.2.2 ≤ n + ss.length
theorem stepS_b {b : Nat → Int32} {e so sl o n q r r' : Nat} {ts : List ST} {T : Nat → Nat → rsW} (hT : GdB T) (h : stepS b e so sl T o n q r = .inr (r', ts)) : ∀ (i : Nat) (t : ST), ts[i]? = some t → t.1 = 6 → n + i < t.2.2 ∧ t.2.2 ≤ n + ts.length := by
  have one : ∀ (u : ST), u.1 ≠ 6 → ∀ (i : Nat) (t : ST), [u][i]? = some t → t.1 = 6 → n + i < t.2.2 ∧ t.2.2 ≤ n + [u].length := by
    intro u hu i t ht h6
    have hi : i < 1 := (List.getElem?_eq_some_iff.mp ht).1
    obtain rfl : i = 0 := by omega
    cases ht
    exact absurd h6 hu
  unfold stepS at h
  split at h
  · obtain ⟨x, h1, h⟩ := sbind_inr h
    obtain ⟨y, h2, h⟩ := sbind_inr h
    obtain ⟨z, h3, h⟩ := sbind_inr h
    obtain ⟨w, h4, h⟩ := sbind_inr h
    cases h
    exact one _ (by simp)
  · split at h
    · obtain ⟨x, h1, h⟩ := sbind_inr h
      cases h
      exact one _ (by simp)
    · split at h
      · obtain ⟨x, h1, h⟩ := sbind_inr h
        obtain ⟨y, h2, h⟩ := sbind_inr h
        cases h
        exact one _ (by simp)
      · split at h
        · obtain ⟨x, h1, h⟩ := sbind_inr h
          cases h
          exact one _ (by simp)
        · split at h
          · obtain ⟨x, h1, h⟩ := sbind_inr h
            cases h
            exact one _ (by simp)
          · split at h
            · cases h
              exact one _ (by simp)
            · split at h
              · split at h
                · cases h
                · obtain ⟨x, h1, h⟩ := sbind_inr h
                  obtain ⟨y, h2, h⟩ := sbind_inr h
                  obtain ⟨⟨z, zs⟩, h3, h⟩ := sbind_inr h
                  obtain ⟨u, h4, h⟩ := sbind_inr h
                  cases h
                  intro i t ht h6
                  rcases i with _ | i
                  · cases ht
                    simp only [List.length_cons]
                    omega
                  · rw [List.getElem?_cons_succ] at ht
                    have := hT _ _ _ _ h3 i t ht h6
                    simp only [List.length_cons]
                    omega
              · cases h
theorem lopS_b {b : Nat → Int32} {e so sl o : Nat} {T : Nat → Nat → rsW} (hT : GdB T) : ∀ q, GdB (lopS b e so sl T o q)
  | 0 => fun n p r ss h => by cases h; intro i t ht; cases ht
  | q + 1 => fun n p r ss h => by
    simp only [lopS] at h
    split at h
    · cases h; intro i t ht; cases ht
    · split at h
      · cases h
      · obtain ⟨⟨r1, s1⟩, h1, h⟩ := sbind_inr h
        obtain ⟨y, h2, h⟩ := sbind_inr h
        obtain ⟨⟨r3, s3⟩, h3, h⟩ := sbind_inr h
        cases h
        intro i t ht h6
        dsimp only at ht h3 ⊢
        rcases Nat.lt_or_ge i s1.length with hi | hi
        · rw [List.getElem?_append_left hi] at ht
          have := stepS_b hT h1 i t ht h6
          simp only [List.length_append]
          omega
        · rw [List.getElem?_append_right hi] at ht
          have := lopS_b hT q _ _ _ _ h3 _ t ht h6
          simp only [List.length_append]
          omega
theorem wokS_b {b : Nat → Int32} {e so sl : Nat} : ∀ j, GdB (wokS b e so sl j)
  | 0 => lopS_b (fun n p r ss h => by cases h) 150
  | j + 1 => lopS_b (wokS_b j) 150
theorem wokS_bw {b : Nat → Int32} {e so sl r : Nat} {ss : List ST} (h : wokS b e so sl 6 0 0 = .inr (r, ss)) : BWf ss := by
  intro i t ht h6
  have := wokS_b 6 _ _ _ _ h i t ht h6
  omega
/-! Page: at cell b, its now at b + 1, the past at b + 3. -/
abbrev pgE (b : Nat) (w : Int32) : mm_E := .inr (3, [.ref (b + 1), .ref (b + 3), .int w])
def psF (b : Nat) : Nat → Option Nat := fun k => if k < 16 then some (b + 4 + 2 * k) else none
abbrev psE (b : Nat) : mm_E := .inl (3, 16, .inr (.inr (.inr (.inr (psF b)))))
abbrev PGS : Type := Nat × (Nat → Int32) × (Nat → Nat → Int32)
def CN (n : Nat) (f : Nat → Int32) : Prop := ∀ j, n ≤ j → f j = 0
def PG (h : Nat → mm_E) (b : Nat) (p : PGS) : Prop := h b = pgE b (nI p.1) ∧ h (b + 1) = stE (b + 2) ∧ h (b + 2) = rwE p.2.1 ∧ h (b + 3) = psE b ∧ (∀ i, i < 16 → h (b + 4 + 2 * i) = stE (b + 5 + 2 * i) ∧ ∃ g, h (b + 5 + 2 * i) = rwE g ∧ CN 84 g ∧ (i < p.1 → g = p.2.2 i)) ∧ p.1 ≤ 16 ∧ CN 84 p.2.1
theorem cpy_cn {n : Nat} {f g : Nat → Int32} (hf : CN n f) (hg : CN n g) : va_cpy g f 0 0 n = g := by
  funext j
  rcases Nat.lt_or_ge j n with hj | hj
  · exact cpy_all hj
  · rw [pk_cpy_out (by omega), hf j hj, hg j hj]
theorem CN_upd {n i : Nat} {f : Nat → Int32} {x : Int32} (hf : CN n f) (hi : i < n) : CN n (upd f i x) := fun j hj => by rw [upd_ne (by omega)]; exact hf j hj
def updR (F : Nat → Nat → Int32) (i : Nat) (g : Nat → Int32) : Nat → Nat → Int32 := fun j => if j = i then g else F j
/-- all but the cells of a page -/
def FRp (b : Nat) (h m : Nat → mm_E) : Prop := ∀ j, j < b ∨ b + 36 ≤ j → m j = h j
/-- the row of a county that begins -/
def begR (k : CS) : Nat → Int32 := spF k (unF k (fun _ => 0) k.1) k.2.1
theorem unF_cn {k : CS} {f : Nat → Int32} (hf : CN 84 f) : ∀ n, n ≤ 8 → CN 84 (unF k f n)
  | 0, _ => hf
  | n + 1, hn => CN_upd (unF_cn hf n (by omega)) (by omega)
theorem spF_cn {k : CS} {f : Nat → Int32} (hf : CN 84 f) : ∀ n, n ≤ 6 → CN 84 (spF k f n)
  | 0, _ => hf
  | n + 1, hn => CN_upd (CN_upd (spF_cn hf n (by omega)) (by omega)) (by omega)
theorem begR_cn {k : CS} (h1 : k.1 ≤ 8) (h2 : k.2.1 ≤ 6) : CN 84 (begR k) := spF_cn (unF_cn (fun _ _ => rfl) _ h1) _ h2
theorem zrF_cn {f : Nat → Int32} (hf : CN 84 f) : zrF f 84 = fun _ => 0 := by
  funext j
  unfold zrF
  split
  · rfl
  · exact hf j (by omega)
section PAGE
variable {G : mm_G} {l : Launch} {d nx : Nat} {h : Nat → mm_E} {b : Nat} {p : PGS} {k : CS}
theorem PG_row {f : Nat → Int32} (hP : PG h b p) (hf : CN 84 f) : PG (hset h (b + 2) (rwE f)) b (p.1, f, p.2.2) := by
  obtain ⟨h1, h2, h3, h4, h5, h6, h7⟩ := hP
  refine ⟨(hset_ne (by omega)).trans h1, (hset_ne (by omega)).trans h2, hset_eq _ _ _, (hset_ne (by omega)).trans h4, fun i hi => ⟨(hset_ne (by omega)).trans (h5 i hi).1, ?_⟩, h6, hf⟩
  obtain ⟨g, g1, g2⟩ := (h5 i hi).2
  exact ⟨g, (hset_ne (by omega)).trans g1, g2⟩
theorem PG_works {n : Nat} (hP : PG h b p) (hn : n ≤ p.1) : PG (hset h b (pgE b (nI n))) b (n, p.2) := by
  obtain ⟨h1, h2, h3, h4, h5, h6, h7⟩ := hP
  refine ⟨hset_eq _ _ _, (hset_ne (by omega)).trans h2, (hset_ne (by omega)).trans h3, (hset_ne (by omega)).trans h4, fun i hi => ⟨(hset_ne (by omega)).trans (h5 i hi).1, ?_⟩, by dsimp only; omega, h7⟩
  obtain ⟨g, g1, g2, g3⟩ := (h5 i hi).2
  exact ⟨g, (hset_ne (by omega)).trans g1, g2, fun z => g3 (by dsimp only at z; omega)⟩
theorem psF_nI {i : Nat} (hi : i < 16) : psF b (nI i).toNatClampNeg = some (b + 4 + 2 * i) := by
  rw [nI_clamp (by omega)]
  exact if_pos hi
theorem c_pbegin (hd : 3 ≤ d) (hx : 34 ≤ nx) (hb : 34 ≤ b) (hbx : b + 36 ≤ nx) (hC : CO h k) (hP : PG h b p) : mm_Con G l yX3_begin cX3_begin 2 none d 0 0 [.ref b, .ref 3] nx h (fun o n m => o = .inl none ∧ n = nx ∧ FRp b h m ∧ PG m b (0, begR k, fun _ _ => 0)) := by
  obtain ⟨h1, h2, h3, h4, h5, h6, h7⟩ := id hP
  have hk := begR_cn (k := k) hC.2.2.2.2.2.2.1 hC.2.2.2.2.2.2.2
  have e1 : spF k (unF k (zrF p.2.1 84) k.1) k.2.1 = begR k := by rw [zrF_cn h7]; rfl
  refine mm_start (lo := [some (.ref b), some (.ref 3)]) pn_X3 rfl rfl (Nat.le_of_ble_eq_true rfl) ?_
  refine mt_aload_n (pc := 0) dX3_begin_0 rfl ?_
  refine mt_get (pc := 1) gf_X3_12 dX3_begin_1 (by first | assumption | omega) (by repeat (first | exact hset_eq _ _ _ | assumption | rw [hset_ne (by first | assumption | decide | omega)])) rfl ?_
  refine mt_aload_n (pc := 4) dX3_begin_4 rfl ?_
  refine mt_cV (pc := 5) (c_sbegin (d := 2) (s := b + 1) (r := b + 2) (Nat.le_refl 2) hx hC (by omega) (by omega) (by omega) (by omega) (by omega) h2 h3) cal_X6_begin vir_X6_begin ml_X3_22 dX3_begin_5 (by first | assumption | omega) (by repeat (first | exact hset_eq _ _ _ | assumption | rw [hset_ne (by first | assumption | decide | omega)])) (by first | assumption | (show _ ≤ d; omega)) ⟨(Nat.le_of_ble_eq_true rfl), (Nat.le_of_ble_eq_true rfl)⟩ rfl rfl (Nat.le_of_ble_eq_true rfl) ?_
  rw [e1]
  refine mt_aload_n (pc := 8) dX3_begin_8 rfl ?_
  refine mt_iconst (pc := 9) (v := 0) dX3_begin_9 (by decide) ?_
  first
    | refine mt_puti2 (pc := 10) pf_X3_26 dX3_begin_10 (by first | assumption | omega) (Nat.le_of_ble_eq_true rfl) ?_
    | refine mt_puti (pc := 10) pf_X3_26 dX3_begin_10 (by first | assumption | omega) (by repeat (first | exact hset_eq _ _ _ | assumption | rw [hset_ne (by first | assumption | decide | omega)])) (Nat.le_of_ble_eq_true rfl) ?_
  exact mt_vret rfl dX3_begin_13 (Nat.le_of_ble_eq_true rfl) (Nat.le_of_ble_eq_true rfl) ⟨rfl, rfl, fun j hj => by rw [hset_ne (by omega), hset_ne (by omega)], by
      have := PG_works (n := 0) (PG_row hP hk) (Nat.zero_le _)
      obtain ⟨a1, a2, a3, a4, a5, a6, a7⟩ := this
      refine ⟨a1, a2, a3, a4, fun i hi => ⟨(a5 i hi).1, ?_⟩, a6, a7⟩
      obtain ⟨g, g1, g2, g3⟩ := (a5 i hi).2
      exact ⟨g, g1, g2, fun z => absurd z (Nat.not_lt_zero i)⟩⟩
theorem c_keep (hd : 3 ≤ d) (hb : 34 ≤ b) (hbx : b + 36 ≤ nx) (hP : PG h b p) (hw : p.1 < 16) : mm_Con G l yX3_keep cX3_keep 1 none d 0 0 [.ref b] nx h (fun o n m => o = .inl none ∧ n = nx ∧ FRp b h m ∧ PG m b (p.1 + 1, p.2.1, updR p.2.2 p.1 p.2.1)) := by
  obtain ⟨h1, h2, h3, h4, h5, h6, h7⟩ := id hP
  obtain ⟨q1, g, q2, q3, -⟩ := h5 p.1 hw
  refine mm_start (lo := [some (.ref b)]) pn_X3 rfl rfl (Nat.le_of_ble_eq_true rfl) ?_
  refine mt_aload_n (pc := 0) dX3_keep_0 rfl ?_
  refine mt_get (pc := 1) gf_X3_26 dX3_keep_1 (by first | assumption | omega) (by repeat (first | exact hset_eq _ _ _ | assumption | rw [hset_ne (by first | assumption | decide | omega)])) rfl ?_
  refine mt_if_lt (pc := 4) (tgt := 45) dX3_keep_4 (by decide) (fun c4 => ?_) (fun c4 => ?_)
  · exact absurd c4 (nI_pos (by omega))
  · skip
    refine mt_aload_n (pc := 7) dX3_keep_7 rfl ?_
    refine mt_get (pc := 8) gf_X3_26 dX3_keep_8 (by first | assumption | omega) (by repeat (first | exact hset_eq _ _ _ | assumption | rw [hset_ne (by first | assumption | decide | omega)])) rfl ?_
    refine mt_aload_n (pc := 11) dX3_keep_11 rfl ?_
    refine mt_get (pc := 12) gf_X3_18 dX3_keep_12 (by first | assumption | omega) (by repeat (first | exact hset_eq _ _ _ | assumption | rw [hset_ne (by first | assumption | decide | omega)])) rfl ?_
    refine mt_alen (pc := 15) dX3_keep_15 (by first | assumption | omega) (by repeat (first | exact hset_eq _ _ _ | assumption | rw [hset_ne (by first | assumption | decide | omega)])) (by decide) ?_
    refine mt_icmp_ge (pc := 16) (tgt := 45) dX3_keep_16 (by decide) (fun c16 => ?_) (fun c16 => ?_)
    · exact absurd c16 (nI_ge hw (by decide))
    · skip
      refine mt_aload_n (pc := 19) dX3_keep_19 rfl ?_
      refine mt_get (pc := 20) gf_X3_18 dX3_keep_20 (by first | assumption | omega) (by repeat (first | exact hset_eq _ _ _ | assumption | rw [hset_ne (by first | assumption | decide | omega)])) rfl ?_
      refine mt_aload_n (pc := 23) dX3_keep_23 rfl ?_
      refine mt_get (pc := 24) gf_X3_26 dX3_keep_24 (by first | assumption | omega) (by repeat (first | exact hset_eq _ _ _ | assumption | rw [hset_ne (by first | assumption | decide | omega)])) rfl ?_
      refine mt_aald (pc := 27) (cl := "CryptBank$State") rfl dX3_keep_27 (by first | assumption | omega) (by repeat (first | exact hset_eq _ _ _ | assumption | rw [hset_ne (by first | assumption | decide | omega)])) (vp_in_nI hw (by decide)) (psF_nI hw) ?_
      refine mt_aload_n (pc := 28) dX3_keep_28 rfl ?_
      refine mt_get (pc := 29) gf_X3_12 dX3_keep_29 (by first | assumption | omega) (by repeat (first | exact hset_eq _ _ _ | assumption | rw [hset_ne (by first | assumption | decide | omega)])) rfl ?_
      refine mt_cV (pc := 32) (c_scopyFrom (d := 2) (s := b + 4 + 2 * p.1) (r := b + 5 + 2 * p.1) (s2 := b + 1) (r2 := b + 2) (Nat.le_refl 2) (by omega) (by omega) q1 q2 (by omega) (by omega) h2 h3) cal_X6_copyFrom vir_X6_copyFrom ml_X3_30 dX3_keep_32 (by first | assumption | omega) (by repeat (first | exact hset_eq _ _ _ | assumption | rw [hset_ne (by first | assumption | decide | omega)])) (by first | assumption | (show _ ≤ d; omega)) ⟨(Nat.le_of_ble_eq_true rfl), (Nat.le_of_ble_eq_true rfl)⟩ rfl rfl (Nat.le_of_ble_eq_true rfl) ?_
      rw [cpy_cn q3 h7]
      refine mt_aload_n (pc := 35) dX3_keep_35 rfl ?_
      refine mt_dup (pc := 36) dX3_keep_36 rfl ?_
      refine mt_get (pc := 37) gf_X3_26 dX3_keep_37 (by first | assumption | omega) ((hset_ne (by omega)).trans h1) rfl ?_
      refine mt_iconst (pc := 40) (v := 1) dX3_keep_40 (by decide) ?_
      refine mt_iadd (pc := 41) dX3_keep_41 ?_
      first
        | refine mt_puti2 (pc := 42) pf_X3_26 dX3_keep_42 (by first | assumption | omega) (Nat.le_of_ble_eq_true rfl) ?_
        | refine mt_puti (pc := 42) pf_X3_26 dX3_keep_42 (by first | assumption | omega) ((hset_ne (by omega)).trans h1) (Nat.le_of_ble_eq_true rfl) ?_
      rw [show (nI p.1 + 1 : Int32) = nI (p.1 + 1) from nI_1 _]
      exact mt_vret rfl dX3_keep_45 (Nat.le_of_ble_eq_true rfl) (Nat.le_of_ble_eq_true rfl) ⟨rfl, rfl, fun j hj => by rw [hset_ne (by omega), hset_ne (by omega)], hset_eq _ _ _, by rw [hset_ne (by omega), hset_ne (by omega)]; exact h2, by rw [hset_ne (by omega), hset_ne (by omega)]; exact h3, by rw [hset_ne (by omega), hset_ne (by omega)]; exact h4, fun i hi => ⟨by rw [hset_ne (by omega), hset_ne (by omega)]; exact (h5 i hi).1, by
          by_cases hq : i = p.1
          · subst hq
            exact ⟨p.2.1, by rw [hset_ne (by omega), hset_eq], h7, fun _ => by simp only [updR, if_pos]⟩
          · obtain ⟨g, g1, g2, g3⟩ := (h5 i hi).2
            exact ⟨g, by rw [hset_ne (by omega), hset_ne (by omega)]; exact g1, g2, fun z => by rw [g3 (by dsimp only at z; omega)]; simp only [updR, if_neg hq]⟩⟩, hw, h7⟩
theorem c_goBack0 (hb : 34 ≤ b) (hbx : b + 36 ≤ nx) (hP : PG h b p) (hw : p.1 = 0) : mm_Con G l yX3_goBack cX3_goBack 1 (some .boolean) d 0 0 [.ref b] nx h (mm_ret (some (.int 0)) nx h) := by
  obtain ⟨h1, h2, h3, h4, h5, h6, h7⟩ := id hP
  rw [hw] at h1
  refine mm_start (lo := [some (.ref b)]) pn_X3 rfl rfl (Nat.le_of_ble_eq_true rfl) ?_
  refine mt_aload_n (pc := 0) dX3_goBack_0 rfl ?_
  refine mt_get (pc := 1) gf_X3_26 dX3_goBack_1 (by first | assumption | omega) (by repeat (first | exact hset_eq _ _ _ | assumption | rw [hset_ne (by first | assumption | decide | omega)])) rfl ?_
  refine mt_if_le (pc := 4) (tgt := 19) dX3_goBack_4 (by decide) (fun c4 => ?_) (fun c4 => ?_)
  · skip
    refine mt_iconst (pc := 19) (v := 0) dX3_goBack_19 (by decide) ?_
    exact mt_zret rfl (by first | exact Or.inl rfl | exact Or.inr rfl) dX3_goBack_20 (Nat.le_of_ble_eq_true rfl) (Nat.le_of_ble_eq_true rfl) ⟨rfl, rfl, rfl⟩
  · exact absurd (by decide) c4
theorem c_goBack (hd : 3 ≤ d) (hb : 34 ≤ b) (hbx : b + 36 ≤ nx) (hP : PG h b p) (hw : 0 < p.1) : mm_Con G l yX3_goBack cX3_goBack 1 (some .boolean) d 0 0 [.ref b] nx h (fun o n m => o = .inl (some (.int 1)) ∧ n = nx ∧ FRp b h m ∧ PG m b (p.1 - 1, p.2.2 (p.1 - 1), p.2.2)) := by
  obtain ⟨h1, h2, h3, h4, h5, h6, h7⟩ := id hP
  obtain ⟨q1, g, q2, q3, q4⟩ := h5 (p.1 - 1) (by omega)
  obtain rfl := q4 (by omega)
  have hPw := PG_works (n := p.1 - 1) hP (by omega)
  have e9 : (nI p.1 - 1 : Int32) = nI (p.1 - 1) := by rw [show (1 : Int32) = nI 1 from rfl, pk_sub (by omega)]
  refine mm_start (lo := [some (.ref b)]) pn_X3 rfl rfl (Nat.le_of_ble_eq_true rfl) ?_
  refine mt_aload_n (pc := 0) dX3_goBack_0 rfl ?_
  refine mt_get (pc := 1) gf_X3_26 dX3_goBack_1 (by first | assumption | omega) (by repeat (first | exact hset_eq _ _ _ | assumption | rw [hset_ne (by first | assumption | decide | omega)])) rfl ?_
  refine mt_if_le (pc := 4) (tgt := 19) dX3_goBack_4 (by decide) (fun c4 => ?_) (fun c4 => ?_)
  · exact absurd c4 (by rw [show (0 : Int32) = nI 0 from rfl]; exact nI_ge hw (by omega))
  · skip
    refine mt_aload_n (pc := 7) dX3_goBack_7 rfl ?_
    refine mt_get (pc := 8) gf_X3_26 dX3_goBack_8 (by first | assumption | omega) (by repeat (first | exact hset_eq _ _ _ | assumption | rw [hset_ne (by first | assumption | decide | omega)])) rfl ?_
    refine mt_aload_n (pc := 11) dX3_goBack_11 rfl ?_
    refine mt_get (pc := 12) gf_X3_18 dX3_goBack_12 (by first | assumption | omega) (by repeat (first | exact hset_eq _ _ _ | assumption | rw [hset_ne (by first | assumption | decide | omega)])) rfl ?_
    refine mt_alen (pc := 15) dX3_goBack_15 (by first | assumption | omega) (by repeat (first | exact hset_eq _ _ _ | assumption | rw [hset_ne (by first | assumption | decide | omega)])) (by decide) ?_
    refine mt_icmp_le (pc := 16) (tgt := 21) dX3_goBack_16 (by decide) (fun c16 => ?_) (fun c16 => ?_)
    · skip
      refine mt_aload_n (pc := 21) dX3_goBack_21 rfl ?_
      refine mt_dup (pc := 22) dX3_goBack_22 rfl ?_
      refine mt_get (pc := 23) gf_X3_26 dX3_goBack_23 (by first | assumption | omega) (by repeat (first | exact hset_eq _ _ _ | assumption | rw [hset_ne (by first | assumption | decide | omega)])) rfl ?_
      refine mt_iconst (pc := 26) (v := 1) dX3_goBack_26 (by decide) ?_
      refine mt_isub (pc := 27) dX3_goBack_27 ?_
      first
        | refine mt_puti2 (pc := 28) pf_X3_26 dX3_goBack_28 (by first | assumption | omega) (Nat.le_of_ble_eq_true rfl) ?_
        | refine mt_puti (pc := 28) pf_X3_26 dX3_goBack_28 (by first | assumption | omega) (by repeat (first | exact hset_eq _ _ _ | assumption | rw [hset_ne (by first | assumption | decide | omega)])) (Nat.le_of_ble_eq_true rfl) ?_
      rw [e9]
      show mm_T _ _ _ _ (hset h b (pgE b (nI (p.1 - 1)))) _ _ _ _ _
      refine mt_aload_n (pc := 31) dX3_goBack_31 rfl ?_
      refine mt_get (pc := 32) gf_X3_12 dX3_goBack_32 (by first | assumption | omega) hPw.1 rfl ?_
      refine mt_aload_n (pc := 35) dX3_goBack_35 rfl ?_
      refine mt_get (pc := 36) gf_X3_18 dX3_goBack_36 (by first | assumption | omega) hPw.1 rfl ?_
      refine mt_aload_n (pc := 39) dX3_goBack_39 rfl ?_
      refine mt_get (pc := 40) gf_X3_26 dX3_goBack_40 (by first | assumption | omega) hPw.1 rfl ?_
      refine mt_aald (pc := 43) (cl := "CryptBank$State") rfl dX3_goBack_43 (by first | assumption | omega) hPw.2.2.2.1 (vp_in_nI (by omega) (by decide)) (psF_nI (by omega)) ?_
      refine mt_cV (pc := 44) (c_scopyFrom (d := 2) (s := b + 1) (r := b + 2) (s2 := b + 4 + 2 * (p.1 - 1)) (r2 := b + 5 + 2 * (p.1 - 1)) (Nat.le_refl 2) (by omega) (by omega) hPw.2.1 hPw.2.2.1 (by omega) (by omega) ((hset_ne (by omega)).trans q1) ((hset_ne (by omega)).trans q2)) cal_X6_copyFrom vir_X6_copyFrom ml_X3_30 dX3_goBack_44 (by first | assumption | omega) hPw.2.1 (by first | assumption | (show _ ≤ d; omega)) ⟨(Nat.le_of_ble_eq_true rfl), (Nat.le_of_ble_eq_true rfl)⟩ rfl rfl (Nat.le_of_ble_eq_true rfl) ?_
      rw [cpy_cn h7 q3]
      refine mt_iconst (pc := 47) (v := 1) dX3_goBack_47 (by decide) ?_
      exact mt_zret rfl (by first | exact Or.inl rfl | exact Or.inr rfl) dX3_goBack_48 (Nat.le_of_ble_eq_true rfl) (Nat.le_of_ble_eq_true rfl) ⟨rfl, rfl, fun j hj => by rw [hset_ne (by omega), hset_ne (by omega)], PG_row hPw q3⟩
    · exact absurd (nI_le h6 (by decide)) c16
theorem c_pcopyFrom {b2 : Nat} {p2 : PGS} (hd : 3 ≤ d) (hb : 34 ≤ b) (hbx : b + 36 ≤ nx) (hb2 : 34 ≤ b2) (hbx2 : b2 + 36 ≤ nx) (hbb : b + 36 ≤ b2 ∨ b2 + 36 ≤ b) (hP : PG h b p) (hP2 : PG h b2 p2) : mm_Con G l yX3_copyFrom cX3_copyFrom 3 none d 0 0 [.ref b, .ref b2] nx h (fun o n m => o = .inl none ∧ n = nx ∧ FRp b h m ∧ PG m b p2) := by
  obtain ⟨h1, h2, h3, h4, h5, h6, h7⟩ := id hP
  obtain ⟨e1, e2, e3, e4, e5, e6, e7⟩ := id hP2
  refine mm_start (lo := [some (.ref b), some (.ref b2), none]) pn_X3 rfl rfl (Nat.le_of_ble_eq_true rfl) ?_
  refine mt_aload_n (pc := 0) dX3_copyFrom_0 rfl ?_
  refine mt_get (pc := 1) gf_X3_12 dX3_copyFrom_1 (by first | assumption | omega) (by repeat (first | exact hset_eq _ _ _ | assumption | rw [hset_ne (by first | assumption | decide | omega)])) rfl ?_
  refine mt_aload_n (pc := 4) dX3_copyFrom_4 rfl ?_
  refine mt_get (pc := 5) gf_X3_12 dX3_copyFrom_5 (by first | assumption | omega) (by repeat (first | exact hset_eq _ _ _ | assumption | rw [hset_ne (by first | assumption | decide | omega)])) rfl ?_
  refine mt_cV (pc := 8) (c_scopyFrom (d := 2) (s := b + 1) (r := b + 2) (s2 := b2 + 1) (r2 := b2 + 2) (Nat.le_refl 2) (by omega) (by omega) h2 h3 (by omega) (by omega) e2 e3) cal_X6_copyFrom vir_X6_copyFrom ml_X3_30 dX3_copyFrom_8 (by first | assumption | omega) (by repeat (first | exact hset_eq _ _ _ | assumption | rw [hset_ne (by first | assumption | decide | omega)])) (by first | assumption | (show _ ≤ d; omega)) ⟨(Nat.le_of_ble_eq_true rfl), (Nat.le_of_ble_eq_true rfl)⟩ rfl rfl (Nat.le_of_ble_eq_true rfl) ?_
  rw [cpy_cn h7 e7]
  refine mt_aload_n (pc := 11) dX3_copyFrom_11 rfl ?_
  refine mt_aload_n (pc := 12) dX3_copyFrom_12 rfl ?_
  refine mt_get (pc := 13) gf_X3_26 dX3_copyFrom_13 (by first | assumption | omega) ((hset_ne (by omega)).trans e1) rfl ?_
  first
    | refine mt_puti2 (pc := 16) pf_X3_26 dX3_copyFrom_16 (by first | assumption | omega) (Nat.le_of_ble_eq_true rfl) ?_
    | refine mt_puti (pc := 16) pf_X3_26 dX3_copyFrom_16 (by first | assumption | omega) ((hset_ne (by omega)).trans h1) (Nat.le_of_ble_eq_true rfl) ?_
  refine mt_iconst (pc := 19) (v := 0) dX3_copyFrom_19 (by decide) ?_
  refine mt_istore_n (pc := 20) dX3_copyFrom_20 (Nat.le_of_ble_eq_true rfl) rfl ?_
  refine mt_forE (pc := 21) (α := Nat → mm_E) (H := fun i (a : Nat → mm_E) => a) (L := fun i (a : Nat → mm_E) => [some (.ref b), some (.ref b2), some (.int (nI i))]) (I := fun i (a : Nat → mm_E) => FRp b h a ∧ a b = pgE b (nI p2.1) ∧ a (b + 1) = stE (b + 2) ∧ a (b + 2) = rwE p2.2.1 ∧ a (b + 3) = psE b ∧ (∀ j, j < 16 → a (b + 4 + 2 * j) = stE (b + 5 + 2 * j) ∧ ∃ g, a (b + 5 + 2 * j) = rwE g ∧ CN 84 g ∧ (j < i → g = p2.2.2 j))) (p2.1) (fun i a hi fi ni => ?_) (fun a fi => ?_) _ (⟨fun j hj => by rw [hset_ne (by omega), hset_ne (by omega)], hset_eq _ _ _, by rw [hset_ne (by omega), hset_ne (by omega)]; exact h2, by rw [hset_ne (by omega), hset_eq], by rw [hset_ne (by omega), hset_ne (by omega)]; exact h4, fun j hj => ⟨by rw [hset_ne (by omega), hset_ne (by omega)]; exact (h5 j hj).1, by obtain ⟨g, g1, g2, g3⟩ := (h5 j hj).2; exact ⟨g, by rw [hset_ne (by omega), hset_ne (by omega)]; exact g1, g2, fun z => absurd z (Nat.not_lt_zero j)⟩⟩⟩)
  · skip
    obtain ⟨f1, f2, f3, f4, f5, f6⟩ := fi
    obtain ⟨q1, g, q2, q3, -⟩ := f6 i (by omega)
    obtain ⟨t1, g', t2, t3, t4⟩ := e5 i (by omega)
    obtain rfl := t4 hi
    refine mt_iload_n (pc := 21) dX3_copyFrom_21 rfl ?_
    refine mt_aload_n (pc := 22) dX3_copyFrom_22 rfl ?_
    refine mt_get (pc := 23) gf_X3_26 dX3_copyFrom_23 (by first | assumption | omega) f2 rfl ?_
    refine mt_icmp_ge (pc := 26) (tgt := 59) dX3_copyFrom_26 (by decide) (fun c26 => ?_) (fun c26 => ?_)
    · exact absurd c26 (nI_ge hi (by omega))
    · skip
      refine mt_iload_n (pc := 29) dX3_copyFrom_29 rfl ?_
      refine mt_aload_n (pc := 30) dX3_copyFrom_30 rfl ?_
      refine mt_get (pc := 31) gf_X3_18 dX3_copyFrom_31 (by first | assumption | omega) f2 rfl ?_
      refine mt_alen (pc := 34) dX3_copyFrom_34 (by first | assumption | omega) f5 (by decide) ?_
      refine mt_icmp_ge (pc := 35) (tgt := 59) dX3_copyFrom_35 (by decide) (fun c35 => ?_) (fun c35 => ?_)
      · exact absurd c35 (nI_ge (b := 16) (by omega) (by decide))
      · skip
        refine mt_aload_n (pc := 38) dX3_copyFrom_38 rfl ?_
        refine mt_get (pc := 39) gf_X3_18 dX3_copyFrom_39 (by first | assumption | omega) f2 rfl ?_
        refine mt_iload_n (pc := 42) dX3_copyFrom_42 rfl ?_
        refine mt_aald (pc := 43) (cl := "CryptBank$State") rfl dX3_copyFrom_43 (by first | assumption | omega) f5 (vp_in_nI (by omega) (by decide)) (psF_nI (by omega)) ?_
        refine mt_aload_n (pc := 44) dX3_copyFrom_44 rfl ?_
        refine mt_get (pc := 45) gf_X3_18 dX3_copyFrom_45 (by first | assumption | omega) ((f1 b2 (by omega)).trans e1) rfl ?_
        refine mt_iload_n (pc := 48) dX3_copyFrom_48 rfl ?_
        refine mt_aald (pc := 49) (cl := "CryptBank$State") rfl dX3_copyFrom_49 (by first | assumption | omega) ((f1 (b2 + 3) (by omega)).trans e4) (vp_in_nI (by omega) (by decide)) (psF_nI (by omega)) ?_
        refine mt_cV (pc := 50) (c_scopyFrom (d := 2) (s := b + 4 + 2 * i) (r := b + 5 + 2 * i) (s2 := b2 + 4 + 2 * i) (r2 := b2 + 5 + 2 * i) (Nat.le_refl 2) (by omega) (by omega) q1 q2 (by omega) (by omega) ((f1 _ (by omega)).trans t1) ((f1 _ (by omega)).trans t2)) cal_X6_copyFrom vir_X6_copyFrom ml_X3_30 dX3_copyFrom_50 (by first | assumption | omega) q1 (by first | assumption | (show _ ≤ d; omega)) ⟨(Nat.le_of_ble_eq_true rfl), (Nat.le_of_ble_eq_true rfl)⟩ rfl rfl (Nat.le_of_ble_eq_true rfl) ?_
        rw [cpy_cn q3 t3]
        refine mt_iinc (pc := 53) (c9 := 1) dX3_copyFrom_53 rfl (by decide) (Nat.le_of_ble_eq_true rfl) rfl ?_
        refine mt_goto (pc := 56) (tgt := 21) dX3_copyFrom_56 (by decide) ?_
        rw [show (nI i + 1 : Int32) = nI (i + 1) from nI_1 i]
        exact ni (hset a (b + 5 + 2 * i) (rwE (p2.2.2 i))) ⟨fun j hj => (hset_ne (by omega)).trans (f1 j hj), (hset_ne (by omega)).trans f2, (hset_ne (by omega)).trans f3, (hset_ne (by omega)).trans f4, (hset_ne (by omega)).trans f5, fun j hj => ⟨(hset_ne (by omega)).trans (f6 j hj).1, by
            by_cases hq : j = i
            · subst hq
              exact ⟨_, hset_eq _ _ _, t3, fun _ => rfl⟩
            · obtain ⟨g, g1, g2, g3⟩ := (f6 j hj).2
              exact ⟨g, by rw [hset_ne (by omega)]; exact g1, g2, fun z => g3 (by omega)⟩⟩⟩
  · skip
    obtain ⟨f1, f2, f3, f4, f5, f6⟩ := fi
    refine mt_iload_n (pc := 21) dX3_copyFrom_21 rfl ?_
    refine mt_aload_n (pc := 22) dX3_copyFrom_22 rfl ?_
    refine mt_get (pc := 23) gf_X3_26 dX3_copyFrom_23 (by first | assumption | omega) f2 rfl ?_
    refine mt_icmp_ge (pc := 26) (tgt := 59) dX3_copyFrom_26 (by decide) (fun c26 => ?_) (fun c26 => ?_)
    · skip
      exact mt_vret rfl dX3_copyFrom_59 (Nat.le_of_ble_eq_true rfl) (Nat.le_of_ble_eq_true rfl) ⟨rfl, rfl, f1, f2, f3, f4, f5, f6, e6, e7⟩
    · exact absurd (nI_le (Nat.le_refl _) (by omega)) c26
end PAGE
