/-! The reference: what its questions are made of. -/
theorem fld_cg {g g' : Nat → Int32 → Int32} {a : Int32} : ∀ n, (∀ i x, i < n → g i x = g' i x) → fld g a n = fld g' a n
  | 0, _ => rfl
  | n + 1, h => by
    show g n (fld g a n) = g' n (fld g' a n)
    rw [fld_cg n (fun i x hi => h i x (by omega)), h n _ (by omega)]
theorem or_0 (x : Int32) : x ||| 0 = x := by
  apply Int32.toBitVec_inj.mp
  rw [Int32.toBitVec_or]
  show x.toBitVec ||| 0#32 = _
  simp
theorem one_mul32 (x : Int32) : (1 : Int32) * x = x := by
  apply Int32.toBitVec_inj.mp
  rw [Int32.toBitVec_mul]
  show 1#32 * x.toBitVec = _
  simp
theorem zero_mul32 (x : Int32) : (0 : Int32) * x = 0 := by
  apply Int32.toBitVec_inj.mp
  rw [Int32.toBitVec_mul]
  show 0#32 * x.toBitVec = 0#32
  simp
theorem add_0 (x : Int32) : x + 0 = x := by
  apply Int32.toBitVec_inj.mp
  rw [Int32.toBitVec_add]
  show x.toBitVec + 0#32 = _
  simp
/-- what a question leaves of the reference's own numbers and rows -/
def GQ (g g' : MG) : Prop := g' 0 = 0 ∧ ∀ j, j ≠ 0 → j ≠ 45 → j ≠ 46 → j ≠ 48 → g' j = g j
def AQ (A A' : MA) : Prop := ∀ j, j ≠ 201 → j ≠ 202 → j ≠ 206 → j ≠ 210 → j ≠ 211 → j ≠ 212 → A' j = A j
theorem GQ_0 {g : MG} : GQ g (upd g 0 0) := ⟨rfl, fun _ a _ _ _ => upd_ne a⟩
theorem AQ_rf {A : MA} : AQ A A := fun _ _ _ _ _ _ _ => rfl
theorem SD.aq {A A' : MA} (h : SD A A') : AQ A A' := fun j a b c _ _ _ => h j a b c
theorem AQ.trans {A B C : MA} (h1 : AQ A B) (h2 : AQ B C) : AQ A C := fun j a b c d e f => (h2 j a b c d e f).trans (h1 j a b c d e f)
/-- a question's promise: a refusal by its code, or an answer -/
def P_mq (c0 c1 : Int32) (r : Nat ⊕ Int32) (nx : Nat) (h : Nat → mm_E) (g : MG) (A : MA) : mm_P := fun o n m => n = nx ∧ match r with
  | .inl x => o = .inl (some (.int 0)) ∧ m = mos h (upd g 0 (if x = 0 then c0 else c1)) (updR A 189 (upd (A 189) x (A 189 x + 1)))
  | .inr v => o = .inl (some (.int v)) ∧ ∃ g' A', m = mos h g' A' ∧ GQ g g' ∧ AQ A A'
theorem P_mq0 {c0 c1 : Int32} {r : Nat ⊕ Int32} {nx : Nat} {h : Nat → mm_E} {g : MG} {A : MA} (hr : r = .inl 0) : P_mq c0 c1 r nx h g A (.inl (some (.int 0))) nx (mos h (upd (upd g 0 0) 0 c0) (updR A 189 (upd (A 189) 0 (A 189 0 + 1)))) := by subst hr; exact ⟨rfl, rfl, by rw [upd_upd]; rfl⟩
theorem P_mq1 {c0 c1 : Int32} {r : Nat ⊕ Int32} {nx : Nat} {h : Nat → mm_E} {g : MG} {A : MA} (hr : r = .inl 1) : P_mq c0 c1 r nx h g A (.inl (some (.int 0))) nx (mos h (upd (upd g 0 0) 0 c1) (updR A 189 (upd (A 189) 1 (A 189 1 + 1)))) := by subst hr; exact ⟨rfl, rfl, by rw [upd_upd]; rfl⟩
theorem P_mqv {c0 c1 : Int32} {r : Nat ⊕ Int32} {v : Int32} {nx : Nat} {h : Nat → mm_E} {g g' : MG} {A A' : MA} (hr : r = .inr v) (hg : GQ g g') (hA : AQ A A') : P_mq c0 c1 r nx h g A (.inl (some (.int v))) nx (mos h g' A') := by subst hr; exact ⟨rfl, rfl, g', A', rfl, hg, hA⟩
theorem in_w {x lw hi : Int32} (h : ¬ x < lw ∧ ¬ hi < x) : (if x < lw then (0 : Int32) else if hi < x then 0 else 1) = 1 := by rw [if_neg h.1, if_neg h.2]
theorem in_nw {x lw hi : Int32} (h : ¬ (¬ x < lw ∧ ¬ hi < x)) : (if x < lw then (0 : Int32) else if hi < x then 0 else 1) = 0 := by
  by_cases h1 : x < lw
  · rw [if_pos h1]
  · rw [if_neg h1, if_pos (Classical.not_not.mp fun z => h ⟨h1, z⟩)]
theorem sub1_lt {n : Nat} {p : Int32} (hn : n ≤ 10) : nI n - 1 < p ↔ nI n ≤ p := by
  rw [Int32.lt_iff_toInt_lt, Int32.le_iff_toInt_le, (sub1_hi hn).2, nI_toInt (by omega)]
  omega
theorem in_wR {n : Nat} {p : Int32} (hn : n ≤ 10) (h : inR p n) : (if p < 0 then (0 : Int32) else if nI n - 1 < p then 0 else 1) = 1 := in_w ⟨h.1, fun z => h.2 ((sub1_lt hn).mp z)⟩
theorem in_nwR {n : Nat} {p : Int32} (hn : n ≤ 10) (h : ¬ inR p n) : (if p < 0 then (0 : Int32) else if nI n - 1 < p then 0 else 1) = 0 := in_nw fun z => h ⟨z.1, fun y => z.2 ((sub1_lt hn).mpr y)⟩
theorem fld_bits {z : Nat} : ∀ n, n ≤ 8 → fld (fun p acc => acc ||| (nI (z / 2 ^ p % 2) <<< (nI p &&& 31))) 0 n = nI (z % 2 ^ n)
  | 0, _ => by rw [Nat.pow_zero, Nat.mod_one]; rfl
  | n + 1, hn => by
    show fld _ 0 n ||| (nI (z / 2 ^ n % 2) <<< (nI n &&& 31)) = _
    rw [fld_bits n (by omega)]
    have e : z % 2 ^ (n + 1) = z % 2 ^ n + 2 ^ n * (z / 2 ^ n % 2) := by rw [Nat.pow_succ, Nat.mod_mul]
    have hlt : z % 2 ^ n < 2 ^ n := Nat.mod_lt _ (Nat.two_pow_pos n)
    rcases Nat.mod_two_eq_zero_or_one (z / 2 ^ n) with y | y
    · rw [y] at e ⊢
      rw [e, show (nI 0 <<< (nI n &&& 31)) = (0 : Int32) by
        have : ∀ n, n ≤ 7 → (nI 0 <<< (nI n &&& 31)) = (0 : Int32) := by decide +kernel
        exact this n (by omega), or_0]
      rw [Nat.mul_zero, Nat.add_zero]
    · rw [y] at e ⊢
      rw [e, show nI 1 = (1 : Int32) from rfl, or_bit hlt (by omega), Nat.mul_one]
section MQA
variable {G : mm_G} {l : Launch} {d nx : Nat} {h : Nat → mm_E} {g : MG} {A : MA} {k : CS} {cs : List Nat} {f : Nat → Int32} {N : Nat}
theorem n_isSlabY {p c : Int32} (hd : 1 ≤ d) (hx : 215 ≤ nx) (h0 : g 0 = 0) (hk : k.1 ≤ 8) (h18 : g 18 = nI k.1) (hp : inR p k.1) : mm_Con G l yX11_isSlab cX11_isSlab 3 (some .boolean) d 0 0 [.ref 188, .int p, .int c] nx (mos h g A) (mm_ret (some (.int 1)) nx (mos h g A)) := by
  refine mm_start (lo := [some (.ref 188), some (.int p), some (.int c)]) pn_X11 rfl rfl (Nat.le_of_ble_eq_true rfl) ?_
  refine mt_aload_n (pc := 0) dX11_isSlab_0 rfl ?_
  refine mt_iload_n (pc := 1) dX11_isSlab_1 rfl ?_
  refine mt_iconst (pc := 2) (v := 0) dX11_isSlab_2 (by decide) ?_
  refine mt_aload_n (pc := 3) dX11_isSlab_3 rfl ?_
  refine mt_mgetI (pc := 4) (x := nI k.1) gf_X11_154 dX11_isSlab_4 hx rfl h18 ?_
  refine mt_iconst (pc := 7) (v := 1) dX11_isSlab_7 (by decide) ?_
  refine mt_isub (pc := 8) dX11_isSlab_8 ?_
  refine mt_cS (pc := 9) (n_within) cal_X11_within sta_X11_within ml_X11_348 dX11_isSlab_9 (by first | assumption | (show _ ≤ d; omega)) ⟨(Nat.le_of_ble_eq_true rfl), (Nat.le_of_ble_eq_true rfl)⟩ rfl rfl (Nat.le_of_ble_eq_true rfl) ?_
  rw [in_wR (by omega) hp]
  refine mt_iload_n (pc := 12) dX11_isSlab_12 rfl ?_
  refine mt_iconst (pc := 13) (v := 0) dX11_isSlab_13 (by decide) ?_
  refine mt_cV (pc := 14) (n_mayY (d := 0) (q := 0) hx h0 (by decide)) cal_X11_may vir_X11_may ml_X11_190 dX11_isSlab_14 (by omega) (mos_o _ _ _) (by first | assumption | (show _ ≤ d; omega)) ⟨(Nat.le_of_ble_eq_true rfl), (Nat.le_of_ble_eq_true rfl)⟩ rfl rfl (Nat.le_of_ble_eq_true rfl) ?_
  exact mt_zret rfl (by first | exact Or.inl rfl | exact Or.inr rfl) dX11_isSlab_17 (Nat.le_of_ble_eq_true rfl) (Nat.le_of_ble_eq_true rfl) ⟨rfl, rfl, rfl⟩
theorem n_isSlabN {p c : Int32} (hd : 1 ≤ d) (hx : 215 ≤ nx) (h0 : g 0 = 0) (hk : k.1 ≤ 8) (h18 : g 18 = nI k.1) (hc : ¬ c = 0) (hp : ¬ inR p k.1) : mm_Con G l yX11_isSlab cX11_isSlab 3 (some .boolean) d 0 0 [.ref 188, .int p, .int c] nx (mos h g A) (mm_ret (some (.int 0)) nx (mos h (upd g 0 c) (updR A 189 (upd (A 189) 0 (A 189 0 + 1))))) := by
  refine mm_start (lo := [some (.ref 188), some (.int p), some (.int c)]) pn_X11 rfl rfl (Nat.le_of_ble_eq_true rfl) ?_
  refine mt_aload_n (pc := 0) dX11_isSlab_0 rfl ?_
  refine mt_iload_n (pc := 1) dX11_isSlab_1 rfl ?_
  refine mt_iconst (pc := 2) (v := 0) dX11_isSlab_2 (by decide) ?_
  refine mt_aload_n (pc := 3) dX11_isSlab_3 rfl ?_
  refine mt_mgetI (pc := 4) (x := nI k.1) gf_X11_154 dX11_isSlab_4 hx rfl h18 ?_
  refine mt_iconst (pc := 7) (v := 1) dX11_isSlab_7 (by decide) ?_
  refine mt_isub (pc := 8) dX11_isSlab_8 ?_
  refine mt_cS (pc := 9) (n_within) cal_X11_within sta_X11_within ml_X11_348 dX11_isSlab_9 (by first | assumption | (show _ ≤ d; omega)) ⟨(Nat.le_of_ble_eq_true rfl), (Nat.le_of_ble_eq_true rfl)⟩ rfl rfl (Nat.le_of_ble_eq_true rfl) ?_
  rw [in_nwR (by omega) hp]
  refine mt_iload_n (pc := 12) dX11_isSlab_12 rfl ?_
  refine mt_iconst (pc := 13) (v := 0) dX11_isSlab_13 (by decide) ?_
  refine mt_cV (pc := 14) (n_mayN (d := 0) (q := 0) hx (by decide) h0 rfl hc) cal_X11_may vir_X11_may ml_X11_190 dX11_isSlab_14 (by omega) (mos_o _ _ _) (by first | assumption | (show _ ≤ d; omega)) ⟨(Nat.le_of_ble_eq_true rfl), (Nat.le_of_ble_eq_true rfl)⟩ rfl rfl (Nat.le_of_ble_eq_true rfl) ?_
  exact mt_zret rfl (by first | exact Or.inl rfl | exact Or.inr rfl) dX11_isSlab_17 (Nat.le_of_ble_eq_true rfl) (Nat.le_of_ble_eq_true rfl) ⟨rfl, rfl, rfl⟩
theorem n_isSoulY {p c : Int32} (hd : 1 ≤ d) (hx : 215 ≤ nx) (h0 : g 0 = 0) (hk : k.2.1 ≤ 6) (h19 : g 19 = nI k.2.1) (hp : inR p k.2.1) : mm_Con G l yX11_isSoul cX11_isSoul 3 (some .boolean) d 0 0 [.ref 188, .int p, .int c] nx (mos h g A) (mm_ret (some (.int 1)) nx (mos h g A)) := by
  refine mm_start (lo := [some (.ref 188), some (.int p), some (.int c)]) pn_X11 rfl rfl (Nat.le_of_ble_eq_true rfl) ?_
  refine mt_aload_n (pc := 0) dX11_isSoul_0 rfl ?_
  refine mt_iload_n (pc := 1) dX11_isSoul_1 rfl ?_
  refine mt_iconst (pc := 2) (v := 0) dX11_isSoul_2 (by decide) ?_
  refine mt_aload_n (pc := 3) dX11_isSoul_3 rfl ?_
  refine mt_mgetI (pc := 4) (x := nI k.2.1) gf_X11_157 dX11_isSoul_4 hx rfl h19 ?_
  refine mt_iconst (pc := 7) (v := 1) dX11_isSoul_7 (by decide) ?_
  refine mt_isub (pc := 8) dX11_isSoul_8 ?_
  refine mt_cS (pc := 9) (n_within) cal_X11_within sta_X11_within ml_X11_348 dX11_isSoul_9 (by first | assumption | (show _ ≤ d; omega)) ⟨(Nat.le_of_ble_eq_true rfl), (Nat.le_of_ble_eq_true rfl)⟩ rfl rfl (Nat.le_of_ble_eq_true rfl) ?_
  rw [in_wR (by omega) hp]
  refine mt_iload_n (pc := 12) dX11_isSoul_12 rfl ?_
  refine mt_iconst (pc := 13) (v := 0) dX11_isSoul_13 (by decide) ?_
  refine mt_cV (pc := 14) (n_mayY (d := 0) (q := 0) hx h0 (by decide)) cal_X11_may vir_X11_may ml_X11_190 dX11_isSoul_14 (by omega) (mos_o _ _ _) (by first | assumption | (show _ ≤ d; omega)) ⟨(Nat.le_of_ble_eq_true rfl), (Nat.le_of_ble_eq_true rfl)⟩ rfl rfl (Nat.le_of_ble_eq_true rfl) ?_
  exact mt_zret rfl (by first | exact Or.inl rfl | exact Or.inr rfl) dX11_isSoul_17 (Nat.le_of_ble_eq_true rfl) (Nat.le_of_ble_eq_true rfl) ⟨rfl, rfl, rfl⟩
theorem n_isSoulN {p c : Int32} (hd : 1 ≤ d) (hx : 215 ≤ nx) (h0 : g 0 = 0) (hk : k.2.1 ≤ 6) (h19 : g 19 = nI k.2.1) (hc : ¬ c = 0) (hp : ¬ inR p k.2.1) : mm_Con G l yX11_isSoul cX11_isSoul 3 (some .boolean) d 0 0 [.ref 188, .int p, .int c] nx (mos h g A) (mm_ret (some (.int 0)) nx (mos h (upd g 0 c) (updR A 189 (upd (A 189) 0 (A 189 0 + 1))))) := by
  refine mm_start (lo := [some (.ref 188), some (.int p), some (.int c)]) pn_X11 rfl rfl (Nat.le_of_ble_eq_true rfl) ?_
  refine mt_aload_n (pc := 0) dX11_isSoul_0 rfl ?_
  refine mt_iload_n (pc := 1) dX11_isSoul_1 rfl ?_
  refine mt_iconst (pc := 2) (v := 0) dX11_isSoul_2 (by decide) ?_
  refine mt_aload_n (pc := 3) dX11_isSoul_3 rfl ?_
  refine mt_mgetI (pc := 4) (x := nI k.2.1) gf_X11_157 dX11_isSoul_4 hx rfl h19 ?_
  refine mt_iconst (pc := 7) (v := 1) dX11_isSoul_7 (by decide) ?_
  refine mt_isub (pc := 8) dX11_isSoul_8 ?_
  refine mt_cS (pc := 9) (n_within) cal_X11_within sta_X11_within ml_X11_348 dX11_isSoul_9 (by first | assumption | (show _ ≤ d; omega)) ⟨(Nat.le_of_ble_eq_true rfl), (Nat.le_of_ble_eq_true rfl)⟩ rfl rfl (Nat.le_of_ble_eq_true rfl) ?_
  rw [in_nwR (by omega) hp]
  refine mt_iload_n (pc := 12) dX11_isSoul_12 rfl ?_
  refine mt_iconst (pc := 13) (v := 0) dX11_isSoul_13 (by decide) ?_
  refine mt_cV (pc := 14) (n_mayN (d := 0) (q := 0) hx (by decide) h0 rfl hc) cal_X11_may vir_X11_may ml_X11_190 dX11_isSoul_14 (by omega) (mos_o _ _ _) (by first | assumption | (show _ ≤ d; omega)) ⟨(Nat.le_of_ble_eq_true rfl), (Nat.le_of_ble_eq_true rfl)⟩ rfl rfl (Nat.le_of_ble_eq_true rfl) ?_
  exact mt_zret rfl (by first | exact Or.inl rfl | exact Or.inr rfl) dX11_isSoul_17 (Nat.le_of_ble_eq_true rfl) (Nat.le_of_ble_eq_true rfl) ⟨rfl, rfl, rfl⟩
theorem n_takeR (hd : 1 ≤ d) (hx : 215 ≤ nx) (hR : RR (A 205) f) (hn : nlo f ≤ 10) : mm_Con G l yX11_take cX11_take 1 none d 0 0 [.ref 188] nx (mos h g A) (fun o n m => o = .inl none ∧ n = nx ∧ ∃ S, m = mos h g (updR A 206 S) ∧ RR S f) := con_imp (n_take hd hx) (fun o n m hq => ⟨hq.1, hq.2.1, _, hq.2.2, RR_congr hR (fun j hj => if_pos hj) hn⟩)
theorem n_sumOf {b n : Nat} {F : Nat → Int32} (hx : 215 ≤ nx) (hb : b + n ≤ 91) (hF : ∀ i, i < n → A 206 (b + i) = F i) : mm_Con G l yX11_sumOf cX11_sumOf 5 (some .int) d 0 0 [.ref 188, .int (nI b), .int (nI n)] nx (mos h g A) (mm_ret (some (.int (fld (fun p acc => acc + F p) 0 n))) nx (mos h g A)) := by
  refine mm_start (lo := [some (.ref 188), some (.int (nI b)), some (.int (nI n)), none, none]) pn_X11 rfl rfl (Nat.le_of_ble_eq_true rfl) ?_
  refine mt_iconst (pc := 0) (v := 0) dX11_sumOf_0 (by decide) ?_
  refine mt_istore_n (pc := 1) dX11_sumOf_1 (Nat.le_of_ble_eq_true rfl) rfl ?_
  refine mt_iconst (pc := 2) (v := 0) dX11_sumOf_2 (by decide) ?_
  refine mt_istore (pc := 3) dX11_sumOf_3 (Nat.le_of_ble_eq_true rfl) rfl ?_
  refine mt_for (pc := 5) (H := fun c => mos h g A) (L := fun c => [some (.ref 188), some (.int (nI b)), some (.int (nI n)), some (.int (fld (fun p acc => acc + F p) 0 c)), some (.int (nI c))]) n (fun c hc nc => ?_) ?_
  · skip
    refine mt_iload (pc := 5) dX11_sumOf_5 rfl ?_
    refine mt_iload_n (pc := 7) dX11_sumOf_7 rfl ?_
    refine mt_icmp_ge (pc := 8) (tgt := 29) dX11_sumOf_8 (by decide) (fun c8 => ?_) (fun c8 => ?_)
    · exact absurd c8 (nI_ge hc (by first | omega | decide))
    · skip
      refine mt_iload_n (pc := 11) dX11_sumOf_11 rfl ?_
      refine mt_aload_n (pc := 12) dX11_sumOf_12 rfl ?_
      refine mt_mget (pc := 13) gf_X11_68 dX11_sumOf_13 hx rfl ?_
      refine mt_iload_n (pc := 16) dX11_sumOf_16 rfl ?_
      refine mt_iload (pc := 17) dX11_sumOf_17 rfl ?_
      refine mt_iaddN (pc := 19) (a := b) (b := c) dX11_sumOf_19 rfl rfl ?_
      refine mt_mald (pc := 20) (i := 206) (j := b + c) (x := F c) dX11_sumOf_20 hx rfl rfl (by show _ < 91; omega) (hF c hc) ?_
      refine mt_iadd (pc := 21) dX11_sumOf_21 ?_
      refine mt_istore_n (pc := 22) dX11_sumOf_22 (Nat.le_of_ble_eq_true rfl) rfl ?_
      refine mt_iinc (pc := 23) (c9 := 1) dX11_sumOf_23 rfl (by decide) (Nat.le_of_ble_eq_true rfl) rfl ?_
      refine mt_goto (pc := 26) (tgt := 5) dX11_sumOf_26 (by decide) ?_
      rw [show (nI c + 1 : Int32) = nI (c + 1) from nI_1 c]
      first
        | exact nc
        | exact mt_fg (by repeat (first | exact trivial | refine ⟨rfl, ?_⟩ | rfl)) nc
  · skip
    refine mt_iload (pc := 5) dX11_sumOf_5 rfl ?_
    refine mt_iload_n (pc := 7) dX11_sumOf_7 rfl ?_
    refine mt_icmp_ge (pc := 8) (tgt := 29) dX11_sumOf_8 (by decide) (fun c8 => ?_) (fun c8 => ?_)
    · skip
      refine mt_iload_n (pc := 29) dX11_sumOf_29 rfl ?_
      exact mt_iret rfl dX11_sumOf_30 (Nat.le_of_ble_eq_true rfl) (Nat.le_of_ble_eq_true rfl) ⟨rfl, rfl, rfl⟩
    · exact absurd (nI_le (Nat.le_refl _) (by first | omega | decide)) c8
theorem n_allLoans (hx : 215 ≤ nx) (hR : RR (A 206) f) (hI : RI k f) : mm_Con G l yX11_allLoans cX11_allLoans 1 (some .int) d 0 0 [.ref 188] nx (mos h g A) (mm_ret (some (.int (nI (2 ^ nlo f - 1)))) nx (mos h g A)) := by
  obtain ⟨hn10, e3, -⟩ := hI.nl
  refine mm_start (lo := [some (.ref 188)]) pn_X11 rfl rfl (Nat.le_of_ble_eq_true rfl) ?_
  refine mt_iconst (pc := 0) (v := 1) dX11_allLoans_0 (by decide) ?_
  refine mt_aload_n (pc := 1) dX11_allLoans_1 rfl ?_
  refine mt_mget (pc := 2) gf_X11_68 dX11_allLoans_2 hx rfl ?_
  refine mt_bipush (pc := 5) (v := 88) dX11_allLoans_5 (by decide) ?_
  refine mt_mald (pc := 7) (i := 206) (j := 88) (x := nI (nlo f)) dX11_allLoans_7 hx rfl rfl (by show _ < 91; omega) (by rw [hR.2.2.2.2.2.1]; exact e3) ?_
  refine mt_ishl (pc := 8) dX11_allLoans_8 ?_
  rw [shl1 _ (by omega)]
  refine mt_iconst (pc := 9) (v := 1) dX11_allLoans_9 (by decide) ?_
  refine mt_isub (pc := 10) dX11_allLoans_10 ?_
  rw [show (1 : Int32) = nI 1 from rfl, pk_sub (Nat.two_pow_pos _)]
  exact mt_iret rfl dX11_allLoans_11 (Nat.le_of_ble_eq_true rfl) (Nat.le_of_ble_eq_true rfl) ⟨rfl, rfl, rfl⟩
def lwG (f : Nat → Int32) (j : Nat) (v : Int32) : Nat → Int32 := fld (fun i acc => if f (24 + 6 * i + j) = v then acc ||| ((1 : Int32) <<< (nI i &&& 31)) else acc) 0
theorem lwG_s {j c : Nat} {v : Int32} : lwG f j v (c + 1) = if f (24 + 6 * c + j) = v then lwG f j v c ||| ((1 : Int32) <<< (nI c &&& 31)) else lwG f j v c := rfl
theorem n_loansBy {j : Nat} {v : Int32} (hd : 1 ≤ d) (hx : 215 ≤ nx) (hj : j < 6) (hR : RR (A 206) f) (hI : RI k f) : mm_Con G l yX11_loansBy cX11_loansBy 5 (some .int) d 0 0 [.ref 188, .int (nI j), .int v] nx (mos h g A) (mm_ret (some (.int (lwF f j v))) nx (mos h g A)) := by
  obtain ⟨hn10, e3, -⟩ := hI.nl
  rw [show lwF f j v = lwG f j v (nlo f) from rfl]
  refine mm_start (lo := [some (.ref 188), some (.int (nI j)), some (.int v), none, none]) pn_X11 rfl rfl (Nat.le_of_ble_eq_true rfl) ?_
  refine mt_iconst (pc := 0) (v := 0) dX11_loansBy_0 (by decide) ?_
  refine mt_istore_n (pc := 1) dX11_loansBy_1 (Nat.le_of_ble_eq_true rfl) rfl ?_
  refine mt_iconst (pc := 2) (v := 0) dX11_loansBy_2 (by decide) ?_
  refine mt_istore (pc := 3) dX11_loansBy_3 (Nat.le_of_ble_eq_true rfl) rfl ?_
  refine mt_for (pc := 5) (H := fun c => mos h g A) (L := fun c => [some (.ref 188), some (.int (nI j)), some (.int v), some (.int (lwG f j v c)), some (.int (nI c))]) (nlo f) (fun c hc nc => ?_) ?_
  · skip
    rw [lwG_s] at nc
    refine mt_iload (pc := 5) dX11_loansBy_5 rfl ?_
    refine mt_aload_n (pc := 7) dX11_loansBy_7 rfl ?_
    refine mt_mget (pc := 8) gf_X11_68 dX11_loansBy_8 hx rfl ?_
    refine mt_bipush (pc := 11) (v := 88) dX11_loansBy_11 (by decide) ?_
    refine mt_mald (pc := 13) (i := 206) (j := 88) (x := nI (nlo f)) dX11_loansBy_13 hx rfl rfl (by show _ < 91; omega) (by rw [hR.2.2.2.2.2.1]; exact e3) ?_
    refine mt_icmp_ge (pc := 14) (tgt := 45) dX11_loansBy_14 (by decide) (fun c14 => ?_) (fun c14 => ?_)
    · exact absurd c14 (nI_ge hc (by first | omega | decide))
    · skip
      refine mt_iload_n (pc := 17) dX11_loansBy_17 rfl ?_
      refine mt_aload_n (pc := 18) dX11_loansBy_18 rfl ?_
      refine mt_iload (pc := 19) dX11_loansBy_19 rfl ?_
      refine mt_iload_n (pc := 21) dX11_loansBy_21 rfl ?_
      refine mt_cV (pc := 22) (n_loanOf (d := 0) (i := c) (k := j) hx (by omega) hj) cal_X11_loanOf vir_X11_loanOf ml_X11_314 dX11_loansBy_22 (by omega) (mos_o _ _ _) (by first | assumption | (show _ ≤ d; omega)) ⟨(Nat.le_of_ble_eq_true rfl), (Nat.le_of_ble_eq_true rfl)⟩ rfl rfl (Nat.le_of_ble_eq_true rfl) ?_
      rw [hR.ln hc hj]
      refine mt_iload_n (pc := 25) dX11_loansBy_25 rfl ?_
      refine mt_icmp_ne (pc := 26) (tgt := 36) dX11_loansBy_26 (by decide) (fun c26 => ?_) (fun c26 => ?_)
      · skip
        rw [if_neg c26] at nc
        refine mt_iconst (pc := 36) (v := 0) dX11_loansBy_36 (by decide) ?_
        refine mt_ior (pc := 37) dX11_loansBy_37 ?_
        rw [or_0]
        refine mt_istore_n (pc := 38) dX11_loansBy_38 (Nat.le_of_ble_eq_true rfl) rfl ?_
        refine mt_iinc (pc := 39) (c9 := 1) dX11_loansBy_39 rfl (by decide) (Nat.le_of_ble_eq_true rfl) rfl ?_
        refine mt_goto (pc := 42) (tgt := 5) dX11_loansBy_42 (by decide) ?_
        rw [show (nI c + 1 : Int32) = nI (c + 1) from nI_1 c]
        first
          | exact nc
          | exact mt_fg (by repeat (first | exact trivial | refine ⟨rfl, ?_⟩ | rfl)) nc
      · skip
        rw [if_pos c26] at nc
        refine mt_iconst (pc := 29) (v := 1) dX11_loansBy_29 (by decide) ?_
        refine mt_iload (pc := 30) dX11_loansBy_30 rfl ?_
        refine mt_ishl (pc := 32) dX11_loansBy_32 ?_
        refine mt_goto (pc := 33) (tgt := 37) dX11_loansBy_33 (by decide) ?_
        refine mt_ior (pc := 37) dX11_loansBy_37 ?_
        refine mt_istore_n (pc := 38) dX11_loansBy_38 (Nat.le_of_ble_eq_true rfl) rfl ?_
        refine mt_iinc (pc := 39) (c9 := 1) dX11_loansBy_39 rfl (by decide) (Nat.le_of_ble_eq_true rfl) rfl ?_
        refine mt_goto (pc := 42) (tgt := 5) dX11_loansBy_42 (by decide) ?_
        rw [show (nI c + 1 : Int32) = nI (c + 1) from nI_1 c]
        first
          | exact nc
          | exact mt_fg (by repeat (first | exact trivial | refine ⟨rfl, ?_⟩ | rfl)) nc
  · skip
    refine mt_iload (pc := 5) dX11_loansBy_5 rfl ?_
    refine mt_aload_n (pc := 7) dX11_loansBy_7 rfl ?_
    refine mt_mget (pc := 8) gf_X11_68 dX11_loansBy_8 hx rfl ?_
    refine mt_bipush (pc := 11) (v := 88) dX11_loansBy_11 (by decide) ?_
    refine mt_mald (pc := 13) (i := 206) (j := 88) (x := nI (nlo f)) dX11_loansBy_13 hx rfl rfl (by show _ < 91; omega) (by rw [hR.2.2.2.2.2.1]; exact e3) ?_
    refine mt_icmp_ge (pc := 14) (tgt := 45) dX11_loansBy_14 (by decide) (fun c14 => ?_) (fun c14 => ?_)
    · skip
      refine mt_iload_n (pc := 45) dX11_loansBy_45 rfl ?_
      exact mt_iret rfl dX11_loansBy_46 (Nat.le_of_ble_eq_true rfl) (Nat.le_of_ble_eq_true rfl) ⟨rfl, rfl, rfl⟩
    · exact absurd (nI_le (Nat.le_refl _) (by first | omega | decide)) c14
theorem n_shutNow (hx : 215 ≤ nx) (hk : k.1 ≤ 8) (h18 : g 18 = nI k.1) (hR : RR (A 206) f) (hI : RI k f) : mm_Con G l yX11_shutNow cX11_shutNow 3 (some .int) d 0 0 [.ref 188] nx (mos h g A) (mm_ret (some (.int (f 1))) nx (mos h g A)) := by
  obtain ⟨z, z1, z2⟩ := hI.2.2.2.2.1
  have z3 := pow_mono hk
  have eb : f 1 = fld (fun p acc => acc ||| (nI (z / 2 ^ p % 2) <<< (nI p &&& 31))) 0 k.1 := by rw [fld_bits k.1 hk, z1, Nat.mod_eq_of_lt z2]
  rw [eb]
  refine mm_start (lo := [some (.ref 188), none, none]) pn_X11 rfl rfl (Nat.le_of_ble_eq_true rfl) ?_
  refine mt_iconst (pc := 0) (v := 0) dX11_shutNow_0 (by decide) ?_
  refine mt_istore_n (pc := 1) dX11_shutNow_1 (Nat.le_of_ble_eq_true rfl) rfl ?_
  refine mt_iconst (pc := 2) (v := 0) dX11_shutNow_2 (by decide) ?_
  refine mt_istore_n (pc := 3) dX11_shutNow_3 (Nat.le_of_ble_eq_true rfl) rfl ?_
  refine mt_for (pc := 4) (H := fun c => mos h g A) (L := fun c => [some (.ref 188), some (.int (fld (fun p acc => acc ||| (nI (z / 2 ^ p % 2) <<< (nI p &&& 31))) 0 c)), some (.int (nI c))]) (k.1) (fun c hc nc => ?_) ?_
  · skip
    refine mt_iload_n (pc := 4) dX11_shutNow_4 rfl ?_
    refine mt_aload_n (pc := 5) dX11_shutNow_5 rfl ?_
    refine mt_mgetI (pc := 6) (x := nI k.1) gf_X11_154 dX11_shutNow_6 hx rfl h18 ?_
    refine mt_icmp_ge (pc := 9) (tgt := 32) dX11_shutNow_9 (by decide) (fun c9 => ?_) (fun c9 => ?_)
    · exact absurd c9 (nI_ge hc (by first | omega | decide))
    · skip
      refine mt_iload_n (pc := 12) dX11_shutNow_12 rfl ?_
      refine mt_aload_n (pc := 13) dX11_shutNow_13 rfl ?_
      refine mt_mget (pc := 14) gf_X11_68 dX11_shutNow_14 hx rfl ?_
      refine mt_bipush (pc := 17) (v := 8) dX11_shutNow_17 (by decide) ?_
      refine mt_iload_n (pc := 19) dX11_shutNow_19 rfl ?_
      refine mt_iaddN (pc := 20) (a := 8) (b := c) dX11_shutNow_20 rfl rfl ?_
      refine mt_mald (pc := 21) (i := 206) (j := 8 + c) (x := nI (z / 2 ^ c % 2)) dX11_shutNow_21 hx rfl rfl (by show _ < 91; omega) (by rw [hR.2.1 c (by omega), z1, bit32 (by omega) (by omega)]) ?_
      refine mt_iload_n (pc := 22) dX11_shutNow_22 rfl ?_
      refine mt_ishl (pc := 23) dX11_shutNow_23 ?_
      refine mt_ior (pc := 24) dX11_shutNow_24 ?_
      refine mt_istore_n (pc := 25) dX11_shutNow_25 (Nat.le_of_ble_eq_true rfl) rfl ?_
      refine mt_iinc (pc := 26) (c9 := 1) dX11_shutNow_26 rfl (by decide) (Nat.le_of_ble_eq_true rfl) rfl ?_
      refine mt_goto (pc := 29) (tgt := 4) dX11_shutNow_29 (by decide) ?_
      rw [show (nI c + 1 : Int32) = nI (c + 1) from nI_1 c]
      first
        | exact nc
        | exact mt_fg (by repeat (first | exact trivial | refine ⟨rfl, ?_⟩ | rfl)) nc
  · skip
    refine mt_iload_n (pc := 4) dX11_shutNow_4 rfl ?_
    refine mt_aload_n (pc := 5) dX11_shutNow_5 rfl ?_
    refine mt_mgetI (pc := 6) (x := nI k.1) gf_X11_154 dX11_shutNow_6 hx rfl h18 ?_
    refine mt_icmp_ge (pc := 9) (tgt := 32) dX11_shutNow_9 (by decide) (fun c9 => ?_) (fun c9 => ?_)
    · skip
      refine mt_iload_n (pc := 32) dX11_shutNow_32 rfl ?_
      exact mt_iret rfl dX11_shutNow_33 (Nat.le_of_ble_eq_true rfl) (Nat.le_of_ble_eq_true rfl) ⟨rfl, rfl, rfl⟩
    · exact absurd (nI_le (Nat.le_refl _) (by first | omega | decide)) c9
def oaF (k : CS) (cs : List Nat) (f : Nat → Int32) (S : Int32) : Nat → Int32 := fld (fun i acc => acc + ((S >>> (nI i &&& 31)) &&& 1) * owI k cs f i) 0
theorem n_owesAll {S : Int32} (hd : 5 ≤ d) (hx : 215 ≤ nx) (hQ : MQs k cs g A) (hR : RR (A 206) f) (hI : RI k f) : mm_Con G l yX11_owesAll cX11_owesAll 4 (some .int) d 0 0 [.ref 188, .int S] nx (mos h g A) (fun o n m => o = .inl (some (.int (oaF k cs f S (nlo f)))) ∧ n = nx ∧ ∃ A', m = mos h g A' ∧ SC A A') := by
  obtain ⟨hn10, e3, -⟩ := hI.nl
  refine mm_start (lo := [some (.ref 188), some (.int S), none, none]) pn_X11 rfl rfl (Nat.le_of_ble_eq_true rfl) ?_
  refine mt_iconst (pc := 0) (v := 0) dX11_owesAll_0 (by decide) ?_
  refine mt_istore_n (pc := 1) dX11_owesAll_1 (Nat.le_of_ble_eq_true rfl) rfl ?_
  refine mt_iconst (pc := 2) (v := 0) dX11_owesAll_2 (by decide) ?_
  refine mt_istore_n (pc := 3) dX11_owesAll_3 (Nat.le_of_ble_eq_true rfl) rfl ?_
  refine mt_forE (pc := 4) (α := MA) (H := fun c (a : MA) => mos h g a) (L := fun c (a : MA) => [some (.ref 188), some (.int S), some (.int (oaF k cs f S c)), some (.int (nI c))]) (I := fun c (a : MA) => SC A a) (nlo f) (fun c a hc fc nc => ?_) (fun a fc => ?_) A SC_rf
  · skip
    have hR' : RR (a 206) f := by rw [fc 206 (by decide) (by decide)]; exact hR
    have hQ' : MQs k cs g a := hQ.sc (fun j hj => fc j (by omega) (by omega))
    refine mt_iload_n (pc := 4) dX11_owesAll_4 rfl ?_
    refine mt_aload_n (pc := 5) dX11_owesAll_5 rfl ?_
    refine mt_mget (pc := 6) gf_X11_68 dX11_owesAll_6 hx rfl ?_
    refine mt_bipush (pc := 9) (v := 88) dX11_owesAll_9 (by decide) ?_
    refine mt_mald (pc := 11) (i := 206) (j := 88) (x := nI (nlo f)) dX11_owesAll_11 hx rfl rfl (by show _ < 91; omega) (by rw [hR'.2.2.2.2.2.1]; exact e3) ?_
    refine mt_icmp_ge (pc := 12) (tgt := 35) dX11_owesAll_12 (by decide) (fun c12 => ?_) (fun c12 => ?_)
    · exact absurd c12 (nI_ge hc (by first | omega | decide))
    · skip
      refine mt_iload_n (pc := 15) dX11_owesAll_15 rfl ?_
      refine mt_iload_n (pc := 16) dX11_owesAll_16 rfl ?_
      refine mt_iload_n (pc := 17) dX11_owesAll_17 rfl ?_
      refine mt_ishr (pc := 18) dX11_owesAll_18 ?_
      refine mt_iconst (pc := 19) (v := 1) dX11_owesAll_19 (by decide) ?_
      refine mt_iand (pc := 20) dX11_owesAll_20 ?_
      refine mt_aload_n (pc := 21) dX11_owesAll_21 rfl ?_
      refine mt_iload_n (pc := 22) dX11_owesAll_22 rfl ?_
      refine mt_aV (pc := 23) (n_owes (d := 4) (cs := cs) (Nat.le_refl 4) hx hQ' hR' hI hc) cal_X11_owes vir_X11_owes ml_X11_328 dX11_owesAll_23 (by omega) (mos_o _ _ _) (by first | assumption | (show _ ≤ d; omega)) ⟨(Nat.le_of_ble_eq_true rfl), (Nat.le_of_ble_eq_true rfl)⟩ rfl rfl (Nat.le_of_ble_eq_true rfl) ?_ ?_
      · rintro x9 n9 k9 h9
        obtain ⟨⟨⟩, -⟩ := h9
      · rintro v9 n9 k9 ⟨⟨⟩, rfl, A1, rfl, hS⟩
        refine ⟨rfl, ?_⟩
        refine mt_imul (pc := 26) dX11_owesAll_26 ?_
        refine mt_iadd (pc := 27) dX11_owesAll_27 ?_
        refine mt_istore_n (pc := 28) dX11_owesAll_28 (Nat.le_of_ble_eq_true rfl) rfl ?_
        refine mt_iinc (pc := 29) (c9 := 1) dX11_owesAll_29 rfl (by decide) (Nat.le_of_ble_eq_true rfl) rfl ?_
        refine mt_goto (pc := 32) (tgt := 4) dX11_owesAll_32 (by decide) ?_
        rw [show (nI c + 1 : Int32) = nI (c + 1) from nI_1 c]
        exact nc A1 (fc.trans hS)
  · skip
    have hR' : RR (a 206) f := by rw [fc 206 (by decide) (by decide)]; exact hR
    refine mt_iload_n (pc := 4) dX11_owesAll_4 rfl ?_
    refine mt_aload_n (pc := 5) dX11_owesAll_5 rfl ?_
    refine mt_mget (pc := 6) gf_X11_68 dX11_owesAll_6 hx rfl ?_
    refine mt_bipush (pc := 9) (v := 88) dX11_owesAll_9 (by decide) ?_
    refine mt_mald (pc := 11) (i := 206) (j := 88) (x := nI (nlo f)) dX11_owesAll_11 hx rfl rfl (by show _ < 91; omega) (by rw [hR'.2.2.2.2.2.1]; exact e3) ?_
    refine mt_icmp_ge (pc := 12) (tgt := 35) dX11_owesAll_12 (by decide) (fun c12 => ?_) (fun c12 => ?_)
    · skip
      refine mt_iload_n (pc := 35) dX11_owesAll_35 rfl ?_
      exact mt_iret rfl dX11_owesAll_36 (Nat.le_of_ble_eq_true rfl) (Nat.le_of_ble_eq_true rfl) ⟨rfl, rfl, a, rfl, fc⟩
    · exact absurd (nI_le (Nat.le_refl _) (by first | omega | decide)) c12
/-- all of them, or those of one -/
theorem oa_all {n : Nat} (hn : nlo f = n) (hn2 : n ≤ 10) : oaF k cs f (nI (2 ^ n - 1)) n = owA k cs f (-1) n := by
  unfold oaF owA
  refine fld_cg n (fun i x hi => ?_)
  have h1 : 2 ^ n ≤ 2 ^ 10 := pow_mono hn2
  have h2 : (2 ^ n - 1) / 2 ^ i % 2 = 1 := by
    have : ∀ n, n ≤ 10 → ∀ i, i < n → (2 ^ n - 1) / 2 ^ i % 2 = 1 := by decide +kernel
    exact this n hn2 i hi
  rw [bit32 (by omega) (by omega), h2, if_pos (Or.inl rfl), show nI 1 = (1 : Int32) from rfl, one_mul32]
end MQA
