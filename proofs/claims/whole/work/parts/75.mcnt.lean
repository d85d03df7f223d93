/-! The reference: county. -/
/-- one turn of the reading of a county -/
def itS (b : Nat → Int32) (e c p : Nat) (k : CS) : ((Nat × Nat) ⊕ CS) ⊕ (Nat × CS) := if sk b e p = e then .inl (.inr k) else
  match clauseS b e p (if c < 60 then 0 else 1) k with
  | .inl x => .inl (.inl x)
  | .inr (r, k') => if pk b e r = 59 then .inr (sk b e r + 1, k') else .inl (.inl (1, sk b e r))
theorem cntS_it (b : Nat → Int32) (e m c p : Nat) (k : CS) : cntS b e (m + 1) c p k = match itS b e c p k with
  | .inl z => z
  | .inr (p', k') => cntS b e m (c + 1) p' k' := by
  simp only [cntS, itS]
  split
  · rfl
  · generalize clauseS b e p (if c < 60 then 0 else 1) k = X
    rcases X with x | ⟨r, k'⟩
    · rfl
    · dsimp only
      split <;> rfl
theorem WD_L {b : Nat → Int32} {e p j : Nat} (hb : BY b) (hp : p ≤ e) (h1 : 1 ≤ mm_tl.getD j 0) (h : WD b (sk b e p) (lt b e (sk b e p)) j) : isL (pk b e p) := by
  have hq := sk_le (b := b) hp
  have hr := lt_le (b := b) hq.2
  have h2 := h.1
  have hl : isL (b (sk b e p)) := lt_L (e := e) (p := sk b e p) (Nat.le_refl _) (by omega)
  rw [pk, if_pos (by omega)]
  exact (by_L (hb _)).mpr hl
theorem cl_0 {b : Nat → Int32} {e p : Nat} {tm : Int32} {k : CS} (h1 : ¬ WD b (sk b e p) (lt b e (sk b e p)) 1) (h2 : ¬ WD b (sk b e p) (lt b e (sk b e p)) 2) (h3 : ¬ WD b (sk b e p) (lt b e (sk b e p)) 3) : clauseS b e p tm k = .inl (1, sk b e p) := by
  simp only [clauseS, if_neg h1, if_neg h2, if_neg h3]
  split <;> rfl
theorem cl_1 {b : Nat → Int32} {e p : Nat} {tm : Int32} {k : CS} (hb : BY b) (hp : p ≤ e) (h1 : WD b (sk b e p) (lt b e (sk b e p)) 1) : clauseS b e p tm k = if ¬ tm = 0 ∨ 8 ≤ k.1 then .inl (3, sk b e p) else slabS b e (lt b e (sk b e p)) k := by
  have hL := WD_L hb hp (by decide) h1
  simp only [clauseS]
  rw [if_neg (fun z => z hL), if_pos h1]
theorem cl_2 {b : Nat → Int32} {e p : Nat} {tm : Int32} {k : CS} (hb : BY b) (hp : p ≤ e) (h1 : ¬ WD b (sk b e p) (lt b e (sk b e p)) 1) (h2 : WD b (sk b e p) (lt b e (sk b e p)) 2) : clauseS b e p tm k = if ¬ tm = 0 ∨ 6 ≤ k.2.1 then .inl (3, sk b e p) else soulS b e (lt b e (sk b e p)) k := by
  have hL := WD_L hb hp (by decide) h2
  simp only [clauseS]
  rw [if_neg (fun z => z hL), if_neg h1, if_pos h2]
theorem cl_3 {b : Nat → Int32} {e p : Nat} {tm : Int32} {k : CS} (hb : BY b) (hp : p ≤ e) (h1 : ¬ WD b (sk b e p) (lt b e (sk b e p)) 1) (h2 : ¬ WD b (sk b e p) (lt b e (sk b e p)) 2) (h3 : WD b (sk b e p) (lt b e (sk b e p)) 3) : clauseS b e p tm k = if ¬ tm = 0 then .inl (3, sk b e p) else kinS b e (lt b e (sk b e p)) k := by
  have hL := WD_L hb hp (by decide) h3
  simp only [clauseS]
  rw [if_neg (fun z => z hL), if_neg h1, if_neg h2, if_pos h3]
theorem itS_bad {b : Nat → Int32} {e c p : Nat} {k : CS} {x : Nat × Nat} (h0 : ¬ sk b e p = e) (h : clauseS b e p (if c < 60 then 0 else 1) k = .inl x) : itS b e c p k = .inl (.inl x) := by
  simp only [itS]
  rw [if_neg h0, h]
theorem itS_go {b : Nat → Int32} {e c p r : Nat} {k k' : CS} (h0 : ¬ sk b e p = e) (h : clauseS b e p (if c < 60 then 0 else 1) k = .inr (r, k')) : itS b e c p k = match signS b e r 59 with
  | .inl x => .inl (.inl x)
  | .inr q => .inr (q, k') := by
  simp only [itS, signS]
  rw [if_neg h0, h]
  dsimp only
  split <;> rfl
/-- what is left of the state, and the county that was read -/
def RCN (g0 : MG) (A : MA) (z : (Nat × Nat) ⊕ CS) (g' : MG) (A' : MA) : Prop := (∀ j, j ≠ 4 → j ≠ 5 → j ≠ 6 → j ≠ 16 → j ≠ 17 → g' j = g0 j) ∧ (∀ j, j ≠ 191 → j ≠ 192 → j ≠ 193 → A' j = A j) ∧ match z with
  | .inl y => g' 5 = nI y.2 ∧ g' 6 = nI y.1 ∧ y.2 ≤ 600
  | .inr k' => g' 5 = -1 ∧ g' 16 = nI k'.1 ∧ g' 17 = nI k'.2.1 ∧ MCN k' (A' 191) (A' 192) (A' 193)
theorem rp_le {b : Nat → Int32} {e : Nat} {x : (Nat × Nat) ⊕ Nat} {lw hi : Int32} (he : ∀ p, x = .inr p → p ≤ e) : ∀ p, rpN (nmS b e x lw hi) = .inr p → p ≤ e := by
  intro p hp
  rcases hX : nmS b e x lw hi with y | ⟨v, r⟩
  · rw [hX] at hp; cases hp
  · rw [hX] at hp
    cases hp
    exact (nmS_hi he hX).2
section MCN2
variable {G : mm_G} {l : Launch} {d nx : Nat} {h : Nat → mm_E} {g : MG} {A : MA} {b : Nat → Int32} {Po : mm_P}
theorem t_cnt44 {e : Nat} {n w c : Int32} {g0 : MG} {y : Nat × Nat} (hd : 6 ≤ d) (hx : 215 ≤ nx) (hP : PST e g0 g (.inl y)) (kk : mm_T (G, l, yX11_county, 4, some .int, d, 0, 0, Po, nx) RX11 cX11_county nx (mos h g A) 0 0 164 [some (.ref 188), some (.int n), none, none] []) : mm_T (G, l, yX11_county, 4, some .int, d, 0, 0, Po, nx) RX11 cX11_county nx (mos h g A) 0 0 44 [some (.ref 188), some (.int n), some (.int c), some (.int w)] [] := by
  have h5 : ¬ g 5 = -1 := by rw [hP.2.2.1]; exact nI_m1 (hi := 1000) (by have := hP.2.2.2.2; show ((y.2 : Nat) : Int) ≤ 1000; omega)
  refine mt_aload_n (pc := 44) dX11_county_44 rfl ?_
  refine mt_cV (pc := 45) (n_fineN (d := 0) hx h5) cal_X11_fine vir_X11_fine ml_X11_134 dX11_county_45 (by omega) (mos_o _ _ _) (by first | assumption | (show _ ≤ d; omega)) ⟨(Nat.le_of_ble_eq_true rfl), (Nat.le_of_ble_eq_true rfl)⟩ rfl rfl (Nat.le_of_ble_eq_true rfl) ?_
  refine mt_if_eq (pc := 48) (tgt := 164) dX11_county_48 (by decide) (fun c48 => ?_) (fun c48 => ?_)
  · exact mt_fg (by repeat (first | exact trivial | refine ⟨rfl, ?_⟩ | rfl)) kk
  · exact absurd rfl c48
theorem t_cnt133 {e p : Nat} {n w c : Int32} {g0 : MG} {y : Nat × Nat} {z : (Nat × Nat) ⊕ CS} {x : Int32} (hd : 6 ≤ d) (hx : 215 ≤ nx) (hP : PST e g0 g (.inr p)) (hy : y.2 ≤ 600) (kk : ∀ g' A', RCN g0 A (.inl y) g' A' → mm_T (G, l, yX11_county, 4, some .int, d, 0, 0, Po, nx) RX11 cX11_county nx (mos h g' A') 0 0 164 [some (.ref 188), some (.int n), none, none] []) : mm_T (G, l, yX11_county, 4, some .int, d, 0, 0, Po, nx) RX11 cX11_county nx (mos h (upd (upd (upd g 4 x) 5 (nI y.2)) 6 (nI y.1)) A) 0 0 133 [some (.ref 188), some (.int n), some (.int c), some (.int w)] [] := by
  have hP2 : PST e g0 (upd (upd (upd g 4 x) 5 (nI y.2)) 6 (nI y.1)) (.inl y) := hP.bad (kd := y.1) (pl := y.2) x hy
  have h5 : ¬ (upd (upd (upd g 4 x) 5 (nI y.2)) 6 (nI y.1)) 5 = -1 := by rw [hP2.2.2.1]; exact nI_m1 (hi := 1000) (by show ((y.2 : Nat) : Int) ≤ 1000; omega)
  refine mt_aload_n (pc := 133) dX11_county_133 rfl ?_
  refine mt_cV (pc := 134) (n_fineN (d := 0) hx h5) cal_X11_fine vir_X11_fine ml_X11_134 dX11_county_134 (by omega) (mos_o _ _ _) (by first | assumption | (show _ ≤ d; omega)) ⟨(Nat.le_of_ble_eq_true rfl), (Nat.le_of_ble_eq_true rfl)⟩ rfl rfl (Nat.le_of_ble_eq_true rfl) ?_
  refine mt_if_ne (pc := 137) (tgt := 143) dX11_county_137 (by decide) (fun c137 => ?_) (fun c137 => ?_)
  · exact absurd rfl c137
  · skip
    refine mt_goto (pc := 140) (tgt := 164) dX11_county_140 (by decide) ?_
    exact mt_fg (by repeat (first | exact trivial | refine ⟨rfl, ?_⟩ | rfl)) (kk _ A ⟨fun j a1 a2 a3 _ _ => hP2.1 j a1 a2 a3, fun _ _ _ _ => rfl, hP2.2.2⟩)
/-- behind a clause: its sign, the next turn -/
theorem t_cnt152 {e c : Nat} {n w : Int32} {g0 : MG} {x : (Nat × Nat) ⊕ Nat} (hd : 6 ≤ d) (hx : 215 ≤ nx) (hT : TP (A 190) b) (hb : BY b) (he : e ≤ 600) (hP : PST e g0 g x) (k1 : ∀ y g', sgS b e x 59 = .inl y → PST e g0 g' (.inl y) → mm_T (G, l, yX11_county, 4, some .int, d, 0, 0, Po, nx) RX11 cX11_county nx (mos h g' A) 0 0 164 [some (.ref 188), some (.int n), none, none] []) (k2 : ∀ p g', sgS b e x 59 = .inr p → PST e g0 g' (.inr p) → mm_T (G, l, yX11_county, 4, some .int, d, 0, 0, Po, nx) RX11 cX11_county nx (mos h g' A) 0 0 44 [some (.ref 188), some (.int n), some (.int (nI (c + 1))), none] []) : mm_T (G, l, yX11_county, 4, some .int, d, 0, 0, Po, nx) RX11 cX11_county nx (mos h g A) 0 0 152 [some (.ref 188), some (.int n), some (.int (nI c)), some (.int w)] [] := by
  refine mt_aload_n (pc := 152) dX11_county_152 rfl ?_
  refine mt_bipush (pc := 153) (v := 59) dX11_county_153 (by decide) ?_
  refine mt_aV (pc := 155) (n_sign (d := 1) (by decide) (by decide) (Nat.le_refl 1) hx hT hb he hP) cal_X11_sign vir_X11_sign ml_X11_213 dX11_county_155 (by omega) (mos_o _ _ _) (by first | assumption | (show _ ≤ d; omega)) ⟨(Nat.le_of_ble_eq_true rfl), (Nat.le_of_ble_eq_true rfl)⟩ rfl rfl (Nat.le_of_ble_eq_true rfl) ?_ ?_
  · rintro x9 n9 k9 h9
    simp at h9
  · rintro v9 n9 k9 ⟨⟨⟩, rfl, g1, rfl, hP1⟩
    refine ⟨rfl, ?_⟩
    refine mt_iinc (pc := 158) (c9 := 1) dX11_county_158 rfl (by decide) (Nat.le_of_ble_eq_true rfl) rfl ?_
    refine mt_goto (pc := 161) (tgt := 44) dX11_county_161 (by decide) ?_
    rw [show (nI c + 1 : Int32) = nI (c + 1) from nI_1 c]
    rcases hX : sgS b e x 59 with y | p
    · rw [hX] at hP1
      exact t_cnt44 (A := A) hd hx hP1 (k1 y g1 hX hP1)
    · rw [hX] at hP1
      exact mt_fg (by repeat (first | exact trivial | refine ⟨rfl, ?_⟩ | rfl)) (k2 p g1 hX hP1)
theorem nI_ne {a b : Nat} (h : a < b) (hb : b < 2 ^ 31) : ¬ nI a = nI b := fun z => by
  have := (nI_eq (by omega) hb).mp z
  omega
theorem slabS_r {b : Nat → Int32} {e r : Nat} {k : CS} (he : r ≤ e) : (∀ y, rpN (nmS b e (rpN (nmS b e (.inr r) 0 5)) 0 60) = .inl y → slabS b e r k = .inl y) ∧ ∀ q, rpN (nmS b e (rpN (nmS b e (.inr r) 0 5)) 0 60) = .inr q → ∃ x u, u ≤ 60 ∧ rvN (nmS b e (.inr r) 0 5) = nI x ∧ rvN (nmS b e (rpN (nmS b e (.inr r) 0 5)) 0 60) = nI u ∧ slabS b e r k = .inr (q, k.1 + 1, k.2.1, upd k.2.2.1 k.1 (nI x), upd k.2.2.2.1 k.1 (nI u), upd k.2.2.2.2.1 k.1 0, k.2.2.2.2.2.1, k.2.2.2.2.2.2) := by
  have e1 : nmS b e (.inr r) 0 5 = numS b e r 0 5 := rfl
  simp only [slabS]
  rw [e1]
  rcases hX : numS b e r 0 5 with y | ⟨x, r2⟩
  · exact ⟨fun y' hy => by cases hy; rfl, fun q hq => by cases hq⟩
  · have hr2 := (numS_le he hX).1
    have e2 : nmS b e (rpN (.inr (x, r2))) 0 60 = numS b e r2 0 60 := rfl
    rw [e2]
    simp only [sbind]
    rcases hY : numS b e r2 0 60 with y | ⟨u, r3⟩
    · exact ⟨fun y' hy => by cases hy; rfl, fun q hq => by cases hq⟩
    · have hu := (numS_le hr2 hY).2.2
      rw [show (60 : Int32).toInt = 60 from rfl] at hu
      exact ⟨fun y' hy => (by cases hy), fun q hq => by cases hq; exact ⟨x, u, by omega, rfl, rfl, rfl⟩⟩
theorem soulS_r {b : Nat → Int32} {e r : Nat} {k : CS} (he : r ≤ e) : (∀ y, rpN (nmS b e (rpN (nmS b e (.inr r) 0 9)) 0 99) = .inl y → soulS b e r k = .inl y) ∧ ∀ q, rpN (nmS b e (rpN (nmS b e (.inr r) 0 9)) 0 99) = .inr q → ∃ x u, x ≤ 9 ∧ u ≤ 99 ∧ rvN (nmS b e (.inr r) 0 9) = nI x ∧ rvN (nmS b e (rpN (nmS b e (.inr r) 0 9)) 0 99) = nI u ∧ soulS b e r k = .inr (q, k.1, k.2.1 + 1, k.2.2.1, k.2.2.2.1, k.2.2.2.2.1, upd k.2.2.2.2.2.1 k.2.1 (nI x), upd k.2.2.2.2.2.2 k.2.1 (nI u)) := by
  have e1 : nmS b e (.inr r) 0 9 = numS b e r 0 9 := rfl
  simp only [soulS]
  rw [e1]
  rcases hX : numS b e r 0 9 with y | ⟨x, r2⟩
  · exact ⟨fun y' hy => by cases hy; rfl, fun q hq => by cases hq⟩
  · have hr2 := (numS_le he hX).1
    have hx := (numS_le he hX).2.2
    rw [show (9 : Int32).toInt = 9 from rfl] at hx
    have e2 : nmS b e (rpN (.inr (x, r2))) 0 99 = numS b e r2 0 99 := rfl
    rw [e2]
    simp only [sbind]
    rcases hY : numS b e r2 0 99 with y | ⟨u, r3⟩
    · exact ⟨fun y' hy => by cases hy; rfl, fun q hq => by cases hq⟩
    · have hu := (numS_le hr2 hY).2.2
      rw [show (99 : Int32).toInt = 99 from rfl] at hu
      exact ⟨fun y' hy => (by cases hy), fun q hq => by cases hq; exact ⟨x, u, by omega, by omega, rfl, rfl, rfl⟩⟩
theorem kinS_r {b : Nat → Int32} {e r : Nat} {k : CS} (he : r ≤ e) (h1 : k.1 ≤ 8) (h2 : k.2.1 ≤ 6) : (∀ y, rpN (nmS b e (rpN (nmS b e (.inr r) 0 (nI k.2.1 - 1))) 0 (nI k.1 - 1)) = .inl y → kinS b e r k = .inl y) ∧ ∀ q, rpN (nmS b e (rpN (nmS b e (.inr r) 0 (nI k.2.1 - 1))) 0 (nI k.1 - 1)) = .inr q → ∃ a p r2, a < k.2.1 ∧ p < k.1 ∧ nmS b e (.inr r) 0 (nI k.2.1 - 1) = .inr (a, r2) ∧ nmS b e (rpN (nmS b e (.inr r) 0 (nI k.2.1 - 1))) 0 (nI k.1 - 1) = .inr (p, q) ∧ kinS b e r k = .inr (q, k.1, k.2.1, k.2.2.1, k.2.2.2.1, upd k.2.2.2.2.1 p (k.2.2.2.2.1 p ||| ((1 : Int32) <<< (nI a &&& 31))), k.2.2.2.2.2.1, k.2.2.2.2.2.2) := by
  have u1 := (sub1_hi (n := k.1) (by omega)).2
  have u2 := (sub1_hi (n := k.2.1) (by omega)).2
  have e1 : nmS b e (.inr r) 0 (nI k.2.1 - 1) = numS b e r 0 (nI k.2.1 - 1) := rfl
  simp only [kinS]
  rw [e1]
  rcases hX : numS b e r 0 (nI k.2.1 - 1) with y | ⟨x, r2⟩
  · exact ⟨fun y' hy => by cases hy; rfl, fun q hq => by cases hq⟩
  · have hr2 := (numS_le he hX).1
    have hx := (numS_le he hX).2.2
    have e2 : nmS b e (rpN (.inr (x, r2))) 0 (nI k.1 - 1) = numS b e r2 0 (nI k.1 - 1) := rfl
    rw [e2]
    simp only [sbind]
    rcases hY : numS b e r2 0 (nI k.1 - 1) with y | ⟨u, r3⟩
    · exact ⟨fun y' hy => by cases hy; rfl, fun q hq => by cases hq⟩
    · have hu := (numS_le hr2 hY).2.2
      exact ⟨fun y' hy => (by cases hy), fun q hq => by cases hq; exact ⟨x, u, r2, by omega, by omega, rfl, rfl, rfl⟩⟩
theorem sg_le {b : Nat → Int32} {e p q : Nat} {c : Int32} (hp : p ≤ e) (hc : ¬ c = -1) (h : signS b e p c = .inr q) : q ≤ e := by
  have hq := sk_le (b := b) hp
  unfold signS at h
  split at h
  · next hk =>
    cases h
    rcases Nat.lt_or_ge (sk b e p) e with z | z
    · exact z
    · rw [pk, if_neg (by omega)] at hk
      exact absurd hk.symm hc
  · cases h
/-- a clause that may stand: the reference reads it as the class does -/
theorem t_row {e c p : Nat} {n w : Int32} {g0 g1 : MG} {A1 : MA} {k : CS} {x : (Nat × Nat) ⊕ Nat} (hd : 6 ≤ d) (hx : 215 ≤ nx) (hT : TP (A1 190) b) (hb : BY b) (he : e ≤ 600) (hc60 : c < 60) (hne : ¬ sk b e p = e) (hx1 : ∀ y, x = .inl y → clauseS b e p (if c < 60 then 0 else 1) k = .inl y) (g9 : MG) (hg9 : ∀ j, j ≠ 16 → j ≠ 17 → g9 j = g0 j) (hP : PST e g9 g1 x) (hA : ∀ j, j ≠ 191 → j ≠ 192 → j ≠ 193 → A1 j = A j) (hx2 : ∀ q, x = .inr q → ∃ k', clauseS b e p (if c < 60 then 0 else 1) k = .inr (q, k') ∧ g9 16 = nI k'.1 ∧ g9 17 = nI k'.2.1 ∧ MCN k' (A1 191) (A1 192) (A1 193)) (k1 : ∀ z g' A', itS b e c p k = .inl z → RCN g0 A z g' A' → mm_T (G, l, yX11_county, 4, some .int, d, 0, 0, Po, nx) RX11 cX11_county nx (mos h g' A') 0 0 164 [some (.ref 188), some (.int n), none, none] []) (k2 : ∀ p' k' g' A', itS b e c p k = .inr (p', k') → c < 60 → RCN g0 A (.inr k') g' A' → g' 4 = nI p' → p' ≤ e → mm_T (G, l, yX11_county, 4, some .int, d, 0, 0, Po, nx) RX11 cX11_county nx (mos h g' A') 0 0 44 [some (.ref 188), some (.int n), some (.int (nI (c + 1))), none] []) : mm_T (G, l, yX11_county, 4, some .int, d, 0, 0, Po, nx) RX11 cX11_county nx (mos h g1 A1) 0 0 152 [some (.ref 188), some (.int n), some (.int (nI c)), some (.int w)] [] := by
  have fr : ∀ (y : (Nat × Nat) ⊕ Nat) (g' : MG), PST e g9 g' y → ∀ j, j ≠ 4 → j ≠ 5 → j ≠ 6 → j ≠ 16 → j ≠ 17 → g' j = g0 j := fun y g' hy j a1 a2 a3 a4 a5 => (hy.1 j a1 a2 a3).trans (hg9 j a4 a5)
  refine t_cnt152 (e := e) (c := c) (g0 := g9) (x := x) hd hx hT hb he hP (fun y g' hs hP' => ?_) (fun q g' hs hP' => ?_)
  · refine k1 (.inl y) g' A1 ?_ ⟨fr _ g' hP', hA, hP'.2.2⟩
    rcases x with y0 | r
    · cases hs
      exact itS_bad hne (hx1 _ rfl)
    · obtain ⟨k', h1, -⟩ := hx2 r rfl
      rw [itS_go hne h1, show signS b e r 59 = .inl y from hs]
  · rcases x with y0 | r
    · cases hs
    · obtain ⟨k', h1, h2, h3, h4⟩ := hx2 r rfl
      refine k2 q k' g' A1 ?_ hc60 ⟨fr _ g' hP', hA, hP'.2.2.1, ?_, ?_, h4⟩ hP'.2.2.2.1 hP'.2.2.2.2
      · rw [itS_go hne h1, show signS b e r 59 = .inr q from hs]
      · exact (hP'.1 16 (by decide) (by decide) (by decide)).trans h2
      · exact (hP'.1 17 (by decide) (by decide) (by decide)).trans h3
theorem s_cnt {e c p : Nat} {n : Int32} {g0 : MG} {k : CS} (hd : 6 ≤ d) (hx : 215 ≤ nx) (hT : TP (A 190) b) (hb : BY b) (he : e ≤ 600) (hc : c ≤ 60) (hP : PST e g0 g (.inr p)) (h16 : g0 16 = nI k.1) (h17 : g0 17 = nI k.2.1) (hM : MCN k (A 191) (A 192) (A 193)) (k1 : ∀ z g' A', itS b e c p k = .inl z → RCN g0 A z g' A' → mm_T (G, l, yX11_county, 4, some .int, d, 0, 0, Po, nx) RX11 cX11_county nx (mos h g' A') 0 0 164 [some (.ref 188), some (.int n), none, none] []) (k2 : ∀ p' k' g' A', itS b e c p k = .inr (p', k') → c < 60 → RCN g0 A (.inr k') g' A' → g' 4 = nI p' → p' ≤ e → mm_T (G, l, yX11_county, 4, some .int, d, 0, 0, Po, nx) RX11 cX11_county nx (mos h g' A') 0 0 44 [some (.ref 188), some (.int n), some (.int (nI (c + 1))), none] []) : mm_T (G, l, yX11_county, 4, some .int, d, 0, 0, Po, nx) RX11 cX11_county nx (mos h g A) 0 0 44 [some (.ref 188), some (.int n), some (.int (nI c)), none] [] := by
  obtain ⟨h5, h4, hp⟩ := hP.2.2
  have h3 := hP.e
  have hq := sk_le (b := b) hp
  have hr := lt_le (b := b) hq.2
  have hLL : ∀ i, sk b e p ≤ i → i < lt b e (sk b e p) → isL (b i) := fun i a1 a2 => lt_L (e := e) a1 a2
  have w1 := wv_of (b := b) (q := sk b e p) (r := lt b e (sk b e p)) (j := 1) hr.1 hLL (by decide) (by decide) (by decide) (by decide)
  have w2 := wv_of (b := b) (q := sk b e p) (r := lt b e (sk b e p)) (j := 2) hr.1 hLL (by decide) (by decide) (by decide) (by decide)
  have w3 := wv_of (b := b) (q := sk b e p) (r := lt b e (sk b e p)) (j := 3) hr.1 hLL (by decide) (by decide) (by decide) (by decide)
  have hP0 : PST e g0 (upd g 4 (nI (sk b e p))) (.inr (sk b e p)) := hP.at hq.2
  have i16 : g 16 = nI k.1 := (hP.1 16 (by decide) (by decide) (by decide)).trans h16
  have i17 : g 17 = nI k.2.1 := (hP.1 17 (by decide) (by decide) (by decide)).trans h17
  have hk1 := hM.1
  have hk2 := hM.2.1
  have bad : ∀ (x : Nat × Nat) (w : Int32) (y : Int32), x.2 ≤ 600 → itS b e c p k = .inl (.inl x) → mm_T (G, l, yX11_county, 4, some .int, d, 0, 0, Po, nx) RX11 cX11_county nx (mos h (upd (upd (upd g 4 y) 5 (nI x.2)) 6 (nI x.1)) A) 0 0 133 [some (.ref 188), some (.int n), some (.int (nI c)), some (.int w)] [] := fun x w y h1 h2 => t_cnt133 (z := .inl x) hd hx hP h1 (fun g' A' hR => k1 _ g' A' h2 hR)
  have hPr : PST e g0 (upd g 4 (nI (lt b e (sk b e p)))) (.inr (lt b e (sk b e p))) := hP.at hr.2
  have h5r : (upd g 4 (nI (sk b e p))) 5 = -1 := h5
  have goSlab : ∀ w, w = wvI b (sk b e p) (lt b e (sk b e p)) → w = nI (ofN 1) → c < 60 → ¬ sk b e p = e → k.1 < 8 → mm_T (G, l, yX11_county, 4, some .int, d, 0, 0, Po, nx) RX11 cX11_county nx (mos h (upd g 4 (nI (sk b e p))) A) 0 0 133 [some (.ref 188), some (.int n), some (.int (nI c)), some (.int w)] [] := by
    intro w hw hv hc60 hne hk8
    have hcl : clauseS b e p (if c < 60 then 0 else 1) k = slabS b e (lt b e (sk b e p)) k := by rw [cl_1 hb hp (w1.mp (hw ▸ hv)), if_neg (by rw [if_pos hc60]; intro z; rcases z with z | z; exact z rfl; omega)]
    have hsl := slabS_r (b := b) (e := e) (k := k) hr.2
    refine mt_aload_n (pc := 133) dX11_county_133 rfl ?_
    refine mt_cV (pc := 134) (n_fineY (d := 0) hx h5r) cal_X11_fine vir_X11_fine ml_X11_134 dX11_county_134 (by omega) (mos_o _ _ _) (by first | assumption | (show _ ≤ d; omega)) ⟨(Nat.le_of_ble_eq_true rfl), (Nat.le_of_ble_eq_true rfl)⟩ rfl rfl (Nat.le_of_ble_eq_true rfl) ?_
    refine mt_if_ne (pc := 137) (tgt := 143) dX11_county_137 (by decide) (fun c137 => ?_) (fun c137 => ?_)
    · skip
      refine mt_aload_n (pc := 143) dX11_county_143 rfl ?_
      refine mt_cV (pc := 144) (n_pass (d := 1) (p := sk b e p) (Nat.le_refl 1) hx hT hb h3 he (upd_eq _ _ _) hq.2) cal_X11_pass vir_X11_pass ml_X11_207 dX11_county_144 (by omega) (mos_o _ _ _) (by first | assumption | (show _ ≤ d; omega)) ⟨(Nat.le_of_ble_eq_true rfl), (Nat.le_of_ble_eq_true rfl)⟩ rfl rfl (Nat.le_of_ble_eq_true rfl) ?_
      rw [upd_upd]
      refine mt_aload_n (pc := 147) dX11_county_147 rfl ?_
      refine mt_iload_n (pc := 148) dX11_county_148 rfl ?_
      refine mt_aV (pc := 149) (n_rowSlab (d := 5) (k1 := k.1) hv (Nat.le_refl 5) hx hT hb he hPr hk8 h16) cal_X11_readRow vir_X11_readRow ml_X11_210 dX11_county_149 (by omega) (mos_o _ _ _) (by first | assumption | (show _ ≤ d; omega)) ⟨(Nat.le_of_ble_eq_true rfl), (Nat.le_of_ble_eq_true rfl)⟩ rfl rfl (Nat.le_of_ble_eq_true rfl) ?_ ?_
      · rintro x9 n9 k9 h9
        simp at h9
      · rintro v9 n9 k9 ⟨⟨⟩, rfl, g1, rfl, hP1⟩
        refine ⟨rfl, ?_⟩
        refine t_row (A := A) (g0 := g0) (p := p) (k := k) hd hx hT hb he hc60 hne (fun y hy => by rw [hcl]; exact hsl.1 y hy) (upd g0 16 (nI (k.1 + 1))) (fun j a1 _ => upd_ne a1) (hP1.up _ (by decide)) (fun j a1 _ _ => updR_ne a1) (fun q hy => ?_) k1 k2
        obtain ⟨x, u, z1, z2, z3, z4⟩ := hsl.2 q hy
        refine ⟨_, hcl.trans z4, rfl, h17, ?_⟩
        have := MCN_slab (x := x) (u := u) hM hk8 z1
        rw [z2, z3]
        exact this
    · exact absurd c137 (by decide)
  have goSoul : ∀ w, w = wvI b (sk b e p) (lt b e (sk b e p)) → ¬ w = nI (ofN 1) → w = nI (ofN 2) → c < 60 → ¬ sk b e p = e → k.2.1 < 6 → mm_T (G, l, yX11_county, 4, some .int, d, 0, 0, Po, nx) RX11 cX11_county nx (mos h (upd g 4 (nI (sk b e p))) A) 0 0 133 [some (.ref 188), some (.int n), some (.int (nI c)), some (.int w)] [] := by
    intro w hw hu hv hc60 hne hk8
    have hcl : clauseS b e p (if c < 60 then 0 else 1) k = soulS b e (lt b e (sk b e p)) k := by rw [cl_2 hb hp (fun z => hu (hw.trans (w1.mpr z))) (w2.mp (hw ▸ hv)), if_neg (by rw [if_pos hc60]; intro z; rcases z with z | z; exact z rfl; omega)]
    have hsl := soulS_r (b := b) (e := e) (k := k) hr.2
    refine mt_aload_n (pc := 133) dX11_county_133 rfl ?_
    refine mt_cV (pc := 134) (n_fineY (d := 0) hx h5r) cal_X11_fine vir_X11_fine ml_X11_134 dX11_county_134 (by omega) (mos_o _ _ _) (by first | assumption | (show _ ≤ d; omega)) ⟨(Nat.le_of_ble_eq_true rfl), (Nat.le_of_ble_eq_true rfl)⟩ rfl rfl (Nat.le_of_ble_eq_true rfl) ?_
    refine mt_if_ne (pc := 137) (tgt := 143) dX11_county_137 (by decide) (fun c137 => ?_) (fun c137 => ?_)
    · skip
      refine mt_aload_n (pc := 143) dX11_county_143 rfl ?_
      refine mt_cV (pc := 144) (n_pass (d := 1) (p := sk b e p) (Nat.le_refl 1) hx hT hb h3 he (upd_eq _ _ _) hq.2) cal_X11_pass vir_X11_pass ml_X11_207 dX11_county_144 (by omega) (mos_o _ _ _) (by first | assumption | (show _ ≤ d; omega)) ⟨(Nat.le_of_ble_eq_true rfl), (Nat.le_of_ble_eq_true rfl)⟩ rfl rfl (Nat.le_of_ble_eq_true rfl) ?_
      rw [upd_upd]
      refine mt_aload_n (pc := 147) dX11_county_147 rfl ?_
      refine mt_iload_n (pc := 148) dX11_county_148 rfl ?_
      refine mt_aV (pc := 149) (n_rowSoul (d := 5) (k1 := k.2.1) hu hv (Nat.le_refl 5) hx hT hb he hPr hk8 h17) cal_X11_readRow vir_X11_readRow ml_X11_210 dX11_county_149 (by omega) (mos_o _ _ _) (by first | assumption | (show _ ≤ d; omega)) ⟨(Nat.le_of_ble_eq_true rfl), (Nat.le_of_ble_eq_true rfl)⟩ rfl rfl (Nat.le_of_ble_eq_true rfl) ?_ ?_
      · rintro x9 n9 k9 h9
        simp at h9
      · rintro v9 n9 k9 ⟨⟨⟩, rfl, g1, rfl, hP1⟩
        refine ⟨rfl, ?_⟩
        refine t_row (A := A) (g0 := g0) (p := p) (k := k) hd hx hT hb he hc60 hne (fun y hy => by rw [hcl]; exact hsl.1 y hy) (upd g0 17 (nI (k.2.1 + 1))) (fun j _ a1 => upd_ne a1) (hP1.up _ (by decide)) (fun j _ a1 _ => updR_ne a1) (fun q hy => ?_) k1 k2
        obtain ⟨x, u, z0, z1, z2, z3, z4⟩ := hsl.2 q hy
        refine ⟨_, hcl.trans z4, h16, rfl, ?_⟩
        have := MCN_soul (x := x) (u := u) hM hk8 z0 z1
        rw [z2, z3]
        exact this
    · exact absurd c137 (by decide)
  have goKin : ∀ w, w = wvI b (sk b e p) (lt b e (sk b e p)) → ¬ w = nI (ofN 1) → ¬ w = nI (ofN 2) → w = nI (ofN 3) → c < 60 → ¬ sk b e p = e → mm_T (G, l, yX11_county, 4, some .int, d, 0, 0, Po, nx) RX11 cX11_county nx (mos h (upd g 4 (nI (sk b e p))) A) 0 0 133 [some (.ref 188), some (.int n), some (.int (nI c)), some (.int w)] [] := by
    intro w hw hu hv hv3 hc60 hne
    have hcl : clauseS b e p (if c < 60 then 0 else 1) k = kinS b e (lt b e (sk b e p)) k := by rw [cl_3 hb hp (fun z => hu (hw.trans (w1.mpr z))) (fun z => hv (hw.trans (w2.mpr z))) (w3.mp (hw ▸ hv3)), if_neg (by rw [if_pos hc60]; exact fun z => z rfl)]
    have hsl := kinS_r (b := b) (e := e) (k := k) hr.2 hk1 hk2
    refine mt_aload_n (pc := 133) dX11_county_133 rfl ?_
    refine mt_cV (pc := 134) (n_fineY (d := 0) hx h5r) cal_X11_fine vir_X11_fine ml_X11_134 dX11_county_134 (by omega) (mos_o _ _ _) (by first | assumption | (show _ ≤ d; omega)) ⟨(Nat.le_of_ble_eq_true rfl), (Nat.le_of_ble_eq_true rfl)⟩ rfl rfl (Nat.le_of_ble_eq_true rfl) ?_
    refine mt_if_ne (pc := 137) (tgt := 143) dX11_county_137 (by decide) (fun c137 => ?_) (fun c137 => ?_)
    · skip
      refine mt_aload_n (pc := 143) dX11_county_143 rfl ?_
      refine mt_cV (pc := 144) (n_pass (d := 1) (p := sk b e p) (Nat.le_refl 1) hx hT hb h3 he (upd_eq _ _ _) hq.2) cal_X11_pass vir_X11_pass ml_X11_207 dX11_county_144 (by omega) (mos_o _ _ _) (by first | assumption | (show _ ≤ d; omega)) ⟨(Nat.le_of_ble_eq_true rfl), (Nat.le_of_ble_eq_true rfl)⟩ rfl rfl (Nat.le_of_ble_eq_true rfl) ?_
      rw [upd_upd]
      refine mt_aload_n (pc := 147) dX11_county_147 rfl ?_
      refine mt_iload_n (pc := 148) dX11_county_148 rfl ?_
      refine mt_aV (pc := 149) (n_rowKin (d := 5) (k1 := k.1) (k2 := k.2.1) hu hv (Nat.le_refl 5) hx hT hb he hPr hk1 hk2 h16 h17) cal_X11_readRow vir_X11_readRow ml_X11_210 dX11_county_149 (by omega) (mos_o _ _ _) (by first | assumption | (show _ ≤ d; omega)) ⟨(Nat.le_of_ble_eq_true rfl), (Nat.le_of_ble_eq_true rfl)⟩ rfl rfl (Nat.le_of_ble_eq_true rfl) ?_ ?_
      · rintro x9 n9 k9 h9
        simp at h9
      · rintro v9 n9 k9 ⟨⟨⟩, rfl, g1, K, rfl, hP1, hK⟩
        refine ⟨rfl, ?_⟩
        refine t_row (A := A) (g0 := g0) (p := p) (k := k) hd hx hT hb he hc60 hne (fun y hy => by rw [hcl]; exact hsl.1 y hy) g0 (fun j _ _ => rfl) hP1 (fun j _ _ a1 => updR_ne a1) (fun q hy => ?_) k1 k2
        obtain ⟨a, p', r2, z0, z1, z2, z3, z4⟩ := hsl.2 q hy
        refine ⟨_, hcl.trans z4, h16, h17, ?_⟩
        have := MCN_kin (a := a) (p := p') hM z0 z1
        rw [show updR A 193 K 193 = K from updR_eq, hK a p' r2 q z2 z3]
        exact this
    · exact absurd c137 (by decide)
  refine mt_aload_n (pc := 44) dX11_county_44 rfl ?_
  refine mt_cV (pc := 45) (n_fineY (d := 0) hx h5) cal_X11_fine vir_X11_fine ml_X11_134 dX11_county_45 (by omega) (mos_o _ _ _) (by first | assumption | (show _ ≤ d; omega)) ⟨(Nat.le_of_ble_eq_true rfl), (Nat.le_of_ble_eq_true rfl)⟩ rfl rfl (Nat.le_of_ble_eq_true rfl) ?_
  refine mt_if_eq (pc := 48) (tgt := 164) dX11_county_48 (by decide) (fun c48 => ?_) (fun c48 => ?_)
  · exact absurd c48 (by decide)
  · skip
    refine mt_aload_n (pc := 51) dX11_county_51 rfl ?_
    refine mt_cV (pc := 52) (n_isMore (d := 1) (Nat.le_refl 1) hx hT hb h3 he h4 hp) cal_X11_isMore vir_X11_isMore ml_X11_198 dX11_county_52 (by omega) (mos_o _ _ _) (by first | assumption | (show _ ≤ d; omega)) ⟨(Nat.le_of_ble_eq_true rfl), (Nat.le_of_ble_eq_true rfl)⟩ rfl rfl (Nat.le_of_ble_eq_true rfl) ?_
    refine mt_if_eq (pc := 55) (tgt := 164) dX11_county_55 (by decide) (fun c55 => ?_) (fun c55 => ?_)
    · exact (by
      have hz : ¬ sk b e p < e := fun z => by rw [if_pos z] at c55; exact absurd c55 (by decide)
      have hi : itS b e c p k = .inl (.inr k) := by simp only [itS]; exact if_pos (by omega)
      exact mt_fg (by repeat (first | exact trivial | refine ⟨rfl, ?_⟩ | rfl)) (k1 _ _ A hi ⟨fun j a1 a2 a3 _ _ => hP0.1 j a1 a2 a3, fun _ _ _ _ => rfl, h5, i16, i17, hM⟩))
    · skip
      have hne : ¬ sk b e p = e := fun z => by rw [if_neg (by omega)] at c55; exact c55 rfl
      refine mt_aload_n (pc := 58) dX11_county_58 rfl ?_
      refine mt_cV (pc := 59) (n_word (d := 1) (p := sk b e p) (Nat.le_refl 1) hx hT hb h3 he (upd_eq _ _ _) hq.2) cal_X11_word vir_X11_word ml_X11_201 dX11_county_59 (by omega) (mos_o _ _ _) (by first | assumption | (show _ ≤ d; omega)) ⟨(Nat.le_of_ble_eq_true rfl), (Nat.le_of_ble_eq_true rfl)⟩ rfl rfl (Nat.le_of_ble_eq_true rfl) ?_
      rw [sk_sk hp, upd_upd]
      refine mt_istore_n (pc := 62) dX11_county_62 (Nat.le_of_ble_eq_true rfl) rfl ?_
      refine mt_iload_n (pc := 63) dX11_county_63 rfl ?_
      refine mt_cS (pc := 64) (n_isRow (d := 5) (Nat.le_refl 5)) cal_X11_isRow sta_X11_isRow ml_X11_204 dX11_county_64 (by first | assumption | (show _ ≤ d; omega)) ⟨(Nat.le_of_ble_eq_true rfl), (Nat.le_of_ble_eq_true rfl)⟩ rfl rfl (Nat.le_of_ble_eq_true rfl) ?_
      refine mt_if_ne (pc := 67) (tgt := 82) dX11_county_67 (by decide) (fun c67 => ?_) (fun c67 => ?_)
      · skip
        have hyes : wvI b (sk b e p) (lt b e (sk b e p)) = nI (ofN 1) ∨ wvI b (sk b e p) (lt b e (sk b e p)) = nI (ofN 2) ∨ wvI b (sk b e p) (lt b e (sk b e p)) = nI (ofN 3) := Classical.not_not.mp fun z => c67 (if_neg z)
        refine mt_iload_n (pc := 82) dX11_county_82 rfl ?_
        refine mt_bipush (pc := 83) (v := 60) dX11_county_83 (by decide) ?_
        refine mt_icmp_eq (pc := 85) (tgt := 124) dX11_county_85 (by decide) (fun c85 => ?_) (fun c85 => ?_)
        · skip
          have hc60 : ¬ c < 60 := fun z => nI_ne (b := 60) z (by decide) c85
          have htm : ¬ (if c < 60 then (0 : Int32) else 1) = 0 := by rw [if_neg hc60]; decide
          have hit : itS b e c p k = .inl (.inl (3, sk b e p)) := by
            refine itS_bad hne ?_
            by_cases v1 : WD b (sk b e p) (lt b e (sk b e p)) 1
            · rw [cl_1 hb hp v1, if_pos (Or.inl htm)]
            · by_cases v2 : WD b (sk b e p) (lt b e (sk b e p)) 2
              · rw [cl_2 hb hp v1 v2, if_pos (Or.inl htm)]
              · rw [cl_3 hb hp v1 v2 (by
                rcases hyes with z | z | z
                · exact absurd (w1.mp z) v1
                · exact absurd (w2.mp z) v2
                · exact w3.mp z), if_pos htm]
          refine mt_aload_n (pc := 124) dX11_county_124 rfl ?_
          refine mt_iconst (pc := 125) (v := 3) dX11_county_125 (by decide) ?_
          refine mt_aload_n (pc := 126) dX11_county_126 rfl ?_
          refine mt_mgetI (pc := 127) (x := nI (sk b e p)) gf_X11_111 dX11_county_127 hx rfl rfl ?_
          refine mt_cV (pc := 130) (n_wrong (d := 0) hx h5) cal_X11_wrong vir_X11_wrong ml_X11_141 dX11_county_130 (by omega) (mos_o _ _ _) (by first | assumption | (show _ ≤ d; omega)) ⟨(Nat.le_of_ble_eq_true rfl), (Nat.le_of_ble_eq_true rfl)⟩ rfl rfl (Nat.le_of_ble_eq_true rfl) ?_
          exact bad (3, sk b e p) _ _ (by show sk b e p ≤ 600; omega) hit
        · skip
          have hc60 : c < 60 := by
            rcases Nat.lt_or_ge c 60 with z | z
            · exact z
            · obtain rfl : c = 60 := by omega
              exact absurd rfl c85
          have htm : (if c < 60 then (0 : Int32) else 1) = 0 := if_pos hc60
          refine mt_iload_n (pc := 88) dX11_county_88 rfl ?_
          refine mt_ldcS (pc := 89) (j := 1) (tx := "slab") (by decide +kernel) dX11_county_89 ?_
          refine mt_cS (pc := 91) (n_of (d := 4) (j := 1) (Nat.le_refl 4) (by decide) (by decide) (by decide)) cal_X11_of sta_X11_of ml_X11_180 dX11_county_91 (by first | assumption | (show _ ≤ d; omega)) ⟨(Nat.le_of_ble_eq_true rfl), (Nat.le_of_ble_eq_true rfl)⟩ rfl rfl (Nat.le_of_ble_eq_true rfl) ?_
          refine mt_icmp_ne (pc := 94) (tgt := 106) dX11_county_94 (by decide) (fun c94 => ?_) (fun c94 => ?_)
          · skip
            refine mt_iload_n (pc := 106) dX11_county_106 rfl ?_
            skip
            refine mt_ldcS (pc := 107) (j := 2) (tx := "soul") (by decide +kernel) dX11_county_107 ?_
            refine mt_cS (pc := 109) (n_of (d := 4) (j := 2) (Nat.le_refl 4) (by decide) (by decide) (by decide)) cal_X11_of sta_X11_of ml_X11_180 dX11_county_109 (by first | assumption | (show _ ≤ d; omega)) ⟨(Nat.le_of_ble_eq_true rfl), (Nat.le_of_ble_eq_true rfl)⟩ rfl rfl (Nat.le_of_ble_eq_true rfl) ?_
            refine mt_icmp_ne (pc := 112) (tgt := 133) dX11_county_112 (by decide) (fun c112 => ?_) (fun c112 => ?_)
            · skip
              first
                | exact goSlab _ rfl c94 hc60 hne (by
                    rcases Nat.lt_or_ge k.1 8 with z | z
                    · exact z
                    · exact absurd (show nI k.1 = 8 by rw [show k.1 = 8 by omega]; rfl) c103)
                | exact goKin _ rfl c94 c112 (by
                    rcases hyes with z | z | z
                    · exact absurd z c94
                    · exact absurd z c112
                    · exact z) hc60 hne
            · skip
              refine mt_aload_n (pc := 115) dX11_county_115 rfl ?_
              refine mt_mgetI (pc := 116) (x := nI k.2.1) gf_X11_151 dX11_county_116 hx rfl i17 ?_
              refine mt_bipush (pc := 119) (v := 6) dX11_county_119 (by decide) ?_
              refine mt_icmp_ne (pc := 121) (tgt := 133) dX11_county_121 (by decide) (fun c121 => ?_) (fun c121 => ?_)
              · skip
                first
                  | exact absurd (c94.symm.trans c112) (by decide +kernel)
                  | exact goSoul _ rfl c94 c112 hc60 hne (by
                      rcases Nat.lt_or_ge k.2.1 6 with z | z
                      · exact z
                      · exact absurd (show nI k.2.1 = 6 by rw [show k.2.1 = 6 by omega]; rfl) c121)
              · skip
                have hit : itS b e c p k = .inl (.inl (3, sk b e p)) := itS_bad hne (by rw [cl_2 hb hp (fun z => absurd (w1.mpr z) (by first | exact c94 | exact fun _ => absurd (c94.symm.trans c112) (by decide +kernel))) (w2.mp c112), if_pos (Or.inr (by
                    rcases Nat.lt_or_ge k.2.1 6 with z | z
                    · exact absurd c121 (nI_ne (b := 6) z (by decide))
                    · exact z))])
                refine mt_aload_n (pc := 124) dX11_county_124 rfl ?_
                refine mt_iconst (pc := 125) (v := 3) dX11_county_125 (by decide) ?_
                refine mt_aload_n (pc := 126) dX11_county_126 rfl ?_
                refine mt_mgetI (pc := 127) (x := nI (sk b e p)) gf_X11_111 dX11_county_127 hx rfl rfl ?_
                refine mt_cV (pc := 130) (n_wrong (d := 0) hx h5) cal_X11_wrong vir_X11_wrong ml_X11_141 dX11_county_130 (by omega) (mos_o _ _ _) (by first | assumption | (show _ ≤ d; omega)) ⟨(Nat.le_of_ble_eq_true rfl), (Nat.le_of_ble_eq_true rfl)⟩ rfl rfl (Nat.le_of_ble_eq_true rfl) ?_
                exact bad (3, sk b e p) _ _ (by show sk b e p ≤ 600; omega) hit
          · skip
            refine mt_aload_n (pc := 97) dX11_county_97 rfl ?_
            refine mt_mgetI (pc := 98) (x := nI k.1) gf_X11_148 dX11_county_98 hx rfl i16 ?_
            refine mt_bipush (pc := 101) (v := 8) dX11_county_101 (by decide) ?_
            refine mt_icmp_eq (pc := 103) (tgt := 124) dX11_county_103 (by decide) (fun c103 => ?_) (fun c103 => ?_)
            · skip
              have hit : itS b e c p k = .inl (.inl (3, sk b e p)) := itS_bad hne (by rw [cl_1 hb hp (w1.mp c94), if_pos (Or.inr (by
                  rcases Nat.lt_or_ge k.1 8 with z | z
                  · exact absurd c103 (nI_ne (b := 8) z (by decide))
                  · exact z))])
              refine mt_aload_n (pc := 124) dX11_county_124 rfl ?_
              refine mt_iconst (pc := 125) (v := 3) dX11_county_125 (by decide) ?_
              refine mt_aload_n (pc := 126) dX11_county_126 rfl ?_
              refine mt_mgetI (pc := 127) (x := nI (sk b e p)) gf_X11_111 dX11_county_127 hx rfl rfl ?_
              refine mt_cV (pc := 130) (n_wrong (d := 0) hx h5) cal_X11_wrong vir_X11_wrong ml_X11_141 dX11_county_130 (by omega) (mos_o _ _ _) (by first | assumption | (show _ ≤ d; omega)) ⟨(Nat.le_of_ble_eq_true rfl), (Nat.le_of_ble_eq_true rfl)⟩ rfl rfl (Nat.le_of_ble_eq_true rfl) ?_
              exact bad (3, sk b e p) _ _ (by show sk b e p ≤ 600; omega) hit
            · skip
              refine mt_iload_n (pc := 106) dX11_county_106 rfl ?_
              skip
              refine mt_ldcS (pc := 107) (j := 2) (tx := "soul") (by decide +kernel) dX11_county_107 ?_
              refine mt_cS (pc := 109) (n_of (d := 4) (j := 2) (Nat.le_refl 4) (by decide) (by decide) (by decide)) cal_X11_of sta_X11_of ml_X11_180 dX11_county_109 (by first | assumption | (show _ ≤ d; omega)) ⟨(Nat.le_of_ble_eq_true rfl), (Nat.le_of_ble_eq_true rfl)⟩ rfl rfl (Nat.le_of_ble_eq_true rfl) ?_
              refine mt_icmp_ne (pc := 112) (tgt := 133) dX11_county_112 (by decide) (fun c112 => ?_) (fun c112 => ?_)
              · skip
                first
                  | exact goSlab _ rfl c94 hc60 hne (by
                      rcases Nat.lt_or_ge k.1 8 with z | z
                      · exact z
                      · exact absurd (show nI k.1 = 8 by rw [show k.1 = 8 by omega]; rfl) c103)
                  | exact goKin _ rfl c94 c112 (by
                      rcases hyes with z | z | z
                      · exact absurd z c94
                      · exact absurd z c112
                      · exact z) hc60 hne
              · skip
                refine mt_aload_n (pc := 115) dX11_county_115 rfl ?_
                refine mt_mgetI (pc := 116) (x := nI k.2.1) gf_X11_151 dX11_county_116 hx rfl i17 ?_
                refine mt_bipush (pc := 119) (v := 6) dX11_county_119 (by decide) ?_
                refine mt_icmp_ne (pc := 121) (tgt := 133) dX11_county_121 (by decide) (fun c121 => ?_) (fun c121 => ?_)
                · skip
                  first
                    | exact absurd (c94.symm.trans c112) (by decide +kernel)
                    | exact goSoul _ rfl c94 c112 hc60 hne (by
                        rcases Nat.lt_or_ge k.2.1 6 with z | z
                        · exact z
                        · exact absurd (show nI k.2.1 = 6 by rw [show k.2.1 = 6 by omega]; rfl) c121)
                · skip
                  have hit : itS b e c p k = .inl (.inl (3, sk b e p)) := itS_bad hne (by rw [cl_2 hb hp (fun z => absurd (w1.mpr z) (by first | exact c94 | exact fun _ => absurd (c94.symm.trans c112) (by decide +kernel))) (w2.mp c112), if_pos (Or.inr (by
                      rcases Nat.lt_or_ge k.2.1 6 with z | z
                      · exact absurd c121 (nI_ne (b := 6) z (by decide))
                      · exact z))])
                  refine mt_aload_n (pc := 124) dX11_county_124 rfl ?_
                  refine mt_iconst (pc := 125) (v := 3) dX11_county_125 (by decide) ?_
                  refine mt_aload_n (pc := 126) dX11_county_126 rfl ?_
                  refine mt_mgetI (pc := 127) (x := nI (sk b e p)) gf_X11_111 dX11_county_127 hx rfl rfl ?_
                  refine mt_cV (pc := 130) (n_wrong (d := 0) hx h5) cal_X11_wrong vir_X11_wrong ml_X11_141 dX11_county_130 (by omega) (mos_o _ _ _) (by first | assumption | (show _ ≤ d; omega)) ⟨(Nat.le_of_ble_eq_true rfl), (Nat.le_of_ble_eq_true rfl)⟩ rfl rfl (Nat.le_of_ble_eq_true rfl) ?_
                  exact bad (3, sk b e p) _ _ (by show sk b e p ≤ 600; omega) hit
      · skip
        have hno : ¬ (wvI b (sk b e p) (lt b e (sk b e p)) = nI (ofN 1) ∨ wvI b (sk b e p) (lt b e (sk b e p)) = nI (ofN 2) ∨ wvI b (sk b e p) (lt b e (sk b e p)) = nI (ofN 3)) := fun z => by rw [if_pos z] at c67; exact absurd c67 (by decide)
        refine mt_aload_n (pc := 70) dX11_county_70 rfl ?_
        refine mt_iconst (pc := 71) (v := 1) dX11_county_71 (by decide) ?_
        refine mt_aload_n (pc := 72) dX11_county_72 rfl ?_
        refine mt_mgetI (pc := 73) (x := nI (sk b e p)) gf_X11_111 dX11_county_73 hx rfl rfl ?_
        refine mt_cV (pc := 76) (n_wrong (d := 0) hx h5) cal_X11_wrong vir_X11_wrong ml_X11_141 dX11_county_76 (by omega) (mos_o _ _ _) (by first | assumption | (show _ ≤ d; omega)) ⟨(Nat.le_of_ble_eq_true rfl), (Nat.le_of_ble_eq_true rfl)⟩ rfl rfl (Nat.le_of_ble_eq_true rfl) ?_
        refine mt_goto (pc := 79) (tgt := 133) dX11_county_79 (by decide) ?_
        exact bad (1, sk b e p) _ _ (by show sk b e p ≤ 600; omega) (itS_bad hne (cl_0 (fun z => hno (Or.inl (w1.mpr z))) (fun z => hno (Or.inr (Or.inl (w2.mpr z)))) (fun z => hno (Or.inr (Or.inr (w3.mpr z))))))
end MCN2
