/-! Work: its reader (cells 31, 32). -/
abbrev wkE (n sl so bg dn rf : Int32) : mm_E := .inr (9, [.ref 32, .int n, .int sl, .int so, .int bg, .int dn, .int rf])
/-- a STEP: deed, numbers, where those behind an again begin -/
abbrev ST : Type := Nat × List Nat × Nat
abbrev rsW : Type := (Nat × Nat) ⊕ (Nat × List ST)
def stepS (b : Nat → Int32) (e so sl : Nat) (T : Nat → Nat → rsW) (o n q r : Nat) : rsW :=
  if WD b q r 12 then sbind (numS b e r 0 (nI so - 1)) fun x => sbind (numS b e x.2 0 (nI sl - 1)) fun y => sbind (numS b e y.2 1 60) fun z => sbind (numS b e z.2 1 40) fun w => .inr (w.2, [(0, [x.1, y.1, z.1, w.1], 0)])
  else if WD b q r 13 then sbind (numS b e r 0 9) fun x => .inr (x.2, [(1, [x.1], 0)])
  else if WD b q r 14 then sbind (numS b e r 0 (nI so - 1)) fun x => sbind (numS b e x.2 1 60) fun y => .inr (y.2, [(2, [x.1, y.1], 0)])
  else if WD b q r 15 then sbind (numS b e r 0 (nI sl - 1)) fun x => .inr (x.2, [(3, [x.1], 0)])
  else if WD b q r 16 then sbind (numS b e r 0 (nI sl - 1)) fun x => .inr (x.2, [(4, [x.1], 0)])
  else if WD b q r 11 then .inr (r, [(5, [], 0)])
  else if WD b q r 17 then (if 6 ≤ o then .inl (3, q) else sbind (numS b e r 0 30) fun x => sbind (signS b e x.2 91) fun y => sbind (T (n + 1) y) fun z => sbind (signS b e z.1 93) fun u => .inr (u, (6, [x.1], n + 1 + z.2.length) :: z.2))
  else .inl (1, q)
abbrev atEnd (b : Nat → Int32) (e o p : Nat) : Prop := if o = 0 then pk b e p = -1 else pk b e p = 93
def lopS (b : Nat → Int32) (e so sl : Nat) (T : Nat → Nat → rsW) (o : Nat) : Nat → Nat → Nat → rsW
  | 0, _, p => .inr (p, [])
  | q + 1, n, p => if atEnd b e o p then .inr (sk b e p, []) else if ¬ isL (pk b e p) then .inl (1, sk b e p)
    else sbind (stepS b e so sl T o n (sk b e p) (lt b e (sk b e p))) fun x => sbind (signS b e x.1 59) fun y => sbind (lopS b e so sl T o q (n + x.2.length) y) fun z => .inr (z.1, x.2 ++ z.2)
def wokS (b : Nat → Int32) (e so sl : Nat) : Nat → Nat → Nat → rsW
  | 0 => lopS b e so sl (fun _ _ => .inl (0, 0)) 6 150
  | j + 1 => lopS b e so sl (wokS b e so sl j) (6 - (j + 1)) 150
/-- what a STEP that is read looks like -/
def TW (so sl : Nat) (t : ST) : Prop := (∃ a p x y, t = (0, [a, p, x, y], 0) ∧ a < so ∧ p < sl ∧ 1 ≤ x ∧ x ≤ 60 ∧ 1 ≤ y ∧ y ≤ 40) ∨ (∃ i, t = (1, [i], 0) ∧ i ≤ 9) ∨ (∃ a x, t = (2, [a, x], 0) ∧ a < so ∧ 1 ≤ x ∧ x ≤ 60) ∨ (∃ p, t = (3, [p], 0) ∧ p < sl) ∨ (∃ p, t = (4, [p], 0) ∧ p < sl) ∨ t = (5, [], 0) ∨ ∃ x z, t = (6, [x], z) ∧ x ≤ 30
def GdW (e so sl : Nat) (U : Nat → Nat → rsW) : Prop := ∀ n p, p ≤ e → ∀ r ss, U n p = .inr (r, ss) → p ≤ r ∧ r ≤ e ∧ 5 * ss.length + p ≤ r ∧ ∀ t ∈ ss, TW so sl t
theorem numS_so {b : Nat → Int32} {e p v r so : Nat} (hb : BY b) (hp : p ≤ e) (hso : so ≤ 8) (h : numS b e p 0 (nI so - 1) = .inr (v, r)) : p < r ∧ r ≤ e ∧ v < so := by
  have h1 := num_prog hb hp h
  have h2 := (numS_le hp h).2.2
  rw [sub1_le hso] at h2
  exact ⟨h1.1, h1.2, by omega⟩
theorem numS_k {b : Nat → Int32} {e p v r lo hi : Nat} (hb : BY b) (hp : p ≤ e) (hl : lo < 2 ^ 31) (hh : hi < 2 ^ 31) (h : numS b e p (nI lo) (nI hi) = .inr (v, r)) : p < r ∧ r ≤ e ∧ lo ≤ v ∧ v ≤ hi := by
  have h1 := num_prog hb hp h
  have h2 := (numS_le hp h).2
  rw [nI_toInt hl, nI_toInt hh] at h2
  exact ⟨h1.1, h1.2, by omega, by omega⟩
theorem stepS_le {b : Nat → Int32} {e so sl o n q r r' : Nat} {ss : List ST} {T : Nat → Nat → rsW} (hb : BY b) (hT : GdW e so sl T) (hso : so ≤ 8) (hsl : sl ≤ 8) (hr : r ≤ e) (h : stepS b e so sl T o n q r = .inr (r', ss)) : q < r' ∧ r' ≤ e ∧ 5 * ss.length + q ≤ r' + 1 ∧ (∀ t ∈ ss, TW so sl t) ∧ 0 < ss.length := by
  have wl : ∀ j, WD b q r j → r = q + mm_tl.getD j 0 := fun j z => z.1
  unfold stepS at h
  split at h
  · next hw =>
    have := wl _ hw
    obtain ⟨⟨x, r1⟩, h1, h⟩ := sbind_inr h
    obtain ⟨⟨y, r2⟩, h2, h⟩ := sbind_inr h
    obtain ⟨⟨z, r3⟩, h3, h⟩ := sbind_inr h
    obtain ⟨⟨w, r4⟩, h4, h⟩ := sbind_inr h
    cases h
    have a1 := numS_so hb hr hso h1
    have a2 := numS_so hb a1.2.1 hsl h2
    have a3 := numS_k (lo := 1) (hi := 60) hb a2.2.1 (by decide) (by decide) h3
    have a4 := numS_k (lo := 1) (hi := 40) hb a3.2.1 (by decide) (by decide) h4
    rw [show mm_tl.getD 12 0 = 4 from rfl] at this
    refine ⟨by dsimp only; omega, a4.2.1, by simp only [List.length_singleton]; omega, fun t ht => ?_, by simp⟩
    rw [List.mem_singleton] at ht
    exact Or.inl ⟨x, y, z, w, ht, a1.2.2, a2.2.2, a3.2.2.1, a3.2.2.2, a4.2.2.1, a4.2.2.2⟩
  · split at h
    · next hw =>
      have := wl _ hw
      obtain ⟨⟨x, r1⟩, h1, h⟩ := sbind_inr h
      cases h
      have a1 := numS_k (lo := 0) (hi := 9) hb hr (by decide) (by decide) h1
      rw [show mm_tl.getD 13 0 = 3 from rfl] at this
      refine ⟨by dsimp only; omega, a1.2.1, by simp only [List.length_singleton]; omega, fun t ht => ?_, by simp⟩
      rw [List.mem_singleton] at ht
      exact Or.inr (Or.inl ⟨x, ht, a1.2.2.2⟩)
    · split at h
      · next hw =>
        have := wl _ hw
        obtain ⟨⟨x, r1⟩, h1, h⟩ := sbind_inr h
        obtain ⟨⟨y, r2⟩, h2, h⟩ := sbind_inr h
        cases h
        have a1 := numS_so hb hr hso h1
        have a2 := numS_k (lo := 1) (hi := 60) hb a1.2.1 (by decide) (by decide) h2
        rw [show mm_tl.getD 14 0 = 4 from rfl] at this
        refine ⟨by dsimp only; omega, a2.2.1, by simp only [List.length_singleton]; omega, fun t ht => ?_, by simp⟩
        rw [List.mem_singleton] at ht
        exact Or.inr (Or.inr (Or.inl ⟨x, y, ht, a1.2.2, a2.2.2.1, a2.2.2.2⟩))
      · split at h
        · next hw =>
          have := wl _ hw
          obtain ⟨⟨x, r1⟩, h1, h⟩ := sbind_inr h
          cases h
          have a1 := numS_so hb hr hsl h1
          rw [show mm_tl.getD 15 0 = 4 from rfl] at this
          refine ⟨by dsimp only; omega, a1.2.1, by simp only [List.length_singleton]; omega, fun t ht => ?_, by simp⟩
          rw [List.mem_singleton] at ht
          exact Or.inr (Or.inr (Or.inr (Or.inl ⟨x, ht, a1.2.2⟩)))
        · split at h
          · next hw =>
            have := wl _ hw
            obtain ⟨⟨x, r1⟩, h1, h⟩ := sbind_inr h
            cases h
            have a1 := numS_so hb hr hsl h1
            rw [show mm_tl.getD 16 0 = 4 from rfl] at this
            refine ⟨by dsimp only; omega, a1.2.1, by simp only [List.length_singleton]; omega, fun t ht => ?_, by simp⟩
            rw [List.mem_singleton] at ht
            exact Or.inr (Or.inr (Or.inr (Or.inr (Or.inl ⟨x, ht, a1.2.2⟩))))
          · split at h
            · next hw =>
              have := wl _ hw
              cases h
              rw [show mm_tl.getD 11 0 = 5 from rfl] at this
              refine ⟨by omega, hr, by simp only [List.length_singleton]; omega, fun t ht => ?_, by simp⟩
              rw [List.mem_singleton] at ht
              exact Or.inr (Or.inr (Or.inr (Or.inr (Or.inr (Or.inl ht)))))
            · split at h
              · next hw =>
                have := wl _ hw
                rw [show mm_tl.getD 17 0 = 5 from rfl] at this
                split at h
                · cases h
                · obtain ⟨⟨x, r1⟩, h1, h⟩ := sbind_inr h
                  obtain ⟨y, h2, h⟩ := sbind_inr h
                  obtain ⟨⟨z, zs⟩, h3, h⟩ := sbind_inr h
                  obtain ⟨u, h4, h⟩ := sbind_inr h
                  cases h
                  have a1 := numS_k (lo := 0) (hi := 30) hb hr (by decide) (by decide) h1
                  have a2 := signS_le (by decide) a1.2.1 h2
                  have a3 := hT _ _ a2.2 _ _ h3
                  have a4 := signS_le (by decide) a3.2.1 h4
                  dsimp only at a1 a2 a3 a4 ⊢
                  refine ⟨by omega, a4.2, by simp only [List.length_cons]; omega, fun t ht => ?_, by simp⟩
                  rcases List.mem_cons.mp ht with rfl | ht
                  · exact Or.inr (Or.inr (Or.inr (Or.inr (Or.inr (Or.inr ⟨x, _, rfl, a1.2.2.2⟩)))))
                  · exact a3.2.2.2 t ht
              · cases h
theorem lopS_le {b : Nat → Int32} {e so sl o : Nat} {T : Nat → Nat → rsW} (hb : BY b) (hT : GdW e so sl T) (hso : so ≤ 8) (hsl : sl ≤ 8) : ∀ q, GdW e so sl (lopS b e so sl T o q)
  | 0 => fun n p hp r ss h => by cases h; simp [hp]
  | q + 1 => fun n p hp r ss h => by
    have hs := sk_le (b := b) hp
    simp only [lopS] at h
    split at h
    · cases h; simp; omega
    · split at h
      · cases h
      · next hL =>
        have hl := lt_prog hb (Classical.not_not.mp hL)
        obtain ⟨⟨r1, s1⟩, h1, h⟩ := sbind_inr h
        obtain ⟨y, h2, h⟩ := sbind_inr h
        obtain ⟨⟨r3, s3⟩, h3, h⟩ := sbind_inr h
        cases h
        have a1 := stepS_le hb hT hso hsl hl.2 h1
        have a2 := signS_le (by decide) a1.2.1 h2
        have a3 := lopS_le hb hT hso hsl q _ _ a2.2 _ _ h3
        dsimp only at a1 a2 a3 ⊢
        refine ⟨by omega, a3.2.1, by simp only [List.length_append]; omega, fun t ht => ?_⟩
        rcases List.mem_append.mp ht with ht | ht
        · exact a1.2.2.2.1 t ht
        · exact a3.2.2.2 t ht
theorem wokS_le {b : Nat → Int32} {e so sl : Nat} (hb : BY b) (hso : so ≤ 8) (hsl : sl ≤ 8) : ∀ j, GdW e so sl (wokS b e so sl j)
  | 0 => lopS_le hb (fun n p hp r cs h => by cases h) hso hsl 150
  | j + 1 => lopS_le hb (wokS_le hb hso hsl j) hso hsl 150
/-- the row holds the STEPS -/
def stOK (R : Nat → Int32) (i : Nat) (t : ST) : Prop := R (6 * i) = nI t.1 ∧ (∀ j x, t.2.1[j]? = some x → R (6 * i + 1 + j) = nI x) ∧ (t.2.2 ≠ 0 → R (6 * i + 5) = nI t.2.2)
def SW (R : Nat → Int32) (ss : List ST) : Prop := ∀ i t, ss[i]? = some t → stOK R i t ∧ t.2.1.length ≤ 4
theorem stOK_low {R R' : Nat → Int32} {i : Nat} {t : ST} (h : stOK R i t) (hl : t.2.1.length ≤ 4) (hR : ∀ j, j < 6 * i + 6 → R' j = R j) : stOK R' i t := by
  refine ⟨by rw [hR _ (by omega)]; exact h.1, fun j x hx => ?_, fun z => by rw [hR _ (by omega)]; exact h.2.2 z⟩
  have hj : j < t.2.1.length := (List.getElem?_eq_some_iff.mp hx).1
  rw [hR _ (by omega)]
  exact h.2.1 j x hx
theorem SW_push {R R' : Nat → Int32} {ss : List ST} {t : ST} (h : SW R ss) (hR : ∀ j, j < 6 * ss.length → R' j = R j) (ht : stOK R' ss.length t) (hl : t.2.1.length ≤ 4) : SW R' (ss ++ [t]) := by
  intro i u hu
  rcases Nat.lt_trichotomy i ss.length with hi | hi | hi
  · rw [List.getElem?_append_left hi] at hu
    exact ⟨stOK_low (h i u hu).1 (h i u hu).2 (fun j hj => hR j (by omega)), (h i u hu).2⟩
  · subst hi
    simp at hu
    subst hu
    exact ⟨ht, hl⟩
  · rw [List.getElem?_eq_none (by simp; omega)] at hu
    cases hu
