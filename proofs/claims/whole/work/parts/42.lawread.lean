/-! Law: its reader (cells 19..22), over the tape. -/
abbrev lrE (n : Int32) : mm_E := .inr (2, [.ref 20, .ref 21, .ref 22, .int n])
abbrev rsL : Type := (Nat × Nat) ⊕ (Nat × List Nat)
def signS (b : Nat → Int32) (e p : Nat) (c : Int32) : (Nat × Nat) ⊕ Nat := if pk b e p = c then .inr (sk b e p + 1) else .inl (1, sk b e p)
/-- the operators of a sum (1), of a product (3) -/
def opS (m : Nat) (c : Int32) : Option Nat := if m = 1 then (if c = 43 then some 2000 else if c = 45 then some 2001 else none) else (if c = 42 then some 2002 else if c = 47 then some 2003 else if c = 37 then some 2004 else none)
def rstS (b : Nat → Int32) (e m : Nat) (U : Nat → rsL) : Nat → Nat → rsL
  | 0, p => .inr (p, [])
  | q + 1, p => match opS m (pk b e p) with
    | none => .inr (sk b e p, [])
    | some k => sbind (U (sk b e p + 1)) fun x => sbind (rstS b e m U q x.1) fun y => .inr (y.1, x.2 ++ k :: y.2)
def stS (b : Nat → Int32) (e m : Nat) (U : Nat → rsL) (p : Nat) : rsL := sbind (U p) fun x => sbind (rstS b e m U 150 x.1) fun y => .inr (y.1, x.2 ++ y.2)
def brS (b : Nat → Int32) (e : Nat) (T : Nat → rsL) (o p : Nat) : rsL := if 6 ≤ o then .inl (3, sk b e p) else sbind (signS b e p 40) fun q => sbind (T q) fun x => sbind (signS b e x.1 41) fun r => .inr (r, x.2)
def prS (b : Nat → Int32) (e : Nat) (T : Nat → rsL) (o st p : Nat) : rsL := if 6 ≤ o then .inl (3, st) else sbind (signS b e p 91) fun q => sbind (T q) fun x => sbind (signS b e x.1 44) fun r => sbind (T r) fun y => sbind (signS b e y.1 93) fun z => .inr (z, x.2 ++ y.2)
def namS (b : Nat → Int32) (q r : Nat) : Option Nat := if WD b q r 6 then some 1000 else if WD b q r 7 then some 1001 else if WD b q r 8 then some 1002 else if WD b q r 3 then some 1003 else if WD b q r 9 then some 1004 else if WD b q r 10 then some 1005 else if WD b q r 11 then some 1006 else if WD b q r 2 then some 1007 else none
def unS (b : Nat → Int32) (e : Nat) (T : Nat → rsL) (o p : Nat) : rsL :=
  if isD (pk b e p) then sbind (numS b e p 0 999) fun x => .inr (x.2, [x.1])
  else if pk b e p = 40 then brS b e T o p
  else if ¬ isL (pk b e p) then .inl (1, sk b e p)
  else if WD b (sk b e p) (lt b e (sk b e p)) 4 then sbind (prS b e T o (sk b e p) (lt b e (sk b e p))) fun x => .inr (x.1, x.2 ++ [2005])
  else if WD b (sk b e p) (lt b e (sk b e p)) 5 then sbind (prS b e T o (sk b e p) (lt b e (sk b e p))) fun x => .inr (x.1, x.2 ++ [2006])
  else match namS b (sk b e p) (lt b e (sk b e p)) with
    | none => .inl (1, sk b e p)
    | some k => .inr (lt b e (sk b e p), [k])
/-- a sum with so many levels left to open -/
def sumS (b : Nat → Int32) (e : Nat) : Nat → Nat → rsL
  | 0 => stS b e 1 (stS b e 3 (unS b e (fun _ => .inl (0, 0)) 6))
  | j + 1 => stS b e 1 (stS b e 3 (unS b e (sumS b e j) (6 - (j + 1))))
def lawS (b : Nat → Int32) (e : Nat) : (Nat × Nat) ⊕ List Nat := sbind (sumS b e 6 0) fun x => if sk b e x.1 < e then .inl (1, sk b e x.1) else .inr x.2
/-- what a reader uses up -/
def GdU (e : Nat) (U : Nat → rsL) : Prop := ∀ p, p ≤ e → ∀ r cs, U p = .inr (r, cs) → p < r ∧ r ≤ e ∧ cs.length + p ≤ r ∧ ∀ k ∈ cs, k ≤ 2006
theorem sbind_inr {α β : Type} {x : (Nat × Nat) ⊕ α} {f : α → (Nat × Nat) ⊕ β} {y : β} (h : sbind x f = .inr y) : ∃ a, x = .inr a ∧ f a = .inr y := by
  cases x with
  | inl z => cases h
  | inr a => exact ⟨a, rfl, h⟩
theorem pkv_lt {b : Nat → Int32} {e p : Nat} {c : Int32} (h : pk b e p = c) (hc : c ≠ -1) : sk b e p < e := by
  by_cases hq : sk b e p < e
  · exact hq
  · exact absurd (h.symm.trans (if_neg hq)) hc
theorem signS_le {b : Nat → Int32} {e p r : Nat} {c : Int32} (hc : c ≠ -1) (hp : p ≤ e) (h : signS b e p c = .inr r) : p < r ∧ r ≤ e := by
  simp only [signS] at h
  split at h
  · next h1 => have := pkv_lt h1 hc
               have := sk_le (b := b) hp
               cases h; omega
  · cases h
theorem opS_le {m : Nat} {c : Int32} {k : Nat} (h : opS m c = some k) : k ≤ 2006 ∧ c ≠ -1 := by
  simp only [opS] at h
  split at h
  · split at h
    · next hc => cases h; exact ⟨by omega, by rw [hc]; decide⟩
    · split at h
      · next hc => cases h; exact ⟨by omega, by rw [hc]; decide⟩
      · cases h
  · split at h
    · next hc => cases h; exact ⟨by omega, by rw [hc]; decide⟩
    · split at h
      · next hc => cases h; exact ⟨by omega, by rw [hc]; decide⟩
      · split at h
        · next hc => cases h; exact ⟨by omega, by rw [hc]; decide⟩
        · cases h
theorem rstS_le {b : Nat → Int32} {e m : Nat} {U : Nat → rsL} (hU : GdU e U) : ∀ (q p : Nat), p ≤ e → ∀ r cs, rstS b e m U q p = .inr (r, cs) → p ≤ r ∧ r ≤ e ∧ cs.length + p ≤ r ∧ ∀ k ∈ cs, k ≤ 2006
  | 0, p, hp, r, cs, h => by cases h; simp [hp]
  | q + 1, p, hp, r, cs, h => by
    simp only [rstS] at h
    have hs := sk_le (b := b) hp
    split at h
    · cases h; simp; omega
    · next k hk =>
      have ho := opS_le hk
      have hl := pkv_lt rfl ho.2
      obtain ⟨⟨r1, c1⟩, h1, h⟩ := sbind_inr h
      obtain ⟨⟨r2, c2⟩, h2, h⟩ := sbind_inr h
      cases h
      obtain ⟨a1, a2, a3, a4⟩ := hU _ (by omega) _ _ h1
      obtain ⟨b1, b2, b3, b4⟩ := rstS_le hU q _ a2 _ _ h2
      dsimp only at b1 b2 b3 ⊢
      refine ⟨by omega, b2, by simp only [List.length_append, List.length_cons]; omega, fun z hz => ?_⟩
      rcases List.mem_append.mp hz with hz | hz
      · exact a4 z hz
      · rcases List.mem_cons.mp hz with rfl | hz
        · exact ho.1
        · exact b4 z hz
theorem stS_le {b : Nat → Int32} {e m : Nat} {U : Nat → rsL} (hU : GdU e U) : GdU e (stS b e m U) := by
  intro p hp r cs h
  obtain ⟨⟨r1, c1⟩, h1, h⟩ := sbind_inr h
  obtain ⟨⟨r2, c2⟩, h2, h⟩ := sbind_inr h
  cases h
  obtain ⟨a1, a2, a3, a4⟩ := hU _ hp _ _ h1
  obtain ⟨b1, b2, b3, b4⟩ := rstS_le hU 150 _ a2 _ _ h2
  dsimp only at b1 b2 b3 ⊢
  refine ⟨by omega, b2, by simp only [List.length_append]; omega, fun z hz => ?_⟩
  rcases List.mem_append.mp hz with hz | hz
  · exact a4 z hz
  · exact b4 z hz
theorem brS_le {b : Nat → Int32} {e o : Nat} {T : Nat → rsL} (hT : GdU e T) : GdU e (brS b e T o) := by
  intro p hp r cs h
  simp only [brS] at h
  split at h
  · cases h
  · obtain ⟨q, h0, h⟩ := sbind_inr h
    obtain ⟨⟨r1, c1⟩, h1, h⟩ := sbind_inr h
    obtain ⟨z, h2, h⟩ := sbind_inr h
    cases h
    have := signS_le (by decide) hp h0
    obtain ⟨a1, a2, a3, a4⟩ := hT _ this.2 _ _ h1
    have := signS_le (by decide) a2 h2
    exact ⟨by omega, by omega, by dsimp only; omega, a4⟩
theorem prS_le {b : Nat → Int32} {e o st : Nat} {T : Nat → rsL} (hT : GdU e T) : ∀ p, p ≤ e → ∀ r cs, prS b e T o st p = .inr (r, cs) → p < r ∧ r ≤ e ∧ cs.length + p < r ∧ ∀ k ∈ cs, k ≤ 2006 := by
  intro p hp r cs h
  simp only [prS] at h
  split at h
  · cases h
  · obtain ⟨q, h0, h⟩ := sbind_inr h
    obtain ⟨⟨r1, c1⟩, h1, h⟩ := sbind_inr h
    obtain ⟨z, h2, h⟩ := sbind_inr h
    obtain ⟨⟨r3, c3⟩, h3, h⟩ := sbind_inr h
    obtain ⟨z4, h4, h⟩ := sbind_inr h
    cases h
    have := signS_le (by decide) hp h0
    obtain ⟨a1, a2, a3, a4⟩ := hT _ this.2 _ _ h1
    have := signS_le (by decide) a2 h2
    obtain ⟨b1, b2, b3, b4⟩ := hT _ this.2 _ _ h3
    have := signS_le (by decide) b2 h4
    refine ⟨by omega, by omega, by simp only [List.length_append]; omega, fun z hz => ?_⟩
    rcases List.mem_append.mp hz with hz | hz
    · exact a4 z hz
    · exact b4 z hz
theorem namS_le {b : Nat → Int32} {q r k : Nat} (h : namS b q r = some k) : k ≤ 2006 := by
  unfold namS at h
  repeat' split at h
  all_goals cases h
  all_goals omega
theorem pk_L {b : Nat → Int32} {e p : Nat} (h : isL (pk b e p)) : sk b e p < e := by
  by_cases hq : sk b e p < e
  · exact hq
  · exact absurd (by rw [pk, if_neg hq]; decide) h.1
/-- bytes -/
def BY (b : Nat → Int32) : Prop := ∀ i, -128 ≤ (b i).toInt ∧ (b i).toInt < 128
theorem by_and {x : Int32} (h1 : -128 ≤ x.toInt) (h2 : x.toInt < 128) : (0 ≤ x.toInt → x &&& 255 = x) ∧ (x.toInt < 0 → ∃ j, 128 ≤ j ∧ j < 256 ∧ x &&& 255 = nI j) := by
  have e1 := pk_and x (m := 255) 8 (by decide)
  have e2 : x.toInt = if 2 * x.toBitVec.toNat < 2 ^ 32 then (x.toBitVec.toNat : Int) else (x.toBitVec.toNat : Int) - (2 ^ 32 : Nat) := BitVec.toInt_eq_toNat_cond _
  generalize hn : x.toBitVec.toNat = n at e1 e2
  have hlt : n < 2 ^ 32 := hn ▸ x.toBitVec.isLt
  refine ⟨fun h0 => ?_, fun h0 => ?_⟩
  · have : n < 128 := by split at e2 <;> omega
    rw [e1, Nat.mod_eq_of_lt (by omega)]
    obtain ⟨j, hj, hx⟩ := nI_of (x := x) (fun z => by have := Int32.lt_iff_toInt_lt.mp z; rw [show (0 : Int32).toInt = 0 from rfl] at this; omega)
    rw [hx] at e2 ⊢
    rw [nI_toInt hj] at e2
    split at e2
    · congr 1; omega
    · omega
  · exact ⟨n % 2 ^ 8, by split at e2 <;> omega, by omega, e1⟩
theorem isL_by {x : Int32} (hb : -128 ≤ x.toInt ∧ x.toInt < 128) : isL (x &&& 255) ↔ isL x := by
  rcases Int.lt_or_le x.toInt 0 with h | h
  · obtain ⟨j, h1, h2, h3⟩ := (by_and hb.1 hb.2).2 h
    rw [h3]
    refine ⟨fun z => absurd (nI_lt (a := 122) (b := j) (by omega) (by omega)) z.2, fun z => absurd (Int32.lt_iff_toInt_lt.mpr (by rw [show (97 : Int32).toInt = 97 from rfl]; omega)) z.1⟩
  · rw [(by_and hb.1 hb.2).1 h]
theorem isD_by {x : Int32} (hb : -128 ≤ x.toInt ∧ x.toInt < 128) : isD (x &&& 255) ↔ isD x := by
  rcases Int.lt_or_le x.toInt 0 with h | h
  · obtain ⟨j, h1, h2, h3⟩ := (by_and hb.1 hb.2).2 h
    rw [h3]
    refine ⟨fun z => absurd (nI_lt (a := 57) (b := j) (by omega) (by omega)) z.2, fun z => absurd (Int32.lt_iff_toInt_lt.mpr (by rw [show (48 : Int32).toInt = 48 from rfl]; omega)) z.1⟩
  · rw [(by_and hb.1 hb.2).1 h]
theorem lt_prog {b : Nat → Int32} {e p : Nat} (hb : BY b) (h : isL (pk b e p)) : sk b e p < lt b e (sk b e p) ∧ lt b e (sk b e p) ≤ e := by
  have hl := pk_L h
  simp only [pk, if_pos hl] at h
  have h2 := (isL_by (hb _)).mp h
  refine ⟨?_, (ltf_le _ _ (by omega)).2⟩
  have e1 : lt b e (sk b e p) = ltf b e (e - sk b e p - 1 + 1) (sk b e p) := by rw [lt]; congr 1; omega
  rw [e1, ltf, if_pos ⟨hl, h2.1, h2.2⟩]
  exact (ltf_le _ _ (by omega)).1
theorem num_prog {b : Nat → Int32} {e p v r : Nat} {lo hi : Int32} (hb : BY b) (hp : p ≤ e) (h : numS b e p lo hi = .inr (v, r)) : p < r ∧ r ≤ e := by
  have hs := sk_le (b := b) hp
  simp only [numS] at h
  split at h
  · cases h
  · next hc =>
    have hd : isD (pk b e p) := ⟨fun z => hc (Or.inl z), fun z => hc (Or.inr z)⟩
    have hl : sk b e p < e := by
      by_cases hq : sk b e p < e
      · exact hq
      · exact absurd (by rw [pk, if_neg hq]; decide) hd.1
    simp only [pk, if_pos hl] at hd
    have h2 := (isD_by (hb _)).mp hd
    split at h
    · cases h
    · cases h
      have e1 : dgf b e (e - sk b e p) (sk b e p) 0 = dgf b e (e - sk b e p - 1 + 1) (sk b e p) 0 := by congr 1; omega
      rw [e1, dgf, if_pos ⟨hl, h2.1, h2.2⟩]
      have := dgf_le (b := b) (e := e) (e - sk b e p - 1) (sk b e p + 1) (0 * 10 + dig (b (sk b e p))) (by omega)
      omega
theorem unS_le {b : Nat → Int32} {e o : Nat} {T : Nat → rsL} (hb : BY b) (hT : GdU e T) : GdU e (unS b e T o) := by
  intro p hp r cs h
  have hs := sk_le (b := b) hp
  simp only [unS] at h
  split at h
  · obtain ⟨⟨v, r1⟩, h1, h⟩ := sbind_inr h
    cases h
    have h2 := num_prog hb hp h1
    have h3 := (numS_le hp h1).2.2
    rw [show (999 : Int32).toInt = 999 from rfl] at h3
    exact ⟨h2.1, h2.2, by simp only [List.length_singleton]; omega, fun k hk => by simp at hk; omega⟩
  · split at h
    · exact brS_le hT p hp r cs h
    · split at h
      · cases h
      · next hL =>
        have hl := lt_prog hb (Classical.not_not.mp hL)
        split at h
        · obtain ⟨⟨r1, c1⟩, h1, h⟩ := sbind_inr h
          cases h
          obtain ⟨a1, a2, a3, a4⟩ := prS_le hT _ hl.2 _ _ h1
          refine ⟨by omega, a2, by simp only [List.length_append, List.length_singleton]; omega, fun z hz => ?_⟩
          rcases List.mem_append.mp hz with hz | hz
          · exact a4 z hz
          · simp at hz; omega
        · split at h
          · obtain ⟨⟨r1, c1⟩, h1, h⟩ := sbind_inr h
            cases h
            obtain ⟨a1, a2, a3, a4⟩ := prS_le hT _ hl.2 _ _ h1
            refine ⟨by omega, a2, by simp only [List.length_append, List.length_singleton]; omega, fun z hz => ?_⟩
            rcases List.mem_append.mp hz with hz | hz
            · exact a4 z hz
            · simp at hz; omega
          · split at h
            · cases h
            · next k hk =>
              cases h
              have := namS_le hk
              exact ⟨by omega, hl.2, by simp only [List.length_singleton]; omega, fun z hz => by simp at hz; omega⟩
theorem sumS_le {b : Nat → Int32} {e : Nat} (hb : BY b) : ∀ j, GdU e (sumS b e j)
  | 0 => stS_le (stS_le (unS_le hb (fun p hp r cs h => by cases h)))
  | j + 1 => stS_le (stS_le (unS_le hb (sumS_le hb j)))
/-- the codes of the law that is read -/
def LR (m : Nat → mm_E) (cs : List Nat) : Prop := m 19 = lrE (nI cs.length) ∧ ∃ R, m 20 = iaE 150 R ∧ LW R cs
def LX (m : Nat → mm_E) : Prop := ∃ n R, m 19 = lrE n ∧ m 20 = iaE 150 R
def FRw (h m : Nat → mm_E) : Prop := ∀ j, j ≠ 1 → j ≠ 19 → j ≠ 20 → m j = h j
def P_lw (S : rsL) (cs0 : List Nat) (e : Nat) (sz fk fp : Int32) (nx : Nat) (h : Nat → mm_E) : mm_P := fun o n m => n = nx ∧ FRw h m ∧
  ((∃ kd pl, S = .inl (kd, pl) ∧ o = .inl (some (.int 0)) ∧ (∃ p' s', m 1 = tpE sz (nI e) p' s' (nI kd) (nI pl)) ∧ LX m) ∨
  (∃ r cs, S = .inr (r, cs) ∧ o = .inl (some (.int 1)) ∧ (∃ s', m 1 = tpE sz (nI e) (nI r) s' fk fp) ∧ LR m (cs0 ++ cs)))
theorem LR.x {m : Nat → mm_E} {cs : List Nat} (h : LR m cs) : LX m := by
  obtain ⟨h1, R, h2, -⟩ := h
  exact ⟨_, R, h1, h2⟩
theorem FRw_rf {h : Nat → mm_E} : FRw h h := fun _ _ _ _ => rfl
theorem FRw_trans {h m q : Nat → mm_E} (h1 : FRw h m) (h2 : FRw m q) : FRw h q := fun j a b c => (h2 j a b c).trans (h1 j a b c)
theorem FRw_1 {h : Nat → mm_E} {x : mm_E} : FRw h (hset h 1 x) := fun j a _ _ => hset_ne a
theorem FRw_s1 {h m : Nat → mm_E} {x : mm_E} (h1 : FRw h m) : FRw h (hset m 1 x) := fun j a b c => (hset_ne a).trans (h1 j a b c)
theorem FRw_of1 {h m : Nat → mm_E} {x : mm_E} (h1 : FRw (hset h 1 x) m) : FRw h m := fun j a b c => (h1 j a b c).trans (hset_ne a)
theorem LR_s1 {m : Nat → mm_E} {cs : List Nat} {x : mm_E} (h : LR m cs) : LR (hset m 1 x) cs := by
  obtain ⟨h1, R, h2, h3⟩ := h
  exact ⟨by rw [hset_ne (by decide)]; exact h1, R, by rw [hset_ne (by decide)]; exact h2, h3⟩
theorem LX_s1 {m : Nat → mm_E} {x : mm_E} (h : LX m) : LX (hset m 1 x) := by
  obtain ⟨n, R, h1, h2⟩ := h
  exact ⟨n, R, by rw [hset_ne (by decide)]; exact h1, by rw [hset_ne (by decide)]; exact h2⟩
theorem LW_push {R : Nat → Int32} {cs : List Nat} {k : Nat} (h : LW R cs) (hl : cs.length < 150) (hk : k ≤ 2006) : LW (upd R cs.length (nI k)) (cs ++ [k]) := by
  refine ⟨by simp; omega, fun i q hq => ?_⟩
  rcases Nat.lt_trichotomy i cs.length with hi | hi | hi
  · rw [List.getElem?_append_left hi] at hq
    rw [upd_ne (by omega)]
    exact h.2 i q hq
  · subst hi
    simp at hq
    subst hq
    exact ⟨upd_eq _ _ _, hk⟩
  · rw [List.getElem?_eq_none (by simp; omega)] at hq
    cases hq
def namI : Option Nat → Int32
  | none => -1
  | some k => nI k
section LAWREAD
variable {G : mm_G} {l : Launch} {d nx : Nat} {h : Nat → mm_E} {b : Nat → Int32} {sz st fk fp : Int32} {e : Nat}
theorem c_put {cs : List Nat} {k : Nat} (hd : 1 ≤ d) (hx : 34 ≤ nx) (hL : LR h cs) (hl : cs.length < 150) (hk : k ≤ 2006) : mm_Con G l yX2_put cX2_put 2 (some .boolean) d 0 0 [.ref 19, .int (nI k)] nx h (fun o n m => o = .inl (some (.int 1)) ∧ n = nx ∧ (∀ j, j ≠ 19 → j ≠ 20 → m j = h j) ∧ LR m (cs ++ [k])) := by
  obtain ⟨h1, R, h2, h3⟩ := hL
  refine mm_start (lo := [some (.ref 19), some (.int (nI k))]) pn_X2 rfl rfl (Nat.le_of_ble_eq_true rfl) ?_
  refine mt_aload_n (pc := 0) dX2_put_0 rfl ?_
  refine mt_get (pc := 1) gf_X2_9 dX2_put_1 (by first | assumption | omega) (by repeat (first | exact hset_eq _ _ _ | assumption | rw [hset_ne (by first | assumption | decide | omega)])) rfl ?_
  refine mt_aload_n (pc := 4) dX2_put_4 rfl ?_
  refine mt_get (pc := 5) gf_X2_31 dX2_put_5 (by first | assumption | omega) (by repeat (first | exact hset_eq _ _ _ | assumption | rw [hset_ne (by first | assumption | decide | omega)])) rfl ?_
  refine mt_iload_n (pc := 8) dX2_put_8 rfl ?_
  refine mt_cN (pc := 9) (c_setEntry (d := 0) (by omega) h2 (by decide)) cal_X10_setEntry sta_X10_setEntry mn_X2_62 dX2_put_9 (by first | assumption | (show _ ≤ d; omega)) ⟨(Nat.le_of_ble_eq_true rfl), (Nat.le_of_ble_eq_true rfl)⟩ rfl rfl (Nat.le_of_ble_eq_true rfl) ?_
  rw [mm_wr_nI hl (by decide)]
  refine mt_aload_n (pc := 12) dX2_put_12 rfl ?_
  refine mt_dup (pc := 13) dX2_put_13 rfl ?_
  refine mt_get (pc := 14) gf_X2_31 dX2_put_14 (by first | assumption | omega) (by repeat (first | exact hset_eq _ _ _ | assumption | rw [hset_ne (by first | assumption | decide | omega)])) rfl ?_
  refine mt_iconst (pc := 17) (v := 1) dX2_put_17 (by decide) ?_
  refine mt_iadd (pc := 18) dX2_put_18 ?_
  first
    | refine mt_puti2 (pc := 19) pf_X2_31 dX2_put_19 (by first | assumption | omega) (Nat.le_of_ble_eq_true rfl) ?_
    | refine mt_puti (pc := 19) pf_X2_31 dX2_put_19 (by first | assumption | omega) (by repeat (first | exact hset_eq _ _ _ | assumption | rw [hset_ne (by first | assumption | decide | omega)])) (Nat.le_of_ble_eq_true rfl) ?_
  rw [show (nI cs.length + 1 : Int32) = nI (cs.length + 1) from nI_1 _]
  refine mt_iconst (pc := 22) (v := 1) dX2_put_22 (by decide) ?_
  exact mt_zret rfl (by first | exact Or.inl rfl | exact Or.inr rfl) dX2_put_23 (Nat.le_of_ble_eq_true rfl) (Nat.le_of_ble_eq_true rfl) ⟨rfl, rfl, fun j a c => by rw [hset_ne a, hset_ne c], by rw [hset_eq, List.length_append]; rfl, _, by rw [hset_ne (by decide), hset_eq], LW_push h3 hl hk⟩
theorem c_nameOf {q r : Nat} (hd : 5 ≤ d) (hx : 34 ≤ nx) (hB : h 2 = byE b) (hT : h 1 = tpE sz (nI e) (nI r) (nI q) fk fp) (hq : q ≤ r) (hr : r ≤ 600) : mm_Con G l yX2_nameOf cX2_nameOf 1 (some .int) d 0 0 [.ref 1] nx h (mm_ret (some (.int (namI (namS b q r)))) nx h) := by
  have wdi0 : ∀ j, wdi b q r j = 0 ↔ ¬ WD b q r j := fun j => by
    unfold wdi
    split
    · next z => exact ⟨fun y => absurd y (by decide), fun y => absurd z y⟩
    · next z => exact ⟨fun _ => z, fun _ => rfl⟩
  have hS : namS b q r = namS b q r := rfl
  conv at hS => rhs; unfold namS
  refine mm_start (lo := [some (.ref 1)]) pn_X2 rfl rfl (Nat.le_of_ble_eq_true rfl) ?_
  refine mt_aload_n (pc := 0) dX2_nameOf_0 rfl ?_
  refine mt_ldcS (pc := 1) (tx := "amount") (j := 6) (by decide +kernel) dX2_nameOf_1 ?_
  refine mt_cV (pc := 3) (c_wordIs (d := 4) (Nat.le_refl 4) (by omega) (by decide) hB hT hq hr) cal_X7_wordIs vir_X7_wordIs ml_X2_97 dX2_nameOf_3 (by first | assumption | omega) (by repeat (first | exact hset_eq _ _ _ | assumption | rw [hset_ne (by first | assumption | decide | omega)])) (by first | assumption | (show _ ≤ d; omega)) ⟨(Nat.le_of_ble_eq_true rfl), (Nat.le_of_ble_eq_true rfl)⟩ rfl rfl (Nat.le_of_ble_eq_true rfl) ?_
  refine mt_if_eq (pc := 6) (tgt := 13) dX2_nameOf_6 (by decide) (fun c6 => ?_) (fun c6 => ?_)
  · skip
    rw [if_neg ((wdi0 _).mp c6)] at hS
    refine mt_aload_n (pc := 13) dX2_nameOf_13 rfl ?_
    refine mt_ldcS (pc := 14) (tx := "nights") (j := 7) (by decide +kernel) dX2_nameOf_14 ?_
    refine mt_cV (pc := 16) (c_wordIs (d := 4) (Nat.le_refl 4) (by omega) (by decide) hB hT hq hr) cal_X7_wordIs vir_X7_wordIs ml_X2_97 dX2_nameOf_16 (by first | assumption | omega) (by repeat (first | exact hset_eq _ _ _ | assumption | rw [hset_ne (by first | assumption | decide | omega)])) (by first | assumption | (show _ ≤ d; omega)) ⟨(Nat.le_of_ble_eq_true rfl), (Nat.le_of_ble_eq_true rfl)⟩ rfl rfl (Nat.le_of_ble_eq_true rfl) ?_
    refine mt_if_eq (pc := 19) (tgt := 26) dX2_nameOf_19 (by decide) (fun c19 => ?_) (fun c19 => ?_)
    · skip
      rw [if_neg ((wdi0 _).mp c19)] at hS
      refine mt_aload_n (pc := 26) dX2_nameOf_26 rfl ?_
      refine mt_ldcS (pc := 27) (tx := "kind") (j := 8) (by decide +kernel) dX2_nameOf_27 ?_
      refine mt_cV (pc := 29) (c_wordIs (d := 4) (Nat.le_refl 4) (by omega) (by decide) hB hT hq hr) cal_X7_wordIs vir_X7_wordIs ml_X2_97 dX2_nameOf_29 (by first | assumption | omega) (by repeat (first | exact hset_eq _ _ _ | assumption | rw [hset_ne (by first | assumption | decide | omega)])) (by first | assumption | (show _ ≤ d; omega)) ⟨(Nat.le_of_ble_eq_true rfl), (Nat.le_of_ble_eq_true rfl)⟩ rfl rfl (Nat.le_of_ble_eq_true rfl) ?_
      refine mt_if_eq (pc := 32) (tgt := 39) dX2_nameOf_32 (by decide) (fun c32 => ?_) (fun c32 => ?_)
      · skip
        rw [if_neg ((wdi0 _).mp c32)] at hS
        refine mt_aload_n (pc := 39) dX2_nameOf_39 rfl ?_
        refine mt_ldcS (pc := 40) (tx := "kin") (j := 3) (by decide +kernel) dX2_nameOf_40 ?_
        refine mt_cV (pc := 42) (c_wordIs (d := 4) (Nat.le_refl 4) (by omega) (by decide) hB hT hq hr) cal_X7_wordIs vir_X7_wordIs ml_X2_97 dX2_nameOf_42 (by first | assumption | omega) (by repeat (first | exact hset_eq _ _ _ | assumption | rw [hset_ne (by first | assumption | decide | omega)])) (by first | assumption | (show _ ≤ d; omega)) ⟨(Nat.le_of_ble_eq_true rfl), (Nat.le_of_ble_eq_true rfl)⟩ rfl rfl (Nat.le_of_ble_eq_true rfl) ?_
        refine mt_if_eq (pc := 45) (tgt := 52) dX2_nameOf_45 (by decide) (fun c45 => ?_) (fun c45 => ?_)
        · skip
          rw [if_neg ((wdi0 _).mp c45)] at hS
          refine mt_aload_n (pc := 52) dX2_nameOf_52 rfl ?_
          refine mt_ldcS (pc := 53) (tx := "standing") (j := 9) (by decide +kernel) dX2_nameOf_53 ?_
          refine mt_cV (pc := 55) (c_wordIs (d := 4) (Nat.le_refl 4) (by omega) (by decide) hB hT hq hr) cal_X7_wordIs vir_X7_wordIs ml_X2_97 dX2_nameOf_55 (by first | assumption | omega) (by repeat (first | exact hset_eq _ _ _ | assumption | rw [hset_ne (by first | assumption | decide | omega)])) (by first | assumption | (show _ ≤ d; omega)) ⟨(Nat.le_of_ble_eq_true rfl), (Nat.le_of_ble_eq_true rfl)⟩ rfl rfl (Nat.le_of_ble_eq_true rfl) ?_
          refine mt_if_eq (pc := 58) (tgt := 65) dX2_nameOf_58 (by decide) (fun c58 => ?_) (fun c58 => ?_)
          · skip
            rw [if_neg ((wdi0 _).mp c58)] at hS
            refine mt_aload_n (pc := 65) dX2_nameOf_65 rfl ?_
            refine mt_ldcS (pc := 66) (tx := "left") (j := 10) (by decide +kernel) dX2_nameOf_66 ?_
            refine mt_cV (pc := 68) (c_wordIs (d := 4) (Nat.le_refl 4) (by omega) (by decide) hB hT hq hr) cal_X7_wordIs vir_X7_wordIs ml_X2_97 dX2_nameOf_68 (by first | assumption | omega) (by repeat (first | exact hset_eq _ _ _ | assumption | rw [hset_ne (by first | assumption | decide | omega)])) (by first | assumption | (show _ ≤ d; omega)) ⟨(Nat.le_of_ble_eq_true rfl), (Nat.le_of_ble_eq_true rfl)⟩ rfl rfl (Nat.le_of_ble_eq_true rfl) ?_
            refine mt_if_eq (pc := 71) (tgt := 78) dX2_nameOf_71 (by decide) (fun c71 => ?_) (fun c71 => ?_)
            · skip
              rw [if_neg ((wdi0 _).mp c71)] at hS
              refine mt_aload_n (pc := 78) dX2_nameOf_78 rfl ?_
              refine mt_ldcS (pc := 79) (tx := "night") (j := 11) (by decide +kernel) dX2_nameOf_79 ?_
              refine mt_cV (pc := 81) (c_wordIs (d := 4) (Nat.le_refl 4) (by omega) (by decide) hB hT hq hr) cal_X7_wordIs vir_X7_wordIs ml_X2_97 dX2_nameOf_81 (by first | assumption | omega) (by repeat (first | exact hset_eq _ _ _ | assumption | rw [hset_ne (by first | assumption | decide | omega)])) (by first | assumption | (show _ ≤ d; omega)) ⟨(Nat.le_of_ble_eq_true rfl), (Nat.le_of_ble_eq_true rfl)⟩ rfl rfl (Nat.le_of_ble_eq_true rfl) ?_
              refine mt_if_eq (pc := 84) (tgt := 91) dX2_nameOf_84 (by decide) (fun c84 => ?_) (fun c84 => ?_)
              · skip
                rw [if_neg ((wdi0 _).mp c84)] at hS
                refine mt_aload_n (pc := 91) dX2_nameOf_91 rfl ?_
                refine mt_ldcS (pc := 92) (tx := "soul") (j := 2) (by decide +kernel) dX2_nameOf_92 ?_
                refine mt_cV (pc := 94) (c_wordIs (d := 4) (Nat.le_refl 4) (by omega) (by decide) hB hT hq hr) cal_X7_wordIs vir_X7_wordIs ml_X2_97 dX2_nameOf_94 (by first | assumption | omega) (by repeat (first | exact hset_eq _ _ _ | assumption | rw [hset_ne (by first | assumption | decide | omega)])) (by first | assumption | (show _ ≤ d; omega)) ⟨(Nat.le_of_ble_eq_true rfl), (Nat.le_of_ble_eq_true rfl)⟩ rfl rfl (Nat.le_of_ble_eq_true rfl) ?_
                refine mt_if_eq (pc := 97) (tgt := 106) dX2_nameOf_97 (by decide) (fun c97 => ?_) (fun c97 => ?_)
                · skip
                  rw [if_neg ((wdi0 _).mp c97)] at hS
                  refine mt_iconst (pc := 106) (v := (-1)) dX2_nameOf_106 (by decide) ?_
                  exact mt_iret rfl dX2_nameOf_107 (Nat.le_of_ble_eq_true rfl) (Nat.le_of_ble_eq_true rfl) ⟨by rw [hS]; rfl, rfl, rfl⟩
                · skip
                  rw [if_pos (Classical.not_not.mp fun z => c97 ((wdi0 _).mpr z))] at hS
                  refine mt_sipush (pc := 100) (v := 1007) dX2_nameOf_100 (by decide) ?_
                  refine mt_goto (pc := 103) (tgt := 107) dX2_nameOf_103 (by decide) ?_
                  exact mt_iret rfl dX2_nameOf_107 (Nat.le_of_ble_eq_true rfl) (Nat.le_of_ble_eq_true rfl) ⟨by rw [hS]; rfl, rfl, rfl⟩
              · skip
                rw [if_pos (Classical.not_not.mp fun z => c84 ((wdi0 _).mpr z))] at hS
                refine mt_sipush (pc := 87) (v := 1006) dX2_nameOf_87 (by decide) ?_
                exact mt_iret rfl dX2_nameOf_90 (Nat.le_of_ble_eq_true rfl) (Nat.le_of_ble_eq_true rfl) ⟨by rw [hS]; rfl, rfl, rfl⟩
            · skip
              rw [if_pos (Classical.not_not.mp fun z => c71 ((wdi0 _).mpr z))] at hS
              refine mt_sipush (pc := 74) (v := 1005) dX2_nameOf_74 (by decide) ?_
              exact mt_iret rfl dX2_nameOf_77 (Nat.le_of_ble_eq_true rfl) (Nat.le_of_ble_eq_true rfl) ⟨by rw [hS]; rfl, rfl, rfl⟩
          · skip
            rw [if_pos (Classical.not_not.mp fun z => c58 ((wdi0 _).mpr z))] at hS
            refine mt_sipush (pc := 61) (v := 1004) dX2_nameOf_61 (by decide) ?_
            exact mt_iret rfl dX2_nameOf_64 (Nat.le_of_ble_eq_true rfl) (Nat.le_of_ble_eq_true rfl) ⟨by rw [hS]; rfl, rfl, rfl⟩
        · skip
          rw [if_pos (Classical.not_not.mp fun z => c45 ((wdi0 _).mpr z))] at hS
          refine mt_sipush (pc := 48) (v := 1003) dX2_nameOf_48 (by decide) ?_
          exact mt_iret rfl dX2_nameOf_51 (Nat.le_of_ble_eq_true rfl) (Nat.le_of_ble_eq_true rfl) ⟨by rw [hS]; rfl, rfl, rfl⟩
      · skip
        rw [if_pos (Classical.not_not.mp fun z => c32 ((wdi0 _).mpr z))] at hS
        refine mt_sipush (pc := 35) (v := 1002) dX2_nameOf_35 (by decide) ?_
        exact mt_iret rfl dX2_nameOf_38 (Nat.le_of_ble_eq_true rfl) (Nat.le_of_ble_eq_true rfl) ⟨by rw [hS]; rfl, rfl, rfl⟩
    · skip
      rw [if_pos (Classical.not_not.mp fun z => c19 ((wdi0 _).mpr z))] at hS
      refine mt_sipush (pc := 22) (v := 1001) dX2_nameOf_22 (by decide) ?_
      exact mt_iret rfl dX2_nameOf_25 (Nat.le_of_ble_eq_true rfl) (Nat.le_of_ble_eq_true rfl) ⟨by rw [hS]; rfl, rfl, rfl⟩
  · skip
    rw [if_pos (Classical.not_not.mp fun z => c6 ((wdi0 _).mpr z))] at hS
    refine mt_sipush (pc := 9) (v := 1000) dX2_nameOf_9 (by decide) ?_
    exact mt_iret rfl dX2_nameOf_12 (Nat.le_of_ble_eq_true rfl) (Nat.le_of_ble_eq_true rfl) ⟨by rw [hS]; rfl, rfl, rfl⟩
/-- a reader's contract, at any place -/
def CLr (G : mm_G) (l : Launch) (b : Nat → Int32) (e : Nat) (sz fk fp : Int32) (y : MethodName) (c : ByteArray) (nL d o : Nat) (S : Nat → rsL) : Prop := ∀ (nx : Nat) (h : Nat → mm_E) (st : Int32) (p : Nat) (cs : List Nat), 34 ≤ nx → h 2 = byE b → h 1 = tpE sz (nI e) (nI p) st fk fp → p ≤ e → LR h cs → cs.length ≤ p → mm_Con G l y c nL (some .boolean) d 0 0 [.ref 19, .ref 1, .int (nI o)] nx h (P_lw (S p) cs e sz fk fp nx h)
theorem c_readBracket {o p : Nat} {T : Nat → rsL} {cs : List Nat} (hd : d = d - 1 + 1) (hd2 : 2 ≤ d) (ho : o ≤ 6) (hTc : o < 6 → CLr G l b e sz fk fp yX2_readSum cX2_readSum 5 (d - 1) (o + 1) T) (hGd : GdU e T) (hx : 34 ≤ nx) (hB : h 2 = byE b) (hT : h 1 = tpE sz (nI e) (nI p) st fk fp) (hp : p ≤ e) (he : e ≤ 150) (hL : LR h cs) (hl : cs.length ≤ p) (hq : sk b e p = p) : mm_Con G l yX2_readBracket cX2_readBracket 3 (some .boolean) d 0 0 [.ref 19, .ref 1, .int (nI o)] nx h (P_lw (brS b e T o p) cs e sz fk fp nx h) := by
  have hL1 := hL.1
  refine mm_start (lo := [some (.ref 19), some (.ref 1), some (.int (nI o))]) pn_X2 rfl rfl (Nat.le_of_ble_eq_true rfl) ?_
  refine mt_iload_n (pc := 0) dX2_readBracket_0 rfl ?_
  refine mt_bipush (pc := 1) (v := 6) dX2_readBracket_1 (by decide) ?_
  refine mt_icmp_lt (pc := 3) (tgt := 12) dX2_readBracket_3 (by decide) (fun c3 => ?_) (fun c3 => ?_)
  · skip
    have ho2 : o < 6 := (nI_ltI (a := o) (b := 6) (by omega) (by decide)).mp c3
    refine mt_aload_n (pc := 12) dX2_readBracket_12 rfl ?_
    refine mt_bipush (pc := 13) (v := 40) dX2_readBracket_13 (by decide) ?_
    refine mt_aV (pc := 15) (c_takeSign (d := 1) (Nat.le_refl 1) (by omega) hB hT hp (by omega)) cal_X7_takeSign vir_X7_takeSign ml_X2_73 dX2_readBracket_15 (by first | assumption | omega) (by repeat (first | exact hset_eq _ _ _ | assumption | rw [hset_ne (by first | assumption | decide | omega)])) (by first | assumption | (show _ ≤ d; omega)) ⟨(Nat.le_of_ble_eq_true rfl), (Nat.le_of_ble_eq_true rfl)⟩ rfl rfl (Nat.le_of_ble_eq_true rfl) ?_ ?_
    · rintro x9 n9 k9 h9
      simp [P_sign, P_lw] at h9
    · rintro v9 n9 k9 ⟨rfl, ⟨hc, hv, rfl⟩ | ⟨hc, hv, rfl⟩⟩
      · skip
        cases hv
        refine ⟨rfl, ?_⟩
        refine mt_if_eq (pc := 18) (tgt := 45) dX2_readBracket_18 (by decide) (fun c18 => ?_) (fun c18 => ?_)
        · exact absurd c18 (by decide)
        · skip
          have hlt := pkv_lt hc (by decide)
          have hS0 : brS b e T o p = sbind (T (sk b e p + 1)) fun x => sbind (signS b e x.1 41) fun r => .inr (r, x.2) := by rw [brS, if_neg (Nat.not_le.mpr ho2), signS, if_pos hc]; rfl
          refine mt_aload_n (pc := 21) dX2_readBracket_21 rfl ?_
          refine mt_aload_n (pc := 22) dX2_readBracket_22 rfl ?_
          refine mt_iload_n (pc := 23) dX2_readBracket_23 rfl ?_
          refine mt_iconst (pc := 24) (v := 1) dX2_readBracket_24 (by decide) ?_
          refine mt_iadd (pc := 25) dX2_readBracket_25 ?_
          rw [show (nI o + 1 : Int32) = nI (o + 1) from nI_1 o]
          refine mt_aV (pc := 26) (hTc ho2 _ _ _ _ cs hx (by rw [hset_ne (by decide)]; exact hB) (hset_eq _ _ _) (by omega) (LR_s1 hL) (by omega)) cal_X2_readSum vir_X2_readSum ml_X2_52 dX2_readBracket_26 (by first | assumption | omega) (by rw [hset_ne (by decide)]; exact hL1) (by show _ ≤ d; omega) ⟨(Nat.le_of_ble_eq_true rfl), (Nat.le_of_ble_eq_true rfl)⟩ rfl rfl (Nat.le_of_ble_eq_true rfl) ?_ ?_
          · rintro x9 n9 k9 h9
            simp [P_sign, P_lw] at h9
          · rintro v9 n9 k9 ⟨rfl, hF, ⟨kd, pl, hS, hv, hT2, hC2⟩ | ⟨r2, c2, hS, hv, ⟨s2, hT2⟩, hC2⟩⟩
            · skip
              cases hv
              refine ⟨rfl, ?_⟩
              refine mt_if_eq (pc := 29) (tgt := 45) dX2_readBracket_29 (by decide) (fun _ => ?_) (fun z => absurd rfl z)
              refine mt_iconst (pc := 45) (v := 0) dX2_readBracket_45 (by decide) ?_
              exact mt_zret rfl (Or.inl rfl) dX2_readBracket_46 (Nat.le_of_ble_eq_true rfl) (Nat.le_of_ble_eq_true rfl) ⟨rfl, FRw_of1 hF, Or.inl ⟨kd, pl, by rw [hS0, hS]; rfl, rfl, hT2, hC2⟩⟩
            · skip
              cases hv
              refine ⟨rfl, ?_⟩
              refine mt_if_eq (pc := 29) (tgt := 45) dX2_readBracket_29 (by decide) (fun c29 => ?_) (fun c29 => ?_)
              · exact absurd c29 (by decide)
              · skip
                have hg := hGd _ (by omega) _ _ hS
                refine mt_aload_n (pc := 32) dX2_readBracket_32 rfl ?_
                refine mt_bipush (pc := 33) (v := 41) dX2_readBracket_33 (by decide) ?_
                refine mt_aV (pc := 35) (c_takeSign (d := 1) (Nat.le_refl 1) (by omega) ((hF 2 (by decide) (by decide) (by decide)).trans (by rw [hset_ne (by decide)]; exact hB)) hT2 hg.2.1 (by omega)) cal_X7_takeSign vir_X7_takeSign ml_X2_73 dX2_readBracket_35 (by first | assumption | omega) (by repeat (first | exact hset_eq _ _ _ | assumption | rw [hset_ne (by first | assumption | decide | omega)])) (by first | assumption | (show _ ≤ d; omega)) ⟨(Nat.le_of_ble_eq_true rfl), (Nat.le_of_ble_eq_true rfl)⟩ rfl rfl (Nat.le_of_ble_eq_true rfl) ?_ ?_
                · rintro x9 n9 k9 h9
                  simp [P_sign, P_lw] at h9
                · rintro v9 n9 k9 ⟨rfl, ⟨hc2, hv, rfl⟩ | ⟨hc2, hv, rfl⟩⟩
                  · skip
                    cases hv
                    refine ⟨rfl, ?_⟩
                    refine mt_if_eq (pc := 38) (tgt := 45) dX2_readBracket_38 (by decide) (fun z => absurd z (by decide)) (fun _ => ?_)
                    refine mt_iconst (pc := 41) (v := 1) dX2_readBracket_41 (by decide) ?_
                    refine mt_goto (pc := 42) (tgt := 46) dX2_readBracket_42 (by decide) ?_
                    exact mt_zret rfl (Or.inr rfl) dX2_readBracket_46 (Nat.le_of_ble_eq_true rfl) (Nat.le_of_ble_eq_true rfl) ⟨rfl, FRw_s1 (FRw_of1 hF), Or.inr ⟨_, c2, by rw [hS0, hS]; show sbind (signS b e r2 41) _ = _; rw [signS, if_pos hc2]; rfl, rfl, ⟨_, hset_eq _ _ _⟩, LR_s1 hC2⟩⟩
                  · skip
                    cases hv
                    refine ⟨rfl, ?_⟩
                    refine mt_if_eq (pc := 38) (tgt := 45) dX2_readBracket_38 (by decide) (fun _ => ?_) (fun z => absurd rfl z)
                    refine mt_iconst (pc := 45) (v := 0) dX2_readBracket_45 (by decide) ?_
                    exact mt_zret rfl (Or.inl rfl) dX2_readBracket_46 (Nat.le_of_ble_eq_true rfl) (Nat.le_of_ble_eq_true rfl) ⟨rfl, FRw_s1 (FRw_of1 hF), Or.inl ⟨1, _, by rw [hS0, hS]; show sbind (signS b e r2 41) _ = _; rw [signS, if_neg hc2]; rfl, rfl, ⟨_, _, hset_eq _ _ _⟩, LX_s1 hC2.x⟩⟩
      · skip
        cases hv
        refine ⟨rfl, ?_⟩
        refine mt_if_eq (pc := 18) (tgt := 45) dX2_readBracket_18 (by decide) (fun _ => ?_) (fun z => absurd rfl z)
        refine mt_iconst (pc := 45) (v := 0) dX2_readBracket_45 (by decide) ?_
        exact mt_zret rfl (Or.inl rfl) dX2_readBracket_46 (Nat.le_of_ble_eq_true rfl) (Nat.le_of_ble_eq_true rfl) ⟨rfl, FRw_1, Or.inl ⟨1, sk b e p, by rw [brS, if_neg (Nat.not_le.mpr ho2), signS, if_neg hc]; rfl, rfl, ⟨_, _, hset_eq _ _ _⟩, LX_s1 hL.x⟩⟩
  · skip
    have ho2 : 6 ≤ o := Nat.le_of_not_lt fun z => c3 (nI_lt (b := 6) z (by decide))
    refine mt_aload_n (pc := 6) dX2_readBracket_6 rfl ?_
    refine mt_iconst (pc := 7) (v := 3) dX2_readBracket_7 (by decide) ?_
    refine mt_cV (pc := 8) (c_failHere (d := 0) (by omega) hT) cal_X7_failHere vir_X7_failHere ml_X2_113 dX2_readBracket_8 (by first | assumption | omega) (by repeat (first | exact hset_eq _ _ _ | assumption | rw [hset_ne (by first | assumption | decide | omega)])) (by first | assumption | (show _ ≤ d; omega)) ⟨(Nat.le_of_ble_eq_true rfl), (Nat.le_of_ble_eq_true rfl)⟩ rfl rfl (Nat.le_of_ble_eq_true rfl) ?_
    exact mt_zret rfl (by first | exact Or.inl rfl | exact Or.inr rfl) dX2_readBracket_11 (Nat.le_of_ble_eq_true rfl) (Nat.le_of_ble_eq_true rfl) ⟨rfl, FRw_1, Or.inl ⟨3, p, by rw [brS, if_pos ho2, hq], rfl, ⟨_, _, hset_eq _ _ _⟩, LX_s1 hL.x⟩⟩
end LAWREAD
