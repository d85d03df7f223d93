/-! The reference: what is owed. -/
def CKs (cs : List Nat) : Prop := ∀ k ∈ cs, k < 1008 ∨ 2000 ≤ k
def GdK (U : Nat → rsL) : Prop := ∀ p r cs, U p = .inr (r, cs) → CKs cs
theorem CKs_app {a b : List Nat} (ha : CKs a) (hb : CKs b) : CKs (a ++ b) := fun k hk => (List.mem_append.mp hk).elim (ha k) (hb k)
theorem rstS_k {b : Nat → Int32} {e m : Nat} {U : Nat → rsL} (hU : GdK U) : ∀ q p r cs, rstS b e m U q p = .inr (r, cs) → CKs cs
  | 0, p, r, cs, h => by cases h; intro k hk; cases hk
  | q + 1, p, r, cs, h => by
    simp only [rstS] at h
    split at h
    · cases h; intro k hk; cases hk
    · next k hk =>
      obtain ⟨x, h1, h⟩ := sbind_inr h
      obtain ⟨y, h2, h⟩ := sbind_inr h
      cases h
      refine CKs_app (hU _ _ _ h1) (fun z hz => ?_)
      rcases List.mem_cons.mp hz with rfl | hz
      · exact Or.inr (opS_ge hk)
      · exact rstS_k hU q _ _ _ h2 z hz
theorem stS_k {b : Nat → Int32} {e m : Nat} {U : Nat → rsL} (hU : GdK U) : GdK (stS b e m U) := by
  intro p r cs h
  obtain ⟨x, h1, h⟩ := sbind_inr h
  obtain ⟨y, h2, h⟩ := sbind_inr h
  cases h
  exact CKs_app (hU _ _ _ h1) (rstS_k hU _ _ _ _ h2)
theorem prS_k {b : Nat → Int32} {e o st : Nat} {T : Nat → rsL} (hT : GdK T) {p r : Nat} {cs : List Nat} (h : prS b e T o st p = .inr (r, cs)) : CKs cs := by
  unfold prS at h
  split at h
  · cases h
  · obtain ⟨x, h1, h⟩ := sbind_inr h
    obtain ⟨y, h2, h⟩ := sbind_inr h
    obtain ⟨z, h3, h⟩ := sbind_inr h
    obtain ⟨w, h4, h⟩ := sbind_inr h
    obtain ⟨u, h5, h⟩ := sbind_inr h
    cases h
    exact CKs_app (hT _ _ _ h2) (hT _ _ _ h4)
theorem CKs_1 {k : Nat} (h : k < 1008 ∨ 2000 ≤ k) : CKs [k] := fun z hz => by
  rcases List.mem_cons.mp hz with rfl | hz
  · exact h
  · cases hz
theorem unS_k {b : Nat → Int32} {e o : Nat} {T : Nat → rsL} (hb : BY b) (hT : GdK T) : GdK (unS b e T o) := by
  intro p r cs h
  unfold unS at h
  split at h
  · obtain ⟨x, h1, h⟩ := sbind_inr h
    cases h
    unfold numS at h1
    split at h1
    · cases h1
    · dsimp only at h1
      split at h1
      · cases h1
      · next hq =>
        cases h1
        rw [show (999 : Int32).toInt = 999 from rfl] at hq
        exact CKs_1 (Or.inl (by dsimp only; omega))
  split at h
  · unfold brS at h
    split at h
    · cases h
    · obtain ⟨x, h1, h⟩ := sbind_inr h
      obtain ⟨y, h2, h⟩ := sbind_inr h
      obtain ⟨z, h3, h⟩ := sbind_inr h
      cases h
      exact hT _ _ _ h2
  split at h
  · cases h
  split at h
  · obtain ⟨x, h1, h⟩ := sbind_inr h
    cases h
    exact CKs_app (prS_k hT h1) (CKs_1 (Or.inr (by decide)))
  split at h
  · obtain ⟨x, h1, h⟩ := sbind_inr h
    cases h
    exact CKs_app (prS_k hT h1) (CKs_1 (Or.inr (by decide)))
  split at h
  · cases h
  · next k hk =>
    cases h
    have := namS_1000 hk
    exact CKs_1 (Or.inl (by omega))
theorem sumS_k {b : Nat → Int32} {e : Nat} (hb : BY b) : ∀ j, GdK (sumS b e j)
  | 0 => stS_k (stS_k (unS_k hb (fun p r cs h => by cases h)))
  | j + 1 => stS_k (stS_k (unS_k hb (sumS_k hb j)))
theorem lawS_k {b : Nat → Int32} {e : Nat} {cs : List Nat} (hb : BY b) (h : lawS b e = .inr cs) : CKs cs := by
  obtain ⟨x, h1, h⟩ := sbind_inr h
  split at h
  · cases h
  · cases h
    exact sumS_k hb 6 _ _ _ h1
/-- the law as the reference holds it -/
def MLR (cs : List Nat) (n : Int32) (C O : Nat → Int32) : Prop := (n = 0 ∧ cs = untL) ∨ (n = nI cs.length ∧ 0 < cs.length ∧ LWF cs ∧ CKs cs ∧ MLW C O cs)
theorem res_le {x y : Int32} (h : y ≤ x) : resL 2005 x y = y := by
  show (if x ≤ y then x else y) = y
  by_cases q : x ≤ y
  · rw [if_pos q]
    exact Int32.le_antisymm q h
  · rw [if_neg q]
theorem cdN_lt {k : Nat} (h : k < 2000) : cdN k ≤ 1 := by
  unfold cdN
  by_cases q : k < 1000
  · rw [if_pos q]; exact Nat.zero_le 1
  · rw [if_neg q, if_pos h]; exact Nat.le_refl 1
section MOW
variable {G : mm_G} {l : Launch} {d nx : Nat} {h : Nat → mm_E} {g : MG} {A : MA}
theorem n_both2000 {x y : Int32} : mm_Con G l yX11_both cX11_both 3 (some .int) d 0 0 [.int 2, .int x, .int y] nx h (mm_ret (some (.int (resL 2000 x y))) nx h) := by
  refine mm_start (lo := [some (.int 2), some (.int x), some (.int y)]) pn_X11 rfl rfl (Nat.le_of_ble_eq_true rfl) ?_
  refine mt_iload_n (pc := 0) dX11_both_0 rfl ?_
  refine mt_iconst (pc := 1) (v := 2) dX11_both_1 (by decide) ?_
  refine mt_icmp_ne (pc := 2) (tgt := 9) dX11_both_2 (by decide) (fun c2 => ?_) (fun c2 => ?_)
  · exact absurd rfl c2
  · skip
    refine mt_iload_n (pc := 5) dX11_both_5 rfl ?_
    refine mt_iload_n (pc := 6) dX11_both_6 rfl ?_
    refine mt_iadd (pc := 7) dX11_both_7 ?_
    exact mt_iret rfl dX11_both_8 (Nat.le_of_ble_eq_true rfl) (Nat.le_of_ble_eq_true rfl) ⟨rfl, rfl, rfl⟩
theorem n_both2001 {x y : Int32} : mm_Con G l yX11_both cX11_both 3 (some .int) d 0 0 [.int 3, .int x, .int y] nx h (mm_ret (some (.int (resL 2001 x y))) nx h) := by
  refine mm_start (lo := [some (.int 3), some (.int x), some (.int y)]) pn_X11 rfl rfl (Nat.le_of_ble_eq_true rfl) ?_
  refine mt_iload_n (pc := 0) dX11_both_0 rfl ?_
  refine mt_iconst (pc := 1) (v := 2) dX11_both_1 (by decide) ?_
  refine mt_icmp_ne (pc := 2) (tgt := 9) dX11_both_2 (by decide) (fun c2 => ?_) (fun c2 => ?_)
  · skip
    refine mt_iload_n (pc := 9) dX11_both_9 rfl ?_
    refine mt_iconst (pc := 10) (v := 3) dX11_both_10 (by decide) ?_
    refine mt_icmp_ne (pc := 11) (tgt := 18) dX11_both_11 (by decide) (fun c11 => ?_) (fun c11 => ?_)
    · exact absurd rfl c11
    · skip
      refine mt_iload_n (pc := 14) dX11_both_14 rfl ?_
      refine mt_iload_n (pc := 15) dX11_both_15 rfl ?_
      refine mt_isub (pc := 16) dX11_both_16 ?_
      exact mt_iret rfl dX11_both_17 (Nat.le_of_ble_eq_true rfl) (Nat.le_of_ble_eq_true rfl) ⟨rfl, rfl, rfl⟩
  · exact absurd c2 (by decide)
theorem n_both2002 {x y : Int32} : mm_Con G l yX11_both cX11_both 3 (some .int) d 0 0 [.int 4, .int x, .int y] nx h (mm_ret (some (.int (resL 2002 x y))) nx h) := by
  refine mm_start (lo := [some (.int 4), some (.int x), some (.int y)]) pn_X11 rfl rfl (Nat.le_of_ble_eq_true rfl) ?_
  refine mt_iload_n (pc := 0) dX11_both_0 rfl ?_
  refine mt_iconst (pc := 1) (v := 2) dX11_both_1 (by decide) ?_
  refine mt_icmp_ne (pc := 2) (tgt := 9) dX11_both_2 (by decide) (fun c2 => ?_) (fun c2 => ?_)
  · skip
    refine mt_iload_n (pc := 9) dX11_both_9 rfl ?_
    refine mt_iconst (pc := 10) (v := 3) dX11_both_10 (by decide) ?_
    refine mt_icmp_ne (pc := 11) (tgt := 18) dX11_both_11 (by decide) (fun c11 => ?_) (fun c11 => ?_)
    · skip
      refine mt_iload_n (pc := 18) dX11_both_18 rfl ?_
      refine mt_iconst (pc := 19) (v := 4) dX11_both_19 (by decide) ?_
      refine mt_icmp_ne (pc := 20) (tgt := 27) dX11_both_20 (by decide) (fun c20 => ?_) (fun c20 => ?_)
      · exact absurd rfl c20
      · skip
        refine mt_iload_n (pc := 23) dX11_both_23 rfl ?_
        refine mt_iload_n (pc := 24) dX11_both_24 rfl ?_
        refine mt_imul (pc := 25) dX11_both_25 ?_
        exact mt_iret rfl dX11_both_26 (Nat.le_of_ble_eq_true rfl) (Nat.le_of_ble_eq_true rfl) ⟨rfl, rfl, rfl⟩
    · exact absurd c11 (by decide)
  · exact absurd c2 (by decide)
theorem n_both2003 {x y : Int32} : mm_Con G l yX11_both cX11_both 3 (some .int) d 0 0 [.int 5, .int x, .int y] nx h (mm_ret (some (.int (resL 2003 x y))) nx h) := by
  refine mm_start (lo := [some (.int 5), some (.int x), some (.int y)]) pn_X11 rfl rfl (Nat.le_of_ble_eq_true rfl) ?_
  refine mt_iload_n (pc := 0) dX11_both_0 rfl ?_
  refine mt_iconst (pc := 1) (v := 2) dX11_both_1 (by decide) ?_
  refine mt_icmp_ne (pc := 2) (tgt := 9) dX11_both_2 (by decide) (fun c2 => ?_) (fun c2 => ?_)
  · skip
    refine mt_iload_n (pc := 9) dX11_both_9 rfl ?_
    refine mt_iconst (pc := 10) (v := 3) dX11_both_10 (by decide) ?_
    refine mt_icmp_ne (pc := 11) (tgt := 18) dX11_both_11 (by decide) (fun c11 => ?_) (fun c11 => ?_)
    · skip
      refine mt_iload_n (pc := 18) dX11_both_18 rfl ?_
      refine mt_iconst (pc := 19) (v := 4) dX11_both_19 (by decide) ?_
      refine mt_icmp_ne (pc := 20) (tgt := 27) dX11_both_20 (by decide) (fun c20 => ?_) (fun c20 => ?_)
      · skip
        refine mt_iload_n (pc := 27) dX11_both_27 rfl ?_
        refine mt_iconst (pc := 28) (v := 5) dX11_both_28 (by decide) ?_
        refine mt_icmp_eq (pc := 29) (tgt := 38) dX11_both_29 (by decide) (fun c29 => ?_) (fun c29 => ?_)
        · skip
          refine mt_iload_n (pc := 38) dX11_both_38 rfl ?_
          refine mt_if_ne (pc := 39) (tgt := 46) dX11_both_39 (by decide) (fun c39 => ?_) (fun c39 => ?_)
          · skip
            refine mt_iload_n (pc := 46) dX11_both_46 rfl ?_
            refine mt_iconst (pc := 47) (v := 5) dX11_both_47 (by decide) ?_
            refine mt_icmp_ne (pc := 48) (tgt := 57) dX11_both_48 (by decide) (fun c48 => ?_) (fun c48 => ?_)
            · exact absurd rfl c48
            · skip
              refine mt_iload_n (pc := 51) dX11_both_51 rfl ?_
              refine mt_iload_n (pc := 52) dX11_both_52 rfl ?_
              refine mt_idiv (pc := 53) dX11_both_53 c39 ?_
              refine mt_goto (pc := 54) (tgt := 60) dX11_both_54 (by decide) ?_
              exact mt_iret rfl dX11_both_60 (Nat.le_of_ble_eq_true rfl) (Nat.le_of_ble_eq_true rfl) ⟨by simp only [resL]; rw [if_neg c39], rfl, rfl⟩
          · skip
            refine mt_iconst (pc := 42) (v := 0) dX11_both_42 (by decide) ?_
            refine mt_goto (pc := 43) (tgt := 60) dX11_both_43 (by decide) ?_
            exact mt_iret rfl dX11_both_60 (Nat.le_of_ble_eq_true rfl) (Nat.le_of_ble_eq_true rfl) ⟨by simp only [resL]; rw [if_pos c39], rfl, rfl⟩
        · exact absurd rfl c29
      · exact absurd c20 (by decide)
    · exact absurd c11 (by decide)
  · exact absurd c2 (by decide)
theorem n_both2004 {x y : Int32} : mm_Con G l yX11_both cX11_both 3 (some .int) d 0 0 [.int 8, .int x, .int y] nx h (mm_ret (some (.int (resL 2004 x y))) nx h) := by
  refine mm_start (lo := [some (.int 8), some (.int x), some (.int y)]) pn_X11 rfl rfl (Nat.le_of_ble_eq_true rfl) ?_
  refine mt_iload_n (pc := 0) dX11_both_0 rfl ?_
  refine mt_iconst (pc := 1) (v := 2) dX11_both_1 (by decide) ?_
  refine mt_icmp_ne (pc := 2) (tgt := 9) dX11_both_2 (by decide) (fun c2 => ?_) (fun c2 => ?_)
  · skip
    refine mt_iload_n (pc := 9) dX11_both_9 rfl ?_
    refine mt_iconst (pc := 10) (v := 3) dX11_both_10 (by decide) ?_
    refine mt_icmp_ne (pc := 11) (tgt := 18) dX11_both_11 (by decide) (fun c11 => ?_) (fun c11 => ?_)
    · skip
      refine mt_iload_n (pc := 18) dX11_both_18 rfl ?_
      refine mt_iconst (pc := 19) (v := 4) dX11_both_19 (by decide) ?_
      refine mt_icmp_ne (pc := 20) (tgt := 27) dX11_both_20 (by decide) (fun c20 => ?_) (fun c20 => ?_)
      · skip
        refine mt_iload_n (pc := 27) dX11_both_27 rfl ?_
        refine mt_iconst (pc := 28) (v := 5) dX11_both_28 (by decide) ?_
        refine mt_icmp_eq (pc := 29) (tgt := 38) dX11_both_29 (by decide) (fun c29 => ?_) (fun c29 => ?_)
        · exact absurd c29 (by decide)
        · skip
          refine mt_iload_n (pc := 32) dX11_both_32 rfl ?_
          refine mt_bipush (pc := 33) (v := 8) dX11_both_33 (by decide) ?_
          refine mt_icmp_ne (pc := 35) (tgt := 61) dX11_both_35 (by decide) (fun c35 => ?_) (fun c35 => ?_)
          · exact absurd rfl c35
          · skip
            refine mt_iload_n (pc := 38) dX11_both_38 rfl ?_
            refine mt_if_ne (pc := 39) (tgt := 46) dX11_both_39 (by decide) (fun c39 => ?_) (fun c39 => ?_)
            · skip
              refine mt_iload_n (pc := 46) dX11_both_46 rfl ?_
              refine mt_iconst (pc := 47) (v := 5) dX11_both_47 (by decide) ?_
              refine mt_icmp_ne (pc := 48) (tgt := 57) dX11_both_48 (by decide) (fun c48 => ?_) (fun c48 => ?_)
              · skip
                refine mt_iload_n (pc := 57) dX11_both_57 rfl ?_
                refine mt_iload_n (pc := 58) dX11_both_58 rfl ?_
                refine mt_irem (pc := 59) dX11_both_59 c39 ?_
                exact mt_iret rfl dX11_both_60 (Nat.le_of_ble_eq_true rfl) (Nat.le_of_ble_eq_true rfl) ⟨by simp only [resL]; rw [if_neg c39], rfl, rfl⟩
              · exact absurd c48 (by decide)
            · skip
              refine mt_iconst (pc := 42) (v := 0) dX11_both_42 (by decide) ?_
              refine mt_goto (pc := 43) (tgt := 60) dX11_both_43 (by decide) ?_
              exact mt_iret rfl dX11_both_60 (Nat.le_of_ble_eq_true rfl) (Nat.le_of_ble_eq_true rfl) ⟨by simp only [resL]; rw [if_pos c39], rfl, rfl⟩
      · exact absurd c20 (by decide)
    · exact absurd c11 (by decide)
  · exact absurd c2 (by decide)
theorem n_both2005 {x y : Int32} : mm_Con G l yX11_both cX11_both 3 (some .int) d 0 0 [.int 6, .int x, .int y] nx h (mm_ret (some (.int (resL 2005 x y))) nx h) := by
  refine mm_start (lo := [some (.int 6), some (.int x), some (.int y)]) pn_X11 rfl rfl (Nat.le_of_ble_eq_true rfl) ?_
  refine mt_iload_n (pc := 0) dX11_both_0 rfl ?_
  refine mt_iconst (pc := 1) (v := 2) dX11_both_1 (by decide) ?_
  refine mt_icmp_ne (pc := 2) (tgt := 9) dX11_both_2 (by decide) (fun c2 => ?_) (fun c2 => ?_)
  · skip
    refine mt_iload_n (pc := 9) dX11_both_9 rfl ?_
    refine mt_iconst (pc := 10) (v := 3) dX11_both_10 (by decide) ?_
    refine mt_icmp_ne (pc := 11) (tgt := 18) dX11_both_11 (by decide) (fun c11 => ?_) (fun c11 => ?_)
    · skip
      refine mt_iload_n (pc := 18) dX11_both_18 rfl ?_
      refine mt_iconst (pc := 19) (v := 4) dX11_both_19 (by decide) ?_
      refine mt_icmp_ne (pc := 20) (tgt := 27) dX11_both_20 (by decide) (fun c20 => ?_) (fun c20 => ?_)
      · skip
        refine mt_iload_n (pc := 27) dX11_both_27 rfl ?_
        refine mt_iconst (pc := 28) (v := 5) dX11_both_28 (by decide) ?_
        refine mt_icmp_eq (pc := 29) (tgt := 38) dX11_both_29 (by decide) (fun c29 => ?_) (fun c29 => ?_)
        · exact absurd c29 (by decide)
        · skip
          refine mt_iload_n (pc := 32) dX11_both_32 rfl ?_
          refine mt_bipush (pc := 33) (v := 8) dX11_both_33 (by decide) ?_
          refine mt_icmp_ne (pc := 35) (tgt := 61) dX11_both_35 (by decide) (fun c35 => ?_) (fun c35 => ?_)
          · skip
            refine mt_iload_n (pc := 61) dX11_both_61 rfl ?_
            refine mt_iload_n (pc := 62) dX11_both_62 rfl ?_
            refine mt_icmp_ge (pc := 63) (tgt := 70) dX11_both_63 (by decide) (fun c63 => ?_) (fun c63 => ?_)
            · skip
              refine mt_iconst (pc := 70) (v := 0) dX11_both_70 (by decide) ?_
              refine mt_iload_n (pc := 71) dX11_both_71 rfl ?_
              refine mt_bipush (pc := 72) (v := 6) dX11_both_72 (by decide) ?_
              refine mt_icmp_ne (pc := 74) (tgt := 81) dX11_both_74 (by decide) (fun c74 => ?_) (fun c74 => ?_)
              · exact absurd rfl c74
              · skip
                refine mt_iconst (pc := 77) (v := 1) dX11_both_77 (by decide) ?_
                refine mt_goto (pc := 78) (tgt := 82) dX11_both_78 (by decide) ?_
                refine mt_icmp_ne (pc := 82) (tgt := 89) dX11_both_82 (by decide) (fun c82 => ?_) (fun c82 => ?_)
                · skip
                  refine mt_iload_n (pc := 89) dX11_both_89 rfl ?_
                  exact mt_iret rfl dX11_both_90 (Nat.le_of_ble_eq_true rfl) (Nat.le_of_ble_eq_true rfl) ⟨by rw [res_le c63], rfl, rfl⟩
                · exact absurd c82 (by decide)
            · skip
              refine mt_iconst (pc := 66) (v := 1) dX11_both_66 (by decide) ?_
              refine mt_goto (pc := 67) (tgt := 71) dX11_both_67 (by decide) ?_
              refine mt_iload_n (pc := 71) dX11_both_71 rfl ?_
              refine mt_bipush (pc := 72) (v := 6) dX11_both_72 (by decide) ?_
              refine mt_icmp_ne (pc := 74) (tgt := 81) dX11_both_74 (by decide) (fun c74 => ?_) (fun c74 => ?_)
              · exact absurd rfl c74
              · skip
                refine mt_iconst (pc := 77) (v := 1) dX11_both_77 (by decide) ?_
                refine mt_goto (pc := 78) (tgt := 82) dX11_both_78 (by decide) ?_
                refine mt_icmp_ne (pc := 82) (tgt := 89) dX11_both_82 (by decide) (fun c82 => ?_) (fun c82 => ?_)
                · exact absurd rfl c82
                · skip
                  refine mt_iload_n (pc := 85) dX11_both_85 rfl ?_
                  refine mt_goto (pc := 86) (tgt := 90) dX11_both_86 (by decide) ?_
                  exact mt_iret rfl dX11_both_90 (Nat.le_of_ble_eq_true rfl) (Nat.le_of_ble_eq_true rfl) ⟨by simp only [resL]; rw [if_pos (Int32.le_of_lt (Int32.not_le.mp c63))], rfl, rfl⟩
          · exact absurd c35 (by decide)
      · exact absurd c20 (by decide)
    · exact absurd c11 (by decide)
  · exact absurd c2 (by decide)
theorem n_both2006 {x y : Int32} : mm_Con G l yX11_both cX11_both 3 (some .int) d 0 0 [.int 7, .int x, .int y] nx h (mm_ret (some (.int (resL 2006 x y))) nx h) := by
  refine mm_start (lo := [some (.int 7), some (.int x), some (.int y)]) pn_X11 rfl rfl (Nat.le_of_ble_eq_true rfl) ?_
  refine mt_iload_n (pc := 0) dX11_both_0 rfl ?_
  refine mt_iconst (pc := 1) (v := 2) dX11_both_1 (by decide) ?_
  refine mt_icmp_ne (pc := 2) (tgt := 9) dX11_both_2 (by decide) (fun c2 => ?_) (fun c2 => ?_)
  · skip
    refine mt_iload_n (pc := 9) dX11_both_9 rfl ?_
    refine mt_iconst (pc := 10) (v := 3) dX11_both_10 (by decide) ?_
    refine mt_icmp_ne (pc := 11) (tgt := 18) dX11_both_11 (by decide) (fun c11 => ?_) (fun c11 => ?_)
    · skip
      refine mt_iload_n (pc := 18) dX11_both_18 rfl ?_
      refine mt_iconst (pc := 19) (v := 4) dX11_both_19 (by decide) ?_
      refine mt_icmp_ne (pc := 20) (tgt := 27) dX11_both_20 (by decide) (fun c20 => ?_) (fun c20 => ?_)
      · skip
        refine mt_iload_n (pc := 27) dX11_both_27 rfl ?_
        refine mt_iconst (pc := 28) (v := 5) dX11_both_28 (by decide) ?_
        refine mt_icmp_eq (pc := 29) (tgt := 38) dX11_both_29 (by decide) (fun c29 => ?_) (fun c29 => ?_)
        · exact absurd c29 (by decide)
        · skip
          refine mt_iload_n (pc := 32) dX11_both_32 rfl ?_
          refine mt_bipush (pc := 33) (v := 8) dX11_both_33 (by decide) ?_
          refine mt_icmp_ne (pc := 35) (tgt := 61) dX11_both_35 (by decide) (fun c35 => ?_) (fun c35 => ?_)
          · skip
            refine mt_iload_n (pc := 61) dX11_both_61 rfl ?_
            refine mt_iload_n (pc := 62) dX11_both_62 rfl ?_
            refine mt_icmp_ge (pc := 63) (tgt := 70) dX11_both_63 (by decide) (fun c63 => ?_) (fun c63 => ?_)
            · skip
              refine mt_iconst (pc := 70) (v := 0) dX11_both_70 (by decide) ?_
              refine mt_iload_n (pc := 71) dX11_both_71 rfl ?_
              refine mt_bipush (pc := 72) (v := 6) dX11_both_72 (by decide) ?_
              refine mt_icmp_ne (pc := 74) (tgt := 81) dX11_both_74 (by decide) (fun c74 => ?_) (fun c74 => ?_)
              · skip
                refine mt_iconst (pc := 81) (v := 0) dX11_both_81 (by decide) ?_
                refine mt_icmp_ne (pc := 82) (tgt := 89) dX11_both_82 (by decide) (fun c82 => ?_) (fun c82 => ?_)
                · exact absurd rfl c82
                · skip
                  refine mt_iload_n (pc := 85) dX11_both_85 rfl ?_
                  refine mt_goto (pc := 86) (tgt := 90) dX11_both_86 (by decide) ?_
                  exact mt_iret rfl dX11_both_90 (Nat.le_of_ble_eq_true rfl) (Nat.le_of_ble_eq_true rfl) ⟨by simp only [resL]; rw [if_pos c63], rfl, rfl⟩
              · exact absurd c74 (by decide)
            · skip
              refine mt_iconst (pc := 66) (v := 1) dX11_both_66 (by decide) ?_
              refine mt_goto (pc := 67) (tgt := 71) dX11_both_67 (by decide) ?_
              refine mt_iload_n (pc := 71) dX11_both_71 rfl ?_
              refine mt_bipush (pc := 72) (v := 6) dX11_both_72 (by decide) ?_
              refine mt_icmp_ne (pc := 74) (tgt := 81) dX11_both_74 (by decide) (fun c74 => ?_) (fun c74 => ?_)
              · skip
                refine mt_iconst (pc := 81) (v := 0) dX11_both_81 (by decide) ?_
                refine mt_icmp_ne (pc := 82) (tgt := 89) dX11_both_82 (by decide) (fun c82 => ?_) (fun c82 => ?_)
                · skip
                  refine mt_iload_n (pc := 89) dX11_both_89 rfl ?_
                  exact mt_iret rfl dX11_both_90 (Nat.le_of_ble_eq_true rfl) (Nat.le_of_ble_eq_true rfl) ⟨by simp only [resL]; rw [if_neg c63], rfl, rfl⟩
                · exact absurd c82 (by decide)
              · exact absurd c74 (by decide)
          · exact absurd c35 (by decide)
      · exact absurd c20 (by decide)
    · exact absurd c11 (by decide)
  · exact absurd c2 (by decide)
theorem n_both {k : Nat} {x y : Int32} (h1 : 2000 ≤ k) (h2 : k ≤ 2006) : mm_Con G l yX11_both cX11_both 3 (some .int) d 0 0 [.int (nI (cdN k)), .int x, .int y] nx h (mm_ret (some (.int (resL k x y))) nx h) := by
  rcases (show k = 2000 ∨ k = 2001 ∨ k = 2002 ∨ k = 2003 ∨ k = 2004 ∨ k = 2005 ∨ k = 2006 by omega) with rfl | rfl | rfl | rfl | rfl | rfl | rfl
  · exact n_both2000
  · exact n_both2001
  · exact n_both2002
  · exact n_both2003
  · exact n_both2004
  · exact n_both2005
  · exact n_both2006
theorem cdN_ge {k : Nat} (h : 2000 ≤ k) : 2 ≤ cdN k ∧ cdN k ≤ 8 := by
  unfold cdN
  rw [if_neg (by omega), if_neg (by omega)]
  repeat' split
  all_goals omega
theorem n_valueNow {cs : List Nat} {v : Int32} {F : Nat → Int32} (hd : 1 ≤ d) (hx : 215 ≤ nx) (hF : ∀ j, j < 8 → A 202 j = F j) (h26 : g 26 = nI cs.length) (hl : cs.length ≤ 150) (hk : ∀ k ∈ cs, k ≤ 2006) (hC : CKs cs) (hM : MLW (A 199) (A 200) cs) (hev : evL F cs [] = some [v]) : mm_Con G l yX11_valueNow cX11_valueNow 4 (some .int) d 0 0 [.ref 188] nx (mos h g A) (fun o n m => o = .inl (some (.int v)) ∧ n = nx ∧ ∃ S, m = mos h g (updR A 201 S)) := by
  refine mm_start (lo := [some (.ref 188), none, none, none]) pn_X11 rfl rfl (Nat.le_of_ble_eq_true rfl) ?_
  refine mt_iconst (pc := 0) (v := 0) dX11_valueNow_0 (by decide) ?_
  refine mt_istore_n (pc := 1) dX11_valueNow_1 (Nat.le_of_ble_eq_true rfl) rfl ?_
  refine mt_iconst (pc := 2) (v := 0) dX11_valueNow_2 (by decide) ?_
  refine mt_istore_n (pc := 3) dX11_valueNow_3 (Nat.le_of_ble_eq_true rfl) rfl ?_
  rw [show mos h g A = mos h g (updR A 201 (A 201)) by rw [updR_self rfl]]
  refine mt_forE (pc := 4) (α := List Int32 × (Nat → Int32)) (H := fun i (a : List Int32 × (Nat → Int32)) => mos h g (updR A 201 a.2)) (L := fun i (a : List Int32 × (Nat → Int32)) => [some (.ref 188), some (.int (nI a.1.length)), some (.int (nI i)), none]) (I := fun i (a : List Int32 × (Nat → Int32)) => evL F (cs.drop i) a.1 = some [v] ∧ SM a.2 a.1 ∧ a.1.length ≤ 32) (cs.length) (fun i a hi fi ni => ?_) (fun a fi => ?_) (([], A 201)) (⟨hev, trivial, Nat.zero_le _⟩)
  · skip
    obtain ⟨s, S⟩ := a
    obtain ⟨f1, f2, f3⟩ := fi
    dsimp only at f1 f2 f3
    have hik : cs[i]? = some cs[i] := List.getElem?_eq_getElem hi
    have hm := hM i cs[i] hik
    have hkk := hk cs[i] (List.getElem_mem hi)
    have hck := hC cs[i] (List.getElem_mem hi)
    rw [List.drop_eq_getElem_cons hi, evL_c] at f1
    generalize cs[i] = k at hm hkk hck f1
    refine mt_iload_n (pc := 4) dX11_valueNow_4 rfl ?_
    refine mt_aload_n (pc := 5) dX11_valueNow_5 rfl ?_
    refine mt_mgetI (pc := 6) (x := nI cs.length) gf_X11_164 dX11_valueNow_6 hx rfl h26 ?_
    refine mt_icmp_ge (pc := 9) (tgt := 95) dX11_valueNow_9 (by decide) (fun c9 => ?_) (fun c9 => ?_)
    · exact absurd c9 (nI_ge hi (by first | omega | decide))
    · skip
      refine mt_aload_n (pc := 12) dX11_valueNow_12 rfl ?_
      refine mt_mget (pc := 13) gf_X11_47 dX11_valueNow_13 hx rfl ?_
      refine mt_iload_n (pc := 16) dX11_valueNow_16 rfl ?_
      refine mt_mald (pc := 17) (i := 199) (j := i) (x := nI (cdN k)) dX11_valueNow_17 hx rfl rfl (by show _ < 150; omega) (hm.1) ?_
      refine mt_istore_n (pc := 18) dX11_valueNow_18 (Nat.le_of_ble_eq_true rfl) rfl ?_
      refine mt_iload_n (pc := 19) dX11_valueNow_19 rfl ?_
      refine mt_iconst (pc := 20) (v := 1) dX11_valueNow_20 (by decide) ?_
      refine mt_icmp_gt (pc := 21) (tgt := 60) dX11_valueNow_21 (by decide) (fun c21 => ?_) (fun c21 => ?_)
      · skip
        have hge : 2000 ≤ k := by
          rcases Nat.lt_or_ge k 2000 with z | z
          · exfalso
            have := cdN_lt z
            exact nI_nlt (a := 1) this (by decide) c21
          · exact z
        rw [if_pos hge] at f1
        rcases s with _ | ⟨y, _ | ⟨x, r⟩⟩
        · cases f1
        · cases f1
        have hcd := cdN_ge hge
        simp only [List.length_cons] at f3
        refine mt_iinc (pc := 60) (c9 := (-1)) dX11_valueNow_60 rfl (by decide) (Nat.le_of_ble_eq_true rfl) rfl ?_
        rw [show (nI (y :: x :: r).length + (-1) : Int32) = nI (r.length + 1) from pk_m1 _]
        refine mt_aload_n (pc := 63) dX11_valueNow_63 rfl ?_
        refine mt_mget (pc := 64) gf_X11_53 dX11_valueNow_64 hx rfl ?_
        skip
        refine mt_iload_n (pc := 67) dX11_valueNow_67 rfl ?_
        refine mt_iconst (pc := 68) (v := 1) dX11_valueNow_68 (by decide) ?_
        refine mt_isubN (pc := 69) (a := r.length + 1) (b := 1) dX11_valueNow_69 rfl rfl (by omega) ?_
        refine mt_iload_n (pc := 70) dX11_valueNow_70 rfl ?_
        refine mt_aload_n (pc := 71) dX11_valueNow_71 rfl ?_
        refine mt_mget (pc := 72) gf_X11_53 dX11_valueNow_72 hx rfl ?_
        skip
        refine mt_iload_n (pc := 75) dX11_valueNow_75 rfl ?_
        refine mt_iconst (pc := 76) (v := 1) dX11_valueNow_76 (by decide) ?_
        refine mt_isubN (pc := 77) (a := r.length + 1) (b := 1) dX11_valueNow_77 rfl rfl (by omega) ?_
        refine mt_mald (pc := 78) (i := 201) (j := (r.length + 1) - 1) (x := x) dX11_valueNow_78 hx rfl rfl (by show _ < 150; omega) (f2.2.1) ?_
        refine mt_aload_n (pc := 79) dX11_valueNow_79 rfl ?_
        refine mt_mget (pc := 80) gf_X11_53 dX11_valueNow_80 hx rfl ?_
        skip
        refine mt_iload_n (pc := 83) dX11_valueNow_83 rfl ?_
        refine mt_mald (pc := 84) (i := 201) (j := r.length + 1) (x := y) dX11_valueNow_84 hx rfl rfl (by show _ < 150; omega) (f2.1) ?_
        refine mt_cS (pc := 85) (n_both (d := 0) hge hkk) cal_X11_both sta_X11_both ml_X11_264 dX11_valueNow_85 (by first | assumption | (show _ ≤ d; omega)) ⟨(Nat.le_of_ble_eq_true rfl), (Nat.le_of_ble_eq_true rfl)⟩ rfl rfl (Nat.le_of_ble_eq_true rfl) ?_
        refine mt_mast (pc := 88) (i := 201) (j := (r.length + 1) - 1) dX11_valueNow_88 hx rfl rfl (by show _ < 150; omega) ?_
        refine mt_iinc (pc := 89) (c9 := 1) dX11_valueNow_89 rfl (by decide) (Nat.le_of_ble_eq_true rfl) rfl ?_
        refine mt_goto (pc := 92) (tgt := 4) dX11_valueNow_92 (by decide) ?_
        rw [show (nI i + 1 : Int32) = nI (i + 1) from nI_1 i, updR_eq, updR_updR]
        exact mt_fg (by repeat (first | exact trivial | refine ⟨rfl, ?_⟩ | rfl)) (ni (resL k x y :: r, upd S r.length _) ⟨f1, ⟨upd_eq _ _ _, SM_upd f2.2.2 (Nat.le_refl _)⟩, by show r.length + 1 ≤ 32; omega⟩)
      · skip
        have hlt : k < 2000 := by
          rcases Nat.lt_or_ge k 2000 with z | z
          · exact z
          · exact absurd (nI_lt (a := 1) (b := cdN k) (by have := cdN_ge z; omega) (by have := cdN_ge z; omega)) c21
        rw [if_neg (by omega)] at f1
        have hs32 : s.length < 32 := by
          by_cases z : s.length < 32
          · exact z
          · rw [if_neg z] at f1; cases f1
        rw [if_pos hs32] at f1
        refine mt_aload_n (pc := 24) dX11_valueNow_24 rfl ?_
        refine mt_mget (pc := 25) gf_X11_53 dX11_valueNow_25 hx rfl ?_
        refine mt_iload_n (pc := 28) dX11_valueNow_28 rfl ?_
        refine mt_iload_n (pc := 29) dX11_valueNow_29 rfl ?_
        refine mt_if_ne (pc := 30) (tgt := 42) dX11_valueNow_30 (by decide) (fun c30 => ?_) (fun c30 => ?_)
        · skip
          have hk1 : ¬ k < 1000 := fun z => c30 (by rw [cdN, if_pos z]; rfl)
          have hco : coN k = k - 1000 := by rw [coN, if_neg hk1, if_pos hlt]
          have eV : (if k < 1000 then nI k else mm_at F 8 (nI (k - 1000))) = F (k - 1000) := by rw [if_neg hk1, mm_at_nI (by omega) (by decide)]
          rw [eV] at f1
          refine mt_aload_n (pc := 42) dX11_valueNow_42 rfl ?_
          refine mt_mget (pc := 43) gf_X11_56 dX11_valueNow_43 hx rfl ?_
          refine mt_aload_n (pc := 46) dX11_valueNow_46 rfl ?_
          refine mt_mget (pc := 47) gf_X11_50 dX11_valueNow_47 hx rfl ?_
          refine mt_iload_n (pc := 50) dX11_valueNow_50 rfl ?_
          refine mt_mald (pc := 51) (i := 200) (j := i) (x := nI (coN k)) dX11_valueNow_51 hx rfl rfl (by show _ < 150; omega) (hm.2) ?_
          refine mt_mald (pc := 52) (i := 202) (j := coN k) (x := F (k - 1000)) dX11_valueNow_52 hx rfl rfl (by show _ < 8; omega) (by rw [hco]; exact hF _ (by omega)) ?_
          refine mt_mast (pc := 53) (i := 201) (j := s.length) dX11_valueNow_53 hx rfl rfl (by show _ < 150; omega) ?_
          refine mt_iinc (pc := 54) (c9 := 1) dX11_valueNow_54 rfl (by decide) (Nat.le_of_ble_eq_true rfl) rfl ?_
          refine mt_goto (pc := 57) (tgt := 89) dX11_valueNow_57 (by decide) ?_
          refine mt_iinc (pc := 89) (c9 := 1) dX11_valueNow_89 rfl (by decide) (Nat.le_of_ble_eq_true rfl) rfl ?_
          refine mt_goto (pc := 92) (tgt := 4) dX11_valueNow_92 (by decide) ?_
          rw [show (nI s.length + 1 : Int32) = nI (s.length + 1) from nI_1 _, show (nI i + 1 : Int32) = nI (i + 1) from nI_1 i, updR_eq, updR_updR]
          exact mt_fg (by repeat (first | exact trivial | refine ⟨rfl, ?_⟩ | rfl)) (ni (_ :: s, upd S s.length _) ⟨f1, ⟨upd_eq _ _ _, SM_upd f2 (Nat.le_refl _)⟩, hs32⟩)
        · skip
          have hk1 : k < 1000 := by
            rcases Nat.lt_or_ge k 1000 with z | z
            · exact z
            · exact absurd (show nI (cdN k) = 0 from c30) (by rw [cdN, if_neg (by omega), if_pos hlt]; decide)
          have eV : (if k < 1000 then nI k else mm_at F 8 (nI (k - 1000))) = nI (coN k) := by rw [if_pos hk1, coN, if_pos hk1]
          rw [eV] at f1
          refine mt_aload_n (pc := 33) dX11_valueNow_33 rfl ?_
          refine mt_mget (pc := 34) gf_X11_50 dX11_valueNow_34 hx rfl ?_
          refine mt_iload_n (pc := 37) dX11_valueNow_37 rfl ?_
          refine mt_mald (pc := 38) (i := 200) (j := i) (x := nI (coN k)) dX11_valueNow_38 hx rfl rfl (by show _ < 150; omega) (hm.2) ?_
          refine mt_goto (pc := 39) (tgt := 53) dX11_valueNow_39 (by decide) ?_
          refine mt_mast (pc := 53) (i := 201) (j := s.length) dX11_valueNow_53 hx rfl rfl (by show _ < 150; omega) ?_
          refine mt_iinc (pc := 54) (c9 := 1) dX11_valueNow_54 rfl (by decide) (Nat.le_of_ble_eq_true rfl) rfl ?_
          refine mt_goto (pc := 57) (tgt := 89) dX11_valueNow_57 (by decide) ?_
          refine mt_iinc (pc := 89) (c9 := 1) dX11_valueNow_89 rfl (by decide) (Nat.le_of_ble_eq_true rfl) rfl ?_
          refine mt_goto (pc := 92) (tgt := 4) dX11_valueNow_92 (by decide) ?_
          rw [show (nI s.length + 1 : Int32) = nI (s.length + 1) from nI_1 _, show (nI i + 1 : Int32) = nI (i + 1) from nI_1 i, updR_eq, updR_updR]
          exact mt_fg (by repeat (first | exact trivial | refine ⟨rfl, ?_⟩ | rfl)) (ni (_ :: s, upd S s.length _) ⟨f1, ⟨upd_eq _ _ _, SM_upd f2 (Nat.le_refl _)⟩, hs32⟩)
  · skip
    obtain ⟨s, S⟩ := a
    obtain ⟨f1, f2, f3⟩ := fi
    dsimp only at f1 f2 f3
    rw [List.drop_length] at f1
    obtain rfl : s = [v] := by simpa [evL] using f1
    refine mt_iload_n (pc := 4) dX11_valueNow_4 rfl ?_
    refine mt_aload_n (pc := 5) dX11_valueNow_5 rfl ?_
    refine mt_mgetI (pc := 6) (x := nI cs.length) gf_X11_164 dX11_valueNow_6 hx rfl h26 ?_
    refine mt_icmp_ge (pc := 9) (tgt := 95) dX11_valueNow_9 (by decide) (fun c9 => ?_) (fun c9 => ?_)
    · skip
      refine mt_aload_n (pc := 95) dX11_valueNow_95 rfl ?_
      refine mt_mget (pc := 96) gf_X11_53 dX11_valueNow_96 hx rfl ?_
      refine mt_iconst (pc := 99) (v := 0) dX11_valueNow_99 (by decide) ?_
      refine mt_mald (pc := 100) (i := 201) (j := 0) (x := v) dX11_valueNow_100 hx rfl rfl (by show _ < 150; omega) (f2.1) ?_
      exact mt_iret rfl dX11_valueNow_101 (Nat.le_of_ble_eq_true rfl) (Nat.le_of_ble_eq_true rfl) ⟨rfl, rfl, S, rfl⟩
    · exact absurd (nI_le (Nat.le_refl _) (by first | omega | decide)) c9
end MOW
