/-! The reference: its object (cell 188) and its rows (189 to 214), as functions. -/
abbrev MG : Type := Nat → Int32
abbrev MA : Type := Nat → Nat → Int32
def moL (g : MG) : List Value := [.int (g 0), .ref 189, .int (g 2), .int (g 3), .int (g 4), .int (g 5), .int (g 6), .int (g 7), .int (g 8), .ref 190, .ref 191, .ref 192, .ref 193, .ref 194, .ref 195, .ref 196, .int (g 16), .int (g 17), .int (g 18), .int (g 19), .ref 197, .ref 198, .ref 199, .ref 200, .ref 201, .int (g 25), .int (g 26), .ref 202, .ref 203, .ref 204, .int (g 30), .int (g 31), .int (g 32), .int (g 33), .int (g 34), .int (g 35), .ref 205, .ref 206, .ref 207, .ref 208, .ref 209, .int (g 41), .ref 210, .ref 211, .ref 212, .int (g 45), .int (g 46), .ref 213, .int (g 48), .ref 214, .int (g 50)]
def moE (g : MG) : mm_E := .inr (11, moL g)
def mlen (i : Nat) : Nat := ([2, 600, 16, 12, 6, 16, 12, 6, 150, 150, 150, 150, 150, 8, 250, 250, 91, 91, 1456, 18, 18, 8, 6, 6, 14, 4644] : List Nat).getD (i - 189) 0
/-- which cells are rows of ints of the reference -/
def mAr (i : Nat) : Bool := Nat.ble 189 i && (Nat.ble i 214 && !(i == 213))
/-- which of its fields are ints -/
def moK (k : Nat) : Bool := Nat.ble k 50 && !([1, 9, 10, 11, 12, 13, 14, 15, 20, 21, 22, 23, 24, 27, 28, 29, 36, 37, 38, 39, 40, 42, 43, 44, 47, 49].contains k)
def mos (h : Nat → mm_E) (g : MG) (A : MA) : Nat → mm_E := fun j => if j = 188 then moE g else if mAr j = true then .inl (0, mlen j, .inl (A j)) else h j
theorem mos_o (h : Nat → mm_E) (g : MG) (A : MA) : mos h g A 188 = .inr (11, moL g) := if_pos rfl
theorem mos_a {h : Nat → mm_E} {g : MG} {A : MA} {i : Nat} (hi : mAr i = true) : mos h g A i = .inl (0, mlen i, .inl (A i)) := by
  unfold mos
  rw [if_neg (fun z => by subst z; cases hi), if_pos hi]
theorem mos_n {h : Nat → mm_E} {g : MG} {A : MA} {i : Nat} (h1 : i ≠ 188) (h2 : mAr i = false) : mos h g A i = h i := by
  unfold mos
  rw [if_neg h1, if_neg (by rw [h2]; decide)]
theorem mAr_lt {i : Nat} (h : mAr i = true) : 189 ≤ i ∧ i ≤ 214 := by
  simp only [mAr, Bool.and_eq_true] at h
  exact ⟨Nat.le_of_ble_eq_true h.1, Nat.le_of_ble_eq_true h.2.1⟩
theorem mos_lo {h : Nat → mm_E} {g : MG} {A : MA} {i : Nat} (h1 : i < 188) : mos h g A i = h i := mos_n (by omega) (by
  cases hq : mAr i with
  | false => rfl
  | true => have := mAr_lt hq; omega)
theorem moL_len (g : MG) : (moL g).length = 51 := rfl
theorem moL_set {g : MG} {x : Int32} {k : Nat} (hk : moK k = true) : (moL g).set k (.int x) = moL (upd g k x) := by
  have h1 : k ≤ 50 := Nat.le_of_ble_eq_true (by simp only [moK, Bool.and_eq_true] at hk; exact hk.1)
  rcases (show k = 0 ∨ k = 1 ∨ k = 2 ∨ k = 3 ∨ k = 4 ∨ k = 5 ∨ k = 6 ∨ k = 7 ∨ k = 8 ∨ k = 9 ∨ k = 10 ∨ k = 11 ∨ k = 12 ∨ k = 13 ∨ k = 14 ∨ k = 15 ∨ k = 16 ∨ k = 17 ∨ k = 18 ∨ k = 19 ∨ k = 20 ∨ k = 21 ∨ k = 22 ∨ k = 23 ∨ k = 24 ∨ k = 25 ∨ k = 26 ∨ k = 27 ∨ k = 28 ∨ k = 29 ∨ k = 30 ∨ k = 31 ∨ k = 32 ∨ k = 33 ∨ k = 34 ∨ k = 35 ∨ k = 36 ∨ k = 37 ∨ k = 38 ∨ k = 39 ∨ k = 40 ∨ k = 41 ∨ k = 42 ∨ k = 43 ∨ k = 44 ∨ k = 45 ∨ k = 46 ∨ k = 47 ∨ k = 48 ∨ k = 49 ∨ k = 50 by omega) with rfl | rfl | rfl | rfl | rfl | rfl | rfl | rfl | rfl | rfl | rfl | rfl | rfl | rfl | rfl | rfl | rfl | rfl | rfl | rfl | rfl | rfl | rfl | rfl | rfl | rfl | rfl | rfl | rfl | rfl | rfl | rfl | rfl | rfl | rfl | rfl | rfl | rfl | rfl | rfl | rfl | rfl | rfl | rfl | rfl | rfl | rfl | rfl | rfl | rfl | rfl <;> first | rfl | (cases hk; done)
theorem mos_put {h : Nat → mm_E} {g : MG} {A : MA} {x : Int32} {k : Nat} (hk : moK k = true) : hset (mos h g A) 188 (.inr (11, (moL g).set k (.int x))) = mos h (upd g k x) A := by
  rw [moL_set hk]
  funext j
  by_cases hj : j = 188
  · subst hj
    rw [hset_eq]
    exact (mos_o h (upd g k x) A).symm
  · rw [hset_ne hj]
    unfold mos
    rw [if_neg hj, if_neg hj]
theorem updR_eq {F : MA} {i : Nat} {f : Nat → Int32} : updR F i f i = f := if_pos rfl
theorem updR_ne {F : MA} {i j : Nat} {f : Nat → Int32} (h : j ≠ i) : updR F i f j = F j := if_neg h
theorem mos_ast {h : Nat → mm_E} {g : MG} {A : MA} {i : Nat} {f : Nat → Int32} (hi : mAr i = true) : hset (mos h g A) i (.inl (0, mlen i, .inl f)) = mos h g (updR A i f) := by
  funext j
  by_cases hj : j = i
  · subst hj
    rw [hset_eq, mos_a hi, updR_eq]
  · rw [hset_ne hj]
    unfold mos
    rw [updR_ne hj]
theorem mos_mos (h : Nat → mm_E) (g g' : MG) (A A' : MA) : mos (mos h g A) g' A' = mos h g' A' := by
  funext j
  unfold mos
  split
  · rfl
  · split
    · rfl
    · rfl
section MODR
variable {M : mm_M} {own : String} {cc : ByteArray} {nx : Nat} {h : Nat → mm_E} {g : MG} {A : MA} {kc ks pc : Nat} {lo : List (Option Value)} {st : List Value}
theorem mt_mget {index k : Nat} {v : Value} (hg : mm_gf own index 11 k) (hd : decode cc pc = .ok (.getfield index, 3)) (hx : 215 ≤ nx) (hv : (moL g)[k]? = some v) (kk : mm_T M own cc nx (mos h g A) kc ks (pc + 3) lo (v :: st)) : mm_T M own cc nx (mos h g A) kc ks pc lo (.ref 188 :: st) := mt_get hg hd (by omega) (mos_o h g A) hv kk
theorem mt_mgetI {index k : Nat} {x : Int32} (hg : mm_gf own index 11 k) (hd : decode cc pc = .ok (.getfield index, 3)) (hx : 215 ≤ nx) (hv : (moL g)[k]? = some (.int (g k))) (he : g k = x) (kk : mm_T M own cc nx (mos h g A) kc ks (pc + 3) lo (.int x :: st)) : mm_T M own cc nx (mos h g A) kc ks pc lo (.ref 188 :: st) := mt_get hg hd (by omega) (mos_o h g A) (by rw [hv, he]) kk
theorem mt_mput {index k : Nat} {x : Int32} (hg : mm_pf own index 11 k .int false) (hd : decode cc pc = .ok (.putfield index, 3)) (hx : 215 ≤ nx) (hk : moK k = true) (kk : mm_T M own cc nx (mos h (upd g k x) A) kc ks (pc + 3) lo st) : mm_T M own cc nx (mos h g A) kc ks pc lo (.int x :: .ref 188 :: st) := by
  refine mt_puti hg hd (by omega) (mos_o h g A) ?_ ?_
  · rw [moL_len]
    have := Nat.le_of_ble_eq_true (by simp only [moK, Bool.and_eq_true] at hk; exact hk.1)
    omega
  · rw [mos_put hk]
    exact kk
theorem mt_mald {i j : Nat} {y x : Int32} (hd : decode cc pc = .ok (.iaload, 1)) (hx : 215 ≤ nx) (hr : mAr i = true) (hy : y = nI j) (hj : j < mlen i) (he : A i j = x) (kk : mm_T M own cc nx (mos h g A) kc ks (pc + 1) lo (.int x :: st)) : mm_T M own cc nx (mos h g A) kc ks pc lo (.int y :: .ref i :: st) := by
  have h1 := mAr_lt hr
  have hm : mlen i < 2 ^ 31 := by
    have : ∀ i, i ≤ 214 → mlen i < 2 ^ 31 := by decide +kernel
    exact this i h1.2
  subst hy
  refine mt_iald hd (by omega) (mos_a hr) (vp_in_nI hj hm) ?_
  rw [nI_clamp (by omega), he]
  exact kk
theorem mt_mast {i j : Nat} {y x : Int32} (hd : decode cc pc = .ok (.iastore, 1)) (hx : 215 ≤ nx) (hr : mAr i = true) (hy : y = nI j) (hj : j < mlen i) (kk : mm_T M own cc nx (mos h g (updR A i (upd (A i) j x))) kc ks (pc + 1) lo st) : mm_T M own cc nx (mos h g A) kc ks pc lo (.int x :: .int y :: .ref i :: st) := by
  have h1 := mAr_lt hr
  have hm : mlen i < 2 ^ 31 := by
    have : ∀ i, i ≤ 214 → mlen i < 2 ^ 31 := by decide +kernel
    exact this i h1.2
  subst hy
  refine mt_iast hd (by omega) (mos_a hr) (vp_in_nI hj hm) ?_
  rw [nI_clamp (by omega), mos_ast hr]
  exact kk
theorem mt_iaddN {a b : Nat} {x y : Int32} (hd : decode cc pc = .ok (.iadd, 1)) (hx : x = nI a) (hy : y = nI b) (kk : mm_T M own cc nx h kc ks (pc + 1) lo (.int (nI (a + b)) :: st)) : mm_T M own cc nx h kc ks pc lo (.int y :: .int x :: st) := by
  subst hx hy
  refine mt_iadd hd ?_
  rw [nI_add]
  exact kk
theorem mt_imulN {a b : Nat} {x y : Int32} (hd : decode cc pc = .ok (.imul, 1)) (hx : x = nI a) (hy : y = nI b) (kk : mm_T M own cc nx h kc ks (pc + 1) lo (.int (nI (a * b)) :: st)) : mm_T M own cc nx h kc ks pc lo (.int y :: .int x :: st) := by
  subst hx hy
  refine mt_imul hd ?_
  rw [pk_mul]
  exact kk
theorem mt_isubN {a b : Nat} {x y : Int32} (hd : decode cc pc = .ok (.isub, 1)) (hx : x = nI a) (hy : y = nI b) (hab : b ≤ a) (kk : mm_T M own cc nx h kc ks (pc + 1) lo (.int (nI (a - b)) :: st)) : mm_T M own cc nx h kc ks pc lo (.int y :: .int x :: st) := by
  subst hx hy
  refine mt_isub hd ?_
  rw [pk_sub hab]
  exact kk
theorem mt_idivN {a b : Nat} {x y : Int32} (hd : decode cc pc = .ok (.idiv, 1)) (hx : x = nI a) (hy : y = nI b) (ha : a < 2 ^ 31) (h0 : 0 < b) (hb : b < 2 ^ 31) (kk : mm_T M own cc nx h kc ks (pc + 1) lo (.int (nI (a / b)) :: st)) : mm_T M own cc nx h kc ks pc lo (.int y :: .int x :: st) := by
  subst hx hy
  refine mt_idiv hd (nI_ne0 h0 hb) ?_
  rw [pk_div ha h0 hb]
  exact kk
theorem mt_iremN {a b : Nat} {x y : Int32} (hd : decode cc pc = .ok (.irem, 1)) (hx : x = nI a) (hy : y = nI b) (ha : a < 2 ^ 31) (h0 : 0 < b) (hb : b < 2 ^ 31) (kk : mm_T M own cc nx h kc ks (pc + 1) lo (.int (nI (a % b)) :: st)) : mm_T M own cc nx h kc ks pc lo (.int y :: .int x :: st) := by
  subst hx hy
  refine mt_irem hd (nI_ne0 h0 hb) ?_
  rw [pk_rem ha h0 hb]
  exact kk
end MODR
section MODA
variable {G : mm_G} {l : Launch} {d nx : Nat} {h : Nat → mm_E} {g : MG} {A : MA}
theorem n_thrown (hx : 215 ≤ nx) : mm_Con G l yX11_thrown cX11_thrown 1 (some .int) d 0 0 [.ref 188] nx (mos h g A) (mm_ret (some (.int (g 0))) nx (mos h g A)) := by
  refine mm_start (lo := [some (.ref 188)]) pn_X11 rfl rfl (Nat.le_of_ble_eq_true rfl) ?_
  refine mt_aload_n (pc := 0) dX11_thrown_0 rfl ?_
  refine mt_mget (pc := 1) gf_X11_3 dX11_thrown_1 hx rfl ?_
  exact mt_iret rfl dX11_thrown_4 (Nat.le_of_ble_eq_true rfl) (Nat.le_of_ble_eq_true rfl) ⟨rfl, rfl, rfl⟩
theorem n_mayY {z c : Int32} {q : Nat} (hx : 215 ≤ nx) (h0 : g 0 = 0) (hz : ¬ z = 0) : mm_Con G l yX11_may cX11_may 4 (some .boolean) d 0 0 [.ref 188, .int z, .int c, .int (nI q)] nx (mos h g A) (mm_ret (some (.int 1)) nx (mos h g A)) := by
  refine mm_start (lo := [some (.ref 188), some (.int z), some (.int c), some (.int (nI q))]) pn_X11 rfl rfl (Nat.le_of_ble_eq_true rfl) ?_
  refine mt_iload_n (pc := 0) dX11_may_0 rfl ?_
  refine mt_if_ne (pc := 1) (tgt := 26) dX11_may_1 (by decide) (fun c1 => ?_) (fun c1 => ?_)
  · skip
    refine mt_aload_n (pc := 26) dX11_may_26 rfl ?_
    refine mt_mget (pc := 27) gf_X11_3 dX11_may_27 hx rfl ?_
    refine mt_if_ne (pc := 30) (tgt := 37) dX11_may_30 (by decide) (fun c30 => ?_) (fun c30 => ?_)
    · exact absurd h0 c30
    · skip
      refine mt_iconst (pc := 33) (v := 1) dX11_may_33 (by decide) ?_
      refine mt_goto (pc := 34) (tgt := 38) dX11_may_34 (by decide) ?_
      exact mt_zret rfl (by first | exact Or.inl rfl | exact Or.inr rfl) dX11_may_38 (Nat.le_of_ble_eq_true rfl) (Nat.le_of_ble_eq_true rfl) ⟨rfl, rfl, rfl⟩
  · exact absurd c1 hz
theorem n_mayN {z c : Int32} {q : Nat} (hx : 215 ≤ nx) (hq : q < 2) (h0 : g 0 = 0) (hz : z = 0) (hc : ¬ c = 0) : mm_Con G l yX11_may cX11_may 4 (some .boolean) d 0 0 [.ref 188, .int z, .int c, .int (nI q)] nx (mos h g A) (mm_ret (some (.int 0)) nx (mos h (upd g 0 c) (updR A 189 (upd (A 189) q (A 189 q + 1))))) := by
  refine mm_start (lo := [some (.ref 188), some (.int z), some (.int c), some (.int (nI q))]) pn_X11 rfl rfl (Nat.le_of_ble_eq_true rfl) ?_
  refine mt_iload_n (pc := 0) dX11_may_0 rfl ?_
  refine mt_if_ne (pc := 1) (tgt := 26) dX11_may_1 (by decide) (fun c1 => ?_) (fun c1 => ?_)
  · exact absurd hz c1
  · skip
    refine mt_aload_n (pc := 4) dX11_may_4 rfl ?_
    refine mt_mget (pc := 5) gf_X11_3 dX11_may_5 hx rfl ?_
    refine mt_if_ne (pc := 8) (tgt := 26) dX11_may_8 (by decide) (fun c8 => ?_) (fun c8 => ?_)
    · exact absurd h0 c8
    · skip
      refine mt_aload_n (pc := 11) dX11_may_11 rfl ?_
      refine mt_iload_n (pc := 12) dX11_may_12 rfl ?_
      refine mt_mput (pc := 13) pf_X11_3 dX11_may_13 hx rfl ?_
      refine mt_aload_n (pc := 16) dX11_may_16 rfl ?_
      refine mt_mget (pc := 17) gf_X11_7 dX11_may_17 hx rfl ?_
      refine mt_iload_n (pc := 20) dX11_may_20 rfl ?_
      refine mt_dup2 (pc := 21) dX11_may_21 rfl rfl ?_
      refine mt_mald (pc := 22) (i := 189) (j := q) dX11_may_22 hx rfl rfl (by show _ < 2; omega) rfl ?_
      refine mt_iconst (pc := 23) (v := 1) dX11_may_23 (by decide) ?_
      refine mt_iadd (pc := 24) dX11_may_24 ?_
      refine mt_mast (pc := 25) (i := 189) (j := q) dX11_may_25 hx rfl rfl (by show _ < 2; omega) ?_
      refine mt_aload_n (pc := 26) dX11_may_26 rfl ?_
      refine mt_mgetI (pc := 27) (x := c) gf_X11_3 dX11_may_27 hx rfl rfl ?_
      refine mt_if_ne (pc := 30) (tgt := 37) dX11_may_30 (by decide) (fun c30 => ?_) (fun c30 => ?_)
      · skip
        refine mt_iconst (pc := 37) (v := 0) dX11_may_37 (by decide) ?_
        exact mt_zret rfl (by first | exact Or.inl rfl | exact Or.inr rfl) dX11_may_38 (Nat.le_of_ble_eq_true rfl) (Nat.le_of_ble_eq_true rfl) ⟨rfl, rfl, rfl⟩
      · exact absurd c30 hc
theorem n_within {v lw hi : Int32} : mm_Con G l yX11_within cX11_within 3 (some .boolean) d 0 0 [.int v, .int lw, .int hi] nx h (mm_ret (some (.int (if v < lw then 0 else if hi < v then 0 else 1))) nx h) := by
  refine mm_start (lo := [some (.int v), some (.int lw), some (.int hi)]) pn_X11 rfl rfl (Nat.le_of_ble_eq_true rfl) ?_
  refine mt_iload_n (pc := 0) dX11_within_0 rfl ?_
  refine mt_iload_n (pc := 1) dX11_within_1 rfl ?_
  refine mt_icmp_lt (pc := 2) (tgt := 14) dX11_within_2 (by decide) (fun c2 => ?_) (fun c2 => ?_)
  · skip
    refine mt_iconst (pc := 14) (v := 0) dX11_within_14 (by decide) ?_
    exact mt_zret rfl (by first | exact Or.inl rfl | exact Or.inr rfl) dX11_within_15 (Nat.le_of_ble_eq_true rfl) (Nat.le_of_ble_eq_true rfl) ⟨by simp [*], rfl, rfl⟩
  · skip
    refine mt_iload_n (pc := 5) dX11_within_5 rfl ?_
    refine mt_iload_n (pc := 6) dX11_within_6 rfl ?_
    refine mt_icmp_gt (pc := 7) (tgt := 14) dX11_within_7 (by decide) (fun c7 => ?_) (fun c7 => ?_)
    · skip
      refine mt_iconst (pc := 14) (v := 0) dX11_within_14 (by decide) ?_
      exact mt_zret rfl (by first | exact Or.inl rfl | exact Or.inr rfl) dX11_within_15 (Nat.le_of_ble_eq_true rfl) (Nat.le_of_ble_eq_true rfl) ⟨by simp [*], rfl, rfl⟩
    · skip
      refine mt_iconst (pc := 10) (v := 1) dX11_within_10 (by decide) ?_
      refine mt_goto (pc := 11) (tgt := 15) dX11_within_11 (by decide) ?_
      exact mt_zret rfl (by first | exact Or.inl rfl | exact Or.inr rfl) dX11_within_15 (Nat.le_of_ble_eq_true rfl) (Nat.le_of_ble_eq_true rfl) ⟨by simp [*], rfl, rfl⟩
theorem n_isSmall {v : Int32} : mm_Con G l yX11_isSmall cX11_isSmall 1 (some .boolean) d 0 0 [.int v] nx h (mm_ret (some (.int (if v < 97 then 0 else if 122 < v then 0 else 1))) nx h) := by
  refine mm_start (lo := [some (.int v)]) pn_X11 rfl rfl (Nat.le_of_ble_eq_true rfl) ?_
  refine mt_iload_n (pc := 0) dX11_isSmall_0 rfl ?_
  refine mt_bipush (pc := 1) (v := 97) dX11_isSmall_1 (by decide) ?_
  refine mt_icmp_lt (pc := 3) (tgt := 16) dX11_isSmall_3 (by decide) (fun c3 => ?_) (fun c3 => ?_)
  · skip
    refine mt_iconst (pc := 16) (v := 0) dX11_isSmall_16 (by decide) ?_
    exact mt_zret rfl (by first | exact Or.inl rfl | exact Or.inr rfl) dX11_isSmall_17 (Nat.le_of_ble_eq_true rfl) (Nat.le_of_ble_eq_true rfl) ⟨by simp [*], rfl, rfl⟩
  · skip
    refine mt_iload_n (pc := 6) dX11_isSmall_6 rfl ?_
    refine mt_bipush (pc := 7) (v := 122) dX11_isSmall_7 (by decide) ?_
    refine mt_icmp_gt (pc := 9) (tgt := 16) dX11_isSmall_9 (by decide) (fun c9 => ?_) (fun c9 => ?_)
    · skip
      refine mt_iconst (pc := 16) (v := 0) dX11_isSmall_16 (by decide) ?_
      exact mt_zret rfl (by first | exact Or.inl rfl | exact Or.inr rfl) dX11_isSmall_17 (Nat.le_of_ble_eq_true rfl) (Nat.le_of_ble_eq_true rfl) ⟨by simp [*], rfl, rfl⟩
    · skip
      refine mt_iconst (pc := 12) (v := 1) dX11_isSmall_12 (by decide) ?_
      refine mt_goto (pc := 13) (tgt := 17) dX11_isSmall_13 (by decide) ?_
      exact mt_zret rfl (by first | exact Or.inl rfl | exact Or.inr rfl) dX11_isSmall_17 (Nat.le_of_ble_eq_true rfl) (Nat.le_of_ble_eq_true rfl) ⟨by simp [*], rfl, rfl⟩
theorem n_isDigit {v : Int32} : mm_Con G l yX11_isDigit cX11_isDigit 1 (some .boolean) d 0 0 [.int v] nx h (mm_ret (some (.int (if v < 48 then 0 else if 57 < v then 0 else 1))) nx h) := by
  refine mm_start (lo := [some (.int v)]) pn_X11 rfl rfl (Nat.le_of_ble_eq_true rfl) ?_
  refine mt_iload_n (pc := 0) dX11_isDigit_0 rfl ?_
  refine mt_bipush (pc := 1) (v := 48) dX11_isDigit_1 (by decide) ?_
  refine mt_icmp_lt (pc := 3) (tgt := 16) dX11_isDigit_3 (by decide) (fun c3 => ?_) (fun c3 => ?_)
  · skip
    refine mt_iconst (pc := 16) (v := 0) dX11_isDigit_16 (by decide) ?_
    exact mt_zret rfl (by first | exact Or.inl rfl | exact Or.inr rfl) dX11_isDigit_17 (Nat.le_of_ble_eq_true rfl) (Nat.le_of_ble_eq_true rfl) ⟨by simp [*], rfl, rfl⟩
  · skip
    refine mt_iload_n (pc := 6) dX11_isDigit_6 rfl ?_
    refine mt_bipush (pc := 7) (v := 57) dX11_isDigit_7 (by decide) ?_
    refine mt_icmp_gt (pc := 9) (tgt := 16) dX11_isDigit_9 (by decide) (fun c9 => ?_) (fun c9 => ?_)
    · skip
      refine mt_iconst (pc := 16) (v := 0) dX11_isDigit_16 (by decide) ?_
      exact mt_zret rfl (by first | exact Or.inl rfl | exact Or.inr rfl) dX11_isDigit_17 (Nat.le_of_ble_eq_true rfl) (Nat.le_of_ble_eq_true rfl) ⟨by simp [*], rfl, rfl⟩
    · skip
      refine mt_iconst (pc := 12) (v := 1) dX11_isDigit_12 (by decide) ?_
      refine mt_goto (pc := 13) (tgt := 17) dX11_isDigit_13 (by decide) ?_
      exact mt_zret rfl (by first | exact Or.inl rfl | exact Or.inr rfl) dX11_isDigit_17 (Nat.le_of_ble_eq_true rfl) (Nat.le_of_ble_eq_true rfl) ⟨by simp [*], rfl, rfl⟩
theorem n_held {v w : Int32} : mm_Con G l yX11_held cX11_held 2 (some .int) d 0 0 [.int v, .int w] nx h (mm_ret (some (.int (if w < v then w else v))) nx h) := by
  refine mm_start (lo := [some (.int v), some (.int w)]) pn_X11 rfl rfl (Nat.le_of_ble_eq_true rfl) ?_
  refine mt_iload_n (pc := 0) dX11_held_0 rfl ?_
  refine mt_iload_n (pc := 1) dX11_held_1 rfl ?_
  refine mt_icmp_le (pc := 2) (tgt := 9) dX11_held_2 (by decide) (fun c2 => ?_) (fun c2 => ?_)
  · skip
    have e1 : ¬ w < v := Int32.not_lt.mpr c2
    refine mt_iload_n (pc := 9) dX11_held_9 rfl ?_
    exact mt_iret rfl dX11_held_10 (Nat.le_of_ble_eq_true rfl) (Nat.le_of_ble_eq_true rfl) ⟨by simp [*], rfl, rfl⟩
  · skip
    have e1 : w < v := Int32.not_le.mp c2
    refine mt_iload_n (pc := 5) dX11_held_5 rfl ?_
    refine mt_goto (pc := 6) (tgt := 10) dX11_held_6 (by decide) ?_
    exact mt_iret rfl dX11_held_10 (Nat.le_of_ble_eq_true rfl) (Nat.le_of_ble_eq_true rfl) ⟨by simp [*], rfl, rfl⟩
theorem n_hasBy {x y v w : Int32} : mm_Con G l yX11_hasBy cX11_hasBy 4 (some .int) d 0 0 [.int x, .int y, .int v, .int w] nx h (mm_ret (some (.int (if x = y then (if x = 0 then v else w) else if x = 0 then 0 else v + w))) nx h) := by
  refine mm_start (lo := [some (.int x), some (.int y), some (.int v), some (.int w)]) pn_X11 rfl rfl (Nat.le_of_ble_eq_true rfl) ?_
  refine mt_iload_n (pc := 0) dX11_hasBy_0 rfl ?_
  refine mt_iload_n (pc := 1) dX11_hasBy_1 rfl ?_
  refine mt_icmp_ne (pc := 2) (tgt := 17) dX11_hasBy_2 (by decide) (fun c2 => ?_) (fun c2 => ?_)
  · skip
    refine mt_iload_n (pc := 17) dX11_hasBy_17 rfl ?_
    refine mt_if_ne (pc := 18) (tgt := 25) dX11_hasBy_18 (by decide) (fun c18 => ?_) (fun c18 => ?_)
    · skip
      refine mt_iload_n (pc := 25) dX11_hasBy_25 rfl ?_
      refine mt_iload_n (pc := 26) dX11_hasBy_26 rfl ?_
      refine mt_iadd (pc := 27) dX11_hasBy_27 ?_
      exact mt_iret rfl dX11_hasBy_28 (Nat.le_of_ble_eq_true rfl) (Nat.le_of_ble_eq_true rfl) ⟨by repeat (first | rw [if_pos (by assumption)] | rw [if_neg (by assumption)]), rfl, rfl⟩
    · skip
      refine mt_iconst (pc := 21) (v := 0) dX11_hasBy_21 (by decide) ?_
      refine mt_goto (pc := 22) (tgt := 28) dX11_hasBy_22 (by decide) ?_
      exact mt_iret rfl dX11_hasBy_28 (Nat.le_of_ble_eq_true rfl) (Nat.le_of_ble_eq_true rfl) ⟨by repeat (first | rw [if_pos (by assumption)] | rw [if_neg (by assumption)]), rfl, rfl⟩
  · skip
    refine mt_iload_n (pc := 5) dX11_hasBy_5 rfl ?_
    refine mt_if_ne (pc := 6) (tgt := 13) dX11_hasBy_6 (by decide) (fun c6 => ?_) (fun c6 => ?_)
    · skip
      refine mt_iload_n (pc := 13) dX11_hasBy_13 rfl ?_
      refine mt_goto (pc := 14) (tgt := 28) dX11_hasBy_14 (by decide) ?_
      exact mt_iret rfl dX11_hasBy_28 (Nat.le_of_ble_eq_true rfl) (Nat.le_of_ble_eq_true rfl) ⟨by repeat (first | rw [if_pos (by assumption)] | rw [if_neg (by assumption)]), rfl, rfl⟩
    · skip
      refine mt_iload_n (pc := 9) dX11_hasBy_9 rfl ?_
      refine mt_goto (pc := 10) (tgt := 28) dX11_hasBy_10 (by decide) ?_
      exact mt_iret rfl dX11_hasBy_28 (Nat.le_of_ble_eq_true rfl) (Nat.le_of_ble_eq_true rfl) ⟨by repeat (first | rw [if_pos (by assumption)] | rw [if_neg (by assumption)]), rfl, rfl⟩
theorem n_isWinter {q n : Int32} : mm_Con G l yX11_isWinter cX11_isWinter 2 (some .boolean) d 0 0 [.int q, .int n] nx h (mm_ret (some (.int (if q < 0 then 0 else if 16 < q then 0 else if n < 1 then 0 else if 96 < n then 0 else 1))) nx h) := by
  refine mm_start (lo := [some (.int q), some (.int n)]) pn_X11 rfl rfl (Nat.le_of_ble_eq_true rfl) ?_
  refine mt_iload_n (pc := 0) dX11_isWinter_0 rfl ?_
  refine mt_if_lt (pc := 1) (tgt := 25) dX11_isWinter_1 (by decide) (fun c1 => ?_) (fun c1 => ?_)
  · skip
    refine mt_iconst (pc := 25) (v := 0) dX11_isWinter_25 (by decide) ?_
    exact mt_zret rfl (by first | exact Or.inl rfl | exact Or.inr rfl) dX11_isWinter_26 (Nat.le_of_ble_eq_true rfl) (Nat.le_of_ble_eq_true rfl) ⟨by simp [*], rfl, rfl⟩
  · skip
    refine mt_iload_n (pc := 4) dX11_isWinter_4 rfl ?_
    refine mt_bipush (pc := 5) (v := 16) dX11_isWinter_5 (by decide) ?_
    refine mt_icmp_gt (pc := 7) (tgt := 25) dX11_isWinter_7 (by decide) (fun c7 => ?_) (fun c7 => ?_)
    · skip
      refine mt_iconst (pc := 25) (v := 0) dX11_isWinter_25 (by decide) ?_
      exact mt_zret rfl (by first | exact Or.inl rfl | exact Or.inr rfl) dX11_isWinter_26 (Nat.le_of_ble_eq_true rfl) (Nat.le_of_ble_eq_true rfl) ⟨by simp [*], rfl, rfl⟩
    · skip
      refine mt_iload_n (pc := 10) dX11_isWinter_10 rfl ?_
      refine mt_iconst (pc := 11) (v := 1) dX11_isWinter_11 (by decide) ?_
      refine mt_icmp_lt (pc := 12) (tgt := 25) dX11_isWinter_12 (by decide) (fun c12 => ?_) (fun c12 => ?_)
      · skip
        refine mt_iconst (pc := 25) (v := 0) dX11_isWinter_25 (by decide) ?_
        exact mt_zret rfl (by first | exact Or.inl rfl | exact Or.inr rfl) dX11_isWinter_26 (Nat.le_of_ble_eq_true rfl) (Nat.le_of_ble_eq_true rfl) ⟨by simp [*], rfl, rfl⟩
      · skip
        refine mt_iload_n (pc := 15) dX11_isWinter_15 rfl ?_
        refine mt_bipush (pc := 16) (v := 96) dX11_isWinter_16 (by decide) ?_
        refine mt_icmp_gt (pc := 18) (tgt := 25) dX11_isWinter_18 (by decide) (fun c18 => ?_) (fun c18 => ?_)
        · skip
          refine mt_iconst (pc := 25) (v := 0) dX11_isWinter_25 (by decide) ?_
          exact mt_zret rfl (by first | exact Or.inl rfl | exact Or.inr rfl) dX11_isWinter_26 (Nat.le_of_ble_eq_true rfl) (Nat.le_of_ble_eq_true rfl) ⟨by simp [*], rfl, rfl⟩
        · skip
          refine mt_iconst (pc := 21) (v := 1) dX11_isWinter_21 (by decide) ?_
          refine mt_goto (pc := 22) (tgt := 26) dX11_isWinter_22 (by decide) ?_
          exact mt_zret rfl (by first | exact Or.inl rfl | exact Or.inr rfl) dX11_isWinter_26 (Nat.le_of_ble_eq_true rfl) (Nat.le_of_ble_eq_true rfl) ⟨by simp [*], rfl, rfl⟩
theorem n_loanOf {i k : Nat} (hx : 215 ≤ nx) (hi : i < 10) (hk : k < 6) : mm_Con G l yX11_loanOf cX11_loanOf 3 (some .int) d 0 0 [.ref 188, .int (nI i), .int (nI k)] nx (mos h g A) (mm_ret (some (.int (A 206 (28 + 6 * i + k)))) nx (mos h g A)) := by
  refine mm_start (lo := [some (.ref 188), some (.int (nI i)), some (.int (nI k))]) pn_X11 rfl rfl (Nat.le_of_ble_eq_true rfl) ?_
  refine mt_aload_n (pc := 0) dX11_loanOf_0 rfl ?_
  refine mt_mget (pc := 1) gf_X11_68 dX11_loanOf_1 hx rfl ?_
  refine mt_bipush (pc := 4) (v := 28) dX11_loanOf_4 (by decide) ?_
  refine mt_bipush (pc := 6) (v := 6) dX11_loanOf_6 (by decide) ?_
  refine mt_iload_n (pc := 8) dX11_loanOf_8 rfl ?_
  refine mt_imulN (pc := 9) (a := 6) (b := i) dX11_loanOf_9 rfl rfl ?_
  refine mt_iaddN (pc := 10) (a := 28) (b := 6 * i) dX11_loanOf_10 rfl rfl ?_
  refine mt_iload_n (pc := 11) dX11_loanOf_11 rfl ?_
  refine mt_iaddN (pc := 12) (a := 28 + (6 * i)) (b := k) dX11_loanOf_12 rfl rfl ?_
  refine mt_mald (pc := 13) (i := 206) (j := (28 + (6 * i)) + k) dX11_loanOf_13 hx rfl rfl (by show _ < 91; omega) rfl ?_
  exact mt_iret rfl dX11_loanOf_14 (Nat.le_of_ble_eq_true rfl) (Nat.le_of_ble_eq_true rfl) ⟨rfl, rfl, rfl⟩
theorem n_copies {i j : Nat} {n : Nat} (hx : 215 ≤ nx) (hi : mAr i = true) (hj : mAr j = true) (hij : i ≠ j) (hn : n ≤ mlen i) (hm : n ≤ mlen j) : mm_Con G l yX11_copies cX11_copies 5 none d 0 0 [.ref 188, .ref i, .ref j, .int (nI n)] nx (mos h g A) (mm_ret none nx (mos h g (updR A j (fun q => if q < n then A i q else A j q)))) := by
  have hl : mlen i < 2 ^ 31 := by
    have : ∀ i, i ≤ 214 → mlen i < 2 ^ 31 := by decide +kernel
    exact this i (mAr_lt hi).2
  have e0 : updR A j (fun q => if q < 0 then A i q else A j q) = A := by
    funext q
    by_cases hq : q = j
    · subst hq
      rw [updR_eq]
      rfl
    · rw [updR_ne hq]
  refine mm_start (lo := [some (.ref 188), some (.ref i), some (.ref j), some (.int (nI n)), none]) pn_X11 rfl rfl (Nat.le_of_ble_eq_true rfl) ?_
  refine mt_iconst (pc := 0) (v := 0) dX11_copies_0 (by decide) ?_
  refine mt_istore (pc := 1) dX11_copies_1 (Nat.le_of_ble_eq_true rfl) rfl ?_
  rw [show mos h g A = mos h g (updR A j (fun q => if q < 0 then A i q else A j q)) by rw [e0]]
  refine mt_for (pc := 3) (H := fun c => mos h g (updR A j (fun q => if q < c then A i q else A j q))) (L := fun c => [some (.ref 188), some (.ref i), some (.ref j), some (.int (nI n)), some (.int (nI c))]) n (fun c hc nc => ?_) ?_
  · skip
    refine mt_iload (pc := 3) dX11_copies_3 rfl ?_
    refine mt_iload_n (pc := 5) dX11_copies_5 rfl ?_
    refine mt_icmp_ge (pc := 6) (tgt := 23) dX11_copies_6 (by decide) (fun c6 => ?_) (fun c6 => ?_)
    · exact absurd c6 (nI_ge hc (by first | omega | decide))
    · skip
      refine mt_aload_n (pc := 9) dX11_copies_9 rfl ?_
      refine mt_iload (pc := 10) dX11_copies_10 rfl ?_
      refine mt_aload_n (pc := 12) dX11_copies_12 rfl ?_
      refine mt_iload (pc := 13) dX11_copies_13 rfl ?_
      refine mt_mald (pc := 15) (i := i) (j := c) (x := A i c) dX11_copies_15 hx hi rfl (by omega) (by rw [updR_ne hij]) ?_
      refine mt_mast (pc := 16) (i := j) (j := c) dX11_copies_16 hx hj rfl (by omega) ?_
      refine mt_iinc (pc := 17) (c9 := 1) dX11_copies_17 rfl (by decide) (Nat.le_of_ble_eq_true rfl) rfl ?_
      refine mt_goto (pc := 20) (tgt := 3) dX11_copies_20 (by decide) ?_
      rw [show (nI c + 1 : Int32) = nI (c + 1) from nI_1 c]
      refine mt_heq ?_ nc
      congr 1
      funext q
      by_cases hq : q = j
      · subst hq
        rw [updR_eq, updR_eq, updR_eq]
        funext z
        by_cases hz : z = c
        · subst hz
          rw [upd_eq, if_pos (by omega)]
        · rw [upd_ne hz]
          by_cases hz2 : z < c
          · rw [if_pos hz2, if_pos (by omega)]
          · rw [if_neg hz2, if_neg (by omega)]
      · rw [updR_ne hq, updR_ne hq, updR_ne hq]
  · skip
    refine mt_iload (pc := 3) dX11_copies_3 rfl ?_
    refine mt_iload_n (pc := 5) dX11_copies_5 rfl ?_
    refine mt_icmp_ge (pc := 6) (tgt := 23) dX11_copies_6 (by decide) (fun c6 => ?_) (fun c6 => ?_)
    · skip
      exact mt_vret rfl dX11_copies_23 (Nat.le_of_ble_eq_true rfl) (Nat.le_of_ble_eq_true rfl) ⟨rfl, rfl, rfl⟩
    · exact absurd (nI_le (Nat.le_refl _) (by first | omega | decide)) c6
end MODA
