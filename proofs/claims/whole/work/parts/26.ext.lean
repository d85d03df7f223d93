/-! Rules: texts, statics, a throw. -/
theorem mm_H.low {G : mm_G} {ad : Nat → Nat} {nx : Nat} {h : Nat → mm_E} {s : State} {H : Heap} {locs : List Loc} (B : mm_H G ad nx h s H locs) : ∀ a : Nat, a < (mm_s0 G).heap.size → ¬ mm_fr G a → s.heap[a]? = (mm_s0 G).heap[a]? := fun a ha _ => B.2.2.2.1 a ha
theorem mm_H.ext {G : mm_G} {ad : Nat → Nat} {nx : Nat} {h : Nat → mm_E} {s : State} {H : Heap} {locs : List Loc} (B : mm_H G ad nx h s H locs) {j : Nat} (hj : 1000000 ≤ j) : ad j = mm_xa G j := B.2.2.2.2.2.2.2.1 j hj
theorem mm_H.strs {G : mm_G} {ad : Nat → Nat} {nx : Nat} {h : Nat → mm_E} {s : State} {H : Heap} {locs : List Loc} (B : mm_H G ad nx h s H locs) : vk_S 19 mm_tl mm_tb (fun j => mm_xa G (1000000 + j)) (fun j => mm_xa G (1001000 + j)) (mm_fr G) s s.heap := (B.1.2.1.moved B.2.1).kept B.low
section MMX
variable {M : mm_M} {own : String} {cc : ByteArray} {nx : Nat} {h : Nat → mm_E} {kc ks pc : Nat} {lo : List (Option Value)} {st : List Value}
theorem mt_ldcS {index j : Nat} {tx : String} (hm : (own, index, tx, j) ∈ mm_sr) (hd : decode cc pc = .ok (.ldc index, 2)) (kk : mm_T M own cc nx h kc ks (pc + 2) lo (.ref (1000000 + j) :: st)) : mm_T M own cc nx h kc ks pc lo st := by
  intro p e s m args below meth c H locs ad ad0 ls C A B L
  have e1 := B.2.2.2.2.2.2.2.2.2.1 _ hm
  dsimp only at e1
  rw [← B.ext (by omega)] at e1
  exact va_ldcS C.1 C.2.1 C.own e1 hd (kk p e s m args below meth c H locs ad ad0 ls C A B L)
/-- a text's bytes, its coder -/
theorem mt_strV {index j : Nat} (hj : j < 19) (hl : Cond.fieldLink own index "java/lang/String" "value" "[B" ∈ mm_ws) (hd : decode cc pc = .ok (.getfield index, 3)) (kk : mm_T M own cc nx h kc ks (pc + 3) lo (.ref (1001000 + j) :: st)) : mm_T M own cc nx h kc ks pc lo (.ref (1000000 + j) :: st) := by
  intro p e s m args below meth c H locs ad ad0 ls C A B L
  have hE := (B.strs.1 j hj).2.2.1
  dsimp only at hE
  have := kk p e s m args below meth c H locs ad ad0 ls C A B L
  rw [List.map_cons] at this ⊢
  simp only [mm_rv] at this ⊢
  rw [B.ext (by omega)] at this ⊢
  exact vk_getf C.1 C.2.1 hE B.2.2.2.2.2.2.1 C.own (C.ts _ hl) (fun _ z => z) hd this
theorem mt_strC {index j : Nat} (hj : j < 19) (hl : Cond.fieldLink own index "java/lang/String" "coder" "B" ∈ mm_ws) (hd : decode cc pc = .ok (.getfield index, 3)) (kk : mm_T M own cc nx h kc ks (pc + 3) lo (.int 0 :: st)) : mm_T M own cc nx h kc ks pc lo (.ref (1000000 + j) :: st) := by
  intro p e s m args below meth c H locs ad ad0 ls C A B L
  have hE := (B.strs.1 j hj).2.1
  dsimp only at hE
  have := kk p e s m args below meth c H locs ad ad0 ls C A B L
  rw [List.map_cons] at this ⊢
  simp only [mm_rv] at this ⊢
  rw [B.ext (by omega)]
  exact vk_getf C.1 C.2.1 hE B.2.2.2.2.2.2.1 C.own (C.ts _ hl) (fun _ z => z) hd this
theorem mt_strN {j : Nat} (hj : j < 19) (hd : decode cc pc = .ok (.arraylength, 1)) (kk : mm_T M own cc nx h kc ks (pc + 1) lo (.int (nI (mm_tl.getD j 0)) :: st)) : mm_T M own cc nx h kc ks pc lo (.ref (1001000 + j) :: st) := by
  intro p e s m args below meth c H locs ad ad0 ls C A B L
  have hT := (B.strs.1 j hj).2.2.2
  dsimp only at hT
  have := kk p e s m args below meth c H locs ad ad0 ls C A B L
  rw [List.map_cons] at this ⊢
  simp only [mm_rv] at this ⊢
  rw [B.ext (by omega)]
  exact va_tlen C.1 C.2.1 hT B.2.2.2.2.2.2.1 rfl hd this
theorem mt_strB {j : Nat} {i : Int32} (hj : j < 19) (hin : vp_in i (mm_tl.getD j 0)) (hd : decode cc pc = .ok (.baload, 1)) (kk : mm_T M own cc nx h kc ks (pc + 1) lo (.int ((mm_tb.getD j []).getD i.toNatClampNeg 0) :: st)) : mm_T M own cc nx h kc ks pc lo (.int i :: .ref (1001000 + j) :: st) := by
  intro p e s m args below meth c H locs ad ad0 ls C A B L
  have hT := (B.strs.1 j hj).2.2.2
  dsimp only at hT
  have := kk p e s m args below meth c H locs ad ad0 ls C A B L
  rw [List.map_cons, List.map_cons] at *
  simp only [mm_rv] at this ⊢
  rw [B.ext (by omega)]
  exact va_tb C.1 C.2.1 hT B.2.2.2.2.2.2.1 hin rfl hd this
theorem mt_i2c {x v : Int32} (hd : decode cc pc = .ok (.i2c, 1)) (hv : (x.toUInt32 % 65536).toInt32 = v) (k : mm_T M own cc nx h kc ks (pc + 1) lo (.int v :: st)) : mm_T M own cc nx h kc ks pc lo (.int x :: st) := by
  intro p e s m args below meth c H locs ad ad0 ls C A B L
  exact lv_i2c C.1 C.2.1 hd hv (k p e s m args below meth c H locs ad ad0 ls C A B L)
/-! statics -/
theorem mt_compact {index : Nat} (hl : Cond.fieldLink own index "java/lang/String" "COMPACT_STRINGS" "Z" ∈ mm_ws) (hd : decode cc pc = .ok (.getstatic index, 3)) (kk : mm_T M own cc nx h kc ks (pc + 3) lo (.int 1 :: st)) : mm_T M own cc nx h kc ks pc lo st := by
  intro p e s m args below meth c H locs ad ad0 ls C A B L
  have hZ := (B.1.2.2.2.1.moved B.2.1).kept B.low
  exact va_gets C.1 C.2.1 hZ B.2.2.2.2.2.2.1 C.own (C.ts _ hl) (fun _ z => z) hd (kk p e s m args below meth c H locs ad ad0 ls C A B L)
theorem mt_sioobe {index : Nat} (hl : Cond.fieldLink own index "jdk/internal/util/Preconditions" "SIOOBE_FORMATTER" "Ljava/util/function/BiFunction;" ∈ mm_ws) (hd : decode cc pc = .ok (.getstatic index, 3)) (kk : ∀ v : Value, v = .null ∨ v = .ref 1003000 → mm_T M own cc nx h kc ks (pc + 3) lo (v :: st)) : mm_T M own cc nx h kc ks pc lo st := by
  intro p e s m args below meth c H locs ad ad0 ls C A B L
  rcases B.1.2.2.2.2.1 with hZ | hZ
  · exact va_gets C.1 C.2.1 ((hZ.moved B.2.1).kept B.low) B.2.2.2.2.2.2.1 C.own (C.ts _ hl) (fun _ z => z) hd (kk .null (Or.inl rfl) p e s m args below meth c H locs ad ad0 ls C A B L)
  · have := kk (.ref 1003000) (Or.inr rfl) p e s m args below meth c H locs ad ad0 ls C A B L
    rw [List.map_cons] at this
    simp only [mm_rv] at this
    rw [B.ext (by omega)] at this
    exact va_gets C.1 C.2.1 ((hZ.moved B.2.1).kept B.low) B.2.2.2.2.2.2.1 C.own (C.ts _ hl) (fun _ z => z) hd this
theorem mt_untold {index : Nat} (hl : Cond.fieldLink own index "CryptBank$Law" "UNTOLD" "[I" ∈ mm_ws) (hd : decode cc pc = .ok (.getstatic index, 3)) (kk : mm_T M own cc nx h kc ks (pc + 3) lo (.ref 1002000 :: st)) : mm_T M own cc nx h kc ks pc lo st := by
  intro p e s m args below meth c H locs ad ad0 ls C A B L
  have := kk p e s m args below meth c H locs ad ad0 ls C A B L
  rw [List.map_cons] at this
  simp only [mm_rv] at this
  rw [B.ext (by omega)] at this
  exact va_gets C.1 C.2.1 ((B.1.2.2.1.1.moved B.2.1).kept B.low) B.2.2.2.2.2.2.1 C.own (C.ts _ hl) (fun _ z => z) hd this
theorem mt_untoldN (hd : decode cc pc = .ok (.arraylength, 1)) (kk : mm_T M own cc nx h kc ks (pc + 1) lo (.int (nI 9) :: st)) : mm_T M own cc nx h kc ks pc lo (.ref 1002000 :: st) := by
  intro p e s m args below meth c H locs ad ad0 ls C A B L
  have := kk p e s m args below meth c H locs ad ad0 ls C A B L
  rw [List.map_cons] at this ⊢
  simp only [mm_rv] at this ⊢
  rw [B.ext (by omega)]
  exact va_tlen C.1 C.2.1 ((B.1.2.2.1.2.moved B.2.1).kept B.low) B.2.2.2.2.2.2.1 rfl hd this
/-! a call of a text's method -/
def mm_virJ (y : MethodName) : Prop := Cond.instanceMethod y ∈ mm_ws ∧ Cond.selects "java/lang/String" y y ∈ mm_ws
theorem mt_cX {y : MethodName} {ck : ByteArray} {nL d n index j : Nat} {rt : Option FieldType} {av stk : List Value} {v : Option Value} {h' : Nat → mm_E} (hM : mm_Con (mm_mG M) (mm_ml M) y ck nL rt d 0 0 (.ref (1000000 + j) :: av) nx h (mm_ret v nx h')) (hc : mm_cal y ck nL rt n) (hv : mm_virJ y) (hl : Cond.methodLink own index y ∈ mm_ws) (hd : decode cc pc = .ok (.invokevirtual index, 3)) (hj : j < 19) (hdep : d + 1 ≤ mm_d M) (hroom : kc ≤ mm_mc M ∧ ks ≤ mm_ms M) (hn : av.length = n) (hs : av.reverse ++ .ref (1000000 + j) :: st = stk) (hst : (st.map fun v => v.category).sum ≤ 8) (kk : mm_T M own cc nx h' kc ks (pc + 3) lo (v.toList ++ st)) : mm_T M own cc nx h kc ks pc lo stk := by
  subst hs
  intro p e s m args below meth c H locs ad ad0 ls C A B L
  refine mm_after (st := st) (Po := mm_ret v nx h') (mc := 0) (ms := 0) (av := (Value.ref (ad (1000000 + j)) :: av.map (mm_rv ad)).toArray) C A B L ?_ hroom ?_ ?_
  · have hr := vk_recv B.strs hj B.2.2.2.2.2.2.1
    rw [← B.ext (by omega)] at hr
    refine vx_runV (S := ⟨C.1, C.2.1, C.2.2.1, C.own, C.ts⟩) (C := "java/lang/String") (hM ad) ⟨mm_callB C hc hl hdep, C.ts _ hv.1, C.ts _ hv.2⟩ ⟨mm_wd_blind, hr, fun U hU hW => ⟨rfl, B.wd hU hW.alike, B.2.2.2.2.2.2.2.2.warm hW⟩⟩ rfl (by rw [List.length_map]; exact hn) L.1 (by rw [List.map_append, List.map_reverse]; rfl) (lv_room (by rw [List.map_map]; exact (show (st.map ((fun v => v.category) ∘ mm_rv ad)).sum ≤ 8 by rw [show ((fun v : Value => v.category) ∘ mm_rv ad) = (fun v => v.category) from funext (mm_rv_cat ad)]; exact hst))) hd hroom
  · rintro w n k ⟨e1, rfl, rfl⟩
    cases e1
    exact ⟨rfl, kk⟩
  · rintro x n k ⟨e1, -⟩
    cases e1
end MMX
theorem virJ_length : mm_virJ yJ0_length_8abf5 := ⟨mm_in 538 (by decide +kernel) rfl, mm_in 539 (by decide +kernel) rfl⟩
theorem virJ_coder : mm_virJ yJ0_coder_7d493 := ⟨mm_in 542 (by decide +kernel) rfl, mm_in 543 (by decide +kernel) rfl⟩
theorem virJ_charAt : mm_virJ yJ0_charAt_5068e := ⟨mm_in 548 (by decide +kernel) rfl, mm_in 549 (by decide +kernel) rfl⟩
theorem virJ_isLatin1 : mm_virJ yJ0_isLatin1_aae02 := ⟨mm_in 552 (by decide +kernel) rfl, mm_in 553 (by decide +kernel) rfl⟩
theorem fs_compact : Cond.fieldLink RJ0 38 "java/lang/String" "COMPACT_STRINGS" "Z" ∈ mm_ws := mm_in 545 (by decide +kernel) rfl
theorem fs_sioobe : Cond.fieldLink RJ0 1053 "jdk/internal/util/Preconditions" "SIOOBE_FORMATTER" "Ljava/util/function/BiFunction;" ∈ mm_ws := mm_in 561 (by decide +kernel) rfl
theorem fs_value : Cond.fieldLink RJ0 9 "java/lang/String" "value" "[B" ∈ mm_ws := mm_in 1959 (by decide +kernel) rfl
theorem fs_coder : Cond.fieldLink RJ0 15 "java/lang/String" "coder" "B" ∈ mm_ws := mm_in 1960 (by decide +kernel) rfl
