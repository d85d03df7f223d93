/-! The law's own methods that call the class and catch what it throws. -/
def ouE (F : Nat → Int64) : mm_E := .inl (2, 1, .inr (.inl F))
def cvI : Value → Int64
  | .int x => x.toInt64
  | _ => 0
def cvL : Value → Int64
  | .long x => x
  | _ => 0
def cvZ : Value → Int64
  | .int x => if x = 0 then 0 else 1
  | _ => 0
/-- a call caught: what is answered lies in out, or the number of the row that took the exception comes back -/
def P_w (c1 : Int32) (cv : Value → Int64) (Po : mm_P) : mm_P := fun o n m => (∃ x, Po (.inr x) n m ∧ o = .inl (some (.int (if x = 0 then 1 else c1)))) ∨ ∃ v m0 F, Po (.inl (some v)) n m0 ∧ m0 215 = ouE F ∧ o = .inl (some (.int 0)) ∧ m = hset m0 215 (ouE (vp_updL F 0 (cv v)))
def WO (nx : Nat) (Po : mm_P) : Prop := ∀ v n m, Po (.inl v) n m → n = nx ∧ (∃ w, v = some (.int w)) ∧ ∃ F, m 215 = ouE F
def WOL (nx : Nat) (Po : mm_P) : Prop := ∀ v n m, Po (.inl v) n m → n = nx ∧ (∃ w, v = some (.long w)) ∧ ∃ F, m 215 = ouE F
section MWT
variable {M : mm_M} {own : String} {cc : ByteArray} {hh : List (Nat × Nat × Nat × Nat)} {nx : Nat} {h : Nat → mm_E} {kc ks pc : Nat} {lo : List (Option Value)} {st : List Value}
theorem mw_tailL {v : Int64} {F : Nat → Int64} {off : Int} {tgt : Nat} (d1 : decode cc pc = .ok (.lastore, 1)) (d2 : decode cc (pc + 1) = .ok (.goto off, 3)) (ht : ((pc + 1 : Nat) : Int) + off = (tgt : Int)) (d3 : decode cc tgt = .ok (.iconst 0, 1)) (d4 : decode cc (tgt + 1) = .ok (.ireturn, 1)) (hr : mm_rt M = some .int) (hx : 216 ≤ nx) (h215 : h 215 = ouE F) (hc : kc ≤ mm_mc M) (hs : ks ≤ mm_ms M) (hpo : mm_po M (.inl (some (.int 0))) nx (hset h 215 (ouE (vp_updL F 0 v)))) : mm_TW M own cc hh nx h kc ks pc lo [.long v, .int 0, .ref 215] := by
  refine mw_last d1 (by omega) h215 (by unfold vp_in; decide) ?_
  refine mw_goto d2 ht ?_
  refine mw_iconst d3 rfl ?_
  exact mw_iret hr d4 hc hs hpo
theorem mw_tail {v : Int32} {F : Nat → Int64} {off : Int} {tgt : Nat} (d0 : decode cc pc = .ok (.i2l, 1)) (d1 : decode cc (pc + 1) = .ok (.lastore, 1)) (d2 : decode cc (pc + 1 + 1) = .ok (.goto off, 3)) (ht : ((pc + 1 + 1 : Nat) : Int) + off = (tgt : Int)) (d3 : decode cc tgt = .ok (.iconst 0, 1)) (d4 : decode cc (tgt + 1) = .ok (.ireturn, 1)) (hr : mm_rt M = some .int) (hx : 216 ≤ nx) (h215 : h 215 = ouE F) (hc : kc ≤ mm_mc M) (hs : ks ≤ mm_ms M) (hpo : mm_po M (.inl (some (.int 0))) nx (hset h 215 (ouE (vp_updL F 0 v.toInt64)))) : mm_TW M own cc hh nx h kc ks pc lo [.int v, .int 0, .ref 215] := by
  refine mw_i2l d0 ?_
  exact mw_tailL d1 d2 ht d3 d4 hr hx h215 hc hs hpo
end MWT
theorem cl_L_13 : Cond.classLink RL 13 (mm_exc 1) ∈ mm_ws := mm_in 420 (by decide +kernel) rfl
theorem cl_L_31 : Cond.classLink RL 31 (mm_exc 0) ∈ mm_ws := mm_in 980 (by decide +kernel) rfl
section MWC
variable {G : mm_G} {l : Launch} {d nx : Nat} {h : Nat → mm_E} {fs : List Value} {Po : mm_P}
theorem calW_L_county : mm_calW yL_county cL_county 4 (some .int) [(0, 9, 12, 13)] 3 := ⟨mm_in 419 (by decide +kernel) rfl, mm_in 0 (by decide +kernel) rfl, ⟨by decide, by decide⟩, by decide +kernel, by decide⟩
theorem sta_L_county : Cond.static yL_county ∈ mm_ws := mm_in 418 (by decide +kernel) rfl
theorem w_county {a1 : Int32} (hM : mm_Con G l yX10_county cX10_county 2 (some .int) d 1 6 [.ref 0, .int a1] nx h Po) (hx : 216 ≤ nx) (h0 : h 0 = .inr (10, fs)) (hnc : va_Nc (mm_exc 1) (mm_exc 0) (mm_s0 G)) (hO : WO nx Po) (hX : ∀ x n m, Po (.inr x) n m → x = 1) : mm_ConW G l yL_county cL_county 4 (some .int) [(0, 9, 12, 13)] (d + 1) 1 6 [.ref 0, .int a1, .ref 215] nx h (P_w 1 cvI Po) := by
  refine mm_startW (lo := [some (.ref 0), some (.int a1), some (.ref 215), none]) pn_L rfl rfl (Nat.le_of_ble_eq_true rfl) ?_
  refine mw_aload_n (pc := 0) dL_county_0 rfl ?_
  refine mw_iconst (pc := 1) dL_county_1 rfl ?_
  refine mw_aload_n (pc := 2) dL_county_2 rfl ?_
  refine mw_iload_n (pc := 3) dL_county_3 rfl ?_
  refine mw_call (pc := 4) hM cal_X10_county vir_X10_county ml_L_7 dL_county_4 (by omega) h0 (Nat.le_refl _) ⟨(Nat.le_of_ble_eq_true rfl), (Nat.le_of_ble_eq_true rfl)⟩ rfl rfl (Nat.le_of_ble_eq_true rfl) rfl hnc (fun x n m hp => ?_) (fun v n m hp => ?_)
  · obtain rfl := hX x n m hp
    exact ⟨1, ⟨Or.inr rfl, [], 0, 9, 12, 13, [], rfl, by decide, by decide, by decide, cl_L_13, fun z hz => absurd hz List.not_mem_nil, 3, 1, 1, (Nat.le_of_ble_eq_true rfl), Or.inl ⟨rfl, 3, rfl, dL_county_12⟩, dL_county_13, rfl, dL_county_14⟩, Or.inl ⟨1, hp, rfl⟩⟩
  · obtain ⟨rfl, ⟨w, rfl⟩, F, hF⟩ := hO v n m hp
    exact ⟨rfl, mw_tail dL_county_7 dL_county_8 dL_county_9 rfl dL_county_15 dL_county_16 rfl hx hF (Nat.le_of_ble_eq_true rfl) (Nat.le_of_ble_eq_true rfl) (Or.inr ⟨.int w, m, F, hp, hF, rfl, rfl⟩)⟩
theorem calW_L_law : mm_calW yL_law cL_law 4 (some .int) [(0, 9, 12, 13)] 3 := ⟨mm_in 672 (by decide +kernel) rfl, mm_in 0 (by decide +kernel) rfl, ⟨by decide, by decide⟩, by decide +kernel, by decide⟩
theorem sta_L_law : Cond.static yL_law ∈ mm_ws := mm_in 671 (by decide +kernel) rfl
theorem w_law {a1 : Int32} (hM : mm_Con G l yX10_law cX10_law 2 (some .int) d 1 6 [.ref 0, .int a1] nx h Po) (hx : 216 ≤ nx) (h0 : h 0 = .inr (10, fs)) (hnc : va_Nc (mm_exc 1) (mm_exc 0) (mm_s0 G)) (hO : WO nx Po) (hX : ∀ x n m, Po (.inr x) n m → x = 1) : mm_ConW G l yL_law cL_law 4 (some .int) [(0, 9, 12, 13)] (d + 1) 1 6 [.ref 0, .int a1, .ref 215] nx h (P_w 1 cvI Po) := by
  refine mm_startW (lo := [some (.ref 0), some (.int a1), some (.ref 215), none]) pn_L rfl rfl (Nat.le_of_ble_eq_true rfl) ?_
  refine mw_aload_n (pc := 0) dL_law_0 rfl ?_
  refine mw_iconst (pc := 1) dL_law_1 rfl ?_
  refine mw_aload_n (pc := 2) dL_law_2 rfl ?_
  refine mw_iload_n (pc := 3) dL_law_3 rfl ?_
  refine mw_call (pc := 4) hM cal_X10_law vir_X10_law ml_L_15 dL_law_4 (by omega) h0 (Nat.le_refl _) ⟨(Nat.le_of_ble_eq_true rfl), (Nat.le_of_ble_eq_true rfl)⟩ rfl rfl (Nat.le_of_ble_eq_true rfl) rfl hnc (fun x n m hp => ?_) (fun v n m hp => ?_)
  · obtain rfl := hX x n m hp
    exact ⟨1, ⟨Or.inr rfl, [], 0, 9, 12, 13, [], rfl, by decide, by decide, by decide, cl_L_13, fun z hz => absurd hz List.not_mem_nil, 3, 1, 1, (Nat.le_of_ble_eq_true rfl), Or.inl ⟨rfl, 3, rfl, dL_law_12⟩, dL_law_13, rfl, dL_law_14⟩, Or.inl ⟨1, hp, rfl⟩⟩
  · obtain ⟨rfl, ⟨w, rfl⟩, F, hF⟩ := hO v n m hp
    exact ⟨rfl, mw_tail dL_law_7 dL_law_8 dL_law_9 rfl dL_law_15 dL_law_16 rfl hx hF (Nat.le_of_ble_eq_true rfl) (Nat.le_of_ble_eq_true rfl) (Or.inr ⟨.int w, m, F, hp, hF, rfl, rfl⟩)⟩
theorem calW_L_work : mm_calW yL_work cL_work 4 (some .int) [(0, 9, 12, 13)] 3 := ⟨mm_in 737 (by decide +kernel) rfl, mm_in 0 (by decide +kernel) rfl, ⟨by decide, by decide⟩, by decide +kernel, by decide⟩
theorem sta_L_work : Cond.static yL_work ∈ mm_ws := mm_in 736 (by decide +kernel) rfl
theorem w_work {a1 : Int32} (hM : mm_Con G l yX10_work cX10_work 2 (some .int) d 1 6 [.ref 0, .int a1] nx h Po) (hx : 216 ≤ nx) (h0 : h 0 = .inr (10, fs)) (hnc : va_Nc (mm_exc 1) (mm_exc 0) (mm_s0 G)) (hO : WO nx Po) (hX : ∀ x n m, Po (.inr x) n m → x = 1) : mm_ConW G l yL_work cL_work 4 (some .int) [(0, 9, 12, 13)] (d + 1) 1 6 [.ref 0, .int a1, .ref 215] nx h (P_w 1 cvI Po) := by
  refine mm_startW (lo := [some (.ref 0), some (.int a1), some (.ref 215), none]) pn_L rfl rfl (Nat.le_of_ble_eq_true rfl) ?_
  refine mw_aload_n (pc := 0) dL_work_0 rfl ?_
  refine mw_iconst (pc := 1) dL_work_1 rfl ?_
  refine mw_aload_n (pc := 2) dL_work_2 rfl ?_
  refine mw_iload_n (pc := 3) dL_work_3 rfl ?_
  refine mw_call (pc := 4) hM cal_X10_work vir_X10_work ml_L_18 dL_work_4 (by omega) h0 (Nat.le_refl _) ⟨(Nat.le_of_ble_eq_true rfl), (Nat.le_of_ble_eq_true rfl)⟩ rfl rfl (Nat.le_of_ble_eq_true rfl) rfl hnc (fun x n m hp => ?_) (fun v n m hp => ?_)
  · obtain rfl := hX x n m hp
    exact ⟨1, ⟨Or.inr rfl, [], 0, 9, 12, 13, [], rfl, by decide, by decide, by decide, cl_L_13, fun z hz => absurd hz List.not_mem_nil, 3, 1, 1, (Nat.le_of_ble_eq_true rfl), Or.inl ⟨rfl, 3, rfl, dL_work_12⟩, dL_work_13, rfl, dL_work_14⟩, Or.inl ⟨1, hp, rfl⟩⟩
  · obtain ⟨rfl, ⟨w, rfl⟩, F, hF⟩ := hO v n m hp
    exact ⟨rfl, mw_tail dL_work_7 dL_work_8 dL_work_9 rfl dL_work_15 dL_work_16 rfl hx hF (Nat.le_of_ble_eq_true rfl) (Nat.le_of_ble_eq_true rfl) (Or.inr ⟨.int w, m, F, hp, hF, rfl, rfl⟩)⟩
theorem calW_L_book : mm_calW yL_book cL_book 4 (some .int) [(0, 9, 12, 13)] 3 := ⟨mm_in 914 (by decide +kernel) rfl, mm_in 0 (by decide +kernel) rfl, ⟨by decide, by decide⟩, by decide +kernel, by decide⟩
theorem sta_L_book : Cond.static yL_book ∈ mm_ws := mm_in 913 (by decide +kernel) rfl
theorem w_book {a1 : Int32} (hM : mm_Con G l yX10_book cX10_book 2 (some .int) d 1 6 [.ref 0, .int a1] nx h Po) (hx : 216 ≤ nx) (h0 : h 0 = .inr (10, fs)) (hnc : va_Nc (mm_exc 1) (mm_exc 0) (mm_s0 G)) (hO : WO nx Po) (hX : ∀ x n m, Po (.inr x) n m → x = 1) : mm_ConW G l yL_book cL_book 4 (some .int) [(0, 9, 12, 13)] (d + 1) 1 6 [.ref 0, .int a1, .ref 215] nx h (P_w 1 cvI Po) := by
  refine mm_startW (lo := [some (.ref 0), some (.int a1), some (.ref 215), none]) pn_L rfl rfl (Nat.le_of_ble_eq_true rfl) ?_
  refine mw_aload_n (pc := 0) dL_book_0 rfl ?_
  refine mw_iconst (pc := 1) dL_book_1 rfl ?_
  refine mw_aload_n (pc := 2) dL_book_2 rfl ?_
  refine mw_iload_n (pc := 3) dL_book_3 rfl ?_
  refine mw_call (pc := 4) hM cal_X10_book vir_X10_book ml_L_21 dL_book_4 (by omega) h0 (Nat.le_refl _) ⟨(Nat.le_of_ble_eq_true rfl), (Nat.le_of_ble_eq_true rfl)⟩ rfl rfl (Nat.le_of_ble_eq_true rfl) rfl hnc (fun x n m hp => ?_) (fun v n m hp => ?_)
  · obtain rfl := hX x n m hp
    exact ⟨1, ⟨Or.inr rfl, [], 0, 9, 12, 13, [], rfl, by decide, by decide, by decide, cl_L_13, fun z hz => absurd hz List.not_mem_nil, 3, 1, 1, (Nat.le_of_ble_eq_true rfl), Or.inl ⟨rfl, 3, rfl, dL_book_12⟩, dL_book_13, rfl, dL_book_14⟩, Or.inl ⟨1, hp, rfl⟩⟩
  · obtain ⟨rfl, ⟨w, rfl⟩, F, hF⟩ := hO v n m hp
    exact ⟨rfl, mw_tail dL_book_7 dL_book_8 dL_book_9 rfl dL_book_15 dL_book_16 rfl hx hF (Nat.le_of_ble_eq_true rfl) (Nat.le_of_ble_eq_true rfl) (Or.inr ⟨.int w, m, F, hp, hF, rfl, rfl⟩)⟩
theorem calW_L_told : mm_calW yL_told cL_told 4 (some .int) [(0, 9, 12, 13)] 3 := ⟨mm_in 939 (by decide +kernel) rfl, mm_in 0 (by decide +kernel) rfl, ⟨by decide, by decide⟩, by decide +kernel, by decide⟩
theorem sta_L_told : Cond.static yL_told ∈ mm_ws := mm_in 938 (by decide +kernel) rfl
theorem w_told {a1 : Int32} (hM : mm_Con G l yX10_told cX10_told 3 (some .int) d 8 48 [.ref 0, .int a1] nx h Po) (hx : 216 ≤ nx) (h0 : h 0 = .inr (10, fs)) (hnc : va_Nc (mm_exc 1) (mm_exc 0) (mm_s0 G)) (hO : WO nx Po) (hX : ∀ x n m, Po (.inr x) n m → x = 1) : mm_ConW G l yL_told cL_told 4 (some .int) [(0, 9, 12, 13)] (d + 1) 8 48 [.ref 0, .int a1, .ref 215] nx h (P_w 1 cvI Po) := by
  refine mm_startW (lo := [some (.ref 0), some (.int a1), some (.ref 215), none]) pn_L rfl rfl (Nat.le_of_ble_eq_true rfl) ?_
  refine mw_aload_n (pc := 0) dL_told_0 rfl ?_
  refine mw_iconst (pc := 1) dL_told_1 rfl ?_
  refine mw_aload_n (pc := 2) dL_told_2 rfl ?_
  refine mw_iload_n (pc := 3) dL_told_3 rfl ?_
  refine mw_call (pc := 4) hM cal_X10_told vir_X10_told ml_L_24 dL_told_4 (by omega) h0 (Nat.le_refl _) ⟨(Nat.le_of_ble_eq_true rfl), (Nat.le_of_ble_eq_true rfl)⟩ rfl rfl (Nat.le_of_ble_eq_true rfl) rfl hnc (fun x n m hp => ?_) (fun v n m hp => ?_)
  · obtain rfl := hX x n m hp
    exact ⟨1, ⟨Or.inr rfl, [], 0, 9, 12, 13, [], rfl, by decide, by decide, by decide, cl_L_13, fun z hz => absurd hz List.not_mem_nil, 3, 1, 1, (Nat.le_of_ble_eq_true rfl), Or.inl ⟨rfl, 3, rfl, dL_told_12⟩, dL_told_13, rfl, dL_told_14⟩, Or.inl ⟨1, hp, rfl⟩⟩
  · obtain ⟨rfl, ⟨w, rfl⟩, F, hF⟩ := hO v n m hp
    exact ⟨rfl, mw_tail dL_told_7 dL_told_8 dL_told_9 rfl dL_told_15 dL_told_16 rfl hx hF (Nat.le_of_ble_eq_true rfl) (Nat.le_of_ble_eq_true rfl) (Or.inr ⟨.int w, m, F, hp, hF, rfl, rfl⟩)⟩
theorem calW_L_slab : mm_calW yL_slab cL_slab 5 (some .int) [(0, 10, 13, 31), (0, 10, 17, 13)] 4 := ⟨mm_in 979 (by decide +kernel) rfl, mm_in 0 (by decide +kernel) rfl, ⟨by decide, by decide⟩, by decide +kernel, by decide⟩
theorem sta_L_slab : Cond.static yL_slab ∈ mm_ws := mm_in 978 (by decide +kernel) rfl
theorem w_slab {a1 a2 : Int32} (hM : mm_Con G l yX10_slab cX10_slab 4 (some .int) d 8 48 [.ref 0, .int a1, .int a2] nx h Po) (hx : 216 ≤ nx) (h0 : h 0 = .inr (10, fs)) (hnc : va_Nc (mm_exc 1) (mm_exc 0) (mm_s0 G)) (hO : WO nx Po) (hX : ∀ x n m, Po (.inr x) n m → x = 0 ∨ x = 1) : mm_ConW G l yL_slab cL_slab 5 (some .int) [(0, 10, 13, 31), (0, 10, 17, 13)] (d + 1) 8 48 [.ref 0, .int a1, .int a2, .ref 215] nx h (P_w 2 cvI Po) := by
  refine mm_startW (lo := [some (.ref 0), some (.int a1), some (.int a2), some (.ref 215), none]) pn_L rfl rfl (Nat.le_of_ble_eq_true rfl) ?_
  refine mw_aload_n (pc := 0) dL_slab_0 rfl ?_
  refine mw_iconst (pc := 1) dL_slab_1 rfl ?_
  refine mw_aload_n (pc := 2) dL_slab_2 rfl ?_
  refine mw_iload_n (pc := 3) dL_slab_3 rfl ?_
  refine mw_iload_n (pc := 4) dL_slab_4 rfl ?_
  refine mw_call (pc := 5) hM cal_X10_slab vir_X10_slab ml_L_27 dL_slab_5 (by omega) h0 (Nat.le_refl _) ⟨(Nat.le_of_ble_eq_true rfl), (Nat.le_of_ble_eq_true rfl)⟩ rfl rfl (Nat.le_of_ble_eq_true rfl) rfl hnc (fun x n m hp => ?_) (fun v n m hp => ?_)
  · rcases hX x n m hp with rfl | rfl
    · exact ⟨1, ⟨Or.inl rfl, [], 0, 10, 13, 31, [(0, 10, 17, 13)], rfl, by decide, by decide, by decide, cl_L_31, fun z hz => absurd hz List.not_mem_nil, 4, 2, 1, (Nat.le_of_ble_eq_true rfl), Or.inr ⟨rfl, dL_slab_13⟩, dL_slab_15, rfl, dL_slab_16⟩, Or.inl ⟨0, hp, rfl⟩⟩
    · exact ⟨2, ⟨Or.inr rfl, [(0, 10, 13, 31)], 0, 10, 17, 13, [], rfl, by decide, by decide, by decide, cl_L_13, fun z hz => by cases List.mem_singleton.mp hz; exact ⟨by decide, rfl, cl_L_31⟩, 4, 2, 2, (Nat.le_of_ble_eq_true rfl), Or.inr ⟨rfl, dL_slab_17⟩, dL_slab_19, rfl, dL_slab_20⟩, Or.inl ⟨1, hp, rfl⟩⟩
  · obtain ⟨rfl, ⟨w, rfl⟩, F, hF⟩ := hO v n m hp
    exact ⟨rfl, mw_tail dL_slab_8 dL_slab_9 dL_slab_10 rfl dL_slab_21 dL_slab_22 rfl hx hF (Nat.le_of_ble_eq_true rfl) (Nat.le_of_ble_eq_true rfl) (Or.inr ⟨.int w, m, F, hp, hF, rfl, rfl⟩)⟩
theorem calW_L_soul : mm_calW yL_soul cL_soul 5 (some .int) [(0, 10, 13, 31), (0, 10, 17, 13)] 4 := ⟨mm_in 1016 (by decide +kernel) rfl, mm_in 0 (by decide +kernel) rfl, ⟨by decide, by decide⟩, by decide +kernel, by decide⟩
theorem sta_L_soul : Cond.static yL_soul ∈ mm_ws := mm_in 1015 (by decide +kernel) rfl
theorem w_soul {a1 a2 : Int32} (hM : mm_Con G l yX10_soul cX10_soul 4 (some .int) d 8 48 [.ref 0, .int a1, .int a2] nx h Po) (hx : 216 ≤ nx) (h0 : h 0 = .inr (10, fs)) (hnc : va_Nc (mm_exc 1) (mm_exc 0) (mm_s0 G)) (hO : WO nx Po) (hX : ∀ x n m, Po (.inr x) n m → x = 0 ∨ x = 1) : mm_ConW G l yL_soul cL_soul 5 (some .int) [(0, 10, 13, 31), (0, 10, 17, 13)] (d + 1) 8 48 [.ref 0, .int a1, .int a2, .ref 215] nx h (P_w 2 cvI Po) := by
  refine mm_startW (lo := [some (.ref 0), some (.int a1), some (.int a2), some (.ref 215), none]) pn_L rfl rfl (Nat.le_of_ble_eq_true rfl) ?_
  refine mw_aload_n (pc := 0) dL_soul_0 rfl ?_
  refine mw_iconst (pc := 1) dL_soul_1 rfl ?_
  refine mw_aload_n (pc := 2) dL_soul_2 rfl ?_
  refine mw_iload_n (pc := 3) dL_soul_3 rfl ?_
  refine mw_iload_n (pc := 4) dL_soul_4 rfl ?_
  refine mw_call (pc := 5) hM cal_X10_soul vir_X10_soul ml_L_33 dL_soul_5 (by omega) h0 (Nat.le_refl _) ⟨(Nat.le_of_ble_eq_true rfl), (Nat.le_of_ble_eq_true rfl)⟩ rfl rfl (Nat.le_of_ble_eq_true rfl) rfl hnc (fun x n m hp => ?_) (fun v n m hp => ?_)
  · rcases hX x n m hp with rfl | rfl
    · exact ⟨1, ⟨Or.inl rfl, [], 0, 10, 13, 31, [(0, 10, 17, 13)], rfl, by decide, by decide, by decide, cl_L_31, fun z hz => absurd hz List.not_mem_nil, 4, 2, 1, (Nat.le_of_ble_eq_true rfl), Or.inr ⟨rfl, dL_soul_13⟩, dL_soul_15, rfl, dL_soul_16⟩, Or.inl ⟨0, hp, rfl⟩⟩
    · exact ⟨2, ⟨Or.inr rfl, [(0, 10, 13, 31)], 0, 10, 17, 13, [], rfl, by decide, by decide, by decide, cl_L_13, fun z hz => by cases List.mem_singleton.mp hz; exact ⟨by decide, rfl, cl_L_31⟩, 4, 2, 2, (Nat.le_of_ble_eq_true rfl), Or.inr ⟨rfl, dL_soul_17⟩, dL_soul_19, rfl, dL_soul_20⟩, Or.inl ⟨1, hp, rfl⟩⟩
  · obtain ⟨rfl, ⟨w, rfl⟩, F, hF⟩ := hO v n m hp
    exact ⟨rfl, mw_tail dL_soul_8 dL_soul_9 dL_soul_10 rfl dL_soul_21 dL_soul_22 rfl hx hF (Nat.le_of_ble_eq_true rfl) (Nat.le_of_ble_eq_true rfl) (Or.inr ⟨.int w, m, F, hp, hF, rfl, rfl⟩)⟩
theorem calW_L_loan : mm_calW yL_loan cL_loan 5 (some .int) [(0, 10, 13, 31), (0, 10, 17, 13)] 4 := ⟨mm_in 1033 (by decide +kernel) rfl, mm_in 0 (by decide +kernel) rfl, ⟨by decide, by decide⟩, by decide +kernel, by decide⟩
theorem sta_L_loan : Cond.static yL_loan ∈ mm_ws := mm_in 1032 (by decide +kernel) rfl
theorem w_loan {a1 a2 : Int32} (hM : mm_Con G l yX10_loan cX10_loan 3 (some .int) d 8 48 [.ref 0, .int a1, .int a2] nx h Po) (hx : 216 ≤ nx) (h0 : h 0 = .inr (10, fs)) (hnc : va_Nc (mm_exc 1) (mm_exc 0) (mm_s0 G)) (hO : WO nx Po) (hX : ∀ x n m, Po (.inr x) n m → x = 0 ∨ x = 1) : mm_ConW G l yL_loan cL_loan 5 (some .int) [(0, 10, 13, 31), (0, 10, 17, 13)] (d + 1) 8 48 [.ref 0, .int a1, .int a2, .ref 215] nx h (P_w 2 cvI Po) := by
  refine mm_startW (lo := [some (.ref 0), some (.int a1), some (.int a2), some (.ref 215), none]) pn_L rfl rfl (Nat.le_of_ble_eq_true rfl) ?_
  refine mw_aload_n (pc := 0) dL_loan_0 rfl ?_
  refine mw_iconst (pc := 1) dL_loan_1 rfl ?_
  refine mw_aload_n (pc := 2) dL_loan_2 rfl ?_
  refine mw_iload_n (pc := 3) dL_loan_3 rfl ?_
  refine mw_iload_n (pc := 4) dL_loan_4 rfl ?_
  refine mw_call (pc := 5) hM cal_X10_loan vir_X10_loan ml_L_36 dL_loan_5 (by omega) h0 (Nat.le_refl _) ⟨(Nat.le_of_ble_eq_true rfl), (Nat.le_of_ble_eq_true rfl)⟩ rfl rfl (Nat.le_of_ble_eq_true rfl) rfl hnc (fun x n m hp => ?_) (fun v n m hp => ?_)
  · rcases hX x n m hp with rfl | rfl
    · exact ⟨1, ⟨Or.inl rfl, [], 0, 10, 13, 31, [(0, 10, 17, 13)], rfl, by decide, by decide, by decide, cl_L_31, fun z hz => absurd hz List.not_mem_nil, 4, 2, 1, (Nat.le_of_ble_eq_true rfl), Or.inr ⟨rfl, dL_loan_13⟩, dL_loan_15, rfl, dL_loan_16⟩, Or.inl ⟨0, hp, rfl⟩⟩
    · exact ⟨2, ⟨Or.inr rfl, [(0, 10, 13, 31)], 0, 10, 17, 13, [], rfl, by decide, by decide, by decide, cl_L_13, fun z hz => by cases List.mem_singleton.mp hz; exact ⟨by decide, rfl, cl_L_31⟩, 4, 2, 2, (Nat.le_of_ble_eq_true rfl), Or.inr ⟨rfl, dL_loan_17⟩, dL_loan_19, rfl, dL_loan_20⟩, Or.inl ⟨1, hp, rfl⟩⟩
  · obtain ⟨rfl, ⟨w, rfl⟩, F, hF⟩ := hO v n m hp
    exact ⟨rfl, mw_tail dL_loan_8 dL_loan_9 dL_loan_10 rfl dL_loan_21 dL_loan_22 rfl hx hF (Nat.le_of_ble_eq_true rfl) (Nat.le_of_ble_eq_true rfl) (Or.inr ⟨.int w, m, F, hp, hF, rfl, rfl⟩)⟩
theorem calW_L_would : mm_calW yL_would cL_would 11 (some .int) [(0, 22, 25, 13)] 10 := ⟨mm_in 1043 (by decide +kernel) rfl, mm_in 0 (by decide +kernel) rfl, ⟨by decide, by decide⟩, by decide +kernel, by decide⟩
theorem sta_L_would : Cond.static yL_would ∈ mm_ws := mm_in 1042 (by decide +kernel) rfl
theorem w_would {a1 a2 a3 a4 a5 a6 a7 a8 : Int32} (hM : mm_Con G l yX10_would cX10_would 9 (some .int) d 8 48 [.ref 0, .int a1, .int a2, .int a3, .int a4, .int a5, .int a6, .int a7, .int a8] nx h Po) (hx : 216 ≤ nx) (h0 : h 0 = .inr (10, fs)) (hnc : va_Nc (mm_exc 1) (mm_exc 0) (mm_s0 G)) (hO : WO nx Po) (hX : ∀ x n m, Po (.inr x) n m → x = 1) : mm_ConW G l yL_would cL_would 11 (some .int) [(0, 22, 25, 13)] (d + 1) 8 48 [.ref 0, .int a1, .int a2, .int a3, .int a4, .int a5, .int a6, .int a7, .int a8, .ref 215] nx h (P_w 1 cvI Po) := by
  refine mm_startW (lo := [some (.ref 0), some (.int a1), some (.int a2), some (.int a3), some (.int a4), some (.int a5), some (.int a6), some (.int a7), some (.int a8), some (.ref 215), none]) pn_L rfl rfl (Nat.le_of_ble_eq_true rfl) ?_
  refine mw_aload (pc := 0) dL_would_0 rfl ?_
  refine mw_iconst (pc := 2) dL_would_2 rfl ?_
  refine mw_aload_n (pc := 3) dL_would_3 rfl ?_
  refine mw_iload_n (pc := 4) dL_would_4 rfl ?_
  refine mw_iload_n (pc := 5) dL_would_5 rfl ?_
  refine mw_iload_n (pc := 6) dL_would_6 rfl ?_
  refine mw_iload (pc := 7) dL_would_7 rfl ?_
  refine mw_iload (pc := 9) dL_would_9 rfl ?_
  refine mw_iload (pc := 11) dL_would_11 rfl ?_
  refine mw_iload (pc := 13) dL_would_13 rfl ?_
  refine mw_iload (pc := 15) dL_would_15 rfl ?_
  refine mw_call (pc := 17) hM cal_X10_would vir_X10_would ml_L_39 dL_would_17 (by omega) h0 (Nat.le_refl _) ⟨(Nat.le_of_ble_eq_true rfl), (Nat.le_of_ble_eq_true rfl)⟩ rfl rfl (Nat.le_of_ble_eq_true rfl) rfl hnc (fun x n m hp => ?_) (fun v n m hp => ?_)
  · obtain rfl := hX x n m hp
    exact ⟨1, ⟨Or.inr rfl, [], 0, 22, 25, 13, [], rfl, by decide, by decide, by decide, cl_L_13, fun z hz => absurd hz List.not_mem_nil, 10, 2, 1, (Nat.le_of_ble_eq_true rfl), Or.inr ⟨rfl, dL_would_25⟩, dL_would_27, rfl, dL_would_28⟩, Or.inl ⟨1, hp, rfl⟩⟩
  · obtain ⟨rfl, ⟨w, rfl⟩, F, hF⟩ := hO v n m hp
    exact ⟨rfl, mw_tail dL_would_20 dL_would_21 dL_would_22 rfl dL_would_29 dL_would_30 rfl hx hF (Nat.le_of_ble_eq_true rfl) (Nat.le_of_ble_eq_true rfl) (Or.inr ⟨.int w, m, F, hp, hF, rfl, rfl⟩)⟩
theorem calW_L_lends : mm_calW yL_lends cL_lends 6 (some .int) [(0, 19, 22, 31), (0, 19, 26, 13)] 5 := ⟨mm_in 1053 (by decide +kernel) rfl, mm_in 0 (by decide +kernel) rfl, ⟨by decide, by decide⟩, by decide +kernel, by decide⟩
theorem sta_L_lends : Cond.static yL_lends ∈ mm_ws := mm_in 1052 (by decide +kernel) rfl
theorem w_lends {a1 a2 a3 : Int32} (hM : mm_Con G l yX10_lends cX10_lends 4 (some .boolean) d 8 48 [.ref 0, .int a1, .int a2, .int a3] nx h Po) (hx : 216 ≤ nx) (h0 : h 0 = .inr (10, fs)) (hnc : va_Nc (mm_exc 1) (mm_exc 0) (mm_s0 G)) (hO : WO nx Po) (hX : ∀ x n m, Po (.inr x) n m → x = 0 ∨ x = 1) : mm_ConW G l yL_lends cL_lends 6 (some .int) [(0, 19, 22, 31), (0, 19, 26, 13)] (d + 1) 8 48 [.ref 0, .int a1, .int a2, .int a3, .ref 215] nx h (P_w 2 cvZ Po) := by
  refine mm_startW (lo := [some (.ref 0), some (.int a1), some (.int a2), some (.int a3), some (.ref 215), none]) pn_L rfl rfl (Nat.le_of_ble_eq_true rfl) ?_
  refine mw_aload (pc := 0) dL_lends_0 rfl ?_
  refine mw_iconst (pc := 2) dL_lends_2 rfl ?_
  refine mw_aload_n (pc := 3) dL_lends_3 rfl ?_
  refine mw_iload_n (pc := 4) dL_lends_4 rfl ?_
  refine mw_iload_n (pc := 5) dL_lends_5 rfl ?_
  refine mw_iload_n (pc := 6) dL_lends_6 rfl ?_
  refine mw_call (pc := 7) hM cal_X10_lends vir_X10_lends ml_L_43 dL_lends_7 (by omega) h0 (Nat.le_refl _) ⟨(Nat.le_of_ble_eq_true rfl), (Nat.le_of_ble_eq_true rfl)⟩ rfl rfl (Nat.le_of_ble_eq_true rfl) rfl hnc (fun x n m hp => ?_) (fun v n m hp => ?_)
  · rcases hX x n m hp with rfl | rfl
    · exact ⟨1, ⟨Or.inl rfl, [], 0, 19, 22, 31, [(0, 19, 26, 13)], rfl, by decide, by decide, by decide, cl_L_31, fun z hz => absurd hz List.not_mem_nil, 5, 2, 1, (Nat.le_of_ble_eq_true rfl), Or.inr ⟨rfl, dL_lends_22⟩, dL_lends_24, rfl, dL_lends_25⟩, Or.inl ⟨0, hp, rfl⟩⟩
    · exact ⟨2, ⟨Or.inr rfl, [(0, 19, 22, 31)], 0, 19, 26, 13, [], rfl, by decide, by decide, by decide, cl_L_13, fun z hz => by cases List.mem_singleton.mp hz; exact ⟨by decide, rfl, cl_L_31⟩, 5, 2, 2, (Nat.le_of_ble_eq_true rfl), Or.inr ⟨rfl, dL_lends_26⟩, dL_lends_28, rfl, dL_lends_29⟩, Or.inl ⟨1, hp, rfl⟩⟩
  · obtain ⟨rfl, ⟨w, rfl⟩, F, hF⟩ := hO v n m hp
    refine ⟨rfl, mw_if_eq (pc := 10) (tgt := 17) dL_lends_10 rfl (fun hz => ?_) (fun hz => ?_)⟩
    · refine mw_lconst (pc := 17) dL_lends_17 rfl ?_
      exact mw_tailL dL_lends_18 dL_lends_19 rfl dL_lends_30 dL_lends_31 rfl hx hF (Nat.le_of_ble_eq_true rfl) (Nat.le_of_ble_eq_true rfl) (Or.inr ⟨.int w, m, F, hp, hF, rfl, by rw [show cvZ (.int w) = 0 from if_pos hz]; rfl⟩)
    · refine mw_lconst (pc := 13) dL_lends_13 rfl ?_
      refine mw_goto (pc := 14) (tgt := 18) dL_lends_14 rfl ?_
      exact mw_tailL dL_lends_18 dL_lends_19 rfl dL_lends_30 dL_lends_31 rfl hx hF (Nat.le_of_ble_eq_true rfl) (Nat.le_of_ble_eq_true rfl) (Or.inr ⟨.int w, m, F, hp, hF, rfl, by rw [show cvZ (.int w) = 1 from if_neg hz]; rfl⟩)
theorem calW_L_ahead : mm_calW yL_ahead cL_ahead 5 (some .int) [(0, 10, 13, 13)] 4 := ⟨mm_in 1060 (by decide +kernel) rfl, mm_in 0 (by decide +kernel) rfl, ⟨by decide, by decide⟩, by decide +kernel, by decide⟩
theorem sta_L_ahead : Cond.static yL_ahead ∈ mm_ws := mm_in 1059 (by decide +kernel) rfl
theorem w_ahead {a1 a2 : Int32} (hM : mm_Con G l yX10_ahead cX10_ahead 4 (some .int) d 8 48 [.ref 0, .int a1, .int a2] nx h Po) (hx : 216 ≤ nx) (h0 : h 0 = .inr (10, fs)) (hnc : va_Nc (mm_exc 1) (mm_exc 0) (mm_s0 G)) (hO : WO nx Po) (hX : ∀ x n m, Po (.inr x) n m → x = 1) : mm_ConW G l yL_ahead cL_ahead 5 (some .int) [(0, 10, 13, 13)] (d + 1) 8 48 [.ref 0, .int a1, .int a2, .ref 215] nx h (P_w 1 cvI Po) := by
  refine mm_startW (lo := [some (.ref 0), some (.int a1), some (.int a2), some (.ref 215), none]) pn_L rfl rfl (Nat.le_of_ble_eq_true rfl) ?_
  refine mw_aload_n (pc := 0) dL_ahead_0 rfl ?_
  refine mw_iconst (pc := 1) dL_ahead_1 rfl ?_
  refine mw_aload_n (pc := 2) dL_ahead_2 rfl ?_
  refine mw_iload_n (pc := 3) dL_ahead_3 rfl ?_
  refine mw_iload_n (pc := 4) dL_ahead_4 rfl ?_
  refine mw_call (pc := 5) hM cal_X10_ahead vir_X10_ahead ml_L_47 dL_ahead_5 (by omega) h0 (Nat.le_refl _) ⟨(Nat.le_of_ble_eq_true rfl), (Nat.le_of_ble_eq_true rfl)⟩ rfl rfl (Nat.le_of_ble_eq_true rfl) rfl hnc (fun x n m hp => ?_) (fun v n m hp => ?_)
  · obtain rfl := hX x n m hp
    exact ⟨1, ⟨Or.inr rfl, [], 0, 10, 13, 13, [], rfl, by decide, by decide, by decide, cl_L_13, fun z hz => absurd hz List.not_mem_nil, 4, 2, 1, (Nat.le_of_ble_eq_true rfl), Or.inr ⟨rfl, dL_ahead_13⟩, dL_ahead_15, rfl, dL_ahead_16⟩, Or.inl ⟨1, hp, rfl⟩⟩
  · obtain ⟨rfl, ⟨w, rfl⟩, F, hF⟩ := hO v n m hp
    exact ⟨rfl, mw_tail dL_ahead_8 dL_ahead_9 dL_ahead_10 rfl dL_ahead_17 dL_ahead_18 rfl hx hF (Nat.le_of_ble_eq_true rfl) (Nat.le_of_ble_eq_true rfl) (Or.inr ⟨.int w, m, F, hp, hF, rfl, rfl⟩)⟩
theorem calW_L_cheapest : mm_calW yL_cheapest cL_cheapest 7 (some .int) [(0, 14, 17, 31), (0, 14, 21, 13)] 6 := ⟨mm_in 1069 (by decide +kernel) rfl, mm_in 0 (by decide +kernel) rfl, ⟨by decide, by decide⟩, by decide +kernel, by decide⟩
theorem sta_L_cheapest : Cond.static yL_cheapest ∈ mm_ws := mm_in 1068 (by decide +kernel) rfl
theorem w_cheapest {a1 a2 a3 a4 : Int32} (hM : mm_Con G l yX10_cheapest cX10_cheapest 9 (some .int) d 8 48 [.ref 0, .int a1, .int a2, .int a3, .int a4] nx h Po) (hx : 216 ≤ nx) (h0 : h 0 = .inr (10, fs)) (hnc : va_Nc (mm_exc 1) (mm_exc 0) (mm_s0 G)) (hO : WO nx Po) (hX : ∀ x n m, Po (.inr x) n m → x = 0 ∨ x = 1) : mm_ConW G l yL_cheapest cL_cheapest 7 (some .int) [(0, 14, 17, 31), (0, 14, 21, 13)] (d + 1) 8 48 [.ref 0, .int a1, .int a2, .int a3, .int a4, .ref 215] nx h (P_w 2 cvI Po) := by
  refine mm_startW (lo := [some (.ref 0), some (.int a1), some (.int a2), some (.int a3), some (.int a4), some (.ref 215), none]) pn_L rfl rfl (Nat.le_of_ble_eq_true rfl) ?_
  refine mw_aload (pc := 0) dL_cheapest_0 rfl ?_
  refine mw_iconst (pc := 2) dL_cheapest_2 rfl ?_
  refine mw_aload_n (pc := 3) dL_cheapest_3 rfl ?_
  refine mw_iload_n (pc := 4) dL_cheapest_4 rfl ?_
  refine mw_iload_n (pc := 5) dL_cheapest_5 rfl ?_
  refine mw_iload_n (pc := 6) dL_cheapest_6 rfl ?_
  refine mw_iload (pc := 7) dL_cheapest_7 rfl ?_
  refine mw_call (pc := 9) hM cal_X10_cheapest vir_X10_cheapest ml_L_50 dL_cheapest_9 (by omega) h0 (Nat.le_refl _) ⟨(Nat.le_of_ble_eq_true rfl), (Nat.le_of_ble_eq_true rfl)⟩ rfl rfl (Nat.le_of_ble_eq_true rfl) rfl hnc (fun x n m hp => ?_) (fun v n m hp => ?_)
  · rcases hX x n m hp with rfl | rfl
    · exact ⟨1, ⟨Or.inl rfl, [], 0, 14, 17, 31, [(0, 14, 21, 13)], rfl, by decide, by decide, by decide, cl_L_31, fun z hz => absurd hz List.not_mem_nil, 6, 2, 1, (Nat.le_of_ble_eq_true rfl), Or.inr ⟨rfl, dL_cheapest_17⟩, dL_cheapest_19, rfl, dL_cheapest_20⟩, Or.inl ⟨0, hp, rfl⟩⟩
    · exact ⟨2, ⟨Or.inr rfl, [(0, 14, 17, 31)], 0, 14, 21, 13, [], rfl, by decide, by decide, by decide, cl_L_13, fun z hz => by cases List.mem_singleton.mp hz; exact ⟨by decide, rfl, cl_L_31⟩, 6, 2, 2, (Nat.le_of_ble_eq_true rfl), Or.inr ⟨rfl, dL_cheapest_21⟩, dL_cheapest_23, rfl, dL_cheapest_24⟩, Or.inl ⟨1, hp, rfl⟩⟩
  · obtain ⟨rfl, ⟨w, rfl⟩, F, hF⟩ := hO v n m hp
    exact ⟨rfl, mw_tail dL_cheapest_12 dL_cheapest_13 dL_cheapest_14 rfl dL_cheapest_25 dL_cheapest_26 rfl hx hF (Nat.le_of_ble_eq_true rfl) (Nat.le_of_ble_eq_true rfl) (Or.inr ⟨.int w, m, F, hp, hF, rfl, rfl⟩)⟩
theorem calW_L_clears : mm_calW yL_clears cL_clears 4 (some .int) [(0, 9, 12, 31)] 3 := ⟨mm_in 1080 (by decide +kernel) rfl, mm_in 0 (by decide +kernel) rfl, ⟨by decide, by decide⟩, by decide +kernel, by decide⟩
theorem sta_L_clears : Cond.static yL_clears ∈ mm_ws := mm_in 1079 (by decide +kernel) rfl
theorem w_clears {a1 : Int32} (hM : mm_Con G l yX10_clears cX10_clears 6 (some .int) d 8 48 [.ref 0, .int a1] nx h Po) (hx : 216 ≤ nx) (h0 : h 0 = .inr (10, fs)) (hnc : va_Nc (mm_exc 1) (mm_exc 0) (mm_s0 G)) (hO : WO nx Po) (hX : ∀ x n m, Po (.inr x) n m → x = 0) : mm_ConW G l yL_clears cL_clears 4 (some .int) [(0, 9, 12, 31)] (d + 1) 8 48 [.ref 0, .int a1, .ref 215] nx h (P_w 1 cvI Po) := by
  refine mm_startW (lo := [some (.ref 0), some (.int a1), some (.ref 215), none]) pn_L rfl rfl (Nat.le_of_ble_eq_true rfl) ?_
  refine mw_aload_n (pc := 0) dL_clears_0 rfl ?_
  refine mw_iconst (pc := 1) dL_clears_1 rfl ?_
  refine mw_aload_n (pc := 2) dL_clears_2 rfl ?_
  refine mw_iload_n (pc := 3) dL_clears_3 rfl ?_
  refine mw_call (pc := 4) hM cal_X10_clears vir_X10_clears ml_L_54 dL_clears_4 (by omega) h0 (Nat.le_refl _) ⟨(Nat.le_of_ble_eq_true rfl), (Nat.le_of_ble_eq_true rfl)⟩ rfl rfl (Nat.le_of_ble_eq_true rfl) rfl hnc (fun x n m hp => ?_) (fun v n m hp => ?_)
  · obtain rfl := hX x n m hp
    exact ⟨1, ⟨Or.inl rfl, [], 0, 9, 12, 31, [], rfl, by decide, by decide, by decide, cl_L_31, fun z hz => absurd hz List.not_mem_nil, 3, 1, 1, (Nat.le_of_ble_eq_true rfl), Or.inl ⟨rfl, 3, rfl, dL_clears_12⟩, dL_clears_13, rfl, dL_clears_14⟩, Or.inl ⟨0, hp, rfl⟩⟩
  · obtain ⟨rfl, ⟨w, rfl⟩, F, hF⟩ := hO v n m hp
    exact ⟨rfl, mw_tail dL_clears_7 dL_clears_8 dL_clears_9 rfl dL_clears_15 dL_clears_16 rfl hx hF (Nat.le_of_ble_eq_true rfl) (Nat.le_of_ble_eq_true rfl) (Or.inr ⟨.int w, m, F, hp, hF, rfl, rfl⟩)⟩
theorem calW_L_comes : mm_calW yL_comes cL_comes 4 (some .int) [(0, 9, 12, 13)] 3 := ⟨mm_in 1105 (by decide +kernel) rfl, mm_in 0 (by decide +kernel) rfl, ⟨by decide, by decide⟩, by decide +kernel, by decide⟩
theorem sta_L_comes : Cond.static yL_comes ∈ mm_ws := mm_in 1104 (by decide +kernel) rfl
theorem w_comes {a1 : Int32} (hM : mm_Con G l yX10_comes cX10_comes 4 (some .int) d 8 48 [.ref 0, .int a1] nx h Po) (hx : 216 ≤ nx) (h0 : h 0 = .inr (10, fs)) (hnc : va_Nc (mm_exc 1) (mm_exc 0) (mm_s0 G)) (hO : WO nx Po) (hX : ∀ x n m, Po (.inr x) n m → x = 1) : mm_ConW G l yL_comes cL_comes 4 (some .int) [(0, 9, 12, 13)] (d + 1) 8 48 [.ref 0, .int a1, .ref 215] nx h (P_w 1 cvI Po) := by
  refine mm_startW (lo := [some (.ref 0), some (.int a1), some (.ref 215), none]) pn_L rfl rfl (Nat.le_of_ble_eq_true rfl) ?_
  refine mw_aload_n (pc := 0) dL_comes_0 rfl ?_
  refine mw_iconst (pc := 1) dL_comes_1 rfl ?_
  refine mw_aload_n (pc := 2) dL_comes_2 rfl ?_
  refine mw_iload_n (pc := 3) dL_comes_3 rfl ?_
  refine mw_call (pc := 4) hM cal_X10_comes vir_X10_comes ml_L_57 dL_comes_4 (by omega) h0 (Nat.le_refl _) ⟨(Nat.le_of_ble_eq_true rfl), (Nat.le_of_ble_eq_true rfl)⟩ rfl rfl (Nat.le_of_ble_eq_true rfl) rfl hnc (fun x n m hp => ?_) (fun v n m hp => ?_)
  · obtain rfl := hX x n m hp
    exact ⟨1, ⟨Or.inr rfl, [], 0, 9, 12, 13, [], rfl, by decide, by decide, by decide, cl_L_13, fun z hz => absurd hz List.not_mem_nil, 3, 1, 1, (Nat.le_of_ble_eq_true rfl), Or.inl ⟨rfl, 3, rfl, dL_comes_12⟩, dL_comes_13, rfl, dL_comes_14⟩, Or.inl ⟨1, hp, rfl⟩⟩
  · obtain ⟨rfl, ⟨w, rfl⟩, F, hF⟩ := hO v n m hp
    exact ⟨rfl, mw_tail dL_comes_7 dL_comes_8 dL_comes_9 rfl dL_comes_15 dL_comes_16 rfl hx hF (Nat.le_of_ble_eq_true rfl) (Nat.le_of_ble_eq_true rfl) (Or.inr ⟨.int w, m, F, hp, hF, rfl, rfl⟩)⟩
theorem calW_L_serves : mm_calW yL_serves cL_serves 4 (some .int) [(0, 9, 12, 13)] 3 := ⟨mm_in 1112 (by decide +kernel) rfl, mm_in 0 (by decide +kernel) rfl, ⟨by decide, by decide⟩, by decide +kernel, by decide⟩
theorem sta_L_serves : Cond.static yL_serves ∈ mm_ws := mm_in 1111 (by decide +kernel) rfl
theorem w_serves {a1 : Int32} (hM : mm_Con G l yX10_serves cX10_serves 2 (some .int) d 8 48 [.ref 0, .int a1] nx h Po) (hx : 216 ≤ nx) (h0 : h 0 = .inr (10, fs)) (hnc : va_Nc (mm_exc 1) (mm_exc 0) (mm_s0 G)) (hO : WO nx Po) (hX : ∀ x n m, Po (.inr x) n m → x = 1) : mm_ConW G l yL_serves cL_serves 4 (some .int) [(0, 9, 12, 13)] (d + 1) 8 48 [.ref 0, .int a1, .ref 215] nx h (P_w 1 cvI Po) := by
  refine mm_startW (lo := [some (.ref 0), some (.int a1), some (.ref 215), none]) pn_L rfl rfl (Nat.le_of_ble_eq_true rfl) ?_
  refine mw_aload_n (pc := 0) dL_serves_0 rfl ?_
  refine mw_iconst (pc := 1) dL_serves_1 rfl ?_
  refine mw_aload_n (pc := 2) dL_serves_2 rfl ?_
  refine mw_iload_n (pc := 3) dL_serves_3 rfl ?_
  refine mw_call (pc := 4) hM cal_X10_serves vir_X10_serves ml_L_60 dL_serves_4 (by omega) h0 (Nat.le_refl _) ⟨(Nat.le_of_ble_eq_true rfl), (Nat.le_of_ble_eq_true rfl)⟩ rfl rfl (Nat.le_of_ble_eq_true rfl) rfl hnc (fun x n m hp => ?_) (fun v n m hp => ?_)
  · obtain rfl := hX x n m hp
    exact ⟨1, ⟨Or.inr rfl, [], 0, 9, 12, 13, [], rfl, by decide, by decide, by decide, cl_L_13, fun z hz => absurd hz List.not_mem_nil, 3, 1, 1, (Nat.le_of_ble_eq_true rfl), Or.inl ⟨rfl, 3, rfl, dL_serves_12⟩, dL_serves_13, rfl, dL_serves_14⟩, Or.inl ⟨1, hp, rfl⟩⟩
  · obtain ⟨rfl, ⟨w, rfl⟩, F, hF⟩ := hO v n m hp
    exact ⟨rfl, mw_tail dL_serves_7 dL_serves_8 dL_serves_9 rfl dL_serves_15 dL_serves_16 rfl hx hF (Nat.le_of_ble_eq_true rfl) (Nat.le_of_ble_eq_true rfl) (Or.inr ⟨.int w, m, F, hp, hF, rfl, rfl⟩)⟩
theorem calW_L_served : mm_calW yL_served cL_served 4 (some .int) [(0, 9, 12, 31)] 3 := ⟨mm_in 1168 (by decide +kernel) rfl, mm_in 0 (by decide +kernel) rfl, ⟨by decide, by decide⟩, by decide +kernel, by decide⟩
theorem sta_L_served : Cond.static yL_served ∈ mm_ws := mm_in 1167 (by decide +kernel) rfl
theorem w_served {a1 : Int32} (hM : mm_Con G l yX10_served cX10_served 2 (some .int) d 8 48 [.ref 0, .int a1] nx h Po) (hx : 216 ≤ nx) (h0 : h 0 = .inr (10, fs)) (hnc : va_Nc (mm_exc 1) (mm_exc 0) (mm_s0 G)) (hO : WO nx Po) (hX : ∀ x n m, Po (.inr x) n m → x = 0) : mm_ConW G l yL_served cL_served 4 (some .int) [(0, 9, 12, 31)] (d + 1) 8 48 [.ref 0, .int a1, .ref 215] nx h (P_w 1 cvI Po) := by
  refine mm_startW (lo := [some (.ref 0), some (.int a1), some (.ref 215), none]) pn_L rfl rfl (Nat.le_of_ble_eq_true rfl) ?_
  refine mw_aload_n (pc := 0) dL_served_0 rfl ?_
  refine mw_iconst (pc := 1) dL_served_1 rfl ?_
  refine mw_aload_n (pc := 2) dL_served_2 rfl ?_
  refine mw_iload_n (pc := 3) dL_served_3 rfl ?_
  refine mw_call (pc := 4) hM cal_X10_served vir_X10_served ml_L_63 dL_served_4 (by omega) h0 (Nat.le_refl _) ⟨(Nat.le_of_ble_eq_true rfl), (Nat.le_of_ble_eq_true rfl)⟩ rfl rfl (Nat.le_of_ble_eq_true rfl) rfl hnc (fun x n m hp => ?_) (fun v n m hp => ?_)
  · obtain rfl := hX x n m hp
    exact ⟨1, ⟨Or.inl rfl, [], 0, 9, 12, 31, [], rfl, by decide, by decide, by decide, cl_L_31, fun z hz => absurd hz List.not_mem_nil, 3, 1, 1, (Nat.le_of_ble_eq_true rfl), Or.inl ⟨rfl, 3, rfl, dL_served_12⟩, dL_served_13, rfl, dL_served_14⟩, Or.inl ⟨0, hp, rfl⟩⟩
  · obtain ⟨rfl, ⟨w, rfl⟩, F, hF⟩ := hO v n m hp
    exact ⟨rfl, mw_tail dL_served_7 dL_served_8 dL_served_9 rfl dL_served_15 dL_served_16 rfl hx hF (Nat.le_of_ble_eq_true rfl) (Nat.le_of_ble_eq_true rfl) (Or.inr ⟨.int w, m, F, hp, hF, rfl, rfl⟩)⟩
theorem calW_L_call : mm_calW yL_call cL_call 4 (some .int) [(0, 9, 12, 13)] 3 := ⟨mm_in 1183 (by decide +kernel) rfl, mm_in 0 (by decide +kernel) rfl, ⟨by decide, by decide⟩, by decide +kernel, by decide⟩
theorem sta_L_call : Cond.static yL_call ∈ mm_ws := mm_in 1182 (by decide +kernel) rfl
theorem w_call {a1 : Int32} (hM : mm_Con G l yX10_call cX10_call 2 (some .int) d 8 48 [.ref 0, .int a1] nx h Po) (hx : 216 ≤ nx) (h0 : h 0 = .inr (10, fs)) (hnc : va_Nc (mm_exc 1) (mm_exc 0) (mm_s0 G)) (hO : WO nx Po) (hX : ∀ x n m, Po (.inr x) n m → x = 1) : mm_ConW G l yL_call cL_call 4 (some .int) [(0, 9, 12, 13)] (d + 1) 8 48 [.ref 0, .int a1, .ref 215] nx h (P_w 1 cvI Po) := by
  refine mm_startW (lo := [some (.ref 0), some (.int a1), some (.ref 215), none]) pn_L rfl rfl (Nat.le_of_ble_eq_true rfl) ?_
  refine mw_aload_n (pc := 0) dL_call_0 rfl ?_
  refine mw_iconst (pc := 1) dL_call_1 rfl ?_
  refine mw_aload_n (pc := 2) dL_call_2 rfl ?_
  refine mw_iload_n (pc := 3) dL_call_3 rfl ?_
  refine mw_call (pc := 4) hM cal_X10_call vir_X10_call ml_L_66 dL_call_4 (by omega) h0 (Nat.le_refl _) ⟨(Nat.le_of_ble_eq_true rfl), (Nat.le_of_ble_eq_true rfl)⟩ rfl rfl (Nat.le_of_ble_eq_true rfl) rfl hnc (fun x n m hp => ?_) (fun v n m hp => ?_)
  · obtain rfl := hX x n m hp
    exact ⟨1, ⟨Or.inr rfl, [], 0, 9, 12, 13, [], rfl, by decide, by decide, by decide, cl_L_13, fun z hz => absurd hz List.not_mem_nil, 3, 1, 1, (Nat.le_of_ble_eq_true rfl), Or.inl ⟨rfl, 3, rfl, dL_call_12⟩, dL_call_13, rfl, dL_call_14⟩, Or.inl ⟨1, hp, rfl⟩⟩
  · obtain ⟨rfl, ⟨w, rfl⟩, F, hF⟩ := hO v n m hp
    exact ⟨rfl, mw_tail dL_call_7 dL_call_8 dL_call_9 rfl dL_call_15 dL_call_16 rfl hx hF (Nat.le_of_ble_eq_true rfl) (Nat.le_of_ble_eq_true rfl) (Or.inr ⟨.int w, m, F, hp, hF, rfl, rfl⟩)⟩
theorem calW_L_run : mm_calW yL_run cL_run 5 (some .int) [(0, 10, 13, 31)] 4 := ⟨mm_in 1194 (by decide +kernel) rfl, mm_in 0 (by decide +kernel) rfl, ⟨by decide, by decide⟩, by decide +kernel, by decide⟩
theorem sta_L_run : Cond.static yL_run ∈ mm_ws := mm_in 1193 (by decide +kernel) rfl
theorem w_run {a1 a2 : Int32} (hM : mm_Con G l yX10_run cX10_run 3 (some .int) d 8 48 [.ref 0, .int a1, .int a2] nx h Po) (hx : 216 ≤ nx) (h0 : h 0 = .inr (10, fs)) (hnc : va_Nc (mm_exc 1) (mm_exc 0) (mm_s0 G)) (hO : WO nx Po) (hX : ∀ x n m, Po (.inr x) n m → x = 0) : mm_ConW G l yL_run cL_run 5 (some .int) [(0, 10, 13, 31)] (d + 1) 8 48 [.ref 0, .int a1, .int a2, .ref 215] nx h (P_w 1 cvI Po) := by
  refine mm_startW (lo := [some (.ref 0), some (.int a1), some (.int a2), some (.ref 215), none]) pn_L rfl rfl (Nat.le_of_ble_eq_true rfl) ?_
  refine mw_aload_n (pc := 0) dL_run_0 rfl ?_
  refine mw_iconst (pc := 1) dL_run_1 rfl ?_
  refine mw_aload_n (pc := 2) dL_run_2 rfl ?_
  refine mw_iload_n (pc := 3) dL_run_3 rfl ?_
  refine mw_iload_n (pc := 4) dL_run_4 rfl ?_
  refine mw_call (pc := 5) hM cal_X10_run vir_X10_run ml_L_69 dL_run_5 (by omega) h0 (Nat.le_refl _) ⟨(Nat.le_of_ble_eq_true rfl), (Nat.le_of_ble_eq_true rfl)⟩ rfl rfl (Nat.le_of_ble_eq_true rfl) rfl hnc (fun x n m hp => ?_) (fun v n m hp => ?_)
  · obtain rfl := hX x n m hp
    exact ⟨1, ⟨Or.inl rfl, [], 0, 10, 13, 31, [], rfl, by decide, by decide, by decide, cl_L_31, fun z hz => absurd hz List.not_mem_nil, 4, 2, 1, (Nat.le_of_ble_eq_true rfl), Or.inr ⟨rfl, dL_run_13⟩, dL_run_15, rfl, dL_run_16⟩, Or.inl ⟨0, hp, rfl⟩⟩
  · obtain ⟨rfl, ⟨w, rfl⟩, F, hF⟩ := hO v n m hp
    exact ⟨rfl, mw_tail dL_run_8 dL_run_9 dL_run_10 rfl dL_run_17 dL_run_18 rfl hx hF (Nat.le_of_ble_eq_true rfl) (Nat.le_of_ble_eq_true rfl) (Or.inr ⟨.int w, m, F, hp, hF, rfl, rfl⟩)⟩
theorem calW_L_all : mm_calW yL_all cL_all 7 (some .int) [(0, 13, 16, 13)] 6 := ⟨mm_in 1209 (by decide +kernel) rfl, mm_in 0 (by decide +kernel) rfl, ⟨by decide, by decide⟩, by decide +kernel, by decide⟩
theorem sta_L_all : Cond.static yL_all ∈ mm_ws := mm_in 1208 (by decide +kernel) rfl
theorem w_all {a1 a2 a3 a4 : Int32} (hM : mm_Con G l yX10_all cX10_all 10 (some .long) d 8 48 [.ref 0, .int a1, .int a2, .int a3, .int a4] nx h Po) (hx : 216 ≤ nx) (h0 : h 0 = .inr (10, fs)) (hnc : va_Nc (mm_exc 1) (mm_exc 0) (mm_s0 G)) (hO : WOL nx Po) (hX : ∀ x n m, Po (.inr x) n m → x = 1) : mm_ConW G l yL_all cL_all 7 (some .int) [(0, 13, 16, 13)] (d + 1) 8 48 [.ref 0, .int a1, .int a2, .int a3, .int a4, .ref 215] nx h (P_w 1 cvL Po) := by
  refine mm_startW (lo := [some (.ref 0), some (.int a1), some (.int a2), some (.int a3), some (.int a4), some (.ref 215), none]) pn_L rfl rfl (Nat.le_of_ble_eq_true rfl) ?_
  refine mw_aload (pc := 0) dL_all_0 rfl ?_
  refine mw_iconst (pc := 2) dL_all_2 rfl ?_
  refine mw_aload_n (pc := 3) dL_all_3 rfl ?_
  refine mw_iload_n (pc := 4) dL_all_4 rfl ?_
  refine mw_iload_n (pc := 5) dL_all_5 rfl ?_
  refine mw_iload_n (pc := 6) dL_all_6 rfl ?_
  refine mw_iload (pc := 7) dL_all_7 rfl ?_
  refine mw_call (pc := 9) hM cal_X10_all vir_X10_all ml_L_72 dL_all_9 (by omega) h0 (Nat.le_refl _) ⟨(Nat.le_of_ble_eq_true rfl), (Nat.le_of_ble_eq_true rfl)⟩ rfl rfl (Nat.le_of_ble_eq_true rfl) rfl hnc (fun x n m hp => ?_) (fun v n m hp => ?_)
  · obtain rfl := hX x n m hp
    exact ⟨1, ⟨Or.inr rfl, [], 0, 13, 16, 13, [], rfl, by decide, by decide, by decide, cl_L_13, fun z hz => absurd hz List.not_mem_nil, 6, 2, 1, (Nat.le_of_ble_eq_true rfl), Or.inr ⟨rfl, dL_all_16⟩, dL_all_18, rfl, dL_all_19⟩, Or.inl ⟨1, hp, rfl⟩⟩
  · obtain ⟨rfl, ⟨w, rfl⟩, F, hF⟩ := hO v n m hp
    exact ⟨rfl, mw_tailL dL_all_12 dL_all_13 rfl dL_all_20 dL_all_21 rfl hx hF (Nat.le_of_ble_eq_true rfl) (Nat.le_of_ble_eq_true rfl) (Or.inr ⟨.long w, m, F, hp, hF, rfl, rfl⟩)⟩
theorem calW_L_saint : mm_calW yL_saint cL_saint 6 (some .int) [(0, 12, 15, 13)] 5 := ⟨mm_in 1222 (by decide +kernel) rfl, mm_in 0 (by decide +kernel) rfl, ⟨by decide, by decide⟩, by decide +kernel, by decide⟩
theorem sta_L_saint : Cond.static yL_saint ∈ mm_ws := mm_in 1221 (by decide +kernel) rfl
theorem w_saint {a1 a2 a3 : Int32} (hM : mm_Con G l yX10_saint cX10_saint 9 (some .int) d 8 48 [.ref 0, .int a1, .int a2, .int a3] nx h Po) (hx : 216 ≤ nx) (h0 : h 0 = .inr (10, fs)) (hnc : va_Nc (mm_exc 1) (mm_exc 0) (mm_s0 G)) (hO : WO nx Po) (hX : ∀ x n m, Po (.inr x) n m → x = 1) : mm_ConW G l yL_saint cL_saint 6 (some .int) [(0, 12, 15, 13)] (d + 1) 8 48 [.ref 0, .int a1, .int a2, .int a3, .ref 215] nx h (P_w 1 cvI Po) := by
  refine mm_startW (lo := [some (.ref 0), some (.int a1), some (.int a2), some (.int a3), some (.ref 215), none]) pn_L rfl rfl (Nat.le_of_ble_eq_true rfl) ?_
  refine mw_aload (pc := 0) dL_saint_0 rfl ?_
  refine mw_iconst (pc := 2) dL_saint_2 rfl ?_
  refine mw_aload_n (pc := 3) dL_saint_3 rfl ?_
  refine mw_iload_n (pc := 4) dL_saint_4 rfl ?_
  refine mw_iload_n (pc := 5) dL_saint_5 rfl ?_
  refine mw_iload_n (pc := 6) dL_saint_6 rfl ?_
  refine mw_call (pc := 7) hM cal_X10_saint vir_X10_saint ml_L_76 dL_saint_7 (by omega) h0 (Nat.le_refl _) ⟨(Nat.le_of_ble_eq_true rfl), (Nat.le_of_ble_eq_true rfl)⟩ rfl rfl (Nat.le_of_ble_eq_true rfl) rfl hnc (fun x n m hp => ?_) (fun v n m hp => ?_)
  · obtain rfl := hX x n m hp
    exact ⟨1, ⟨Or.inr rfl, [], 0, 12, 15, 13, [], rfl, by decide, by decide, by decide, cl_L_13, fun z hz => absurd hz List.not_mem_nil, 5, 2, 1, (Nat.le_of_ble_eq_true rfl), Or.inr ⟨rfl, dL_saint_15⟩, dL_saint_17, rfl, dL_saint_18⟩, Or.inl ⟨1, hp, rfl⟩⟩
  · obtain ⟨rfl, ⟨w, rfl⟩, F, hF⟩ := hO v n m hp
    exact ⟨rfl, mw_tail dL_saint_10 dL_saint_11 dL_saint_12 rfl dL_saint_19 dL_saint_20 rfl hx hF (Nat.le_of_ble_eq_true rfl) (Nat.le_of_ble_eq_true rfl) (Or.inr ⟨.int w, m, F, hp, hF, rfl, rfl⟩)⟩
theorem calW_L_candles : mm_calW yL_candles cL_candles 6 (some .int) [(0, 12, 15, 31), (0, 12, 19, 13)] 5 := ⟨mm_in 1232 (by decide +kernel) rfl, mm_in 0 (by decide +kernel) rfl, ⟨by decide, by decide⟩, by decide +kernel, by decide⟩
theorem sta_L_candles : Cond.static yL_candles ∈ mm_ws := mm_in 1231 (by decide +kernel) rfl
theorem w_candles {a1 a2 a3 : Int32} (hM : mm_Con G l yX10_candles cX10_candles 5 (some .int) d 8 48 [.ref 0, .int a1, .int a2, .int a3] nx h Po) (hx : 216 ≤ nx) (h0 : h 0 = .inr (10, fs)) (hnc : va_Nc (mm_exc 1) (mm_exc 0) (mm_s0 G)) (hO : WO nx Po) (hX : ∀ x n m, Po (.inr x) n m → x = 0 ∨ x = 1) : mm_ConW G l yL_candles cL_candles 6 (some .int) [(0, 12, 15, 31), (0, 12, 19, 13)] (d + 1) 8 48 [.ref 0, .int a1, .int a2, .int a3, .ref 215] nx h (P_w 2 cvI Po) := by
  refine mm_startW (lo := [some (.ref 0), some (.int a1), some (.int a2), some (.int a3), some (.ref 215), none]) pn_L rfl rfl (Nat.le_of_ble_eq_true rfl) ?_
  refine mw_aload (pc := 0) dL_candles_0 rfl ?_
  refine mw_iconst (pc := 2) dL_candles_2 rfl ?_
  refine mw_aload_n (pc := 3) dL_candles_3 rfl ?_
  refine mw_iload_n (pc := 4) dL_candles_4 rfl ?_
  refine mw_iload_n (pc := 5) dL_candles_5 rfl ?_
  refine mw_iload_n (pc := 6) dL_candles_6 rfl ?_
  refine mw_call (pc := 7) hM cal_X10_candles vir_X10_candles ml_L_80 dL_candles_7 (by omega) h0 (Nat.le_refl _) ⟨(Nat.le_of_ble_eq_true rfl), (Nat.le_of_ble_eq_true rfl)⟩ rfl rfl (Nat.le_of_ble_eq_true rfl) rfl hnc (fun x n m hp => ?_) (fun v n m hp => ?_)
  · rcases hX x n m hp with rfl | rfl
    · exact ⟨1, ⟨Or.inl rfl, [], 0, 12, 15, 31, [(0, 12, 19, 13)], rfl, by decide, by decide, by decide, cl_L_31, fun z hz => absurd hz List.not_mem_nil, 5, 2, 1, (Nat.le_of_ble_eq_true rfl), Or.inr ⟨rfl, dL_candles_15⟩, dL_candles_17, rfl, dL_candles_18⟩, Or.inl ⟨0, hp, rfl⟩⟩
    · exact ⟨2, ⟨Or.inr rfl, [(0, 12, 15, 31)], 0, 12, 19, 13, [], rfl, by decide, by decide, by decide, cl_L_13, fun z hz => by cases List.mem_singleton.mp hz; exact ⟨by decide, rfl, cl_L_31⟩, 5, 2, 2, (Nat.le_of_ble_eq_true rfl), Or.inr ⟨rfl, dL_candles_19⟩, dL_candles_21, rfl, dL_candles_22⟩, Or.inl ⟨1, hp, rfl⟩⟩
  · obtain ⟨rfl, ⟨w, rfl⟩, F, hF⟩ := hO v n m hp
    exact ⟨rfl, mw_tail dL_candles_10 dL_candles_11 dL_candles_12 rfl dL_candles_23 dL_candles_24 rfl hx hF (Nat.le_of_ble_eq_true rfl) (Nat.le_of_ble_eq_true rfl) (Or.inr ⟨.int w, m, F, hp, hF, rfl, rfl⟩)⟩
theorem calW_L_richest : mm_calW yL_richest cL_richest 4 (some .int) [(0, 9, 12, 13)] 3 := ⟨mm_in 1243 (by decide +kernel) rfl, mm_in 0 (by decide +kernel) rfl, ⟨by decide, by decide⟩, by decide +kernel, by decide⟩
theorem sta_L_richest : Cond.static yL_richest ∈ mm_ws := mm_in 1242 (by decide +kernel) rfl
theorem w_richest {a1 : Int32} (hM : mm_Con G l yX10_richest cX10_richest 5 (some .int) d 8 48 [.ref 0, .int a1] nx h Po) (hx : 216 ≤ nx) (h0 : h 0 = .inr (10, fs)) (hnc : va_Nc (mm_exc 1) (mm_exc 0) (mm_s0 G)) (hO : WO nx Po) (hX : ∀ x n m, Po (.inr x) n m → x = 1) : mm_ConW G l yL_richest cL_richest 4 (some .int) [(0, 9, 12, 13)] (d + 1) 8 48 [.ref 0, .int a1, .ref 215] nx h (P_w 1 cvI Po) := by
  refine mm_startW (lo := [some (.ref 0), some (.int a1), some (.ref 215), none]) pn_L rfl rfl (Nat.le_of_ble_eq_true rfl) ?_
  refine mw_aload_n (pc := 0) dL_richest_0 rfl ?_
  refine mw_iconst (pc := 1) dL_richest_1 rfl ?_
  refine mw_aload_n (pc := 2) dL_richest_2 rfl ?_
  refine mw_iload_n (pc := 3) dL_richest_3 rfl ?_
  refine mw_call (pc := 4) hM cal_X10_richest vir_X10_richest ml_L_83 dL_richest_4 (by omega) h0 (Nat.le_refl _) ⟨(Nat.le_of_ble_eq_true rfl), (Nat.le_of_ble_eq_true rfl)⟩ rfl rfl (Nat.le_of_ble_eq_true rfl) rfl hnc (fun x n m hp => ?_) (fun v n m hp => ?_)
  · obtain rfl := hX x n m hp
    exact ⟨1, ⟨Or.inr rfl, [], 0, 9, 12, 13, [], rfl, by decide, by decide, by decide, cl_L_13, fun z hz => absurd hz List.not_mem_nil, 3, 1, 1, (Nat.le_of_ble_eq_true rfl), Or.inl ⟨rfl, 3, rfl, dL_richest_12⟩, dL_richest_13, rfl, dL_richest_14⟩, Or.inl ⟨1, hp, rfl⟩⟩
  · obtain ⟨rfl, ⟨w, rfl⟩, F, hF⟩ := hO v n m hp
    exact ⟨rfl, mw_tail dL_richest_7 dL_richest_8 dL_richest_9 rfl dL_richest_15 dL_richest_16 rfl hx hF (Nat.le_of_ble_eq_true rfl) (Nat.le_of_ble_eq_true rfl) (Or.inr ⟨.int w, m, F, hp, hF, rfl, rfl⟩)⟩
theorem calW_L_next : mm_calW yL_next cL_next 4 (some .int) [(0, 9, 12, 13)] 3 := ⟨mm_in 1250 (by decide +kernel) rfl, mm_in 0 (by decide +kernel) rfl, ⟨by decide, by decide⟩, by decide +kernel, by decide⟩
theorem sta_L_next : Cond.static yL_next ∈ mm_ws := mm_in 1249 (by decide +kernel) rfl
theorem w_next {a1 : Int32} (hM : mm_Con G l yX10_next cX10_next 7 (some .int) d 8 48 [.ref 0, .int a1] nx h Po) (hx : 216 ≤ nx) (h0 : h 0 = .inr (10, fs)) (hnc : va_Nc (mm_exc 1) (mm_exc 0) (mm_s0 G)) (hO : WO nx Po) (hX : ∀ x n m, Po (.inr x) n m → x = 1) : mm_ConW G l yL_next cL_next 4 (some .int) [(0, 9, 12, 13)] (d + 1) 8 48 [.ref 0, .int a1, .ref 215] nx h (P_w 1 cvI Po) := by
  refine mm_startW (lo := [some (.ref 0), some (.int a1), some (.ref 215), none]) pn_L rfl rfl (Nat.le_of_ble_eq_true rfl) ?_
  refine mw_aload_n (pc := 0) dL_next_0 rfl ?_
  refine mw_iconst (pc := 1) dL_next_1 rfl ?_
  refine mw_aload_n (pc := 2) dL_next_2 rfl ?_
  refine mw_iload_n (pc := 3) dL_next_3 rfl ?_
  refine mw_call (pc := 4) hM cal_X10_next vir_X10_next ml_L_86 dL_next_4 (by omega) h0 (Nat.le_refl _) ⟨(Nat.le_of_ble_eq_true rfl), (Nat.le_of_ble_eq_true rfl)⟩ rfl rfl (Nat.le_of_ble_eq_true rfl) rfl hnc (fun x n m hp => ?_) (fun v n m hp => ?_)
  · obtain rfl := hX x n m hp
    exact ⟨1, ⟨Or.inr rfl, [], 0, 9, 12, 13, [], rfl, by decide, by decide, by decide, cl_L_13, fun z hz => absurd hz List.not_mem_nil, 3, 1, 1, (Nat.le_of_ble_eq_true rfl), Or.inl ⟨rfl, 3, rfl, dL_next_12⟩, dL_next_13, rfl, dL_next_14⟩, Or.inl ⟨1, hp, rfl⟩⟩
  · obtain ⟨rfl, ⟨w, rfl⟩, F, hF⟩ := hO v n m hp
    exact ⟨rfl, mw_tail dL_next_7 dL_next_8 dL_next_9 rfl dL_next_15 dL_next_16 rfl hx hF (Nat.le_of_ble_eq_true rfl) (Nat.le_of_ble_eq_true rfl) (Or.inr ⟨.int w, m, F, hp, hF, rfl, rfl⟩)⟩
theorem calW_L_kind : mm_calW yL_kind cL_kind 5 (some .int) [(0, 10, 13, 13)] 4 := ⟨mm_in 1258 (by decide +kernel) rfl, mm_in 0 (by decide +kernel) rfl, ⟨by decide, by decide⟩, by decide +kernel, by decide⟩
theorem sta_L_kind : Cond.static yL_kind ∈ mm_ws := mm_in 1257 (by decide +kernel) rfl
theorem w_kind {a1 a2 : Int32} (hM : mm_Con G l yX10_kind cX10_kind 5 (some .int) d 8 48 [.ref 0, .int a1, .int a2] nx h Po) (hx : 216 ≤ nx) (h0 : h 0 = .inr (10, fs)) (hnc : va_Nc (mm_exc 1) (mm_exc 0) (mm_s0 G)) (hO : WO nx Po) (hX : ∀ x n m, Po (.inr x) n m → x = 1) : mm_ConW G l yL_kind cL_kind 5 (some .int) [(0, 10, 13, 13)] (d + 1) 8 48 [.ref 0, .int a1, .int a2, .ref 215] nx h (P_w 1 cvI Po) := by
  refine mm_startW (lo := [some (.ref 0), some (.int a1), some (.int a2), some (.ref 215), none]) pn_L rfl rfl (Nat.le_of_ble_eq_true rfl) ?_
  refine mw_aload_n (pc := 0) dL_kind_0 rfl ?_
  refine mw_iconst (pc := 1) dL_kind_1 rfl ?_
  refine mw_aload_n (pc := 2) dL_kind_2 rfl ?_
  refine mw_iload_n (pc := 3) dL_kind_3 rfl ?_
  refine mw_iload_n (pc := 4) dL_kind_4 rfl ?_
  refine mw_call (pc := 5) hM cal_X10_kind vir_X10_kind ml_L_89 dL_kind_5 (by omega) h0 (Nat.le_refl _) ⟨(Nat.le_of_ble_eq_true rfl), (Nat.le_of_ble_eq_true rfl)⟩ rfl rfl (Nat.le_of_ble_eq_true rfl) rfl hnc (fun x n m hp => ?_) (fun v n m hp => ?_)
  · obtain rfl := hX x n m hp
    exact ⟨1, ⟨Or.inr rfl, [], 0, 10, 13, 13, [], rfl, by decide, by decide, by decide, cl_L_13, fun z hz => absurd hz List.not_mem_nil, 4, 2, 1, (Nat.le_of_ble_eq_true rfl), Or.inr ⟨rfl, dL_kind_13⟩, dL_kind_15, rfl, dL_kind_16⟩, Or.inl ⟨1, hp, rfl⟩⟩
  · obtain ⟨rfl, ⟨w, rfl⟩, F, hF⟩ := hO v n m hp
    exact ⟨rfl, mw_tail dL_kind_8 dL_kind_9 dL_kind_10 rfl dL_kind_17 dL_kind_18 rfl hx hF (Nat.le_of_ble_eq_true rfl) (Nat.le_of_ble_eq_true rfl) (Or.inr ⟨.int w, m, F, hp, hF, rfl, rfl⟩)⟩
theorem calW_L_worth : mm_calW yL_worth cL_worth 4 (some .int) [(0, 9, 12, 31)] 3 := ⟨mm_in 1265 (by decide +kernel) rfl, mm_in 0 (by decide +kernel) rfl, ⟨by decide, by decide⟩, by decide +kernel, by decide⟩
theorem sta_L_worth : Cond.static yL_worth ∈ mm_ws := mm_in 1264 (by decide +kernel) rfl
theorem w_worth {a1 : Int32} (hM : mm_Con G l yX10_worth cX10_worth 2 (some .int) d 8 48 [.ref 0, .int a1] nx h Po) (hx : 216 ≤ nx) (h0 : h 0 = .inr (10, fs)) (hnc : va_Nc (mm_exc 1) (mm_exc 0) (mm_s0 G)) (hO : WO nx Po) (hX : ∀ x n m, Po (.inr x) n m → x = 0) : mm_ConW G l yL_worth cL_worth 4 (some .int) [(0, 9, 12, 31)] (d + 1) 8 48 [.ref 0, .int a1, .ref 215] nx h (P_w 1 cvI Po) := by
  refine mm_startW (lo := [some (.ref 0), some (.int a1), some (.ref 215), none]) pn_L rfl rfl (Nat.le_of_ble_eq_true rfl) ?_
  refine mw_aload_n (pc := 0) dL_worth_0 rfl ?_
  refine mw_iconst (pc := 1) dL_worth_1 rfl ?_
  refine mw_aload_n (pc := 2) dL_worth_2 rfl ?_
  refine mw_iload_n (pc := 3) dL_worth_3 rfl ?_
  refine mw_call (pc := 4) hM cal_X10_worth vir_X10_worth ml_L_92 dL_worth_4 (by omega) h0 (Nat.le_refl _) ⟨(Nat.le_of_ble_eq_true rfl), (Nat.le_of_ble_eq_true rfl)⟩ rfl rfl (Nat.le_of_ble_eq_true rfl) rfl hnc (fun x n m hp => ?_) (fun v n m hp => ?_)
  · obtain rfl := hX x n m hp
    exact ⟨1, ⟨Or.inl rfl, [], 0, 9, 12, 31, [], rfl, by decide, by decide, by decide, cl_L_31, fun z hz => absurd hz List.not_mem_nil, 3, 1, 1, (Nat.le_of_ble_eq_true rfl), Or.inl ⟨rfl, 3, rfl, dL_worth_12⟩, dL_worth_13, rfl, dL_worth_14⟩, Or.inl ⟨0, hp, rfl⟩⟩
  · obtain ⟨rfl, ⟨w, rfl⟩, F, hF⟩ := hO v n m hp
    exact ⟨rfl, mw_tail dL_worth_7 dL_worth_8 dL_worth_9 rfl dL_worth_15 dL_worth_16 rfl hx hF (Nat.le_of_ble_eq_true rfl) (Nat.le_of_ble_eq_true rfl) (Or.inr ⟨.int w, m, F, hp, hF, rfl, rfl⟩)⟩
theorem calW_L_broke : mm_calW yL_broke cL_broke 4 (some .int) [(0, 9, 12, 31)] 3 := ⟨mm_in 1272 (by decide +kernel) rfl, mm_in 0 (by decide +kernel) rfl, ⟨by decide, by decide⟩, by decide +kernel, by decide⟩
theorem sta_L_broke : Cond.static yL_broke ∈ mm_ws := mm_in 1271 (by decide +kernel) rfl
theorem w_broke {a1 : Int32} (hM : mm_Con G l yX10_broke cX10_broke 3 (some .int) d 8 48 [.ref 0, .int a1] nx h Po) (hx : 216 ≤ nx) (h0 : h 0 = .inr (10, fs)) (hnc : va_Nc (mm_exc 1) (mm_exc 0) (mm_s0 G)) (hO : WO nx Po) (hX : ∀ x n m, Po (.inr x) n m → x = 0) : mm_ConW G l yL_broke cL_broke 4 (some .int) [(0, 9, 12, 31)] (d + 1) 8 48 [.ref 0, .int a1, .ref 215] nx h (P_w 1 cvI Po) := by
  refine mm_startW (lo := [some (.ref 0), some (.int a1), some (.ref 215), none]) pn_L rfl rfl (Nat.le_of_ble_eq_true rfl) ?_
  refine mw_aload_n (pc := 0) dL_broke_0 rfl ?_
  refine mw_iconst (pc := 1) dL_broke_1 rfl ?_
  refine mw_aload_n (pc := 2) dL_broke_2 rfl ?_
  refine mw_iload_n (pc := 3) dL_broke_3 rfl ?_
  refine mw_call (pc := 4) hM cal_X10_broke vir_X10_broke ml_L_95 dL_broke_4 (by omega) h0 (Nat.le_refl _) ⟨(Nat.le_of_ble_eq_true rfl), (Nat.le_of_ble_eq_true rfl)⟩ rfl rfl (Nat.le_of_ble_eq_true rfl) rfl hnc (fun x n m hp => ?_) (fun v n m hp => ?_)
  · obtain rfl := hX x n m hp
    exact ⟨1, ⟨Or.inl rfl, [], 0, 9, 12, 31, [], rfl, by decide, by decide, by decide, cl_L_31, fun z hz => absurd hz List.not_mem_nil, 3, 1, 1, (Nat.le_of_ble_eq_true rfl), Or.inl ⟨rfl, 3, rfl, dL_broke_12⟩, dL_broke_13, rfl, dL_broke_14⟩, Or.inl ⟨0, hp, rfl⟩⟩
  · obtain ⟨rfl, ⟨w, rfl⟩, F, hF⟩ := hO v n m hp
    exact ⟨rfl, mw_tail dL_broke_7 dL_broke_8 dL_broke_9 rfl dL_broke_15 dL_broke_16 rfl hx hF (Nat.le_of_ble_eq_true rfl) (Nat.le_of_ble_eq_true rfl) (Or.inr ⟨.int w, m, F, hp, hF, rfl, rfl⟩)⟩
theorem calW_L_late : mm_calW yL_late cL_late 5 (some .int) [(0, 10, 13, 31), (0, 10, 17, 13)] 4 := ⟨mm_in 1279 (by decide +kernel) rfl, mm_in 0 (by decide +kernel) rfl, ⟨by decide, by decide⟩, by decide +kernel, by decide⟩
theorem sta_L_late : Cond.static yL_late ∈ mm_ws := mm_in 1278 (by decide +kernel) rfl
theorem w_late {a1 a2 : Int32} (hM : mm_Con G l yX10_late cX10_late 5 (some .int) d 8 48 [.ref 0, .int a1, .int a2] nx h Po) (hx : 216 ≤ nx) (h0 : h 0 = .inr (10, fs)) (hnc : va_Nc (mm_exc 1) (mm_exc 0) (mm_s0 G)) (hO : WO nx Po) (hX : ∀ x n m, Po (.inr x) n m → x = 0 ∨ x = 1) : mm_ConW G l yL_late cL_late 5 (some .int) [(0, 10, 13, 31), (0, 10, 17, 13)] (d + 1) 8 48 [.ref 0, .int a1, .int a2, .ref 215] nx h (P_w 2 cvI Po) := by
  refine mm_startW (lo := [some (.ref 0), some (.int a1), some (.int a2), some (.ref 215), none]) pn_L rfl rfl (Nat.le_of_ble_eq_true rfl) ?_
  refine mw_aload_n (pc := 0) dL_late_0 rfl ?_
  refine mw_iconst (pc := 1) dL_late_1 rfl ?_
  refine mw_aload_n (pc := 2) dL_late_2 rfl ?_
  refine mw_iload_n (pc := 3) dL_late_3 rfl ?_
  refine mw_iload_n (pc := 4) dL_late_4 rfl ?_
  refine mw_call (pc := 5) hM cal_X10_late vir_X10_late ml_L_98 dL_late_5 (by omega) h0 (Nat.le_refl _) ⟨(Nat.le_of_ble_eq_true rfl), (Nat.le_of_ble_eq_true rfl)⟩ rfl rfl (Nat.le_of_ble_eq_true rfl) rfl hnc (fun x n m hp => ?_) (fun v n m hp => ?_)
  · rcases hX x n m hp with rfl | rfl
    · exact ⟨1, ⟨Or.inl rfl, [], 0, 10, 13, 31, [(0, 10, 17, 13)], rfl, by decide, by decide, by decide, cl_L_31, fun z hz => absurd hz List.not_mem_nil, 4, 2, 1, (Nat.le_of_ble_eq_true rfl), Or.inr ⟨rfl, dL_late_13⟩, dL_late_15, rfl, dL_late_16⟩, Or.inl ⟨0, hp, rfl⟩⟩
    · exact ⟨2, ⟨Or.inr rfl, [(0, 10, 13, 31)], 0, 10, 17, 13, [], rfl, by decide, by decide, by decide, cl_L_13, fun z hz => by cases List.mem_singleton.mp hz; exact ⟨by decide, rfl, cl_L_31⟩, 4, 2, 2, (Nat.le_of_ble_eq_true rfl), Or.inr ⟨rfl, dL_late_17⟩, dL_late_19, rfl, dL_late_20⟩, Or.inl ⟨1, hp, rfl⟩⟩
  · obtain ⟨rfl, ⟨w, rfl⟩, F, hF⟩ := hO v n m hp
    exact ⟨rfl, mw_tail dL_late_8 dL_late_9 dL_late_10 rfl dL_late_21 dL_late_22 rfl hx hF (Nat.le_of_ble_eq_true rfl) (Nat.le_of_ble_eq_true rfl) (Or.inr ⟨.int w, m, F, hp, hF, rfl, rfl⟩)⟩
theorem calW_L_trust : mm_calW yL_trust cL_trust 5 (some .int) [(0, 10, 13, 31), (0, 10, 17, 13)] 4 := ⟨mm_in 1286 (by decide +kernel) rfl, mm_in 0 (by decide +kernel) rfl, ⟨by decide, by decide⟩, by decide +kernel, by decide⟩
theorem sta_L_trust : Cond.static yL_trust ∈ mm_ws := mm_in 1285 (by decide +kernel) rfl
theorem w_trust {a1 a2 : Int32} (hM : mm_Con G l yX10_trust cX10_trust 5 (some .int) d 8 48 [.ref 0, .int a1, .int a2] nx h Po) (hx : 216 ≤ nx) (h0 : h 0 = .inr (10, fs)) (hnc : va_Nc (mm_exc 1) (mm_exc 0) (mm_s0 G)) (hO : WO nx Po) (hX : ∀ x n m, Po (.inr x) n m → x = 0 ∨ x = 1) : mm_ConW G l yL_trust cL_trust 5 (some .int) [(0, 10, 13, 31), (0, 10, 17, 13)] (d + 1) 8 48 [.ref 0, .int a1, .int a2, .ref 215] nx h (P_w 2 cvI Po) := by
  refine mm_startW (lo := [some (.ref 0), some (.int a1), some (.int a2), some (.ref 215), none]) pn_L rfl rfl (Nat.le_of_ble_eq_true rfl) ?_
  refine mw_aload_n (pc := 0) dL_trust_0 rfl ?_
  refine mw_iconst (pc := 1) dL_trust_1 rfl ?_
  refine mw_aload_n (pc := 2) dL_trust_2 rfl ?_
  refine mw_iload_n (pc := 3) dL_trust_3 rfl ?_
  refine mw_iload_n (pc := 4) dL_trust_4 rfl ?_
  refine mw_call (pc := 5) hM cal_X10_trust vir_X10_trust ml_L_101 dL_trust_5 (by omega) h0 (Nat.le_refl _) ⟨(Nat.le_of_ble_eq_true rfl), (Nat.le_of_ble_eq_true rfl)⟩ rfl rfl (Nat.le_of_ble_eq_true rfl) rfl hnc (fun x n m hp => ?_) (fun v n m hp => ?_)
  · rcases hX x n m hp with rfl | rfl
    · exact ⟨1, ⟨Or.inl rfl, [], 0, 10, 13, 31, [(0, 10, 17, 13)], rfl, by decide, by decide, by decide, cl_L_31, fun z hz => absurd hz List.not_mem_nil, 4, 2, 1, (Nat.le_of_ble_eq_true rfl), Or.inr ⟨rfl, dL_trust_13⟩, dL_trust_15, rfl, dL_trust_16⟩, Or.inl ⟨0, hp, rfl⟩⟩
    · exact ⟨2, ⟨Or.inr rfl, [(0, 10, 13, 31)], 0, 10, 17, 13, [], rfl, by decide, by decide, by decide, cl_L_13, fun z hz => by cases List.mem_singleton.mp hz; exact ⟨by decide, rfl, cl_L_31⟩, 4, 2, 2, (Nat.le_of_ble_eq_true rfl), Or.inr ⟨rfl, dL_trust_17⟩, dL_trust_19, rfl, dL_trust_20⟩, Or.inl ⟨1, hp, rfl⟩⟩
  · obtain ⟨rfl, ⟨w, rfl⟩, F, hF⟩ := hO v n m hp
    exact ⟨rfl, mw_tail dL_trust_8 dL_trust_9 dL_trust_10 rfl dL_trust_21 dL_trust_22 rfl hx hF (Nat.le_of_ble_eq_true rfl) (Nat.le_of_ble_eq_true rfl) (Or.inr ⟨.int w, m, F, hp, hF, rfl, rfl⟩)⟩
theorem calW_L_deepest : mm_calW yL_deepest cL_deepest 4 (some .int) [(0, 9, 12, 13)] 3 := ⟨mm_in 1293 (by decide +kernel) rfl, mm_in 0 (by decide +kernel) rfl, ⟨by decide, by decide⟩, by decide +kernel, by decide⟩
theorem sta_L_deepest : Cond.static yL_deepest ∈ mm_ws := mm_in 1292 (by decide +kernel) rfl
theorem w_deepest {a1 : Int32} (hM : mm_Con G l yX10_deepest cX10_deepest 6 (some .int) d 8 48 [.ref 0, .int a1] nx h Po) (hx : 216 ≤ nx) (h0 : h 0 = .inr (10, fs)) (hnc : va_Nc (mm_exc 1) (mm_exc 0) (mm_s0 G)) (hO : WO nx Po) (hX : ∀ x n m, Po (.inr x) n m → x = 1) : mm_ConW G l yL_deepest cL_deepest 4 (some .int) [(0, 9, 12, 13)] (d + 1) 8 48 [.ref 0, .int a1, .ref 215] nx h (P_w 1 cvI Po) := by
  refine mm_startW (lo := [some (.ref 0), some (.int a1), some (.ref 215), none]) pn_L rfl rfl (Nat.le_of_ble_eq_true rfl) ?_
  refine mw_aload_n (pc := 0) dL_deepest_0 rfl ?_
  refine mw_iconst (pc := 1) dL_deepest_1 rfl ?_
  refine mw_aload_n (pc := 2) dL_deepest_2 rfl ?_
  refine mw_iload_n (pc := 3) dL_deepest_3 rfl ?_
  refine mw_call (pc := 4) hM cal_X10_deepest vir_X10_deepest ml_L_104 dL_deepest_4 (by omega) h0 (Nat.le_refl _) ⟨(Nat.le_of_ble_eq_true rfl), (Nat.le_of_ble_eq_true rfl)⟩ rfl rfl (Nat.le_of_ble_eq_true rfl) rfl hnc (fun x n m hp => ?_) (fun v n m hp => ?_)
  · obtain rfl := hX x n m hp
    exact ⟨1, ⟨Or.inr rfl, [], 0, 9, 12, 13, [], rfl, by decide, by decide, by decide, cl_L_13, fun z hz => absurd hz List.not_mem_nil, 3, 1, 1, (Nat.le_of_ble_eq_true rfl), Or.inl ⟨rfl, 3, rfl, dL_deepest_12⟩, dL_deepest_13, rfl, dL_deepest_14⟩, Or.inl ⟨1, hp, rfl⟩⟩
  · obtain ⟨rfl, ⟨w, rfl⟩, F, hF⟩ := hO v n m hp
    exact ⟨rfl, mw_tail dL_deepest_7 dL_deepest_8 dL_deepest_9 rfl dL_deepest_15 dL_deepest_16 rfl hx hF (Nat.le_of_ble_eq_true rfl) (Nat.le_of_ble_eq_true rfl) (Or.inr ⟨.int w, m, F, hp, hF, rfl, rfl⟩)⟩
theorem calW_L_poorest : mm_calW yL_poorest cL_poorest 4 (some .int) [(0, 9, 12, 13)] 3 := ⟨mm_in 1300 (by decide +kernel) rfl, mm_in 0 (by decide +kernel) rfl, ⟨by decide, by decide⟩, by decide +kernel, by decide⟩
theorem sta_L_poorest : Cond.static yL_poorest ∈ mm_ws := mm_in 1299 (by decide +kernel) rfl
theorem w_poorest {a1 : Int32} (hM : mm_Con G l yX10_poorest cX10_poorest 6 (some .int) d 8 48 [.ref 0, .int a1] nx h Po) (hx : 216 ≤ nx) (h0 : h 0 = .inr (10, fs)) (hnc : va_Nc (mm_exc 1) (mm_exc 0) (mm_s0 G)) (hO : WO nx Po) (hX : ∀ x n m, Po (.inr x) n m → x = 1) : mm_ConW G l yL_poorest cL_poorest 4 (some .int) [(0, 9, 12, 13)] (d + 1) 8 48 [.ref 0, .int a1, .ref 215] nx h (P_w 1 cvI Po) := by
  refine mm_startW (lo := [some (.ref 0), some (.int a1), some (.ref 215), none]) pn_L rfl rfl (Nat.le_of_ble_eq_true rfl) ?_
  refine mw_aload_n (pc := 0) dL_poorest_0 rfl ?_
  refine mw_iconst (pc := 1) dL_poorest_1 rfl ?_
  refine mw_aload_n (pc := 2) dL_poorest_2 rfl ?_
  refine mw_iload_n (pc := 3) dL_poorest_3 rfl ?_
  refine mw_call (pc := 4) hM cal_X10_poorest vir_X10_poorest ml_L_107 dL_poorest_4 (by omega) h0 (Nat.le_refl _) ⟨(Nat.le_of_ble_eq_true rfl), (Nat.le_of_ble_eq_true rfl)⟩ rfl rfl (Nat.le_of_ble_eq_true rfl) rfl hnc (fun x n m hp => ?_) (fun v n m hp => ?_)
  · obtain rfl := hX x n m hp
    exact ⟨1, ⟨Or.inr rfl, [], 0, 9, 12, 13, [], rfl, by decide, by decide, by decide, cl_L_13, fun z hz => absurd hz List.not_mem_nil, 3, 1, 1, (Nat.le_of_ble_eq_true rfl), Or.inl ⟨rfl, 3, rfl, dL_poorest_12⟩, dL_poorest_13, rfl, dL_poorest_14⟩, Or.inl ⟨1, hp, rfl⟩⟩
  · obtain ⟨rfl, ⟨w, rfl⟩, F, hF⟩ := hO v n m hp
    exact ⟨rfl, mw_tail dL_poorest_7 dL_poorest_8 dL_poorest_9 rfl dL_poorest_15 dL_poorest_16 rfl hx hF (Nat.le_of_ble_eq_true rfl) (Nat.le_of_ble_eq_true rfl) (Or.inr ⟨.int w, m, F, hp, hF, rfl, rfl⟩)⟩
theorem calW_L_winter : mm_calW yL_winter cL_winter 7 (some .int) [(0, 14, 17, 13)] 6 := ⟨mm_in 1307 (by decide +kernel) rfl, mm_in 0 (by decide +kernel) rfl, ⟨by decide, by decide⟩, by decide +kernel, by decide⟩
theorem sta_L_winter : Cond.static yL_winter ∈ mm_ws := mm_in 1306 (by decide +kernel) rfl
theorem w_winter {a1 a2 a3 a4 : Int32} (hM : mm_Con G l yX10_winter cX10_winter 5 (some .int) d 8 48 [.ref 0, .int a1, .int a2, .int a3, .int a4] nx h Po) (hx : 216 ≤ nx) (h0 : h 0 = .inr (10, fs)) (hnc : va_Nc (mm_exc 1) (mm_exc 0) (mm_s0 G)) (hO : WO nx Po) (hX : ∀ x n m, Po (.inr x) n m → x = 1) : mm_ConW G l yL_winter cL_winter 7 (some .int) [(0, 14, 17, 13)] (d + 1) 8 48 [.ref 0, .int a1, .int a2, .int a3, .int a4, .ref 215] nx h (P_w 1 cvI Po) := by
  refine mm_startW (lo := [some (.ref 0), some (.int a1), some (.int a2), some (.int a3), some (.int a4), some (.ref 215), none]) pn_L rfl rfl (Nat.le_of_ble_eq_true rfl) ?_
  refine mw_aload (pc := 0) dL_winter_0 rfl ?_
  refine mw_iconst (pc := 2) dL_winter_2 rfl ?_
  refine mw_aload_n (pc := 3) dL_winter_3 rfl ?_
  refine mw_iload_n (pc := 4) dL_winter_4 rfl ?_
  refine mw_iload_n (pc := 5) dL_winter_5 rfl ?_
  refine mw_iload_n (pc := 6) dL_winter_6 rfl ?_
  refine mw_iload (pc := 7) dL_winter_7 rfl ?_
  refine mw_call (pc := 9) hM cal_X10_winter vir_X10_winter ml_L_110 dL_winter_9 (by omega) h0 (Nat.le_refl _) ⟨(Nat.le_of_ble_eq_true rfl), (Nat.le_of_ble_eq_true rfl)⟩ rfl rfl (Nat.le_of_ble_eq_true rfl) rfl hnc (fun x n m hp => ?_) (fun v n m hp => ?_)
  · obtain rfl := hX x n m hp
    exact ⟨1, ⟨Or.inr rfl, [], 0, 14, 17, 13, [], rfl, by decide, by decide, by decide, cl_L_13, fun z hz => absurd hz List.not_mem_nil, 6, 2, 1, (Nat.le_of_ble_eq_true rfl), Or.inr ⟨rfl, dL_winter_17⟩, dL_winter_19, rfl, dL_winter_20⟩, Or.inl ⟨1, hp, rfl⟩⟩
  · obtain ⟨rfl, ⟨w, rfl⟩, F, hF⟩ := hO v n m hp
    exact ⟨rfl, mw_tail dL_winter_12 dL_winter_13 dL_winter_14 rfl dL_winter_21 dL_winter_22 rfl hx hF (Nat.le_of_ble_eq_true rfl) (Nat.le_of_ble_eq_true rfl) (Or.inr ⟨.int w, m, F, hp, hF, rfl, rfl⟩)⟩
theorem calW_L_span : mm_calW yL_span cL_span 9 (some .int) [(0, 18, 21, 13)] 8 := ⟨mm_in 1330 (by decide +kernel) rfl, mm_in 0 (by decide +kernel) rfl, ⟨by decide, by decide⟩, by decide +kernel, by decide⟩
theorem sta_L_span : Cond.static yL_span ∈ mm_ws := mm_in 1329 (by decide +kernel) rfl
theorem w_span {a1 a2 a3 a4 a5 a6 : Int32} (hM : mm_Con G l yX10_span cX10_span 12 (some .int) d 8 48 [.ref 0, .int a1, .int a2, .int a3, .int a4, .int a5, .int a6] nx h Po) (hx : 216 ≤ nx) (h0 : h 0 = .inr (10, fs)) (hnc : va_Nc (mm_exc 1) (mm_exc 0) (mm_s0 G)) (hO : WO nx Po) (hX : ∀ x n m, Po (.inr x) n m → x = 1) : mm_ConW G l yL_span cL_span 9 (some .int) [(0, 18, 21, 13)] (d + 1) 8 48 [.ref 0, .int a1, .int a2, .int a3, .int a4, .int a5, .int a6, .ref 215] nx h (P_w 1 cvI Po) := by
  refine mm_startW (lo := [some (.ref 0), some (.int a1), some (.int a2), some (.int a3), some (.int a4), some (.int a5), some (.int a6), some (.ref 215), none]) pn_L rfl rfl (Nat.le_of_ble_eq_true rfl) ?_
  refine mw_aload (pc := 0) dL_span_0 rfl ?_
  refine mw_iconst (pc := 2) dL_span_2 rfl ?_
  refine mw_aload_n (pc := 3) dL_span_3 rfl ?_
  refine mw_iload_n (pc := 4) dL_span_4 rfl ?_
  refine mw_iload_n (pc := 5) dL_span_5 rfl ?_
  refine mw_iload_n (pc := 6) dL_span_6 rfl ?_
  refine mw_iload (pc := 7) dL_span_7 rfl ?_
  refine mw_iload (pc := 9) dL_span_9 rfl ?_
  refine mw_iload (pc := 11) dL_span_11 rfl ?_
  refine mw_call (pc := 13) hM cal_X10_span vir_X10_span ml_L_113 dL_span_13 (by omega) h0 (Nat.le_refl _) ⟨(Nat.le_of_ble_eq_true rfl), (Nat.le_of_ble_eq_true rfl)⟩ rfl rfl (Nat.le_of_ble_eq_true rfl) rfl hnc (fun x n m hp => ?_) (fun v n m hp => ?_)
  · obtain rfl := hX x n m hp
    exact ⟨1, ⟨Or.inr rfl, [], 0, 18, 21, 13, [], rfl, by decide, by decide, by decide, cl_L_13, fun z hz => absurd hz List.not_mem_nil, 8, 2, 1, (Nat.le_of_ble_eq_true rfl), Or.inr ⟨rfl, dL_span_21⟩, dL_span_23, rfl, dL_span_24⟩, Or.inl ⟨1, hp, rfl⟩⟩
  · obtain ⟨rfl, ⟨w, rfl⟩, F, hF⟩ := hO v n m hp
    exact ⟨rfl, mw_tail dL_span_16 dL_span_17 dL_span_18 rfl dL_span_25 dL_span_26 rfl hx hF (Nat.le_of_ble_eq_true rfl) (Nat.le_of_ble_eq_true rfl) (Or.inr ⟨.int w, m, F, hp, hF, rfl, rfl⟩)⟩
end MWC
