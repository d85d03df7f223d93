/-! The reference's constructor. -/
theorem mos_of {W : Nat → mm_E} {g : MG} {A : MA} (h1 : W 188 = moE g) (h2 : ∀ j, mAr j = true → W j = .inl (0, mlen j, .inl (A j))) : mos W g A = W := by
  funext j
  unfold mos
  by_cases hj : j = 188
  · rw [if_pos hj, hj, h1]
  · rw [if_neg hj]
    by_cases hq : mAr j = true
    · rw [if_pos hq, h2 j hq]
    · rw [if_neg hq]
theorem mos_wf {n : Nat} {W : Nat → mm_E} {g : MG} {A : MA} (hn : 215 ≤ n) (hw : mm_wf n W) : mm_wf n (mos W g A) := by
  intro j hj
  unfold mos
  by_cases h1 : j = 188
  · rw [if_pos h1]
    refine mm_ew_obj fun v hv => ?_
    simp only [moL, List.mem_cons, List.not_mem_nil, or_false] at hv
    repeat' (rcases hv with rfl | hv)
    all_goals first | exact mm_vw_int _ _ | exact mm_vw_ref (by omega) | (subst hv; first | exact mm_vw_int _ _ | exact mm_vw_ref (by omega))
  · rw [if_neg h1]
    by_cases hq : mAr j = true
    · rw [if_pos hq]
      exact mm_ew_i
    · rw [if_neg hq]
      exact hw j hj
section CCE
variable {G : mm_G} {l : Launch} {d : Nat} {h : Nat → mm_E}
set_option maxHeartbeats 4000000 in
theorem c_X11i (hd : 10 ≤ d) (hh : h 188 = .inr (11, [.int 0, .null, .int 0, .int 0, .int 0, .int 0, .int 0, .int 0, .int 0, .null, .null, .null, .null, .null, .null, .null, .int 0, .int 0, .int 0, .int 0, .null, .null, .null, .null, .null, .int 0, .int 0, .null, .null, .null, .int 0, .int 0, .int 0, .int 0, .int 0, .int 0, .null, .null, .null, .null, .null, .int 0, .null, .null, .null, .int 0, .int 0, .null, .int 0, .null, .int 0])) (hw : mm_wf 189 h) : mm_Con G l yX11_init cX11_init 1 none d 26 8280 [.ref 188] 189 h (fun o n m => o = .inl none ∧ n = 215 ∧ mm_wf 215 m ∧ ∃ W f, m = mos W (setG (upd (upd (upd (fun _ => 0) 8 (-1)) 16 0) 17 0) 0 0) (updR (setA (fun _ _ => 0)) 205 f) ∧ (∀ j, j < 91 → f j = bgM (fun _ => 0) (fun _ => 0) 0 0 j) ∧ (∀ j, j < 188 → W j = h j) ∧ W 213 = bkE (fun _ => 0)) := by
  have hw0 : mm_wf 189 (hset h 188 (.inr (11, [.int 0, .null, .int 0, .int 0, .int 0, .int 0, .int 0, .int 0, .int 0, .null, .null, .null, .null, .null, .null, .null, .int 0, .int 0, .int 0, .int 0, .null, .null, .null, .null, .null, .int 0, .int 0, .null, .null, .null, .int 0, .int 0, .int 0, .int 0, .int 0, .int 0, .null, .null, .null, .null, .null, .int 0, .null, .null, .null, .int 0, .int 0, .null, .int 0, .null, .int 0]))) := by rw [hset_self hh]; exact hw
  refine mm_start (lo := [some (.ref 188)]) pn_X11 rfl rfl (Nat.le_of_ble_eq_true rfl) ?_
  refine mt_aload_n (pc := 0) dX11_init_0 rfl ?_
  refine mt_objI (pc := 1) ol_X11 dX11_init_1 (by show 1 ≤ d; omega) (Nat.le_of_ble_eq_true rfl) ?_
  refine mt_heq (h' := hset h 188 (.inr (11, [.int 0, .null, .int 0, .int 0, .int 0, .int 0, .int 0, .int 0, .int 0, .null, .null, .null, .null, .null, .null, .null, .int 0, .int 0, .int 0, .int 0, .null, .null, .null, .null, .null, .int 0, .int 0, .null, .null, .null, .int 0, .int 0, .int 0, .int 0, .int 0, .int 0, .null, .null, .null, .null, .null, .int 0, .null, .null, .null, .int 0, .int 0, .null, .int 0, .null, .int 0]))) (hset_self hh).symm ?_
  refine mt_aload_n (pc := 4) dX11_init_4 rfl ?_
  refine mt_iconst (pc := 5) (v := 2) dX11_init_5 (by decide) ?_
  refine mt_mkI (pc := 6) (N := 2) dX11_init_6 dX11_init_8 pf_X11_7 rfl (by decide) (by decide) (by decide) (Nat.le_of_ble_eq_true rfl) (Nat.le_of_ble_eq_true rfl) (Nat.le_of_ble_eq_true rfl) (by decide) (by decide) hw0 (fun v hv => by simp at hv; subst hv; exact mm_vw_ref (by decide)) ?_
  intro hw1
  refine mt_aload_n (pc := 11) dX11_init_11 rfl ?_
  refine mt_iconst (pc := 12) (v := (-1)) dX11_init_12 (by decide) ?_
  refine mt_puti2 (pc := 13) pf_X11_17 dX11_init_13 (by decide) (Nat.le_of_ble_eq_true rfl) ?_
  have hq9 := mm_wf_set (i := 188) hw1 (mm_ew_seti (k := 8) (x := -1) (mm_wf_at hw1 (by decide) (hset_eq _ _ _)))
  rw [hset_hset] at hq9
  clear hw1
  have hw1 := hq9
  refine mt_aload_n (pc := 16) dX11_init_16 rfl ?_
  refine mt_sipush (pc := 17) (v := 600) dX11_init_17 (by decide) ?_
  refine mt_mkI (pc := 20) (N := 600) dX11_init_20 dX11_init_22 pf_X11_20 rfl (by decide) (by decide) (by decide) (Nat.le_of_ble_eq_true rfl) (Nat.le_of_ble_eq_true rfl) (Nat.le_of_ble_eq_true rfl) (by decide) (by decide) hw1 (fun v hv => by simp at hv; subst hv; exact mm_vw_ref (by decide)) ?_
  intro hw2
  refine mt_aload_n (pc := 25) dX11_init_25 rfl ?_
  refine mt_bipush (pc := 26) (v := 16) dX11_init_26 (by decide) ?_
  refine mt_mkI (pc := 28) (N := 16) dX11_init_28 dX11_init_30 pf_X11_23 rfl (by decide) (by decide) (by decide) (Nat.le_of_ble_eq_true rfl) (Nat.le_of_ble_eq_true rfl) (Nat.le_of_ble_eq_true rfl) (by decide) (by decide) hw2 (fun v hv => by simp at hv; subst hv; exact mm_vw_ref (by decide)) ?_
  intro hw3
  refine mt_aload_n (pc := 33) dX11_init_33 rfl ?_
  refine mt_bipush (pc := 34) (v := 12) dX11_init_34 (by decide) ?_
  refine mt_mkI (pc := 36) (N := 12) dX11_init_36 dX11_init_38 pf_X11_26 rfl (by decide) (by decide) (by decide) (Nat.le_of_ble_eq_true rfl) (Nat.le_of_ble_eq_true rfl) (Nat.le_of_ble_eq_true rfl) (by decide) (by decide) hw3 (fun v hv => by simp at hv; subst hv; exact mm_vw_ref (by decide)) ?_
  intro hw4
  refine mt_aload_n (pc := 41) dX11_init_41 rfl ?_
  refine mt_bipush (pc := 42) (v := 6) dX11_init_42 (by decide) ?_
  refine mt_mkI (pc := 44) (N := 6) dX11_init_44 dX11_init_46 pf_X11_29 rfl (by decide) (by decide) (by decide) (Nat.le_of_ble_eq_true rfl) (Nat.le_of_ble_eq_true rfl) (Nat.le_of_ble_eq_true rfl) (by decide) (by decide) hw4 (fun v hv => by simp at hv; subst hv; exact mm_vw_ref (by decide)) ?_
  intro hw5
  refine mt_aload_n (pc := 49) dX11_init_49 rfl ?_
  refine mt_bipush (pc := 50) (v := 16) dX11_init_50 (by decide) ?_
  refine mt_mkI (pc := 52) (N := 16) dX11_init_52 dX11_init_54 pf_X11_32 rfl (by decide) (by decide) (by decide) (Nat.le_of_ble_eq_true rfl) (Nat.le_of_ble_eq_true rfl) (Nat.le_of_ble_eq_true rfl) (by decide) (by decide) hw5 (fun v hv => by simp at hv; subst hv; exact mm_vw_ref (by decide)) ?_
  intro hw6
  refine mt_aload_n (pc := 57) dX11_init_57 rfl ?_
  refine mt_bipush (pc := 58) (v := 12) dX11_init_58 (by decide) ?_
  refine mt_mkI (pc := 60) (N := 12) dX11_init_60 dX11_init_62 pf_X11_35 rfl (by decide) (by decide) (by decide) (Nat.le_of_ble_eq_true rfl) (Nat.le_of_ble_eq_true rfl) (Nat.le_of_ble_eq_true rfl) (by decide) (by decide) hw6 (fun v hv => by simp at hv; subst hv; exact mm_vw_ref (by decide)) ?_
  intro hw7
  refine mt_aload_n (pc := 65) dX11_init_65 rfl ?_
  refine mt_bipush (pc := 66) (v := 6) dX11_init_66 (by decide) ?_
  refine mt_mkI (pc := 68) (N := 6) dX11_init_68 dX11_init_70 pf_X11_38 rfl (by decide) (by decide) (by decide) (Nat.le_of_ble_eq_true rfl) (Nat.le_of_ble_eq_true rfl) (Nat.le_of_ble_eq_true rfl) (by decide) (by decide) hw7 (fun v hv => by simp at hv; subst hv; exact mm_vw_ref (by decide)) ?_
  intro hw8
  refine mt_aload_n (pc := 73) dX11_init_73 rfl ?_
  refine mt_sipush (pc := 74) (v := 150) dX11_init_74 (by decide) ?_
  refine mt_mkI (pc := 77) (N := 150) dX11_init_77 dX11_init_79 pf_X11_41 rfl (by decide) (by decide) (by decide) (Nat.le_of_ble_eq_true rfl) (Nat.le_of_ble_eq_true rfl) (Nat.le_of_ble_eq_true rfl) (by decide) (by decide) hw8 (fun v hv => by simp at hv; subst hv; exact mm_vw_ref (by decide)) ?_
  intro hw9
  refine mt_aload_n (pc := 82) dX11_init_82 rfl ?_
  refine mt_sipush (pc := 83) (v := 150) dX11_init_83 (by decide) ?_
  refine mt_mkI (pc := 86) (N := 150) dX11_init_86 dX11_init_88 pf_X11_44 rfl (by decide) (by decide) (by decide) (Nat.le_of_ble_eq_true rfl) (Nat.le_of_ble_eq_true rfl) (Nat.le_of_ble_eq_true rfl) (by decide) (by decide) hw9 (fun v hv => by simp at hv; subst hv; exact mm_vw_ref (by decide)) ?_
  intro hw10
  refine mt_aload_n (pc := 91) dX11_init_91 rfl ?_
  refine mt_sipush (pc := 92) (v := 150) dX11_init_92 (by decide) ?_
  refine mt_mkI (pc := 95) (N := 150) dX11_init_95 dX11_init_97 pf_X11_47 rfl (by decide) (by decide) (by decide) (Nat.le_of_ble_eq_true rfl) (Nat.le_of_ble_eq_true rfl) (Nat.le_of_ble_eq_true rfl) (by decide) (by decide) hw10 (fun v hv => by simp at hv; subst hv; exact mm_vw_ref (by decide)) ?_
  intro hw11
  refine mt_aload_n (pc := 100) dX11_init_100 rfl ?_
  refine mt_sipush (pc := 101) (v := 150) dX11_init_101 (by decide) ?_
  refine mt_mkI (pc := 104) (N := 150) dX11_init_104 dX11_init_106 pf_X11_50 rfl (by decide) (by decide) (by decide) (Nat.le_of_ble_eq_true rfl) (Nat.le_of_ble_eq_true rfl) (Nat.le_of_ble_eq_true rfl) (by decide) (by decide) hw11 (fun v hv => by simp at hv; subst hv; exact mm_vw_ref (by decide)) ?_
  intro hw12
  refine mt_aload_n (pc := 109) dX11_init_109 rfl ?_
  refine mt_sipush (pc := 110) (v := 150) dX11_init_110 (by decide) ?_
  refine mt_mkI (pc := 113) (N := 150) dX11_init_113 dX11_init_115 pf_X11_53 rfl (by decide) (by decide) (by decide) (Nat.le_of_ble_eq_true rfl) (Nat.le_of_ble_eq_true rfl) (Nat.le_of_ble_eq_true rfl) (by decide) (by decide) hw12 (fun v hv => by simp at hv; subst hv; exact mm_vw_ref (by decide)) ?_
  intro hw13
  refine mt_aload_n (pc := 118) dX11_init_118 rfl ?_
  refine mt_bipush (pc := 119) (v := 8) dX11_init_119 (by decide) ?_
  refine mt_mkI (pc := 121) (N := 8) dX11_init_121 dX11_init_123 pf_X11_56 rfl (by decide) (by decide) (by decide) (Nat.le_of_ble_eq_true rfl) (Nat.le_of_ble_eq_true rfl) (Nat.le_of_ble_eq_true rfl) (by decide) (by decide) hw13 (fun v hv => by simp at hv; subst hv; exact mm_vw_ref (by decide)) ?_
  intro hw14
  refine mt_aload_n (pc := 126) dX11_init_126 rfl ?_
  refine mt_sipush (pc := 127) (v := 250) dX11_init_127 (by decide) ?_
  refine mt_mkI (pc := 130) (N := 250) dX11_init_130 dX11_init_132 pf_X11_59 rfl (by decide) (by decide) (by decide) (Nat.le_of_ble_eq_true rfl) (Nat.le_of_ble_eq_true rfl) (Nat.le_of_ble_eq_true rfl) (by decide) (by decide) hw14 (fun v hv => by simp at hv; subst hv; exact mm_vw_ref (by decide)) ?_
  intro hw15
  refine mt_aload_n (pc := 135) dX11_init_135 rfl ?_
  refine mt_sipush (pc := 136) (v := 250) dX11_init_136 (by decide) ?_
  refine mt_mkI (pc := 139) (N := 250) dX11_init_139 dX11_init_141 pf_X11_62 rfl (by decide) (by decide) (by decide) (Nat.le_of_ble_eq_true rfl) (Nat.le_of_ble_eq_true rfl) (Nat.le_of_ble_eq_true rfl) (by decide) (by decide) hw15 (fun v hv => by simp at hv; subst hv; exact mm_vw_ref (by decide)) ?_
  intro hw16
  refine mt_aload_n (pc := 144) dX11_init_144 rfl ?_
  refine mt_bipush (pc := 145) (v := 91) dX11_init_145 (by decide) ?_
  refine mt_mkI (pc := 147) (N := 91) dX11_init_147 dX11_init_149 pf_X11_65 rfl (by decide) (by decide) (by decide) (Nat.le_of_ble_eq_true rfl) (Nat.le_of_ble_eq_true rfl) (Nat.le_of_ble_eq_true rfl) (by decide) (by decide) hw16 (fun v hv => by simp at hv; subst hv; exact mm_vw_ref (by decide)) ?_
  intro hw17
  refine mt_aload_n (pc := 152) dX11_init_152 rfl ?_
  refine mt_bipush (pc := 153) (v := 91) dX11_init_153 (by decide) ?_
  refine mt_mkI (pc := 155) (N := 91) dX11_init_155 dX11_init_157 pf_X11_68 rfl (by decide) (by decide) (by decide) (Nat.le_of_ble_eq_true rfl) (Nat.le_of_ble_eq_true rfl) (Nat.le_of_ble_eq_true rfl) (by decide) (by decide) hw17 (fun v hv => by simp at hv; subst hv; exact mm_vw_ref (by decide)) ?_
  intro hw18
  refine mt_aload_n (pc := 160) dX11_init_160 rfl ?_
  refine mt_sipush (pc := 161) (v := 1456) dX11_init_161 (by decide) ?_
  refine mt_mkI (pc := 164) (N := 1456) dX11_init_164 dX11_init_166 pf_X11_71 rfl (by decide) (by decide) (by decide) (Nat.le_of_ble_eq_true rfl) (Nat.le_of_ble_eq_true rfl) (Nat.le_of_ble_eq_true rfl) (by decide) (by decide) hw18 (fun v hv => by simp at hv; subst hv; exact mm_vw_ref (by decide)) ?_
  intro hw19
  refine mt_aload_n (pc := 169) dX11_init_169 rfl ?_
  refine mt_bipush (pc := 170) (v := 18) dX11_init_170 (by decide) ?_
  refine mt_mkI (pc := 172) (N := 18) dX11_init_172 dX11_init_174 pf_X11_74 rfl (by decide) (by decide) (by decide) (Nat.le_of_ble_eq_true rfl) (Nat.le_of_ble_eq_true rfl) (Nat.le_of_ble_eq_true rfl) (by decide) (by decide) hw19 (fun v hv => by simp at hv; subst hv; exact mm_vw_ref (by decide)) ?_
  intro hw20
  refine mt_aload_n (pc := 177) dX11_init_177 rfl ?_
  refine mt_bipush (pc := 178) (v := 18) dX11_init_178 (by decide) ?_
  refine mt_mkI (pc := 180) (N := 18) dX11_init_180 dX11_init_182 pf_X11_77 rfl (by decide) (by decide) (by decide) (Nat.le_of_ble_eq_true rfl) (Nat.le_of_ble_eq_true rfl) (Nat.le_of_ble_eq_true rfl) (by decide) (by decide) hw20 (fun v hv => by simp at hv; subst hv; exact mm_vw_ref (by decide)) ?_
  intro hw21
  refine mt_aload_n (pc := 185) dX11_init_185 rfl ?_
  refine mt_bipush (pc := 186) (v := 8) dX11_init_186 (by decide) ?_
  refine mt_mkI (pc := 188) (N := 8) dX11_init_188 dX11_init_190 pf_X11_80 rfl (by decide) (by decide) (by decide) (Nat.le_of_ble_eq_true rfl) (Nat.le_of_ble_eq_true rfl) (Nat.le_of_ble_eq_true rfl) (by decide) (by decide) hw21 (fun v hv => by simp at hv; subst hv; exact mm_vw_ref (by decide)) ?_
  intro hw22
  refine mt_aload_n (pc := 193) dX11_init_193 rfl ?_
  refine mt_bipush (pc := 194) (v := 6) dX11_init_194 (by decide) ?_
  refine mt_mkI (pc := 196) (N := 6) dX11_init_196 dX11_init_198 pf_X11_83 rfl (by decide) (by decide) (by decide) (Nat.le_of_ble_eq_true rfl) (Nat.le_of_ble_eq_true rfl) (Nat.le_of_ble_eq_true rfl) (by decide) (by decide) hw22 (fun v hv => by simp at hv; subst hv; exact mm_vw_ref (by decide)) ?_
  intro hw23
  refine mt_aload_n (pc := 201) dX11_init_201 rfl ?_
  refine mt_bipush (pc := 202) (v := 6) dX11_init_202 (by decide) ?_
  refine mt_mkI (pc := 204) (N := 6) dX11_init_204 dX11_init_206 pf_X11_86 rfl (by decide) (by decide) (by decide) (Nat.le_of_ble_eq_true rfl) (Nat.le_of_ble_eq_true rfl) (Nat.le_of_ble_eq_true rfl) (by decide) (by decide) hw23 (fun v hv => by simp at hv; subst hv; exact mm_vw_ref (by decide)) ?_
  intro hw24
  refine mt_aload_n (pc := 209) dX11_init_209 rfl ?_
  refine mt_bipush (pc := 210) (v := 14) dX11_init_210 (by decide) ?_
  refine mt_mkL (pc := 212) (N := 14) dX11_init_212 dX11_init_214 pf_X11_89 rfl (by decide) (by decide) (by decide) (Nat.le_of_ble_eq_true rfl) (Nat.le_of_ble_eq_true rfl) (Nat.le_of_ble_eq_true rfl) (by decide) (by decide) hw24 (fun v hv => by simp at hv; subst hv; exact mm_vw_ref (by decide)) ?_
  intro hw25
  refine mt_aload_n (pc := 217) dX11_init_217 rfl ?_
  refine mt_sipush (pc := 218) (v := 4644) dX11_init_218 (by decide) ?_
  refine mt_mkI (pc := 221) (N := 4644) dX11_init_221 dX11_init_223 pf_X11_93 rfl (by decide) (by decide) (by decide) (Nat.le_of_ble_eq_true rfl) (Nat.le_of_ble_eq_true rfl) (Nat.le_of_ble_eq_true rfl) (by decide) (by decide) hw25 (fun v hv => by simp at hv; subst hv; exact mm_vw_ref (by decide)) ?_
  intro hw26
  obtain ⟨W, hW⟩ : ∃ W, W = hset (hset (hset (hset (hset (hset (hset (hset (hset (hset (hset (hset (hset (hset (hset (hset (hset (hset (hset (hset (hset (hset (hset (hset (hset (hset (hset (h) 189 (.inl (0, 2, .inl (fun _ => 0)))) 190 (.inl (0, 600, .inl (fun _ => 0)))) 191 (.inl (0, 16, .inl (fun _ => 0)))) 192 (.inl (0, 12, .inl (fun _ => 0)))) 193 (.inl (0, 6, .inl (fun _ => 0)))) 194 (.inl (0, 16, .inl (fun _ => 0)))) 195 (.inl (0, 12, .inl (fun _ => 0)))) 196 (.inl (0, 6, .inl (fun _ => 0)))) 197 (.inl (0, 150, .inl (fun _ => 0)))) 198 (.inl (0, 150, .inl (fun _ => 0)))) 199 (.inl (0, 150, .inl (fun _ => 0)))) 200 (.inl (0, 150, .inl (fun _ => 0)))) 201 (.inl (0, 150, .inl (fun _ => 0)))) 202 (.inl (0, 8, .inl (fun _ => 0)))) 203 (.inl (0, 250, .inl (fun _ => 0)))) 204 (.inl (0, 250, .inl (fun _ => 0)))) 205 (.inl (0, 91, .inl (fun _ => 0)))) 206 (.inl (0, 91, .inl (fun _ => 0)))) 207 (.inl (0, 1456, .inl (fun _ => 0)))) 208 (.inl (0, 18, .inl (fun _ => 0)))) 209 (.inl (0, 18, .inl (fun _ => 0)))) 210 (.inl (0, 8, .inl (fun _ => 0)))) 211 (.inl (0, 6, .inl (fun _ => 0)))) 212 (.inl (0, 6, .inl (fun _ => 0)))) 213 (.inl (2, 14, .inr (.inl (fun _ => 0))))) 214 (.inl (0, 4644, .inl (fun _ => 0)))) 188 (moE (upd (fun _ => 0) 8 (-1))) := ⟨_, rfl⟩
  refine mt_heq (h' := W) (by rw [hW]; rfl) ?_
  have hwW : mm_wf 215 W := by rw [hW]; exact hw26
  have f188 : W 188 = moE (upd (fun _ => 0) 8 (-1)) := by rw [hW, hset_eq]
  have f189 : W 189 = .inl (0, 2, .inl (fun _ => 0)) := by rw [hW, hset_ne (by decide), hset_ne (by decide), hset_ne (by decide), hset_ne (by decide), hset_ne (by decide), hset_ne (by decide), hset_ne (by decide), hset_ne (by decide), hset_ne (by decide), hset_ne (by decide), hset_ne (by decide), hset_ne (by decide), hset_ne (by decide), hset_ne (by decide), hset_ne (by decide), hset_ne (by decide), hset_ne (by decide), hset_ne (by decide), hset_ne (by decide), hset_ne (by decide), hset_ne (by decide), hset_ne (by decide), hset_ne (by decide), hset_ne (by decide), hset_ne (by decide), hset_ne (by decide), hset_eq]
  have f190 : W 190 = .inl (0, 600, .inl (fun _ => 0)) := by rw [hW, hset_ne (by decide), hset_ne (by decide), hset_ne (by decide), hset_ne (by decide), hset_ne (by decide), hset_ne (by decide), hset_ne (by decide), hset_ne (by decide), hset_ne (by decide), hset_ne (by decide), hset_ne (by decide), hset_ne (by decide), hset_ne (by decide), hset_ne (by decide), hset_ne (by decide), hset_ne (by decide), hset_ne (by decide), hset_ne (by decide), hset_ne (by decide), hset_ne (by decide), hset_ne (by decide), hset_ne (by decide), hset_ne (by decide), hset_ne (by decide), hset_ne (by decide), hset_eq]
  have f191 : W 191 = .inl (0, 16, .inl (fun _ => 0)) := by rw [hW, hset_ne (by decide), hset_ne (by decide), hset_ne (by decide), hset_ne (by decide), hset_ne (by decide), hset_ne (by decide), hset_ne (by decide), hset_ne (by decide), hset_ne (by decide), hset_ne (by decide), hset_ne (by decide), hset_ne (by decide), hset_ne (by decide), hset_ne (by decide), hset_ne (by decide), hset_ne (by decide), hset_ne (by decide), hset_ne (by decide), hset_ne (by decide), hset_ne (by decide), hset_ne (by decide), hset_ne (by decide), hset_ne (by decide), hset_ne (by decide), hset_eq]
  have f192 : W 192 = .inl (0, 12, .inl (fun _ => 0)) := by rw [hW, hset_ne (by decide), hset_ne (by decide), hset_ne (by decide), hset_ne (by decide), hset_ne (by decide), hset_ne (by decide), hset_ne (by decide), hset_ne (by decide), hset_ne (by decide), hset_ne (by decide), hset_ne (by decide), hset_ne (by decide), hset_ne (by decide), hset_ne (by decide), hset_ne (by decide), hset_ne (by decide), hset_ne (by decide), hset_ne (by decide), hset_ne (by decide), hset_ne (by decide), hset_ne (by decide), hset_ne (by decide), hset_ne (by decide), hset_eq]
  have f193 : W 193 = .inl (0, 6, .inl (fun _ => 0)) := by rw [hW, hset_ne (by decide), hset_ne (by decide), hset_ne (by decide), hset_ne (by decide), hset_ne (by decide), hset_ne (by decide), hset_ne (by decide), hset_ne (by decide), hset_ne (by decide), hset_ne (by decide), hset_ne (by decide), hset_ne (by decide), hset_ne (by decide), hset_ne (by decide), hset_ne (by decide), hset_ne (by decide), hset_ne (by decide), hset_ne (by decide), hset_ne (by decide), hset_ne (by decide), hset_ne (by decide), hset_ne (by decide), hset_eq]
  have f194 : W 194 = .inl (0, 16, .inl (fun _ => 0)) := by rw [hW, hset_ne (by decide), hset_ne (by decide), hset_ne (by decide), hset_ne (by decide), hset_ne (by decide), hset_ne (by decide), hset_ne (by decide), hset_ne (by decide), hset_ne (by decide), hset_ne (by decide), hset_ne (by decide), hset_ne (by decide), hset_ne (by decide), hset_ne (by decide), hset_ne (by decide), hset_ne (by decide), hset_ne (by decide), hset_ne (by decide), hset_ne (by decide), hset_ne (by decide), hset_ne (by decide), hset_eq]
  have f195 : W 195 = .inl (0, 12, .inl (fun _ => 0)) := by rw [hW, hset_ne (by decide), hset_ne (by decide), hset_ne (by decide), hset_ne (by decide), hset_ne (by decide), hset_ne (by decide), hset_ne (by decide), hset_ne (by decide), hset_ne (by decide), hset_ne (by decide), hset_ne (by decide), hset_ne (by decide), hset_ne (by decide), hset_ne (by decide), hset_ne (by decide), hset_ne (by decide), hset_ne (by decide), hset_ne (by decide), hset_ne (by decide), hset_ne (by decide), hset_eq]
  have f196 : W 196 = .inl (0, 6, .inl (fun _ => 0)) := by rw [hW, hset_ne (by decide), hset_ne (by decide), hset_ne (by decide), hset_ne (by decide), hset_ne (by decide), hset_ne (by decide), hset_ne (by decide), hset_ne (by decide), hset_ne (by decide), hset_ne (by decide), hset_ne (by decide), hset_ne (by decide), hset_ne (by decide), hset_ne (by decide), hset_ne (by decide), hset_ne (by decide), hset_ne (by decide), hset_ne (by decide), hset_ne (by decide), hset_eq]
  have f197 : W 197 = .inl (0, 150, .inl (fun _ => 0)) := by rw [hW, hset_ne (by decide), hset_ne (by decide), hset_ne (by decide), hset_ne (by decide), hset_ne (by decide), hset_ne (by decide), hset_ne (by decide), hset_ne (by decide), hset_ne (by decide), hset_ne (by decide), hset_ne (by decide), hset_ne (by decide), hset_ne (by decide), hset_ne (by decide), hset_ne (by decide), hset_ne (by decide), hset_ne (by decide), hset_ne (by decide), hset_eq]
  have f198 : W 198 = .inl (0, 150, .inl (fun _ => 0)) := by rw [hW, hset_ne (by decide), hset_ne (by decide), hset_ne (by decide), hset_ne (by decide), hset_ne (by decide), hset_ne (by decide), hset_ne (by decide), hset_ne (by decide), hset_ne (by decide), hset_ne (by decide), hset_ne (by decide), hset_ne (by decide), hset_ne (by decide), hset_ne (by decide), hset_ne (by decide), hset_ne (by decide), hset_ne (by decide), hset_eq]
  have f199 : W 199 = .inl (0, 150, .inl (fun _ => 0)) := by rw [hW, hset_ne (by decide), hset_ne (by decide), hset_ne (by decide), hset_ne (by decide), hset_ne (by decide), hset_ne (by decide), hset_ne (by decide), hset_ne (by decide), hset_ne (by decide), hset_ne (by decide), hset_ne (by decide), hset_ne (by decide), hset_ne (by decide), hset_ne (by decide), hset_ne (by decide), hset_ne (by decide), hset_eq]
  have f200 : W 200 = .inl (0, 150, .inl (fun _ => 0)) := by rw [hW, hset_ne (by decide), hset_ne (by decide), hset_ne (by decide), hset_ne (by decide), hset_ne (by decide), hset_ne (by decide), hset_ne (by decide), hset_ne (by decide), hset_ne (by decide), hset_ne (by decide), hset_ne (by decide), hset_ne (by decide), hset_ne (by decide), hset_ne (by decide), hset_ne (by decide), hset_eq]
  have f201 : W 201 = .inl (0, 150, .inl (fun _ => 0)) := by rw [hW, hset_ne (by decide), hset_ne (by decide), hset_ne (by decide), hset_ne (by decide), hset_ne (by decide), hset_ne (by decide), hset_ne (by decide), hset_ne (by decide), hset_ne (by decide), hset_ne (by decide), hset_ne (by decide), hset_ne (by decide), hset_ne (by decide), hset_ne (by decide), hset_eq]
  have f202 : W 202 = .inl (0, 8, .inl (fun _ => 0)) := by rw [hW, hset_ne (by decide), hset_ne (by decide), hset_ne (by decide), hset_ne (by decide), hset_ne (by decide), hset_ne (by decide), hset_ne (by decide), hset_ne (by decide), hset_ne (by decide), hset_ne (by decide), hset_ne (by decide), hset_ne (by decide), hset_ne (by decide), hset_eq]
  have f203 : W 203 = .inl (0, 250, .inl (fun _ => 0)) := by rw [hW, hset_ne (by decide), hset_ne (by decide), hset_ne (by decide), hset_ne (by decide), hset_ne (by decide), hset_ne (by decide), hset_ne (by decide), hset_ne (by decide), hset_ne (by decide), hset_ne (by decide), hset_ne (by decide), hset_ne (by decide), hset_eq]
  have f204 : W 204 = .inl (0, 250, .inl (fun _ => 0)) := by rw [hW, hset_ne (by decide), hset_ne (by decide), hset_ne (by decide), hset_ne (by decide), hset_ne (by decide), hset_ne (by decide), hset_ne (by decide), hset_ne (by decide), hset_ne (by decide), hset_ne (by decide), hset_ne (by decide), hset_eq]
  have f205 : W 205 = .inl (0, 91, .inl (fun _ => 0)) := by rw [hW, hset_ne (by decide), hset_ne (by decide), hset_ne (by decide), hset_ne (by decide), hset_ne (by decide), hset_ne (by decide), hset_ne (by decide), hset_ne (by decide), hset_ne (by decide), hset_ne (by decide), hset_eq]
  have f206 : W 206 = .inl (0, 91, .inl (fun _ => 0)) := by rw [hW, hset_ne (by decide), hset_ne (by decide), hset_ne (by decide), hset_ne (by decide), hset_ne (by decide), hset_ne (by decide), hset_ne (by decide), hset_ne (by decide), hset_ne (by decide), hset_eq]
  have f207 : W 207 = .inl (0, 1456, .inl (fun _ => 0)) := by rw [hW, hset_ne (by decide), hset_ne (by decide), hset_ne (by decide), hset_ne (by decide), hset_ne (by decide), hset_ne (by decide), hset_ne (by decide), hset_ne (by decide), hset_eq]
  have f208 : W 208 = .inl (0, 18, .inl (fun _ => 0)) := by rw [hW, hset_ne (by decide), hset_ne (by decide), hset_ne (by decide), hset_ne (by decide), hset_ne (by decide), hset_ne (by decide), hset_ne (by decide), hset_eq]
  have f209 : W 209 = .inl (0, 18, .inl (fun _ => 0)) := by rw [hW, hset_ne (by decide), hset_ne (by decide), hset_ne (by decide), hset_ne (by decide), hset_ne (by decide), hset_ne (by decide), hset_eq]
  have f210 : W 210 = .inl (0, 8, .inl (fun _ => 0)) := by rw [hW, hset_ne (by decide), hset_ne (by decide), hset_ne (by decide), hset_ne (by decide), hset_ne (by decide), hset_eq]
  have f211 : W 211 = .inl (0, 6, .inl (fun _ => 0)) := by rw [hW, hset_ne (by decide), hset_ne (by decide), hset_ne (by decide), hset_ne (by decide), hset_eq]
  have f212 : W 212 = .inl (0, 6, .inl (fun _ => 0)) := by rw [hW, hset_ne (by decide), hset_ne (by decide), hset_ne (by decide), hset_eq]
  have f213 : W 213 = .inl (2, 14, .inr (.inl (fun _ => 0))) := by rw [hW, hset_ne (by decide), hset_ne (by decide), hset_eq]
  have f214 : W 214 = .inl (0, 4644, .inl (fun _ => 0)) := by rw [hW, hset_ne (by decide), hset_eq]
  have fl : ∀ j, j < 188 → W j = h j := fun j hj => by rw [hW, hset_ne (by omega), hset_ne (by omega), hset_ne (by omega), hset_ne (by omega), hset_ne (by omega), hset_ne (by omega), hset_ne (by omega), hset_ne (by omega), hset_ne (by omega), hset_ne (by omega), hset_ne (by omega), hset_ne (by omega), hset_ne (by omega), hset_ne (by omega), hset_ne (by omega), hset_ne (by omega), hset_ne (by omega), hset_ne (by omega), hset_ne (by omega), hset_ne (by omega), hset_ne (by omega), hset_ne (by omega), hset_ne (by omega), hset_ne (by omega), hset_ne (by omega), hset_ne (by omega), hset_ne (by omega)]
  clear hW
  have fA : ∀ j, mAr j = true → W j = .inl (0, mlen j, .inl ((fun _ _ => 0 : MA) j)) := by
    intro j hj
    have h1 := mAr_lt hj
    have h2 : j ≠ 213 := fun z => by subst z; exact absurd hj (by decide)
    rcases (show j = 189 ∨ j = 190 ∨ j = 191 ∨ j = 192 ∨ j = 193 ∨ j = 194 ∨ j = 195 ∨ j = 196 ∨ j = 197 ∨ j = 198 ∨ j = 199 ∨ j = 200 ∨ j = 201 ∨ j = 202 ∨ j = 203 ∨ j = 204 ∨ j = 205 ∨ j = 206 ∨ j = 207 ∨ j = 208 ∨ j = 209 ∨ j = 210 ∨ j = 211 ∨ j = 212 ∨ j = 214 by omega) with rfl | rfl | rfl | rfl | rfl | rfl | rfl | rfl | rfl | rfl | rfl | rfl | rfl | rfl | rfl | rfl | rfl | rfl | rfl | rfl | rfl | rfl | rfl | rfl | rfl
    · exact f189
    · exact f190
    · exact f191
    · exact f192
    · exact f193
    · exact f194
    · exact f195
    · exact f196
    · exact f197
    · exact f198
    · exact f199
    · exact f200
    · exact f201
    · exact f202
    · exact f203
    · exact f204
    · exact f205
    · exact f206
    · exact f207
    · exact f208
    · exact f209
    · exact f210
    · exact f211
    · exact f212
    · exact f214
  rw [← mos_of f188 fA]
  refine mt_aload_n (pc := 226) dX11_init_226 rfl ?_
  refine mt_cV (pc := 227) (n_startsAnew (d := 0) (nx := 215) (Nat.le_refl _)) cal_X11_startsAnew vir_X11_startsAnew ml_X11_96 dX11_init_227 (by decide) (mos_o _ _ _) (by show _ ≤ d; omega) ⟨(Nat.le_of_ble_eq_true rfl), (Nat.le_of_ble_eq_true rfl)⟩ rfl rfl (Nat.le_of_ble_eq_true rfl) ?_
  refine mt_aload_n (pc := 230) dX11_init_230 rfl ?_
  have eA : updR (fun _ _ => 0 : MA) 193 (fun q => if q < 6 then 0 else (fun _ _ => 0 : MA) 193 q) = fun _ _ => 0 := by
    funext i q
    by_cases hi : i = 193
    · subst hi
      rw [updR_eq]
      by_cases hq : q < 6
      · rw [if_pos hq]
      · rw [if_neg hq]
    · rw [updR_ne hi]
  rw [eA]
  refine mt_aV (pc := 231) (n_sets (d := 1) (nx := 215) (k1 := 0) (k2 := 0) (Nat.le_refl 1) (Nat.le_refl _) (by decide) (by decide) rfl rfl) cal_X11_sets vir_X11_sets ml_X11_99 dX11_init_231 (by decide) (mos_o _ _ _) (by show _ ≤ d; omega) ⟨(Nat.le_of_ble_eq_true rfl), (Nat.le_of_ble_eq_true rfl)⟩ rfl rfl (Nat.le_of_ble_eq_true rfl) ?_ ?_
  · rintro x9 n9 k9 h9
    obtain ⟨⟨⟩, -⟩ := h9
  · rintro v9 n9 k9 ⟨hv, rfl, f, rfl, hf⟩
    cases hv
    refine ⟨rfl, ?_⟩
    exact mt_vret rfl dX11_init_234 (Nat.le_of_ble_eq_true rfl) (Nat.le_of_ble_eq_true rfl) ⟨rfl, rfl, mos_wf (Nat.le_refl _) hwW, W, f, rfl, hf, fl, f213⟩
end CCE
