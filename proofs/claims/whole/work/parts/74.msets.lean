/-! The reference: a county told. -/
def bgM (S2 S3 : Nat → Int32) (k1 k2 : Nat) : Nat → Int32 := fun j => if j < k1 then S2 (2 * j + 1) else if 16 ≤ j ∧ j < 16 + k2 then S3 (2 * (j - 16)) else if 22 ≤ j ∧ j < 22 + k2 then S3 (2 * (j - 22) + 1) else 0
def setG (g : MG) (k1 k2 : Nat) : MG := upd (upd (upd (upd (upd (upd (upd g 18 (nI k1)) 19 (nI k2)) 26 0) 41 0) 31 0) 50 0) 32 0
def cpF (n : Nat) (f f' : Nat → Int32) : Nat → Int32 := fun q => if q < n then f q else f' q
theorem cpF_lt {n q : Nat} {f f' : Nat → Int32} (h : q < n) : cpF n f f' q = f q := if_pos h
def setA (A : MA) : MA := updR (updR (updR A 194 (cpF 16 (A 191) (A 194))) 195 (cpF 12 (A 192) (A 195))) 196 (cpF 6 (A 193) (A 196))
section MSE
variable {G : mm_G} {l : Launch} {d nx : Nat} {h : Nat → mm_E} {g : MG} {A : MA}
theorem n_sets {k1 k2 : Nat} (hd : 1 ≤ d) (hx : 215 ≤ nx) (hk1 : k1 ≤ 8) (hk2 : k2 ≤ 6) (h16 : g 16 = nI k1) (h17 : g 17 = nI k2) : mm_Con G l yX11_sets cX11_sets 2 none d 0 0 [.ref 188] nx (mos h g A) (fun o n m => o = .inl none ∧ n = nx ∧ ∃ f, m = mos h (setG g k1 k2) (updR (setA A) 205 f) ∧ ∀ j, j < 91 → f j = bgM (A 191) (A 192) k1 k2 j) := by
  have e1 : ∀ j, j < 12 → cpF 12 (A 192) (A 195) j = A 192 j := fun j hj => cpF_lt hj
  have e2 : ∀ j, j < 16 → cpF 16 (A 191) (A 194) j = A 191 j := fun j hj => cpF_lt hj
  refine mm_start (lo := [some (.ref 188), none]) pn_X11 rfl rfl (Nat.le_of_ble_eq_true rfl) ?_
  refine mt_aload_n (pc := 0) dX11_sets_0 rfl ?_
  refine mt_aload_n (pc := 1) dX11_sets_1 rfl ?_
  refine mt_mgetI (pc := 2) (x := nI k1) gf_X11_148 dX11_sets_2 hx rfl h16 ?_
  refine mt_mput (pc := 5) pf_X11_154 dX11_sets_5 hx rfl ?_
  refine mt_aload_n (pc := 8) dX11_sets_8 rfl ?_
  refine mt_aload_n (pc := 9) dX11_sets_9 rfl ?_
  refine mt_mgetI (pc := 10) (x := nI k2) gf_X11_151 dX11_sets_10 hx rfl h17 ?_
  refine mt_mput (pc := 13) pf_X11_157 dX11_sets_13 hx rfl ?_
  refine mt_aload_n (pc := 16) dX11_sets_16 rfl ?_
  refine mt_aload_n (pc := 17) dX11_sets_17 rfl ?_
  refine mt_mget (pc := 18) gf_X11_23 dX11_sets_18 hx rfl ?_
  refine mt_aload_n (pc := 21) dX11_sets_21 rfl ?_
  refine mt_mget (pc := 22) gf_X11_32 dX11_sets_22 hx rfl ?_
  refine mt_bipush (pc := 25) (v := 16) dX11_sets_25 (by decide) ?_
  refine mt_cV (pc := 27) (n_copies (d := 0) (i := 191) (j := 194) (n := 16) hx rfl rfl (by decide) (Nat.le_of_ble_eq_true rfl) (Nat.le_of_ble_eq_true rfl)) cal_X11_copies vir_X11_copies ml_X11_160 dX11_sets_27 (by omega) (mos_o _ _ _) (by first | assumption | (show _ ≤ d; omega)) ⟨(Nat.le_of_ble_eq_true rfl), (Nat.le_of_ble_eq_true rfl)⟩ rfl rfl (Nat.le_of_ble_eq_true rfl) ?_
  refine mt_aload_n (pc := 30) dX11_sets_30 rfl ?_
  refine mt_aload_n (pc := 31) dX11_sets_31 rfl ?_
  refine mt_mget (pc := 32) gf_X11_26 dX11_sets_32 hx rfl ?_
  refine mt_aload_n (pc := 35) dX11_sets_35 rfl ?_
  refine mt_mget (pc := 36) gf_X11_35 dX11_sets_36 hx rfl ?_
  refine mt_bipush (pc := 39) (v := 12) dX11_sets_39 (by decide) ?_
  refine mt_cV (pc := 41) (n_copies (d := 0) (i := 192) (j := 195) (n := 12) hx rfl rfl (by decide) (Nat.le_of_ble_eq_true rfl) (Nat.le_of_ble_eq_true rfl)) cal_X11_copies vir_X11_copies ml_X11_160 dX11_sets_41 (by omega) (mos_o _ _ _) (by first | assumption | (show _ ≤ d; omega)) ⟨(Nat.le_of_ble_eq_true rfl), (Nat.le_of_ble_eq_true rfl)⟩ rfl rfl (Nat.le_of_ble_eq_true rfl) ?_
  refine mt_aload_n (pc := 44) dX11_sets_44 rfl ?_
  refine mt_aload_n (pc := 45) dX11_sets_45 rfl ?_
  refine mt_mget (pc := 46) gf_X11_29 dX11_sets_46 hx rfl ?_
  refine mt_aload_n (pc := 49) dX11_sets_49 rfl ?_
  refine mt_mget (pc := 50) gf_X11_38 dX11_sets_50 hx rfl ?_
  refine mt_bipush (pc := 53) (v := 6) dX11_sets_53 (by decide) ?_
  refine mt_cV (pc := 55) (n_copies (d := 0) (i := 193) (j := 196) (n := 6) hx rfl rfl (by decide) (Nat.le_of_ble_eq_true rfl) (Nat.le_of_ble_eq_true rfl)) cal_X11_copies vir_X11_copies ml_X11_160 dX11_sets_55 (by omega) (mos_o _ _ _) (by first | assumption | (show _ ≤ d; omega)) ⟨(Nat.le_of_ble_eq_true rfl), (Nat.le_of_ble_eq_true rfl)⟩ rfl rfl (Nat.le_of_ble_eq_true rfl) ?_
  refine mt_aload_n (pc := 58) dX11_sets_58 rfl ?_
  refine mt_iconst (pc := 59) (v := 0) dX11_sets_59 (by decide) ?_
  refine mt_mput (pc := 60) pf_X11_164 dX11_sets_60 hx rfl ?_
  refine mt_aload_n (pc := 63) dX11_sets_63 rfl ?_
  refine mt_iconst (pc := 64) (v := 0) dX11_sets_64 (by decide) ?_
  refine mt_mput (pc := 65) pf_X11_167 dX11_sets_65 hx rfl ?_
  refine mt_aload_n (pc := 68) dX11_sets_68 rfl ?_
  refine mt_iconst (pc := 69) (v := 0) dX11_sets_69 (by decide) ?_
  refine mt_mput (pc := 70) pf_X11_170 dX11_sets_70 hx rfl ?_
  refine mt_aload_n (pc := 73) dX11_sets_73 rfl ?_
  refine mt_iconst (pc := 74) (v := 0) dX11_sets_74 (by decide) ?_
  refine mt_mput (pc := 75) pf_X11_173 dX11_sets_75 hx rfl ?_
  refine mt_aload_n (pc := 78) dX11_sets_78 rfl ?_
  refine mt_iconst (pc := 79) (v := 0) dX11_sets_79 (by decide) ?_
  refine mt_mput (pc := 80) pf_X11_176 dX11_sets_80 hx rfl ?_
  show mm_T _ _ _ _ (mos h (setG g k1 k2) (setA A)) _ _ _ _ _
  have s18 : setG g k1 k2 18 = nI k1 := rfl
  have s19 : setG g k1 k2 19 = nI k2 := rfl
  have sA : mos h (setG g k1 k2) (setA A) = mos h (setG g k1 k2) (updR (setA A) 205 (A 205)) := by rw [updR_self (F := setA A) (i := 205) (f := A 205) rfl]
  have s4 : setA A 194 = cpF 16 (A 191) (A 194) := rfl
  have s5 : setA A 195 = cpF 12 (A 192) (A 195) := rfl
  rw [sA]
  generalize setG g k1 k2 = g1 at s18 s19 ⊢
  generalize setA A = B at s4 s5 ⊢
  refine mt_iconst (pc := 83) (v := 0) dX11_sets_83 (by decide) ?_
  refine mt_istore_n (pc := 84) dX11_sets_84 (Nat.le_of_ble_eq_true rfl) rfl ?_
  refine mt_forE (pc := 85) (α := Nat → Int32) (H := fun c (f : Nat → Int32) => mos h g1 (updR B 205 f)) (L := fun c (f : Nat → Int32) => [some (.ref 188), some (.int (nI c))]) (I := fun c (f : Nat → Int32) => ∀ j, j < c → f j = 0) 91 (fun c f hc fc nc => ?_) (fun f fc => ?_) (A 205) (fun j hj => absurd hj (Nat.not_lt_zero j))
  · skip
    refine mt_iload_n (pc := 85) dX11_sets_85 rfl ?_
    refine mt_bipush (pc := 86) (v := 91) dX11_sets_86 (by decide) ?_
    refine mt_icmp_ge (pc := 88) (tgt := 104) dX11_sets_88 (by decide) (fun c88 => ?_) (fun c88 => ?_)
    · exact absurd c88 (nI_ge hc (by first | omega | decide))
    · skip
      refine mt_aload_n (pc := 91) dX11_sets_91 rfl ?_
      refine mt_mget (pc := 92) gf_X11_65 dX11_sets_92 hx rfl ?_
      refine mt_iload_n (pc := 95) dX11_sets_95 rfl ?_
      refine mt_iconst (pc := 96) (v := 0) dX11_sets_96 (by decide) ?_
      refine mt_mast (pc := 97) (i := 205) (j := c) dX11_sets_97 hx rfl rfl (by show _ < 91; omega) ?_
      refine mt_iinc (pc := 98) (c9 := 1) dX11_sets_98 rfl (by decide) (Nat.le_of_ble_eq_true rfl) rfl ?_
      refine mt_goto (pc := 101) (tgt := 85) dX11_sets_101 (by decide) ?_
      rw [show (nI c + 1 : Int32) = nI (c + 1) from nI_1 c]
      refine mt_heq ?_ (nc (upd f c 0) (fun j hj => ?_))
      · rw [updR_eq, updR_updR]
      · by_cases hz : j = c
        · subst hz; rw [upd_eq]
        · rw [upd_ne hz]; exact fc j (by omega)
  · skip
    refine mt_iload_n (pc := 85) dX11_sets_85 rfl ?_
    refine mt_bipush (pc := 86) (v := 91) dX11_sets_86 (by decide) ?_
    refine mt_icmp_ge (pc := 88) (tgt := 104) dX11_sets_88 (by decide) (fun c88 => ?_) (fun c88 => ?_)
    · skip
      refine mt_iconst (pc := 104) (v := 0) dX11_sets_104 (by decide) ?_
      refine mt_istore_n (pc := 105) dX11_sets_105 (Nat.le_of_ble_eq_true rfl) rfl ?_
      refine mt_forE (pc := 106) (α := Nat → Int32) (H := fun i (u : Nat → Int32) => mos h g1 (updR B 205 u)) (L := fun i (u : Nat → Int32) => [some (.ref 188), some (.int (nI i))]) (I := fun i (u : Nat → Int32) => ∀ j, j < 91 → u j = if j < i then A 191 (2 * j + 1) else 0) k1 (fun i u hi fi ni => ?_) (fun u fi => ?_) f (fun j hj => by rw [if_neg (Nat.not_lt_zero j)]; exact fc j hj)
      · skip
        refine mt_iload_n (pc := 106) dX11_sets_106 rfl ?_
        refine mt_aload_n (pc := 107) dX11_sets_107 rfl ?_
        refine mt_mgetI (pc := 108) (x := nI k1) gf_X11_154 dX11_sets_108 hx rfl s18 ?_
        refine mt_icmp_ge (pc := 111) (tgt := 138) dX11_sets_111 (by decide) (fun c111 => ?_) (fun c111 => ?_)
        · exact absurd c111 (nI_ge hi (by first | omega | decide))
        · skip
          refine mt_aload_n (pc := 114) dX11_sets_114 rfl ?_
          refine mt_mget (pc := 115) gf_X11_65 dX11_sets_115 hx rfl ?_
          refine mt_iconst (pc := 118) (v := 0) dX11_sets_118 (by decide) ?_
          refine mt_iload_n (pc := 119) dX11_sets_119 rfl ?_
          refine mt_iaddN (pc := 120) (a := 0) (b := i) dX11_sets_120 rfl rfl ?_
          refine mt_aload_n (pc := 121) dX11_sets_121 rfl ?_
          refine mt_mget (pc := 122) gf_X11_32 dX11_sets_122 hx rfl ?_
          refine mt_iconst (pc := 125) (v := 2) dX11_sets_125 (by decide) ?_
          refine mt_iload_n (pc := 126) dX11_sets_126 rfl ?_
          refine mt_imulN (pc := 127) (a := 2) (b := i) dX11_sets_127 rfl rfl ?_
          refine mt_iconst (pc := 128) (v := 1) dX11_sets_128 (by decide) ?_
          refine mt_iaddN (pc := 129) (a := 2 * i) (b := 1) dX11_sets_129 rfl rfl ?_
          refine mt_mald (pc := 130) (i := 194) (j := (2 * i) + 1) (x := A 191 (2 * i + 1)) dX11_sets_130 hx rfl rfl (by show _ < 16; omega) (by show B 194 (2 * i + 1) = _; rw [s4]; exact e2 _ (by omega)) ?_
          refine mt_mast (pc := 131) (i := 205) (j := 0 + i) dX11_sets_131 hx rfl rfl (by show _ < 91; omega) ?_
          refine mt_iinc (pc := 132) (c9 := 1) dX11_sets_132 rfl (by decide) (Nat.le_of_ble_eq_true rfl) rfl ?_
          refine mt_goto (pc := 135) (tgt := 106) dX11_sets_135 (by decide) ?_
          rw [show (nI i + 1 : Int32) = nI (i + 1) from nI_1 i]
          refine mt_heq ?_ (ni (upd u i (A 191 (2 * i + 1))) (fun j hj => ?_))
          · rw [updR_eq, updR_updR, show 0 + i = i from Nat.zero_add i]
          · by_cases hz : j = i
            · subst hz
              rw [upd_eq, if_pos (by omega)]
            · rw [upd_ne hz, fi j hj]
              by_cases hy : j < i
              · rw [if_pos hy, if_pos (by omega)]
              · rw [if_neg hy, if_neg (by omega)]
      · skip
        refine mt_iload_n (pc := 106) dX11_sets_106 rfl ?_
        refine mt_aload_n (pc := 107) dX11_sets_107 rfl ?_
        refine mt_mgetI (pc := 108) (x := nI k1) gf_X11_154 dX11_sets_108 hx rfl s18 ?_
        refine mt_icmp_ge (pc := 111) (tgt := 138) dX11_sets_111 (by decide) (fun c111 => ?_) (fun c111 => ?_)
        · skip
          refine mt_iconst (pc := 138) (v := 0) dX11_sets_138 (by decide) ?_
          refine mt_istore_n (pc := 139) dX11_sets_139 (Nat.le_of_ble_eq_true rfl) rfl ?_
          refine mt_forE (pc := 140) (α := Nat → Int32) (H := fun a (w : Nat → Int32) => mos h g1 (updR B 205 w)) (L := fun a (w : Nat → Int32) => [some (.ref 188), some (.int (nI a))]) (I := fun a (w : Nat → Int32) => ∀ j, j < 91 → w j = bgM (A 191) (A 192) k1 a j) k2 (fun a w ha fa na => ?_) (fun w fa => ?_) u (fun j hj => by rw [fi j hj, bgM, if_neg (show ¬ (16 ≤ j ∧ j < 16 + 0) by omega), if_neg (show ¬ (22 ≤ j ∧ j < 22 + 0) by omega)])
          · skip
            refine mt_iload_n (pc := 140) dX11_sets_140 rfl ?_
            refine mt_aload_n (pc := 141) dX11_sets_141 rfl ?_
            refine mt_mgetI (pc := 142) (x := nI k2) gf_X11_157 dX11_sets_142 hx rfl s19 ?_
            refine mt_icmp_ge (pc := 145) (tgt := 190) dX11_sets_145 (by decide) (fun c145 => ?_) (fun c145 => ?_)
            · exact absurd c145 (nI_ge ha (by first | omega | decide))
            · skip
              refine mt_aload_n (pc := 148) dX11_sets_148 rfl ?_
              refine mt_mget (pc := 149) gf_X11_65 dX11_sets_149 hx rfl ?_
              refine mt_bipush (pc := 152) (v := 16) dX11_sets_152 (by decide) ?_
              refine mt_iload_n (pc := 154) dX11_sets_154 rfl ?_
              refine mt_iaddN (pc := 155) (a := 16) (b := a) dX11_sets_155 rfl rfl ?_
              refine mt_aload_n (pc := 156) dX11_sets_156 rfl ?_
              refine mt_mget (pc := 157) gf_X11_35 dX11_sets_157 hx rfl ?_
              refine mt_iconst (pc := 160) (v := 2) dX11_sets_160 (by decide) ?_
              refine mt_iload_n (pc := 161) dX11_sets_161 rfl ?_
              refine mt_imulN (pc := 162) (a := 2) (b := a) dX11_sets_162 rfl rfl ?_
              refine mt_mald (pc := 163) (i := 195) (j := 2 * a) (x := A 192 (2 * a)) dX11_sets_163 hx rfl rfl (by show _ < 12; omega) (by show B 195 (2 * a) = _; rw [s5]; exact e1 _ (by omega)) ?_
              refine mt_mast (pc := 164) (i := 205) (j := 16 + a) dX11_sets_164 hx rfl rfl (by show _ < 91; omega) ?_
              refine mt_aload_n (pc := 165) dX11_sets_165 rfl ?_
              refine mt_mget (pc := 166) gf_X11_65 dX11_sets_166 hx rfl ?_
              refine mt_bipush (pc := 169) (v := 22) dX11_sets_169 (by decide) ?_
              refine mt_iload_n (pc := 171) dX11_sets_171 rfl ?_
              refine mt_iaddN (pc := 172) (a := 22) (b := a) dX11_sets_172 rfl rfl ?_
              refine mt_aload_n (pc := 173) dX11_sets_173 rfl ?_
              refine mt_mget (pc := 174) gf_X11_35 dX11_sets_174 hx rfl ?_
              refine mt_iconst (pc := 177) (v := 2) dX11_sets_177 (by decide) ?_
              refine mt_iload_n (pc := 178) dX11_sets_178 rfl ?_
              refine mt_imulN (pc := 179) (a := 2) (b := a) dX11_sets_179 rfl rfl ?_
              refine mt_iconst (pc := 180) (v := 1) dX11_sets_180 (by decide) ?_
              refine mt_iaddN (pc := 181) (a := 2 * a) (b := 1) dX11_sets_181 rfl rfl ?_
              refine mt_mald (pc := 182) (i := 195) (j := (2 * a) + 1) (x := A 192 (2 * a + 1)) dX11_sets_182 hx rfl rfl (by show _ < 12; omega) (by show B 195 (2 * a + 1) = _; rw [s5]; exact e1 _ (by omega)) ?_
              refine mt_mast (pc := 183) (i := 205) (j := 22 + a) dX11_sets_183 hx rfl rfl (by show _ < 91; omega) ?_
              refine mt_iinc (pc := 184) (c9 := 1) dX11_sets_184 rfl (by decide) (Nat.le_of_ble_eq_true rfl) rfl ?_
              refine mt_goto (pc := 187) (tgt := 140) dX11_sets_187 (by decide) ?_
              rw [show (nI a + 1 : Int32) = nI (a + 1) from nI_1 a]
              refine mt_heq ?_ (na (upd (upd w (16 + a) (A 192 (2 * a))) (22 + a) (A 192 (2 * a + 1))) (fun j hj => ?_))
              · rw [updR_eq, updR_updR, updR_eq, updR_updR]
              · by_cases hz : j = 22 + a
                · subst hz
                  rw [upd_eq, bgM, if_neg (by omega), if_neg (by omega), if_pos (by omega), show 22 + a - 22 = a by omega]
                · rw [upd_ne hz]
                  by_cases hy : j = 16 + a
                  · subst hy
                    rw [upd_eq, bgM, if_neg (by omega), if_pos (by omega), show 16 + a - 16 = a by omega]
                  · rw [upd_ne hy, fa j hj, bgM, bgM]
                    by_cases h1 : j < k1
                    · rw [if_pos h1, if_pos h1]
                    · rw [if_neg h1, if_neg h1]
                      by_cases h2 : 16 ≤ j ∧ j < 16 + a
                      · rw [if_pos h2, if_pos (by omega)]
                      · rw [if_neg h2, if_neg (show ¬ (16 ≤ j ∧ j < 16 + (a + 1)) by omega)]
                        by_cases h3 : 22 ≤ j ∧ j < 22 + a
                        · rw [if_pos h3, if_pos (by omega)]
                        · rw [if_neg h3, if_neg (by omega)]
          · skip
            refine mt_iload_n (pc := 140) dX11_sets_140 rfl ?_
            refine mt_aload_n (pc := 141) dX11_sets_141 rfl ?_
            refine mt_mgetI (pc := 142) (x := nI k2) gf_X11_157 dX11_sets_142 hx rfl s19 ?_
            refine mt_icmp_ge (pc := 145) (tgt := 190) dX11_sets_145 (by decide) (fun c145 => ?_) (fun c145 => ?_)
            · skip
              exact mt_vret rfl dX11_sets_190 (Nat.le_of_ble_eq_true rfl) (Nat.le_of_ble_eq_true rfl) ⟨rfl, rfl, w, rfl, fa⟩
            · exact absurd (nI_le (Nat.le_refl _) (by first | omega | decide)) c145
        · exact absurd (nI_le (Nat.le_refl _) (by first | omega | decide)) c111
    · exact absurd (nI_le (Nat.le_refl _) (by first | omega | decide)) c88
end MSE
