/-! The reference: feed, undo, image, restore. -/
def xs5 (a b c d e : Int32) (m : Nat) : Int32 := if m = 0 then a else if m = 1 then b else if m = 2 then c else if m = 3 then d else e
/-- what the reference's tape holds behind c bytes of a feed -/
def fdM (T : Nat → Int32) (sz : Nat) (xs : Nat → Int32) (c : Nat) : Nat → Int32 := fun i => if sz ≤ i ∧ i < sz + c then (xs ((i - sz) / 4) >>> (nI (24 - 8 * ((i - sz) % 4)) &&& 31)) &&& 255 else T i
theorem fdM_0 (T : Nat → Int32) (sz : Nat) (xs : Nat → Int32) : fdM T sz xs 0 = T := by
  funext i
  exact if_neg (by omega)
theorem fdM_s (T : Nat → Int32) (sz : Nat) (xs : Nat → Int32) (c : Nat) : upd (fdM T sz xs c) (sz + c) ((xs (c / 4) >>> (nI (24 - 8 * (c % 4)) &&& 31)) &&& 255) = fdM T sz xs (c + 1) := by
  funext i
  by_cases h : i = sz + c
  · subst h
    rw [upd_eq]
    unfold fdM
    rw [if_pos (by omega), show sz + c - sz = c by omega]
  · rw [upd_ne h]
    unfold fdM
    by_cases h2 : sz ≤ i ∧ i < sz + c
    · rw [if_pos h2, if_pos (by omega)]
    · rw [if_neg h2, if_neg (by omega)]
/-- a row put into another from a place on -/
def kpF (I R : Nat → Int32) (q n : Nat) : Nat → Int32 := fun x => if q ≤ x ∧ x < q + n then R (x - q) else I x
theorem kpF_0 (I R : Nat → Int32) (q : Nat) : kpF I R q 0 = I := by
  funext i
  exact if_neg (by omega)
theorem kpF_s (I R : Nat → Int32) (q c : Nat) : upd (kpF I R q c) (q + c) (R c) = kpF I R q (c + 1) := by
  funext i
  by_cases h : i = q + c
  · subst h
    rw [upd_eq]
    unfold kpF
    rw [if_pos (by omega), show q + c - q = c by omega]
  · rw [upd_ne h]
    unfold kpF
    by_cases h2 : q ≤ i ∧ i < q + c
    · rw [if_pos h2, if_pos (by omega)]
    · rw [if_neg h2, if_neg (by omega)]
/-- a row taken out of another -/
def tkF (R I : Nat → Int32) (q n : Nat) : Nat → Int32 := fun x => if x < n then I (q + x) else R x
theorem tkF_0 (R I : Nat → Int32) (q : Nat) : tkF R I q 0 = R := by
  funext i
  exact if_neg (Nat.not_lt_zero i)
theorem tkF_s (R I : Nat → Int32) (q c : Nat) : upd (tkF R I q c) c (I (q + c)) = tkF R I q (c + 1) := by
  funext i
  by_cases h : i = c
  · subst h
    rw [upd_eq]
    unfold tkF
    rw [if_pos (by omega)]
  · rw [upd_ne h]
    unfold tkF
    by_cases h2 : i < c
    · rw [if_pos h2, if_pos (by omega)]
    · rw [if_neg h2, if_neg (by omega)]
section MKEEP
variable {G : mm_G} {l : Launch} {d nx : Nat} {h : Nat → mm_E} {g : MG} {A : MA}
theorem n_feedN {a b c e f : Int32} {sz : Nat} (hx : 215 ≤ nx) (h2 : g 2 = nI sz) (hz : sz ≤ 600) (hs : 600 < sz + 20) : mm_Con G l yX11_feed cX11_feed 8 (some .int) d 0 0 [.ref 188, .int a, .int b, .int c, .int e, .int f] nx (mos h g A) (mm_ret (some (.int (-1))) nx (mos h (upd g 0 0) A)) := by
  refine mm_start (lo := [some (.ref 188), some (.int a), some (.int b), some (.int c), some (.int e), some (.int f), none, none]) pn_X11 rfl rfl (Nat.le_of_ble_eq_true rfl) ?_
  refine mt_aload_n (pc := 0) dX11_feed_0 rfl ?_
  refine mt_iconst (pc := 1) (v := 0) dX11_feed_1 (by decide) ?_
  refine mt_mput (pc := 2) pf_X11_3 dX11_feed_2 hx rfl ?_
  refine mt_aload_n (pc := 5) dX11_feed_5 rfl ?_
  refine mt_mgetI (pc := 6) (x := nI sz) gf_X11_102 dX11_feed_6 hx rfl h2 ?_
  refine mt_bipush (pc := 9) (v := 20) dX11_feed_9 (by decide) ?_
  refine mt_iaddN (pc := 11) (a := sz) (b := 20) dX11_feed_11 rfl rfl ?_
  refine mt_sipush (pc := 12) (v := 600) dX11_feed_12 (by decide) ?_
  refine mt_icmp_le (pc := 15) (tgt := 20) dX11_feed_15 (by decide) (fun c15 => ?_) (fun c15 => ?_)
  · exact absurd c15 (nI_ge (b := sz + 20) hs (by omega))
  · skip
    refine mt_iconst (pc := 18) (v := (-1)) dX11_feed_18 (by decide) ?_
    exact mt_iret rfl dX11_feed_19 (Nat.le_of_ble_eq_true rfl) (Nat.le_of_ble_eq_true rfl) ⟨rfl, rfl, rfl⟩
theorem n_feedY {a b c e f : Int32} {sz : Nat} (hx : 215 ≤ nx) (h2 : g 2 = nI sz) (hs : sz + 20 ≤ 600) : mm_Con G l yX11_feed cX11_feed 8 (some .int) d 0 0 [.ref 188, .int a, .int b, .int c, .int e, .int f] nx (mos h g A) (mm_ret (some (.int (nI (sz + 20)))) nx (mos h (upd (upd g 0 0) 2 (nI (sz + 20))) (updR A 190 (fdM (A 190) sz (xs5 a b c e f) 20)))) := by
  obtain ⟨T, hT⟩ : ∃ T, A 190 = T := ⟨_, rfl⟩
  rw [hT]
  refine mm_start (lo := [some (.ref 188), some (.int a), some (.int b), some (.int c), some (.int e), some (.int f), none, none]) pn_X11 rfl rfl (Nat.le_of_ble_eq_true rfl) ?_
  refine mt_aload_n (pc := 0) dX11_feed_0 rfl ?_
  refine mt_iconst (pc := 1) (v := 0) dX11_feed_1 (by decide) ?_
  refine mt_mput (pc := 2) pf_X11_3 dX11_feed_2 hx rfl ?_
  refine mt_aload_n (pc := 5) dX11_feed_5 rfl ?_
  refine mt_mgetI (pc := 6) (x := nI sz) gf_X11_102 dX11_feed_6 hx rfl h2 ?_
  refine mt_bipush (pc := 9) (v := 20) dX11_feed_9 (by decide) ?_
  refine mt_iaddN (pc := 11) (a := sz) (b := 20) dX11_feed_11 rfl rfl ?_
  refine mt_sipush (pc := 12) (v := 600) dX11_feed_12 (by decide) ?_
  refine mt_icmp_le (pc := 15) (tgt := 20) dX11_feed_15 (by decide) (fun c15 => ?_) (fun c15 => ?_)
  · skip
    refine mt_iconst (pc := 20) (v := 0) dX11_feed_20 (by decide) ?_
    refine mt_istore (pc := 21) dX11_feed_21 (Nat.le_of_ble_eq_true rfl) rfl ?_
    rw [show mos h (upd g 0 0) A = mos h (upd (upd g 0 0) 2 (nI (sz + 0))) (updR A 190 (fdM T sz (xs5 a b c e f) 0)) by rw [fdM_0, updR_self hT, Nat.add_zero, upd_self (k := 2)]; exact h2]
    refine mt_for (pc := 23) (H := fun q => mos h (upd (upd g 0 0) 2 (nI (sz + q))) (updR A 190 (fdM T sz (xs5 a b c e f) q))) (L := fun q => [some (.ref 188), some (.int a), some (.int b), some (.int c), some (.int e), some (.int f), some (.int (nI q)), none]) 20 (fun q hq nq => ?_) ?_
    · skip
      refine mt_iload (pc := 23) dX11_feed_23 rfl ?_
      refine mt_bipush (pc := 25) (v := 20) dX11_feed_25 (by decide) ?_
      refine mt_icmp_ge (pc := 27) (tgt := 120) dX11_feed_27 (by decide) (fun c27 => ?_) (fun c27 => ?_)
      · exact absurd c27 (nI_ge (b := 20) hq (by decide))
      · skip
        refine mt_iload (pc := 30) dX11_feed_30 rfl ?_
        refine mt_iconst (pc := 32) (v := 4) dX11_feed_32 (by decide) ?_
        refine mt_icmp_ge (pc := 33) (tgt := 40) dX11_feed_33 (by decide) (fun c33 => ?_) (fun c33 => ?_)
        · skip
          refine mt_iload (pc := 40) dX11_feed_40 rfl ?_
          refine mt_bipush (pc := 42) (v := 8) dX11_feed_42 (by decide) ?_
          refine mt_icmp_ge (pc := 44) (tgt := 51) dX11_feed_44 (by decide) (fun c44 => ?_) (fun c44 => ?_)
          · skip
            refine mt_iload (pc := 51) dX11_feed_51 rfl ?_
            refine mt_bipush (pc := 53) (v := 12) dX11_feed_53 (by decide) ?_
            refine mt_icmp_ge (pc := 55) (tgt := 62) dX11_feed_55 (by decide) (fun c55 => ?_) (fun c55 => ?_)
            · skip
              refine mt_iload (pc := 62) dX11_feed_62 rfl ?_
              refine mt_bipush (pc := 64) (v := 16) dX11_feed_64 (by decide) ?_
              refine mt_icmp_ge (pc := 66) (tgt := 74) dX11_feed_66 (by decide) (fun c66 => ?_) (fun c66 => ?_)
              · skip
                have ev : f = xs5 a b c e f (q / 4) := by
                  have : 16 ≤ q := Nat.le_of_not_lt fun z => nI_ge (b := 16) z (by decide) c66
                  rw [show q / 4 = 4 by omega]; rfl
                refine mt_iload (pc := 74) dX11_feed_74 rfl ?_
                refine mt_istore (pc := 76) dX11_feed_76 (Nat.le_of_ble_eq_true rfl) rfl ?_
                refine mt_aload_n (pc := 78) dX11_feed_78 rfl ?_
                refine mt_mget (pc := 79) gf_X11_20 dX11_feed_79 hx rfl ?_
                refine mt_aload_n (pc := 82) dX11_feed_82 rfl ?_
                refine mt_mgetI (pc := 83) (x := nI (sz + q)) gf_X11_102 dX11_feed_83 hx rfl (upd_eq _ _ _) ?_
                refine mt_iload (pc := 86) dX11_feed_86 rfl ?_
                refine mt_bipush (pc := 88) (v := 24) dX11_feed_88 (by decide) ?_
                refine mt_bipush (pc := 90) (v := 8) dX11_feed_90 (by decide) ?_
                refine mt_iload (pc := 92) dX11_feed_92 rfl ?_
                refine mt_iconst (pc := 94) (v := 4) dX11_feed_94 (by decide) ?_
                refine mt_iremN (pc := 95) (a := q) (b := 4) dX11_feed_95 rfl rfl (by omega) (by omega) (by omega) ?_
                refine mt_imulN (pc := 96) (a := 8) (b := q % 4) dX11_feed_96 rfl rfl ?_
                refine mt_isubN (pc := 97) (a := 24) (b := 8 * (q % 4)) dX11_feed_97 rfl rfl (by omega) ?_
                refine mt_ishr (pc := 98) dX11_feed_98 ?_
                refine mt_sipush (pc := 99) (v := 255) dX11_feed_99 (by decide) ?_
                refine mt_iand (pc := 102) dX11_feed_102 ?_
                refine mt_mast2 (pc := 103) (i := 190) (j := sz + q) dX11_feed_103 hx rfl rfl (by show _ < 600; omega) ?_
                rw [show upd (fdM T sz (xs5 a b c e f) q) (sz + q) ((f >>> (nI (24 - 8 * (q % 4)) &&& 31)) &&& 255) = fdM T sz (xs5 a b c e f) (q + 1) by rw [← fdM_s, ← ev]]
                refine mt_aload_n (pc := 104) dX11_feed_104 rfl ?_
                refine mt_dup (pc := 105) dX11_feed_105 rfl ?_
                refine mt_mgetI (pc := 106) (x := nI (sz + q)) gf_X11_102 dX11_feed_106 hx rfl (upd_eq _ _ _) ?_
                refine mt_iconst (pc := 109) (v := 1) dX11_feed_109 (by decide) ?_
                refine mt_iaddN (pc := 110) (a := sz + q) (b := 1) dX11_feed_110 rfl rfl ?_
                refine mt_mput (pc := 111) pf_X11_102 dX11_feed_111 hx rfl ?_
                rw [upd_upd]
                refine mt_iinc (pc := 114) (c9 := 1) dX11_feed_114 rfl (by decide) (Nat.le_of_ble_eq_true rfl) rfl ?_
                refine mt_goto (pc := 117) (tgt := 23) dX11_feed_117 (by decide) ?_
                rw [show (nI q + 1 : Int32) = nI (q + 1) from nI_1 q]
                exact mt_forget 7 nq
              · skip
                have ev : e = xs5 a b c e f (q / 4) := by
                  have : q < 16 := Nat.lt_of_not_le fun z => c66 (nI_le (a := 16) z (by omega))
                  have : 12 ≤ q := Nat.le_of_not_lt fun z => nI_ge (b := 12) z (by decide) c55
                  rw [show q / 4 = 3 by omega]; rfl
                refine mt_iload (pc := 69) dX11_feed_69 rfl ?_
                refine mt_goto (pc := 71) (tgt := 76) dX11_feed_71 (by decide) ?_
                refine mt_istore (pc := 76) dX11_feed_76 (Nat.le_of_ble_eq_true rfl) rfl ?_
                refine mt_aload_n (pc := 78) dX11_feed_78 rfl ?_
                refine mt_mget (pc := 79) gf_X11_20 dX11_feed_79 hx rfl ?_
                refine mt_aload_n (pc := 82) dX11_feed_82 rfl ?_
                refine mt_mgetI (pc := 83) (x := nI (sz + q)) gf_X11_102 dX11_feed_83 hx rfl (upd_eq _ _ _) ?_
                refine mt_iload (pc := 86) dX11_feed_86 rfl ?_
                refine mt_bipush (pc := 88) (v := 24) dX11_feed_88 (by decide) ?_
                refine mt_bipush (pc := 90) (v := 8) dX11_feed_90 (by decide) ?_
                refine mt_iload (pc := 92) dX11_feed_92 rfl ?_
                refine mt_iconst (pc := 94) (v := 4) dX11_feed_94 (by decide) ?_
                refine mt_iremN (pc := 95) (a := q) (b := 4) dX11_feed_95 rfl rfl (by omega) (by omega) (by omega) ?_
                refine mt_imulN (pc := 96) (a := 8) (b := q % 4) dX11_feed_96 rfl rfl ?_
                refine mt_isubN (pc := 97) (a := 24) (b := 8 * (q % 4)) dX11_feed_97 rfl rfl (by omega) ?_
                refine mt_ishr (pc := 98) dX11_feed_98 ?_
                refine mt_sipush (pc := 99) (v := 255) dX11_feed_99 (by decide) ?_
                refine mt_iand (pc := 102) dX11_feed_102 ?_
                refine mt_mast2 (pc := 103) (i := 190) (j := sz + q) dX11_feed_103 hx rfl rfl (by show _ < 600; omega) ?_
                rw [show upd (fdM T sz (xs5 a b c e f) q) (sz + q) ((e >>> (nI (24 - 8 * (q % 4)) &&& 31)) &&& 255) = fdM T sz (xs5 a b c e f) (q + 1) by rw [← fdM_s, ← ev]]
                refine mt_aload_n (pc := 104) dX11_feed_104 rfl ?_
                refine mt_dup (pc := 105) dX11_feed_105 rfl ?_
                refine mt_mgetI (pc := 106) (x := nI (sz + q)) gf_X11_102 dX11_feed_106 hx rfl (upd_eq _ _ _) ?_
                refine mt_iconst (pc := 109) (v := 1) dX11_feed_109 (by decide) ?_
                refine mt_iaddN (pc := 110) (a := sz + q) (b := 1) dX11_feed_110 rfl rfl ?_
                refine mt_mput (pc := 111) pf_X11_102 dX11_feed_111 hx rfl ?_
                rw [upd_upd]
                refine mt_iinc (pc := 114) (c9 := 1) dX11_feed_114 rfl (by decide) (Nat.le_of_ble_eq_true rfl) rfl ?_
                refine mt_goto (pc := 117) (tgt := 23) dX11_feed_117 (by decide) ?_
                rw [show (nI q + 1 : Int32) = nI (q + 1) from nI_1 q]
                exact mt_forget 7 nq
            · skip
              have ev : c = xs5 a b c e f (q / 4) := by
                have : q < 12 := Nat.lt_of_not_le fun z => c55 (nI_le (a := 12) z (by omega))
                have : 8 ≤ q := Nat.le_of_not_lt fun z => nI_ge (b := 8) z (by decide) c44
                rw [show q / 4 = 2 by omega]; rfl
              refine mt_iload_n (pc := 58) dX11_feed_58 rfl ?_
              refine mt_goto (pc := 59) (tgt := 76) dX11_feed_59 (by decide) ?_
              refine mt_istore (pc := 76) dX11_feed_76 (Nat.le_of_ble_eq_true rfl) rfl ?_
              refine mt_aload_n (pc := 78) dX11_feed_78 rfl ?_
              refine mt_mget (pc := 79) gf_X11_20 dX11_feed_79 hx rfl ?_
              refine mt_aload_n (pc := 82) dX11_feed_82 rfl ?_
              refine mt_mgetI (pc := 83) (x := nI (sz + q)) gf_X11_102 dX11_feed_83 hx rfl (upd_eq _ _ _) ?_
              refine mt_iload (pc := 86) dX11_feed_86 rfl ?_
              refine mt_bipush (pc := 88) (v := 24) dX11_feed_88 (by decide) ?_
              refine mt_bipush (pc := 90) (v := 8) dX11_feed_90 (by decide) ?_
              refine mt_iload (pc := 92) dX11_feed_92 rfl ?_
              refine mt_iconst (pc := 94) (v := 4) dX11_feed_94 (by decide) ?_
              refine mt_iremN (pc := 95) (a := q) (b := 4) dX11_feed_95 rfl rfl (by omega) (by omega) (by omega) ?_
              refine mt_imulN (pc := 96) (a := 8) (b := q % 4) dX11_feed_96 rfl rfl ?_
              refine mt_isubN (pc := 97) (a := 24) (b := 8 * (q % 4)) dX11_feed_97 rfl rfl (by omega) ?_
              refine mt_ishr (pc := 98) dX11_feed_98 ?_
              refine mt_sipush (pc := 99) (v := 255) dX11_feed_99 (by decide) ?_
              refine mt_iand (pc := 102) dX11_feed_102 ?_
              refine mt_mast2 (pc := 103) (i := 190) (j := sz + q) dX11_feed_103 hx rfl rfl (by show _ < 600; omega) ?_
              rw [show upd (fdM T sz (xs5 a b c e f) q) (sz + q) ((c >>> (nI (24 - 8 * (q % 4)) &&& 31)) &&& 255) = fdM T sz (xs5 a b c e f) (q + 1) by rw [← fdM_s, ← ev]]
              refine mt_aload_n (pc := 104) dX11_feed_104 rfl ?_
              refine mt_dup (pc := 105) dX11_feed_105 rfl ?_
              refine mt_mgetI (pc := 106) (x := nI (sz + q)) gf_X11_102 dX11_feed_106 hx rfl (upd_eq _ _ _) ?_
              refine mt_iconst (pc := 109) (v := 1) dX11_feed_109 (by decide) ?_
              refine mt_iaddN (pc := 110) (a := sz + q) (b := 1) dX11_feed_110 rfl rfl ?_
              refine mt_mput (pc := 111) pf_X11_102 dX11_feed_111 hx rfl ?_
              rw [upd_upd]
              refine mt_iinc (pc := 114) (c9 := 1) dX11_feed_114 rfl (by decide) (Nat.le_of_ble_eq_true rfl) rfl ?_
              refine mt_goto (pc := 117) (tgt := 23) dX11_feed_117 (by decide) ?_
              rw [show (nI q + 1 : Int32) = nI (q + 1) from nI_1 q]
              exact mt_forget 7 nq
          · skip
            have ev : b = xs5 a b c e f (q / 4) := by
              have : q < 8 := Nat.lt_of_not_le fun z => c44 (nI_le (a := 8) z (by omega))
              have : 4 ≤ q := Nat.le_of_not_lt fun z => nI_ge (b := 4) z (by decide) c33
              rw [show q / 4 = 1 by omega]; rfl
            refine mt_iload_n (pc := 47) dX11_feed_47 rfl ?_
            refine mt_goto (pc := 48) (tgt := 76) dX11_feed_48 (by decide) ?_
            refine mt_istore (pc := 76) dX11_feed_76 (Nat.le_of_ble_eq_true rfl) rfl ?_
            refine mt_aload_n (pc := 78) dX11_feed_78 rfl ?_
            refine mt_mget (pc := 79) gf_X11_20 dX11_feed_79 hx rfl ?_
            refine mt_aload_n (pc := 82) dX11_feed_82 rfl ?_
            refine mt_mgetI (pc := 83) (x := nI (sz + q)) gf_X11_102 dX11_feed_83 hx rfl (upd_eq _ _ _) ?_
            refine mt_iload (pc := 86) dX11_feed_86 rfl ?_
            refine mt_bipush (pc := 88) (v := 24) dX11_feed_88 (by decide) ?_
            refine mt_bipush (pc := 90) (v := 8) dX11_feed_90 (by decide) ?_
            refine mt_iload (pc := 92) dX11_feed_92 rfl ?_
            refine mt_iconst (pc := 94) (v := 4) dX11_feed_94 (by decide) ?_
            refine mt_iremN (pc := 95) (a := q) (b := 4) dX11_feed_95 rfl rfl (by omega) (by omega) (by omega) ?_
            refine mt_imulN (pc := 96) (a := 8) (b := q % 4) dX11_feed_96 rfl rfl ?_
            refine mt_isubN (pc := 97) (a := 24) (b := 8 * (q % 4)) dX11_feed_97 rfl rfl (by omega) ?_
            refine mt_ishr (pc := 98) dX11_feed_98 ?_
            refine mt_sipush (pc := 99) (v := 255) dX11_feed_99 (by decide) ?_
            refine mt_iand (pc := 102) dX11_feed_102 ?_
            refine mt_mast2 (pc := 103) (i := 190) (j := sz + q) dX11_feed_103 hx rfl rfl (by show _ < 600; omega) ?_
            rw [show upd (fdM T sz (xs5 a b c e f) q) (sz + q) ((b >>> (nI (24 - 8 * (q % 4)) &&& 31)) &&& 255) = fdM T sz (xs5 a b c e f) (q + 1) by rw [← fdM_s, ← ev]]
            refine mt_aload_n (pc := 104) dX11_feed_104 rfl ?_
            refine mt_dup (pc := 105) dX11_feed_105 rfl ?_
            refine mt_mgetI (pc := 106) (x := nI (sz + q)) gf_X11_102 dX11_feed_106 hx rfl (upd_eq _ _ _) ?_
            refine mt_iconst (pc := 109) (v := 1) dX11_feed_109 (by decide) ?_
            refine mt_iaddN (pc := 110) (a := sz + q) (b := 1) dX11_feed_110 rfl rfl ?_
            refine mt_mput (pc := 111) pf_X11_102 dX11_feed_111 hx rfl ?_
            rw [upd_upd]
            refine mt_iinc (pc := 114) (c9 := 1) dX11_feed_114 rfl (by decide) (Nat.le_of_ble_eq_true rfl) rfl ?_
            refine mt_goto (pc := 117) (tgt := 23) dX11_feed_117 (by decide) ?_
            rw [show (nI q + 1 : Int32) = nI (q + 1) from nI_1 q]
            exact mt_forget 7 nq
        · skip
          have ev : a = xs5 a b c e f (q / 4) := by
            have : q < 4 := Nat.lt_of_not_le fun z => c33 (nI_le (a := 4) z (by omega))
            rw [show q / 4 = 0 by omega]; rfl
          refine mt_iload_n (pc := 36) dX11_feed_36 rfl ?_
          refine mt_goto (pc := 37) (tgt := 76) dX11_feed_37 (by decide) ?_
          refine mt_istore (pc := 76) dX11_feed_76 (Nat.le_of_ble_eq_true rfl) rfl ?_
          refine mt_aload_n (pc := 78) dX11_feed_78 rfl ?_
          refine mt_mget (pc := 79) gf_X11_20 dX11_feed_79 hx rfl ?_
          refine mt_aload_n (pc := 82) dX11_feed_82 rfl ?_
          refine mt_mgetI (pc := 83) (x := nI (sz + q)) gf_X11_102 dX11_feed_83 hx rfl (upd_eq _ _ _) ?_
          refine mt_iload (pc := 86) dX11_feed_86 rfl ?_
          refine mt_bipush (pc := 88) (v := 24) dX11_feed_88 (by decide) ?_
          refine mt_bipush (pc := 90) (v := 8) dX11_feed_90 (by decide) ?_
          refine mt_iload (pc := 92) dX11_feed_92 rfl ?_
          refine mt_iconst (pc := 94) (v := 4) dX11_feed_94 (by decide) ?_
          refine mt_iremN (pc := 95) (a := q) (b := 4) dX11_feed_95 rfl rfl (by omega) (by omega) (by omega) ?_
          refine mt_imulN (pc := 96) (a := 8) (b := q % 4) dX11_feed_96 rfl rfl ?_
          refine mt_isubN (pc := 97) (a := 24) (b := 8 * (q % 4)) dX11_feed_97 rfl rfl (by omega) ?_
          refine mt_ishr (pc := 98) dX11_feed_98 ?_
          refine mt_sipush (pc := 99) (v := 255) dX11_feed_99 (by decide) ?_
          refine mt_iand (pc := 102) dX11_feed_102 ?_
          refine mt_mast2 (pc := 103) (i := 190) (j := sz + q) dX11_feed_103 hx rfl rfl (by show _ < 600; omega) ?_
          rw [show upd (fdM T sz (xs5 a b c e f) q) (sz + q) ((a >>> (nI (24 - 8 * (q % 4)) &&& 31)) &&& 255) = fdM T sz (xs5 a b c e f) (q + 1) by rw [← fdM_s, ← ev]]
          refine mt_aload_n (pc := 104) dX11_feed_104 rfl ?_
          refine mt_dup (pc := 105) dX11_feed_105 rfl ?_
          refine mt_mgetI (pc := 106) (x := nI (sz + q)) gf_X11_102 dX11_feed_106 hx rfl (upd_eq _ _ _) ?_
          refine mt_iconst (pc := 109) (v := 1) dX11_feed_109 (by decide) ?_
          refine mt_iaddN (pc := 110) (a := sz + q) (b := 1) dX11_feed_110 rfl rfl ?_
          refine mt_mput (pc := 111) pf_X11_102 dX11_feed_111 hx rfl ?_
          rw [upd_upd]
          refine mt_iinc (pc := 114) (c9 := 1) dX11_feed_114 rfl (by decide) (Nat.le_of_ble_eq_true rfl) rfl ?_
          refine mt_goto (pc := 117) (tgt := 23) dX11_feed_117 (by decide) ?_
          rw [show (nI q + 1 : Int32) = nI (q + 1) from nI_1 q]
          exact mt_forget 7 nq
    · skip
      refine mt_iload (pc := 23) dX11_feed_23 rfl ?_
      refine mt_bipush (pc := 25) (v := 20) dX11_feed_25 (by decide) ?_
      refine mt_icmp_ge (pc := 27) (tgt := 120) dX11_feed_27 (by decide) (fun c27 => ?_) (fun c27 => ?_)
      · skip
        refine mt_aload_n (pc := 120) dX11_feed_120 rfl ?_
        refine mt_mgetI (pc := 121) (x := nI (sz + 20)) gf_X11_102 dX11_feed_121 hx rfl (upd_eq _ _ _) ?_
        exact mt_iret rfl dX11_feed_124 (Nat.le_of_ble_eq_true rfl) (Nat.le_of_ble_eq_true rfl) ⟨rfl, rfl, rfl⟩
      · exact absurd (nI_le (a := 20) (b := 20) (by decide) (by decide)) c27
  · exact absurd (nI_le (a := sz + 20) (b := 600) hs (by decide)) c15
theorem n_undo0 (hx : 215 ≤ nx) (h31 : g 31 = 0) : mm_Con G l yX11_undo cX11_undo 2 (some .int) d 0 0 [.ref 188] nx (mos h g A) (mm_ret (some (.int (-1))) nx (mos h (upd g 0 0) A)) := by
  refine mm_start (lo := [some (.ref 188), none]) pn_X11 rfl rfl (Nat.le_of_ble_eq_true rfl) ?_
  refine mt_aload_n (pc := 0) dX11_undo_0 rfl ?_
  refine mt_iconst (pc := 1) (v := 0) dX11_undo_1 (by decide) ?_
  refine mt_mput (pc := 2) pf_X11_3 dX11_undo_2 hx rfl ?_
  refine mt_aload_n (pc := 5) dX11_undo_5 rfl ?_
  refine mt_mgetI (pc := 6) (x := 0) gf_X11_170 dX11_undo_6 hx rfl h31 ?_
  refine mt_if_ne (pc := 9) (tgt := 14) dX11_undo_9 (by decide) (fun c9 => ?_) (fun c9 => ?_)
  · exact absurd rfl c9
  · skip
    refine mt_iconst (pc := 12) (v := (-1)) dX11_undo_12 (by decide) ?_
    exact mt_iret rfl dX11_undo_13 (Nat.le_of_ble_eq_true rfl) (Nat.le_of_ble_eq_true rfl) ⟨rfl, rfl, rfl⟩
theorem n_undo {w : Nat} (hx : 215 ≤ nx) (h31 : g 31 = nI w) (hw : 0 < w) (hw2 : w ≤ 16) : mm_Con G l yX11_undo cX11_undo 2 (some .int) d 0 0 [.ref 188] nx (mos h g A) (mm_ret (some (.int (nI (w - 1)))) nx (mos h (upd (upd (upd g 0 0) 31 (nI (w - 1))) 32 0) (updR A 205 (tkF (A 205) (A 207) (91 * (w - 1)) 91)))) := by
  obtain ⟨R, hR⟩ : ∃ R, A 205 = R := ⟨_, rfl⟩
  rw [hR]
  refine mm_start (lo := [some (.ref 188), none]) pn_X11 rfl rfl (Nat.le_of_ble_eq_true rfl) ?_
  refine mt_aload_n (pc := 0) dX11_undo_0 rfl ?_
  refine mt_iconst (pc := 1) (v := 0) dX11_undo_1 (by decide) ?_
  refine mt_mput (pc := 2) pf_X11_3 dX11_undo_2 hx rfl ?_
  refine mt_aload_n (pc := 5) dX11_undo_5 rfl ?_
  refine mt_mgetI (pc := 6) (x := nI w) gf_X11_170 dX11_undo_6 hx rfl h31 ?_
  refine mt_if_ne (pc := 9) (tgt := 14) dX11_undo_9 (by decide) (fun c9 => ?_) (fun c9 => ?_)
  · skip
    refine mt_aload_n (pc := 14) dX11_undo_14 rfl ?_
    refine mt_dup (pc := 15) dX11_undo_15 rfl ?_
    refine mt_mgetI (pc := 16) (x := nI w) gf_X11_170 dX11_undo_16 hx rfl h31 ?_
    refine mt_iconst (pc := 19) (v := 1) dX11_undo_19 (by decide) ?_
    refine mt_isubN (pc := 20) (a := w) (b := 1) dX11_undo_20 rfl rfl (by omega) ?_
    refine mt_mput (pc := 21) pf_X11_170 dX11_undo_21 hx rfl ?_
    refine mt_iconst (pc := 24) (v := 0) dX11_undo_24 (by decide) ?_
    refine mt_istore_n (pc := 25) dX11_undo_25 (Nat.le_of_ble_eq_true rfl) rfl ?_
    rw [show mos h (upd (upd g 0 0) 31 (nI (w - 1))) A = mos h (upd (upd g 0 0) 31 (nI (w - 1))) (updR A 205 (tkF R (A 207) (91 * (w - 1)) 0)) by rw [tkF_0, updR_self hR]]
    refine mt_for (pc := 26) (H := fun c => mos h (upd (upd g 0 0) 31 (nI (w - 1))) (updR A 205 (tkF R (A 207) (91 * (w - 1)) c))) (L := fun c => [some (.ref 188), some (.int (nI c))]) 91 (fun c hc nc => ?_) ?_
    · skip
      refine mt_iload_n (pc := 26) dX11_undo_26 rfl ?_
      refine mt_bipush (pc := 27) (v := 91) dX11_undo_27 (by decide) ?_
      refine mt_icmp_ge (pc := 29) (tgt := 58) dX11_undo_29 (by decide) (fun c29 => ?_) (fun c29 => ?_)
      · exact absurd c29 (nI_ge (b := 91) hc (by decide))
      · skip
        refine mt_aload_n (pc := 32) dX11_undo_32 rfl ?_
        refine mt_mget (pc := 33) gf_X11_65 dX11_undo_33 hx rfl ?_
        refine mt_iload_n (pc := 36) dX11_undo_36 rfl ?_
        refine mt_aload_n (pc := 37) dX11_undo_37 rfl ?_
        refine mt_mget (pc := 38) gf_X11_71 dX11_undo_38 hx rfl ?_
        refine mt_bipush (pc := 41) (v := 91) dX11_undo_41 (by decide) ?_
        refine mt_aload_n (pc := 43) dX11_undo_43 rfl ?_
        refine mt_mgetI (pc := 44) (x := nI (w - 1)) gf_X11_170 dX11_undo_44 hx rfl (upd_eq _ _ _) ?_
        refine mt_imulN (pc := 47) (a := 91) (b := w - 1) dX11_undo_47 rfl rfl ?_
        refine mt_iload_n (pc := 48) dX11_undo_48 rfl ?_
        refine mt_iaddN (pc := 49) (a := 91 * (w - 1)) (b := c) dX11_undo_49 rfl rfl ?_
        refine mt_mald (pc := 50) (i := 207) (j := (91 * (w - 1)) + c) (x := A 207 (91 * (w - 1) + c)) dX11_undo_50 hx rfl rfl (by show _ < 1456; omega) (by rw [updR_ne (by decide)]) ?_
        refine mt_mast2 (pc := 51) (i := 205) (j := c) dX11_undo_51 hx rfl rfl (by show _ < 91; omega) ?_
        refine mt_iinc (pc := 52) (c9 := 1) dX11_undo_52 rfl (by decide) (Nat.le_of_ble_eq_true rfl) rfl ?_
        refine mt_goto (pc := 55) (tgt := 26) dX11_undo_55 (by decide) ?_
        rw [show (nI c + 1 : Int32) = nI (c + 1) from nI_1 c, tkF_s]
        exact nc
    · skip
      refine mt_iload_n (pc := 26) dX11_undo_26 rfl ?_
      refine mt_bipush (pc := 27) (v := 91) dX11_undo_27 (by decide) ?_
      refine mt_icmp_ge (pc := 29) (tgt := 58) dX11_undo_29 (by decide) (fun c29 => ?_) (fun c29 => ?_)
      · skip
        refine mt_aload_n (pc := 58) dX11_undo_58 rfl ?_
        refine mt_iconst (pc := 59) (v := 0) dX11_undo_59 (by decide) ?_
        refine mt_mput (pc := 60) pf_X11_176 dX11_undo_60 hx rfl ?_
        refine mt_aload_n (pc := 63) dX11_undo_63 rfl ?_
        refine mt_mgetI (pc := 64) (x := nI (w - 1)) gf_X11_170 dX11_undo_64 hx rfl (by rw [upd_ne (by decide), upd_eq]) ?_
        exact mt_iret rfl dX11_undo_67 (Nat.le_of_ble_eq_true rfl) (Nat.le_of_ble_eq_true rfl) ⟨rfl, rfl, rfl⟩
      · exact absurd (nI_le (a := 91) (b := 91) (by decide) (by decide)) c29
  · exact absurd c9 (nI_ne0 hw (by omega))
theorem n_keepY {i q n : Nat} (hx : 215 ≤ nx) (hi : mAr i = true) (hi2 : i ≠ 214) (hn : n ≤ mlen i) (hq : q + n ≤ 4644) : mm_Con G l yX11_keepsRow cX11_keepsRow 6 (some .int) d 0 0 [.ref 188, .int (nI q), .ref i, .int (nI n), .int 1] nx (mos h g A) (mm_ret (some (.int (nI (q + n)))) nx (mos h g (updR A 214 (kpF (A 214) (A i) q n)))) := by
  obtain ⟨I, hI⟩ : ∃ I, A 214 = I := ⟨_, rfl⟩
  rw [hI]
  have hl : mlen i < 2 ^ 31 := by
    have : ∀ i, i ≤ 214 → mlen i < 2 ^ 31 := by decide +kernel
    exact this i (mAr_lt hi).2
  refine mm_start (lo := [some (.ref 188), some (.int (nI q)), some (.ref i), some (.int (nI n)), some (.int 1), none]) pn_X11 rfl rfl (Nat.le_of_ble_eq_true rfl) ?_
  refine mt_iconst (pc := 0) (v := 0) dX11_keepsRow_0 (by decide) ?_
  refine mt_istore (pc := 1) dX11_keepsRow_1 (Nat.le_of_ble_eq_true rfl) rfl ?_
  rw [show mos h g A = mos h g (updR A 214 (kpF I (A i) q 0)) by rw [kpF_0, updR_self hI]]
  refine mt_for (pc := 3) (H := fun c => mos h g (updR A 214 (kpF I (A i) q c))) (L := fun c => [some (.ref 188), some (.int (nI q)), some (.ref i), some (.int (nI n)), some (.int 1), some (.int (nI c))]) n (fun c hc nc => ?_) ?_
  · skip
    refine mt_iload (pc := 3) dX11_keepsRow_3 rfl ?_
    refine mt_iload_n (pc := 5) dX11_keepsRow_5 rfl ?_
    refine mt_icmp_ge (pc := 6) (tgt := 49) dX11_keepsRow_6 (by decide) (fun c6 => ?_) (fun c6 => ?_)
    · exact absurd c6 (nI_ge hc (by first | omega | decide))
    · skip
      refine mt_iload (pc := 9) dX11_keepsRow_9 rfl ?_
      refine mt_if_eq (pc := 11) (tgt := 30) dX11_keepsRow_11 (by decide) (fun c11 => ?_) (fun c11 => ?_)
      · exact absurd c11 (by decide)
      · skip
        refine mt_aload_n (pc := 14) dX11_keepsRow_14 rfl ?_
        refine mt_mget (pc := 15) gf_X11_93 dX11_keepsRow_15 hx rfl ?_
        refine mt_iload_n (pc := 18) dX11_keepsRow_18 rfl ?_
        refine mt_iload (pc := 19) dX11_keepsRow_19 rfl ?_
        refine mt_iaddN (pc := 21) (a := q) (b := c) dX11_keepsRow_21 rfl rfl ?_
        refine mt_aload_n (pc := 22) dX11_keepsRow_22 rfl ?_
        refine mt_iload (pc := 23) dX11_keepsRow_23 rfl ?_
        refine mt_mald (pc := 25) (i := i) (j := c) (x := A i c) dX11_keepsRow_25 hx hi rfl (by omega) (by rw [updR_ne hi2]) ?_
        refine mt_mast2 (pc := 26) (i := 214) (j := q + c) dX11_keepsRow_26 hx rfl rfl (by show _ < 4644; omega) ?_
        refine mt_goto (pc := 27) (tgt := 43) dX11_keepsRow_27 (by decide) ?_
        refine mt_iinc (pc := 43) (c9 := 1) dX11_keepsRow_43 rfl (by decide) (Nat.le_of_ble_eq_true rfl) rfl ?_
        refine mt_goto (pc := 46) (tgt := 3) dX11_keepsRow_46 (by decide) ?_
        rw [show (nI c + 1 : Int32) = nI (c + 1) from nI_1 c, kpF_s]
        exact nc
  · skip
    refine mt_iload (pc := 3) dX11_keepsRow_3 rfl ?_
    refine mt_iload_n (pc := 5) dX11_keepsRow_5 rfl ?_
    refine mt_icmp_ge (pc := 6) (tgt := 49) dX11_keepsRow_6 (by decide) (fun c6 => ?_) (fun c6 => ?_)
    · skip
      refine mt_iload_n (pc := 49) dX11_keepsRow_49 rfl ?_
      refine mt_iload_n (pc := 50) dX11_keepsRow_50 rfl ?_
      refine mt_iaddN (pc := 51) (a := q) (b := n) dX11_keepsRow_51 rfl rfl ?_
      exact mt_iret rfl dX11_keepsRow_52 (Nat.le_of_ble_eq_true rfl) (Nat.le_of_ble_eq_true rfl) ⟨rfl, rfl, rfl⟩
    · exact absurd (nI_le (Nat.le_refl _) (by first | omega | decide)) c6
theorem n_keepN {i q n : Nat} (hx : 215 ≤ nx) (hi : mAr i = true) (hi2 : i ≠ 214) (hn : n ≤ mlen i) (hq : q + n ≤ 4644) : mm_Con G l yX11_keepsRow cX11_keepsRow 6 (some .int) d 0 0 [.ref 188, .int (nI q), .ref i, .int (nI n), .int 0] nx (mos h g A) (mm_ret (some (.int (nI (q + n)))) nx (mos h g (updR A i (tkF (A i) (A 214) q n)))) := by
  obtain ⟨I, hI⟩ : ∃ I, A i = I := ⟨_, rfl⟩
  rw [hI]
  have hl : mlen i < 2 ^ 31 := by
    have : ∀ i, i ≤ 214 → mlen i < 2 ^ 31 := by decide +kernel
    exact this i (mAr_lt hi).2
  refine mm_start (lo := [some (.ref 188), some (.int (nI q)), some (.ref i), some (.int (nI n)), some (.int 0), none]) pn_X11 rfl rfl (Nat.le_of_ble_eq_true rfl) ?_
  refine mt_iconst (pc := 0) (v := 0) dX11_keepsRow_0 (by decide) ?_
  refine mt_istore (pc := 1) dX11_keepsRow_1 (Nat.le_of_ble_eq_true rfl) rfl ?_
  rw [show mos h g A = mos h g (updR A i (tkF I (A 214) q 0)) by rw [tkF_0, updR_self hI]]
  refine mt_for (pc := 3) (H := fun c => mos h g (updR A i (tkF I (A 214) q c))) (L := fun c => [some (.ref 188), some (.int (nI q)), some (.ref i), some (.int (nI n)), some (.int 0), some (.int (nI c))]) n (fun c hc nc => ?_) ?_
  · skip
    refine mt_iload (pc := 3) dX11_keepsRow_3 rfl ?_
    refine mt_iload_n (pc := 5) dX11_keepsRow_5 rfl ?_
    refine mt_icmp_ge (pc := 6) (tgt := 49) dX11_keepsRow_6 (by decide) (fun c6 => ?_) (fun c6 => ?_)
    · exact absurd c6 (nI_ge hc (by first | omega | decide))
    · skip
      refine mt_iload (pc := 9) dX11_keepsRow_9 rfl ?_
      refine mt_if_eq (pc := 11) (tgt := 30) dX11_keepsRow_11 (by decide) (fun c11 => ?_) (fun c11 => ?_)
      · skip
        refine mt_aload_n (pc := 30) dX11_keepsRow_30 rfl ?_
        refine mt_iload (pc := 31) dX11_keepsRow_31 rfl ?_
        refine mt_aload_n (pc := 33) dX11_keepsRow_33 rfl ?_
        refine mt_mget (pc := 34) gf_X11_93 dX11_keepsRow_34 hx rfl ?_
        refine mt_iload_n (pc := 37) dX11_keepsRow_37 rfl ?_
        refine mt_iload (pc := 38) dX11_keepsRow_38 rfl ?_
        refine mt_iaddN (pc := 40) (a := q) (b := c) dX11_keepsRow_40 rfl rfl ?_
        refine mt_mald (pc := 41) (i := 214) (j := q + c) (x := A 214 (q + c)) dX11_keepsRow_41 hx rfl rfl (by show _ < 4644; omega) (by rw [updR_ne (Ne.symm hi2)]) ?_
        refine mt_mast2 (pc := 42) (i := i) (j := c) dX11_keepsRow_42 hx hi rfl (by omega) ?_
        refine mt_iinc (pc := 43) (c9 := 1) dX11_keepsRow_43 rfl (by decide) (Nat.le_of_ble_eq_true rfl) rfl ?_
        refine mt_goto (pc := 46) (tgt := 3) dX11_keepsRow_46 (by decide) ?_
        rw [show (nI c + 1 : Int32) = nI (c + 1) from nI_1 c, tkF_s]
        exact nc
      · exact absurd rfl c11
  · skip
    refine mt_iload (pc := 3) dX11_keepsRow_3 rfl ?_
    refine mt_iload_n (pc := 5) dX11_keepsRow_5 rfl ?_
    refine mt_icmp_ge (pc := 6) (tgt := 49) dX11_keepsRow_6 (by decide) (fun c6 => ?_) (fun c6 => ?_)
    · skip
      refine mt_iload_n (pc := 49) dX11_keepsRow_49 rfl ?_
      refine mt_iload_n (pc := 50) dX11_keepsRow_50 rfl ?_
      refine mt_iaddN (pc := 51) (a := q) (b := n) dX11_keepsRow_51 rfl rfl ?_
      exact mt_iret rfl dX11_keepsRow_52 (Nat.le_of_ble_eq_true rfl) (Nat.le_of_ble_eq_true rfl) ⟨rfl, rfl, rfl⟩
    · exact absurd (nI_le (Nat.le_refl _) (by first | omega | decide)) c6
/-- an image of the reference's rows -/
def imF (I now past : Nat → Int32) (q : Nat) (w : Int32) : Nat → Int32 := upd (kpF (kpF I now q 91) past (q + 91) 1456) (q + 91 + 1456) w
theorem n_keepsY {i : Nat} (hd : 1 ≤ d) (hx : 215 ≤ nx) (hi : i < 3) : mm_Con G l yX11_keepsAll cX11_keepsAll 4 none d 0 0 [.ref 188, .int (nI i), .int 1] nx (mos h g A) (mm_ret none nx (mos h g (updR A 214 (imF (A 214) (A 205) (A 207) (1548 * i) (g 31))))) := by
  refine mm_start (lo := [some (.ref 188), some (.int (nI i)), some (.int 1), none]) pn_X11 rfl rfl (Nat.le_of_ble_eq_true rfl) ?_
  refine mt_aload_n (pc := 0) dX11_keepsAll_0 rfl ?_
  refine mt_sipush (pc := 1) (v := 1548) dX11_keepsAll_1 (by decide) ?_
  refine mt_iload_n (pc := 4) dX11_keepsAll_4 rfl ?_
  refine mt_imulN (pc := 5) (a := 1548) (b := i) dX11_keepsAll_5 rfl rfl ?_
  refine mt_aload_n (pc := 6) dX11_keepsAll_6 rfl ?_
  refine mt_mget (pc := 7) gf_X11_65 dX11_keepsAll_7 hx rfl ?_
  refine mt_bipush (pc := 10) (v := 91) dX11_keepsAll_10 (by decide) ?_
  refine mt_iload_n (pc := 12) dX11_keepsAll_12 rfl ?_
  refine mt_cV (pc := 13) (n_keepY (d := 0) (i := 205) (q := 1548 * i) (n := 91) hx rfl (by decide) (Nat.le_of_ble_eq_true rfl) (by omega)) cal_X11_keepsRow vir_X11_keepsRow ml_X11_425 dX11_keepsAll_13 (by omega) (mos_o _ _ _) (by first | assumption | (show _ ≤ d; omega)) ⟨(Nat.le_of_ble_eq_true rfl), (Nat.le_of_ble_eq_true rfl)⟩ rfl rfl (Nat.le_of_ble_eq_true rfl) ?_
  refine mt_istore_n (pc := 16) dX11_keepsAll_16 (Nat.le_of_ble_eq_true rfl) rfl ?_
  refine mt_aload_n (pc := 17) dX11_keepsAll_17 rfl ?_
  refine mt_iload_n (pc := 18) dX11_keepsAll_18 rfl ?_
  refine mt_aload_n (pc := 19) dX11_keepsAll_19 rfl ?_
  refine mt_mget (pc := 20) gf_X11_71 dX11_keepsAll_20 hx rfl ?_
  refine mt_sipush (pc := 23) (v := 1456) dX11_keepsAll_23 (by decide) ?_
  refine mt_iload_n (pc := 26) dX11_keepsAll_26 rfl ?_
  refine mt_cV (pc := 27) (n_keepY (d := 0) (i := 207) (q := 1548 * i + 91) (n := 1456) hx rfl (by decide) (Nat.le_of_ble_eq_true rfl) (by omega)) cal_X11_keepsRow vir_X11_keepsRow ml_X11_425 dX11_keepsAll_27 (by omega) (mos_o _ _ _) (by first | assumption | (show _ ≤ d; omega)) ⟨(Nat.le_of_ble_eq_true rfl), (Nat.le_of_ble_eq_true rfl)⟩ rfl rfl (Nat.le_of_ble_eq_true rfl) ?_
  rw [updR_updR, updR_eq, updR_ne (show (207 : Nat) ≠ 214 by decide)]
  refine mt_istore_n (pc := 30) dX11_keepsAll_30 (Nat.le_of_ble_eq_true rfl) rfl ?_
  refine mt_iload_n (pc := 31) dX11_keepsAll_31 rfl ?_
  refine mt_if_eq (pc := 32) (tgt := 48) dX11_keepsAll_32 (by decide) (fun c32 => ?_) (fun c32 => ?_)
  · exact absurd c32 (by decide)
  · skip
    refine mt_aload_n (pc := 35) dX11_keepsAll_35 rfl ?_
    refine mt_mget (pc := 36) gf_X11_93 dX11_keepsAll_36 hx rfl ?_
    refine mt_iload_n (pc := 39) dX11_keepsAll_39 rfl ?_
    refine mt_aload_n (pc := 40) dX11_keepsAll_40 rfl ?_
    refine mt_mget (pc := 41) gf_X11_170 dX11_keepsAll_41 hx rfl ?_
    refine mt_mast2 (pc := 44) (i := 214) (j := 1548 * i + 91 + 1456) dX11_keepsAll_44 hx rfl rfl (by show _ < 4644; omega) ?_
    refine mt_goto (pc := 45) (tgt := 58) dX11_keepsAll_45 (by decide) ?_
    exact mt_vret rfl dX11_keepsAll_58 (Nat.le_of_ble_eq_true rfl) (Nat.le_of_ble_eq_true rfl) ⟨rfl, rfl, rfl⟩
theorem n_keepsN {i : Nat} (hd : 1 ≤ d) (hx : 215 ≤ nx) (hi : i < 3) : mm_Con G l yX11_keepsAll cX11_keepsAll 4 none d 0 0 [.ref 188, .int (nI i), .int 0] nx (mos h g A) (mm_ret none nx (mos h (upd g 31 (A 214 (1548 * i + 91 + 1456))) (updR (updR A 205 (tkF (A 205) (A 214) (1548 * i) 91)) 207 (tkF (A 207) (A 214) (1548 * i + 91) 1456)))) := by
  refine mm_start (lo := [some (.ref 188), some (.int (nI i)), some (.int 0), none]) pn_X11 rfl rfl (Nat.le_of_ble_eq_true rfl) ?_
  refine mt_aload_n (pc := 0) dX11_keepsAll_0 rfl ?_
  refine mt_sipush (pc := 1) (v := 1548) dX11_keepsAll_1 (by decide) ?_
  refine mt_iload_n (pc := 4) dX11_keepsAll_4 rfl ?_
  refine mt_imulN (pc := 5) (a := 1548) (b := i) dX11_keepsAll_5 rfl rfl ?_
  refine mt_aload_n (pc := 6) dX11_keepsAll_6 rfl ?_
  refine mt_mget (pc := 7) gf_X11_65 dX11_keepsAll_7 hx rfl ?_
  refine mt_bipush (pc := 10) (v := 91) dX11_keepsAll_10 (by decide) ?_
  refine mt_iload_n (pc := 12) dX11_keepsAll_12 rfl ?_
  refine mt_cV (pc := 13) (n_keepN (d := 0) (i := 205) (q := 1548 * i) (n := 91) hx rfl (by decide) (Nat.le_of_ble_eq_true rfl) (by omega)) cal_X11_keepsRow vir_X11_keepsRow ml_X11_425 dX11_keepsAll_13 (by omega) (mos_o _ _ _) (by first | assumption | (show _ ≤ d; omega)) ⟨(Nat.le_of_ble_eq_true rfl), (Nat.le_of_ble_eq_true rfl)⟩ rfl rfl (Nat.le_of_ble_eq_true rfl) ?_
  refine mt_istore_n (pc := 16) dX11_keepsAll_16 (Nat.le_of_ble_eq_true rfl) rfl ?_
  refine mt_aload_n (pc := 17) dX11_keepsAll_17 rfl ?_
  refine mt_iload_n (pc := 18) dX11_keepsAll_18 rfl ?_
  refine mt_aload_n (pc := 19) dX11_keepsAll_19 rfl ?_
  refine mt_mget (pc := 20) gf_X11_71 dX11_keepsAll_20 hx rfl ?_
  refine mt_sipush (pc := 23) (v := 1456) dX11_keepsAll_23 (by decide) ?_
  refine mt_iload_n (pc := 26) dX11_keepsAll_26 rfl ?_
  refine mt_cV (pc := 27) (n_keepN (d := 0) (i := 207) (q := 1548 * i + 91) (n := 1456) hx rfl (by decide) (Nat.le_of_ble_eq_true rfl) (by omega)) cal_X11_keepsRow vir_X11_keepsRow ml_X11_425 dX11_keepsAll_27 (by omega) (mos_o _ _ _) (by first | assumption | (show _ ≤ d; omega)) ⟨(Nat.le_of_ble_eq_true rfl), (Nat.le_of_ble_eq_true rfl)⟩ rfl rfl (Nat.le_of_ble_eq_true rfl) ?_
  rw [updR_ne (show (207 : Nat) ≠ 205 by decide), updR_ne (show (214 : Nat) ≠ 205 by decide)]
  refine mt_istore_n (pc := 30) dX11_keepsAll_30 (Nat.le_of_ble_eq_true rfl) rfl ?_
  refine mt_iload_n (pc := 31) dX11_keepsAll_31 rfl ?_
  refine mt_if_eq (pc := 32) (tgt := 48) dX11_keepsAll_32 (by decide) (fun c32 => ?_) (fun c32 => ?_)
  · skip
    refine mt_aload_n (pc := 48) dX11_keepsAll_48 rfl ?_
    refine mt_aload_n (pc := 49) dX11_keepsAll_49 rfl ?_
    refine mt_mget (pc := 50) gf_X11_93 dX11_keepsAll_50 hx rfl ?_
    refine mt_iload_n (pc := 53) dX11_keepsAll_53 rfl ?_
    refine mt_mald (pc := 54) (i := 214) (j := 1548 * i + 91 + 1456) (x := A 214 (1548 * i + 91 + 1456)) dX11_keepsAll_54 hx rfl rfl (by show _ < 4644; omega) (by rw [updR_ne (by decide), updR_ne (by decide)]) ?_
    refine mt_mput (pc := 55) pf_X11_170 dX11_keepsAll_55 hx rfl ?_
    exact mt_vret rfl dX11_keepsAll_58 (Nat.le_of_ble_eq_true rfl) (Nat.le_of_ble_eq_true rfl) ⟨rfl, rfl, rfl⟩
  · exact absurd rfl c32
theorem n_image3 (hx : 215 ≤ nx) (h50 : g 50 = 3) : mm_Con G l yX11_image cX11_image 1 (some .int) d 0 0 [.ref 188] nx (mos h g A) (mm_ret (some (.int (-1))) nx (mos h (upd g 0 0) A)) := by
  refine mm_start (lo := [some (.ref 188)]) pn_X11 rfl rfl (Nat.le_of_ble_eq_true rfl) ?_
  refine mt_aload_n (pc := 0) dX11_image_0 rfl ?_
  refine mt_iconst (pc := 1) (v := 0) dX11_image_1 (by decide) ?_
  refine mt_mput (pc := 2) pf_X11_3 dX11_image_2 hx rfl ?_
  refine mt_aload_n (pc := 5) dX11_image_5 rfl ?_
  refine mt_mgetI (pc := 6) (x := 3) gf_X11_173 dX11_image_6 hx rfl h50 ?_
  refine mt_iconst (pc := 9) (v := 3) dX11_image_9 (by decide) ?_
  refine mt_icmp_ne (pc := 10) (tgt := 15) dX11_image_10 (by decide) (fun c10 => ?_) (fun c10 => ?_)
  · exact absurd rfl c10
  · skip
    refine mt_iconst (pc := 13) (v := (-1)) dX11_image_13 (by decide) ?_
    exact mt_iret rfl dX11_image_14 (Nat.le_of_ble_eq_true rfl) (Nat.le_of_ble_eq_true rfl) ⟨rfl, rfl, rfl⟩
theorem n_image {i : Nat} (hd : 2 ≤ d) (hx : 215 ≤ nx) (h50 : g 50 = nI i) (hi : i < 3) : mm_Con G l yX11_image cX11_image 1 (some .int) d 0 0 [.ref 188] nx (mos h g A) (mm_ret (some (.int (nI (i + 1)))) nx (mos h (upd (upd g 0 0) 50 (nI (i + 1))) (updR A 214 (imF (A 214) (A 205) (A 207) (1548 * i) (g 31))))) := by
  refine mm_start (lo := [some (.ref 188)]) pn_X11 rfl rfl (Nat.le_of_ble_eq_true rfl) ?_
  refine mt_aload_n (pc := 0) dX11_image_0 rfl ?_
  refine mt_iconst (pc := 1) (v := 0) dX11_image_1 (by decide) ?_
  refine mt_mput (pc := 2) pf_X11_3 dX11_image_2 hx rfl ?_
  refine mt_aload_n (pc := 5) dX11_image_5 rfl ?_
  refine mt_mgetI (pc := 6) (x := nI i) gf_X11_173 dX11_image_6 hx rfl h50 ?_
  refine mt_iconst (pc := 9) (v := 3) dX11_image_9 (by decide) ?_
  refine mt_icmp_ne (pc := 10) (tgt := 15) dX11_image_10 (by decide) (fun c10 => ?_) (fun c10 => ?_)
  · skip
    refine mt_aload_n (pc := 15) dX11_image_15 rfl ?_
    refine mt_aload_n (pc := 16) dX11_image_16 rfl ?_
    refine mt_mgetI (pc := 17) (x := nI i) gf_X11_173 dX11_image_17 hx rfl h50 ?_
    refine mt_iconst (pc := 20) (v := 1) dX11_image_20 (by decide) ?_
    refine mt_cV (pc := 21) (n_keepsY (d := 1) (Nat.le_refl 1) hx hi) cal_X11_keepsAll vir_X11_keepsAll ml_X11_429 dX11_image_21 (by omega) (mos_o _ _ _) (by first | assumption | (show _ ≤ d; omega)) ⟨(Nat.le_of_ble_eq_true rfl), (Nat.le_of_ble_eq_true rfl)⟩ rfl rfl (Nat.le_of_ble_eq_true rfl) ?_
    refine mt_aload_n (pc := 24) dX11_image_24 rfl ?_
    refine mt_dup (pc := 25) dX11_image_25 rfl ?_
    refine mt_mgetI (pc := 26) (x := nI i) gf_X11_173 dX11_image_26 hx rfl h50 ?_
    refine mt_iconst (pc := 29) (v := 1) dX11_image_29 (by decide) ?_
    refine mt_iaddN (pc := 30) (a := i) (b := 1) dX11_image_30 rfl rfl ?_
    refine mt_mput (pc := 31) pf_X11_173 dX11_image_31 hx rfl ?_
    refine mt_aload_n (pc := 34) dX11_image_34 rfl ?_
    refine mt_mgetI (pc := 35) (x := nI (i + 1)) gf_X11_173 dX11_image_35 hx rfl (upd_eq _ _ _) ?_
    exact mt_iret rfl dX11_image_38 (Nat.le_of_ble_eq_true rfl) (Nat.le_of_ble_eq_true rfl) ⟨rfl, rfl, rfl⟩
  · exact absurd c10 (nI_ne (b := 3) hi (by decide))
theorem n_restore0 (hx : 215 ≤ nx) (h50 : g 50 = 0) : mm_Con G l yX11_restore cX11_restore 1 (some .int) d 0 0 [.ref 188] nx (mos h g A) (mm_ret (some (.int (-1))) nx (mos h (upd g 0 0) A)) := by
  refine mm_start (lo := [some (.ref 188)]) pn_X11 rfl rfl (Nat.le_of_ble_eq_true rfl) ?_
  refine mt_aload_n (pc := 0) dX11_restore_0 rfl ?_
  refine mt_iconst (pc := 1) (v := 0) dX11_restore_1 (by decide) ?_
  refine mt_mput (pc := 2) pf_X11_3 dX11_restore_2 hx rfl ?_
  refine mt_aload_n (pc := 5) dX11_restore_5 rfl ?_
  refine mt_mgetI (pc := 6) (x := 0) gf_X11_173 dX11_restore_6 hx rfl h50 ?_
  refine mt_if_ne (pc := 9) (tgt := 14) dX11_restore_9 (by decide) (fun c9 => ?_) (fun c9 => ?_)
  · exact absurd rfl c9
  · skip
    refine mt_iconst (pc := 12) (v := (-1)) dX11_restore_12 (by decide) ?_
    exact mt_iret rfl dX11_restore_13 (Nat.le_of_ble_eq_true rfl) (Nat.le_of_ble_eq_true rfl) ⟨rfl, rfl, rfl⟩
theorem n_restore {i : Nat} (hd : 2 ≤ d) (hx : 215 ≤ nx) (h50 : g 50 = nI i) (hi0 : 0 < i) (hi : i ≤ 3) : mm_Con G l yX11_restore cX11_restore 1 (some .int) d 0 0 [.ref 188] nx (mos h g A) (mm_ret (some (.int (nI (i - 1)))) nx (mos h (upd (upd (upd (upd g 0 0) 50 (nI (i - 1))) 31 (A 214 (1548 * (i - 1) + 91 + 1456))) 32 0) (updR (updR A 205 (tkF (A 205) (A 214) (1548 * (i - 1)) 91)) 207 (tkF (A 207) (A 214) (1548 * (i - 1) + 91) 1456)))) := by
  refine mm_start (lo := [some (.ref 188)]) pn_X11 rfl rfl (Nat.le_of_ble_eq_true rfl) ?_
  refine mt_aload_n (pc := 0) dX11_restore_0 rfl ?_
  refine mt_iconst (pc := 1) (v := 0) dX11_restore_1 (by decide) ?_
  refine mt_mput (pc := 2) pf_X11_3 dX11_restore_2 hx rfl ?_
  refine mt_aload_n (pc := 5) dX11_restore_5 rfl ?_
  refine mt_mgetI (pc := 6) (x := nI i) gf_X11_173 dX11_restore_6 hx rfl h50 ?_
  refine mt_if_ne (pc := 9) (tgt := 14) dX11_restore_9 (by decide) (fun c9 => ?_) (fun c9 => ?_)
  · skip
    refine mt_aload_n (pc := 14) dX11_restore_14 rfl ?_
    refine mt_dup (pc := 15) dX11_restore_15 rfl ?_
    refine mt_mgetI (pc := 16) (x := nI i) gf_X11_173 dX11_restore_16 hx rfl h50 ?_
    refine mt_iconst (pc := 19) (v := 1) dX11_restore_19 (by decide) ?_
    refine mt_isubN (pc := 20) (a := i) (b := 1) dX11_restore_20 rfl rfl (by omega) ?_
    refine mt_mput (pc := 21) pf_X11_173 dX11_restore_21 hx rfl ?_
    refine mt_aload_n (pc := 24) dX11_restore_24 rfl ?_
    refine mt_aload_n (pc := 25) dX11_restore_25 rfl ?_
    refine mt_mgetI (pc := 26) (x := nI (i - 1)) gf_X11_173 dX11_restore_26 hx rfl (upd_eq _ _ _) ?_
    refine mt_iconst (pc := 29) (v := 0) dX11_restore_29 (by decide) ?_
    refine mt_cV (pc := 30) (n_keepsN (d := 1) (i := i - 1) (Nat.le_refl 1) hx (by omega)) cal_X11_keepsAll vir_X11_keepsAll ml_X11_429 dX11_restore_30 (by omega) (mos_o _ _ _) (by first | assumption | (show _ ≤ d; omega)) ⟨(Nat.le_of_ble_eq_true rfl), (Nat.le_of_ble_eq_true rfl)⟩ rfl rfl (Nat.le_of_ble_eq_true rfl) ?_
    refine mt_aload_n (pc := 33) dX11_restore_33 rfl ?_
    refine mt_iconst (pc := 34) (v := 0) dX11_restore_34 (by decide) ?_
    refine mt_mput (pc := 35) pf_X11_176 dX11_restore_35 hx rfl ?_
    refine mt_aload_n (pc := 38) dX11_restore_38 rfl ?_
    refine mt_mgetI (pc := 39) (x := nI (i - 1)) gf_X11_173 dX11_restore_39 hx rfl (by rw [upd_ne (by decide), upd_ne (by decide), upd_eq]) ?_
    exact mt_iret rfl dX11_restore_42 (Nat.le_of_ble_eq_true rfl) (Nat.le_of_ble_eq_true rfl) ⟨rfl, rfl, rfl⟩
  · exact absurd c9 (nI_ne0 hi0 (by omega))
end MKEEP
