/-! Rows stay canonical; Winter (cell 186). -/
theorem CN_end {f : Nat → Int32} {i : Nat} (hf : CN 84 f) : CN 84 (endF f i) := by
  refine CN_upd (CN_upd ?_ (by decide)) (by decide)
  intro j hj
  unfold shF
  rw [if_neg (by omega)]
  exact hf j hj
theorem CN_pay {k : CS} {cs : List Nat} {f : Nat → Int32} {n i : Nat} (hw : RW f n) (hi : i < n) (hf : CN 84 f) : CN 84 (payF k cs f i) := by
  have so := hw.so hi
  have sl := hw.sl hi
  refine CN_end ?_
  have h2 : CN 84 (pay2 k cs f i) := CN_upd (CN_upd hf (by omega)) (by omega)
  unfold pay3
  split
  · exact h2
  · exact CN_upd h2 (by omega)
theorem CN_lend {f : Nat → Int32} {n a p : Nat} {x y : Int32} (hn : n < 10) (hp : p < 8) (hf : CN 84 f) : CN 84 (lendF f n a p x y) :=
  CN_upd (CN_upd (CN_upd (CN_upd (CN_upd (CN_upd (CN_upd (CN_upd hf (by omega)) (by omega)) (by omega)) (by omega)) (by omega)) (by omega)) (by omega)) (by omega)
theorem CN_nig {f : Nat → Int32} {n : Nat} (hw : RW f n) (hf : CN 84 f) : ∀ i, i ≤ n → CN 84 (nigF f i)
  | 0, _ => CN_upd hf (by decide)
  | i + 1, hi => by
    have h1 := CN_nig hw hf i (by omega)
    have h2 := RW_nigF hw i (by omega)
    have h3 := (h2.so (show i < n by omega)).2
    have h4 := hw.2.1
    show CN 84 (ovF (nigF f i) i)
    unfold ovF
    split
    · exact CN_upd (CN_upd (CN_upd h1 (by omega)) (by omega)) (by omega)
    · exact h1
/-- rows as they come about -/
def RC (f : Nat → Int32) : Prop := (∃ n, RW f n) ∧ CN 84 f
theorem RC_nig {f : Nat → Int32} (h : RC f) : RC (nigF f (nlo f)) := by
  obtain ⟨⟨n, hw⟩, hc⟩ := h
  rw [nlo_eq hw]
  exact ⟨⟨n, RW_nigF hw n (Nat.le_refl n)⟩, CN_nig hw hc n (Nat.le_refl n)⟩
theorem RC_do {k : CS} {cs : List Nat} {f : Nat → Int32} {sl so : Nat} {t : ST} (hso : so ≤ 6) (hsl : sl ≤ 8) (ht : TW so sl t) (h6 : t.1 ≠ 6) (h : RC f) : RC (doS k cs t f).1 := by
  obtain ⟨⟨n, hw⟩, hc⟩ := h
  refine ⟨RW_do hso hsl ht h6 hw, ?_⟩
  have hn := hw.2.1
  rcases ht with ⟨a, p, x, y, rfl, h1, h2, -⟩ | ⟨i, rfl, h1⟩ | ⟨a, x, rfl, h1, -⟩ | ⟨p, rfl, h1⟩ | ⟨p, rfl, h1⟩ | rfl | ⟨x, z, rfl, -⟩
  · simp only [doS]
    split
    · next hq =>
      have hn2 : n < 10 := Nat.lt_of_not_le fun z => hq.1 (by rw [hw.1]; exact nI_le (a := 10) z (by omega))
      rw [nlo_eq hw]
      exact CN_lend hn2 (by omega) hc
    · exact hc
  · simp only [doS]
    split
    · exact hc
    · next hq =>
      rw [nlo_eq hw] at hq
      exact CN_pay hw (by omega) hc
  · simp only [doS]
    split
    · exact CN_upd hc (by omega)
    · exact hc
  · exact CN_upd hc (by omega)
  · exact CN_upd hc (by omega)
  · simp only [doS]
    split
    · rw [nlo_eq hw]
      exact CN_nig hw hc n (Nat.le_refl n)
    · exact hc
  · exact absurd rfl h6
/-- what STEPS keep -/
theorem repS_keep {Q : WS → Prop} {g : WS → WS} (hg : ∀ w, Q w → Q (g w)) : ∀ q w, Q w → Q (repS g q w)
  | 0, _, h => h
  | q + 1, w, h => by
    simp only [repS]
    split
    · exact repS_keep hg q _ (hg w h)
    · exact h
theorem runS_keep {k : CS} {cs : List Nat} {ss : List ST} {B : Nat → Nat → WS → WS} {Q : (Nat → Int32) → Prop} (hQ : ∀ t ∈ ss, t.1 ≠ 6 → ∀ f, Q f → Q (doS k cs t f).1) (hB : ∀ i to w, Q w.1 → Q (B i to w).1) : ∀ q i to w, Q w.1 → Q (runS k cs ss B q i to w).1
  | 0, _, _, _, h => h
  | q + 1, i, to, w, h => by
    rw [runS_s]
    split
    · rcases hg : ss[i]? with _ | t
      · exact h
      · dsimp only
        split
        · exact runS_keep hQ hB q _ _ _ (repS_keep (Q := fun w => Q w.1) (fun w hw => hB _ _ w hw) _ _ h)
        · next h6 => exact runS_keep hQ hB q _ _ _ (hQ t (List.mem_of_getElem? hg) h6 _ h)
    · exact h
theorem carS_keep {k : CS} {cs : List Nat} {ss : List ST} {Q : (Nat → Int32) → Prop} (hQ : ∀ t ∈ ss, t.1 ≠ 6 → ∀ f, Q f → Q (doS k cs t f).1) : ∀ j i to w, Q w.1 → Q (carS k cs ss j i to w).1
  | 0, _, _, _, h => h
  | j + 1, i, to, w, h => runS_keep hQ (carS_keep hQ j) 30 i to w h
abbrev wnE (z : Int32) : mm_E := .inr (8, [.int z])
def nxs (s : Int32) : Int32 := s * 1103515245 + 12345
def drw (s : Int32) (n : Nat) : Nat := (nxs s).toBitVec.toNat / 65536 % 32768 % n
/-- a night of a WINTER: row and seed -/
def winS (k : CS) (cs : List Nat) (q : Int32) (w : (Nat → Int32) × Int32) : (Nat → Int32) × Int32 :=
  if 0 < k.2.1 ∧ 0 < k.1 then
    let f1 := (doS k cs (0, [drw w.2 k.2.1, drw (nxs w.2) k.1, drw (nxs (nxs w.2)) 20 + 1, drw (nxs (nxs (nxs w.2))) 9 + 1], 0) w.1).1
    let f2 := if nI (drw (nxs (nxs (nxs (nxs w.2)))) 16) < q then (doS k cs (1, [0], 0) f1).1 else f1
    (nigF f2 (nlo f2), nxs (nxs (nxs (nxs (nxs w.2)))))
  else (nigF w.1 (nlo w.1), w.2)
def winN (k : CS) (cs : List Nat) (q : Int32) (w : (Nat → Int32) × Int32) : Nat → (Nat → Int32) × Int32
  | 0 => w
  | n + 1 => winS k cs q (winN k cs q w n)
theorem RC_win {k : CS} {cs : List Nat} {q : Int32} {w : (Nat → Int32) × Int32} (hso : k.2.1 ≤ 6) (hsl : k.1 ≤ 8) (h : RC w.1) : RC (winS k cs q w).1 := by
  unfold winS
  split
  · next hc =>
    refine RC_nig ?_
    have h1 : RC (doS k cs (0, [drw w.2 k.2.1, drw (nxs w.2) k.1, drw (nxs (nxs w.2)) 20 + 1, drw (nxs (nxs (nxs w.2))) 9 + 1], 0) w.1).1 := RC_do hso hsl (Or.inl ⟨_, _, _, _, rfl, Nat.mod_lt _ hc.1, Nat.mod_lt _ hc.2, by omega, by unfold drw; omega, by omega, by unfold drw; omega⟩) (by simp) h
    split
    · exact RC_do hso hsl (Or.inr (Or.inl ⟨0, rfl, by decide⟩)) (by decide) h1
    · exact h1
  · exact RC_nig h
theorem RC_winN {k : CS} {cs : List Nat} {q : Int32} {w : (Nat → Int32) × Int32} (hso : k.2.1 ≤ 6) (hsl : k.1 ≤ 8) (h : RC w.1) : ∀ n, RC (winN k cs q w n).1
  | 0 => h
  | n + 1 => RC_win hso hsl (RC_winN hso hsl h n)
section WINTER
variable {G : mm_G} {l : Launch} {d nx : Nat} {h : Nat → mm_E} {s r : Nat} {f : Nat → Int32} {k : CS} {cs : List Nat}
theorem c_draw {z : Int32} {n : Nat} (hx : 187 ≤ nx) (hn : 0 < n) (hn2 : n < 2 ^ 31) (h186 : h 186 = wnE z) : mm_Con G l yX8_draw cX8_draw 2 (some .int) d 0 0 [.ref 186, .int (nI n)] nx h (mm_ret (some (.int (nI (drw z n)))) nx (hset h 186 (wnE (nxs z)))) := by
  refine mm_start (lo := [some (.ref 186), some (.int (nI n))]) pn_X8 rfl rfl (Nat.le_of_ble_eq_true rfl) ?_
  refine mt_aload_n (pc := 0) dX8_draw_0 rfl ?_
  refine mt_aload_n (pc := 1) dX8_draw_1 rfl ?_
  refine mt_get (pc := 2) gf_X8_22 dX8_draw_2 (by first | assumption | omega) (by repeat (first | exact hset_eq _ _ _ | assumption | rw [hset_ne (by first | assumption | decide | omega)])) rfl ?_
  refine mt_ldc (pc := 5) kc_X8_43 dX8_draw_5 ?_
  refine mt_imul (pc := 7) dX8_draw_7 ?_
  refine mt_sipush (pc := 8) (v := 12345) dX8_draw_8 (by decide) ?_
  refine mt_iadd (pc := 11) dX8_draw_11 ?_
  first
    | refine mt_puti2 (pc := 12) pf_X8_22 dX8_draw_12 (by first | assumption | omega) (Nat.le_of_ble_eq_true rfl) ?_
    | refine mt_puti (pc := 12) pf_X8_22 dX8_draw_12 (by first | assumption | omega) (by repeat (first | exact hset_eq _ _ _ | assumption | rw [hset_ne (by first | assumption | decide | omega)])) (Nat.le_of_ble_eq_true rfl) ?_
  show mm_T _ _ _ _ (hset h 186 (wnE (nxs z))) _ _ _ _ _
  refine mt_iload_n (pc := 15) dX8_draw_15 rfl ?_
  refine mt_if_le (pc := 16) (tgt := 35) dX8_draw_16 (by decide) (fun c16 => ?_) (fun c16 => ?_)
  · exact absurd c16 (by rw [show (0 : Int32) = nI 0 from rfl]; exact nI_ge hn hn2)
  · skip
    refine mt_aload_n (pc := 19) dX8_draw_19 rfl ?_
    refine mt_get (pc := 20) gf_X8_22 dX8_draw_20 (by first | assumption | omega) (by repeat (first | exact hset_eq _ _ _ | assumption | rw [hset_ne (by first | assumption | decide | omega)])) rfl ?_
    refine mt_bipush (pc := 23) (v := 16) dX8_draw_23 (by decide) ?_
    refine mt_iushr (pc := 25) dX8_draw_25 rfl ?_
    refine mt_sipush (pc := 26) (v := 32767) dX8_draw_26 (by decide) ?_
    refine mt_iand (pc := 29) dX8_draw_29 ?_
    refine mt_iload_n (pc := 30) dX8_draw_30 rfl ?_
    refine mt_irem (pc := 31) dX8_draw_31 (fun z => by have := (nI_eq (a := n) (b := 0) hn2 (by decide)).mp z; omega) ?_
    rw [show (((nxs z).toUInt32 >>> (Int32.toUInt32 16 &&& Int32.toUInt32 31)).toInt32 &&& 32767 : Int32) = nI ((nxs z).toBitVec.toNat / 65536 % 32768) by
      rw [pk_and _ (m := 32767) 15 (by decide), pk_ushr (nxs z) 16 16 (by decide)]]
    rw [pk_rem (by omega) hn hn2]
    refine mt_goto (pc := 32) (tgt := 36) dX8_draw_32 (by decide) ?_
    exact mt_iret rfl dX8_draw_36 (Nat.le_of_ble_eq_true rfl) (Nat.le_of_ble_eq_true rfl) ⟨rfl, rfl, rfl⟩
theorem c_lendD {n a p x y : Nat} (hd : 4 ≤ d) (hx : 34 ≤ nx) (ha : a < 6) (hp : p < 8) (hw : RW f n) (hC : CO h k) (h33 : h 33 = ruE) (hne : s ≠ r) (hs : s < nx) (hr : r < nx) (hS : h s = stE r) (hR : h r = rwE f) : mm_Con G l yX4_lend cX4_lend 6 (some .boolean) d 0 0 [.ref 33, .ref s, .int (nI a), .int (nI p), .int (nI x), .int (nI y)] nx h (mm_ret (some (.int (doS k cs (0, [a, p, x, y], 0) f).2)) nx (hset h r (rwE (doS k cs (0, [a, p, x, y], 0) f).1))) := by
  have h1 := c_lend (G := G) (l := l) (d := d) (x := nI x) (t := nI y) hd hx ha hp hw.1 hw.2.1 hC h33 hne hs hr hS hR
  have eq : doS k cs (0, [a, p, x, y], 0) f = if ¬ 10 ≤ f 3 ∧ openC k f a p (nI x) then (lendF f n a p (nI x) (nI y), 1) else (f, 0) := by simp only [doS, nlo_eq hw]
  rw [eq]
  by_cases hc : ¬ 10 ≤ f 3 ∧ openC k f a p (nI x)
  · rw [if_pos hc, if_pos hc] at h1
    rw [if_pos hc]
    exact h1
  · rw [if_neg hc, if_neg hc] at h1
    rw [if_neg hc, hset_self hR]
    exact h1
theorem con_imp {y : MethodName} {c : ByteArray} {nL : Nat} {rt : Option FieldType} {mc ms : Nat} {av : List Value} {P Q : mm_P} (hc : mm_Con G l y c nL rt d mc ms av nx h P) (hi : ∀ o n m, P o n m → Q o n m) : mm_Con G l y c nL rt d mc ms av nx h Q := by
  intro ad p e h1 h2 h3 s m args below h4 h5 h6 h7
  obtain ⟨n, o, a1, a2, a3, a4⟩ := hc ad p e h1 h2 h3 s m args below h4 h5 h6 h7
  refine ⟨n, o, a1, a2, a3, ?_⟩
  rcases a4 with ⟨⟨hs, v, nx', h', ad', ho, hP, hx⟩, hL⟩ | ⟨q, ho, E, ce, L, ⟨hs, k, nx', h', ad', hE, hP, hx⟩, hL⟩
  · exact Or.inl ⟨⟨hs, v, nx', h', ad', ho, hi _ _ _ hP, hx⟩, hL⟩
  · exact Or.inr ⟨q, ho, E, ce, L, ⟨hs, k, nx', h', ad', hE, hi _ _ _ hP, hx⟩, hL⟩
theorem c_payD {n i : Nat} (hd : 4 ≤ d) (hx : 34 ≤ nx) (hi : i < 1000) (hw : RW f n) (hA : LA h cs) (hW : LWF cs) (hC : CO h k) (h33 : h 33 = ruE) (hs5 : 35 ≤ s) (hr5 : 35 ≤ r) (hne : s ≠ r) (hs : s < nx) (hr : r < nx) (hS : h s = stE r) (hR : h r = rwE f) : mm_Con G l yX4_pay cX4_pay 6 (some .boolean) d 0 0 [.ref 33, .ref s, .int (nI i)] nx h (P_row (some (.int (doS k cs (1, [i], 0) f).2)) r (doS k cs (1, [i], 0) f).1 nx h) := by
  have eq : doS k cs (1, [i], 0) f = if n ≤ i ∨ f (18 + lsoul f i) < owI k cs f i then (f, 0) else (payF k cs f i, 1) := by simp only [doS, nlo_eq hw]
  rw [eq]
  rcases Nat.lt_or_ge i n with hq | hq
  · have h1 := c_pay (G := G) (l := l) (d := d) hd hx hq hw hA hW hC h33 hs5 hr5 hne hs hr hS hR
    by_cases hc : f (18 + lsoul f i) < owI k cs f i
    · rw [if_pos hc, if_pos hc] at h1
      rw [if_pos (Or.inr hc)]
      exact h1
    · rw [if_neg hc, if_neg hc] at h1
      rw [if_neg (fun z => z.elim (Nat.not_le.mpr hq) hc)]
      exact h1
  · rw [if_pos (Or.inl hq)]
    refine con_imp (c_payN (d := d) (by omega) hx hi hq hw h33 hs hr hS hR) ?_
    rintro o n m ⟨rfl, rfl, rfl⟩
    exact P_row_same hA hR
/-- what a WINTER may change -/
def FRv (r : Nat) (h m : Nat → mm_E) : Prop := ∀ j, j ≠ 17 → j ≠ 18 → j ≠ 186 → j ≠ r → m j = h j
def WN (h : Nat → mm_E) (k : CS) (cs : List Nat) (s r : Nat) (f : Nat → Int32) : Prop := LA h cs ∧ CO h k ∧ h 33 = ruE ∧ h s = stE r ∧ h r = rwE f ∧ ∃ n, RW f n
theorem LA_low {m : Nat → mm_E} {j : Nat} {x : mm_E} (hj : 22 < j) (hA : LA h cs) : LA (hset h j x) cs := by
  obtain ⟨a1, ⟨R', a2, a3⟩, ⟨F, a4⟩, S, a5⟩ := hA
  exact ⟨(hset_ne (by omega)).trans a1, ⟨R', (hset_ne (by omega)).trans a2, a3⟩, ⟨F, (hset_ne (by omega)).trans a4⟩, S, (hset_ne (by omega)).trans a5⟩
theorem CO_low {j : Nat} {x : mm_E} (hj : 8 < j) (hC : CO h k) : CO (hset h j x) k := by
  obtain ⟨c1, c2, c3, c4, c5, c6, c7⟩ := hC
  exact ⟨(hset_ne (by omega)).trans c1, (hset_ne (by omega)).trans c2, (hset_ne (by omega)).trans c3, (hset_ne (by omega)).trans c4, (hset_ne (by omega)).trans c5, (hset_ne (by omega)).trans c6, c7⟩
theorem WN_186 {x : mm_E} (hs : s ≠ 186) (hr : r ≠ 186) (hW : WN h k cs s r f) : WN (hset h 186 x) k cs s r f := by
  obtain ⟨h1, h2, h3, h4, h5, h6⟩ := hW
  exact ⟨LA_low (m := h) (by decide) h1, CO_low (by decide) h2, (hset_ne (by decide)).trans h3, (hset_ne hs).trans h4, (hset_ne hr).trans h5, h6⟩
theorem WN_r {g : Nat → Int32} (hne : s ≠ r) (hr : 35 ≤ r) (hW : WN h k cs s r f) (hg : ∃ n, RW g n) : WN (hset h r (rwE g)) k cs s r g := by
  obtain ⟨h1, h2, h3, h4, h5, h6⟩ := hW
  exact ⟨LA_low (m := h) (by omega) h1, CO_low (by omega) h2, (hset_ne (by omega)).trans h3, (hset_ne hne).trans h4, hset_eq _ _ _, hg⟩
theorem WN_row {m : Nat → mm_E} {g : Nat → Int32} (hs5 : 35 ≤ s) (hne : s ≠ r) (hr : 35 ≤ r) (hW : WN h k cs s r f) (hF : FRr r h m) (hR : m r = rwE g) (hg : ∃ n, RW g n) : WN m k cs s r g := by
  obtain ⟨h1, h2, h3, h4, h5, h6⟩ := hW
  exact ⟨LA_frr hr h1 hF, CO_frr hr h2 hF, (hF.1 33 (by decide) (by decide) (by omega)).trans h3, (hF.1 s (by omega) (by omega) hne).trans h4, hR, hg⟩
theorem c_wpass {n : Nat} {q z z0 : Int32} (hd : 5 ≤ d) (hx : 187 ≤ nx) (hn : n < 1000) (hLW : LWF cs) (hs5 : 35 ≤ s) (hr5 : 35 ≤ r) (hs : s < 186) (hr : r < 186) (hne : s ≠ r) (h186 : h 186 = wnE z0) (hW : WN h k cs s r f) : mm_Con G l yX8_pass cX8_pass 13 none d 0 0 [.ref 186, .ref 33, .ref s, .int z, .int q, .int (nI n)] nx h (fun o n' m => o = .inl none ∧ n' = nx ∧ FRv r h m ∧ (∃ z', m 186 = wnE z') ∧ WN m k cs s r (winN k cs q (f, z) n).1) := by
  have c1 := hW.2.1.1
  have h33 := hW.2.2.1
  have hk1 : k.1 ≤ 8 := hW.2.1.2.2.2.2.2.2.1
  have hk2 : k.2.1 ≤ 6 := hW.2.1.2.2.2.2.2.2.2
  refine mm_start (lo := [some (.ref 186), some (.ref 33), some (.ref s), some (.int z), some (.int q), some (.int (nI n)), none, none, none, none, none, none, none]) pn_X8 rfl rfl (Nat.le_of_ble_eq_true rfl) ?_
  refine mt_aload_n (pc := 0) dX8_pass_0 rfl ?_
  refine mt_get (pc := 1) gf_X8_7 dX8_pass_1 (by first | assumption | omega) (by repeat (first | exact hset_eq _ _ _ | assumption | rw [hset_ne (by first | assumption | decide | omega)])) rfl ?_
  refine mt_get (pc := 4) gf_X8_13 dX8_pass_4 (by first | assumption | omega) (by repeat (first | exact hset_eq _ _ _ | assumption | rw [hset_ne (by first | assumption | decide | omega)])) rfl ?_
  refine mt_istore (pc := 7) dX8_pass_7 (Nat.le_of_ble_eq_true rfl) rfl ?_
  refine mt_aload_n (pc := 9) dX8_pass_9 rfl ?_
  refine mt_get (pc := 10) gf_X8_7 dX8_pass_10 (by first | assumption | omega) (by repeat (first | exact hset_eq _ _ _ | assumption | rw [hset_ne (by first | assumption | decide | omega)])) rfl ?_
  refine mt_get (pc := 13) gf_X8_19 dX8_pass_13 (by first | assumption | omega) (by repeat (first | exact hset_eq _ _ _ | assumption | rw [hset_ne (by first | assumption | decide | omega)])) rfl ?_
  refine mt_istore (pc := 16) dX8_pass_16 (Nat.le_of_ble_eq_true rfl) rfl ?_
  refine mt_aload_n (pc := 18) dX8_pass_18 rfl ?_
  refine mt_iload_n (pc := 19) dX8_pass_19 rfl ?_
  first
    | refine mt_puti2 (pc := 20) pf_X8_22 dX8_pass_20 (by first | assumption | omega) (Nat.le_of_ble_eq_true rfl) ?_
    | refine mt_puti (pc := 20) pf_X8_22 dX8_pass_20 (by first | assumption | omega) (by repeat (first | exact hset_eq _ _ _ | assumption | rw [hset_ne (by first | assumption | decide | omega)])) (Nat.le_of_ble_eq_true rfl) ?_
  refine mt_iconst (pc := 23) (v := 0) dX8_pass_23 (by decide) ?_
  refine mt_istore (pc := 24) dX8_pass_24 (Nat.le_of_ble_eq_true rfl) rfl ?_
  refine mt_forE (pc := 26) (α := Nat → mm_E) (H := fun i (a : Nat → mm_E) => a) (L := fun i (a : Nat → mm_E) => [some (.ref 186), some (.ref 33), some (.ref s), some (.int z), some (.int q), some (.int (nI n)), some (.int (nI k.2.1)), some (.int (nI k.1)), some (.int (nI i)), none, none, none, none]) (I := fun i (a : Nat → mm_E) => FRv r h a ∧ a 186 = wnE (winN k cs q (f, z) i).2 ∧ WN a k cs s r (winN k cs q (f, z) i).1) n (fun i a hi fi ni => ?_) (fun a fi => ?_) _ (⟨fun j a b c d => hset_ne c, hset_eq _ _ _, WN_186 (by omega) (by omega) hW⟩)
  · skip
    obtain ⟨f1, f2, f3⟩ := fi
    have e1 : winN k cs q (f, z) (i + 1) = winS k cs q (winN k cs q (f, z) i) := rfl
    rw [e1] at ni
    generalize winN k cs q (f, z) i = w at f2 f3 ni
    obtain ⟨g, y⟩ := w
    dsimp only at f2 f3
    have go : ∀ (m : Nat → mm_E) (f2 : Nat → Int32) (y2 : Int32) (x9 x10 x11 x12 : Option Value), FRv r h m → m 186 = wnE y2 → WN m k cs s r f2 → winS k cs q (g, y) = (nigF f2 (nlo f2), y2) → mm_T (G, l, yX8_pass, 13, none, d, 0, 0, fun o n' m => o = .inl none ∧ n' = nx ∧ FRv r h m ∧ (∃ z', m 186 = wnE z') ∧ WN m k cs s r (winN k cs q (f, z) n).1, nx) RX8 cX8_pass nx m 0 0 111 [some (.ref 186), some (.ref 33), some (.ref s), some (.int z), some (.int q), some (.int (nI n)), some (.int (nI k.2.1)), some (.int (nI k.1)), some (.int (nI i)), x9, x10, x11, x12] [] := by
      intro m f2 y2 x9 x10 x11 x12 q1 q2 q3 q4
      obtain ⟨nn, hnn⟩ := q3.2.2.2.2.2
      refine mt_aload_n (pc := 111) dX8_pass_111 rfl ?_
      refine mt_aload_n (pc := 112) dX8_pass_112 rfl ?_
      refine mt_cV (pc := 113) (c_passNight (d := 3) (Nat.le_refl 3) (by omega) hnn hne (by omega) (by omega) q3.2.2.2.1 q3.2.2.2.2.1) cal_X4_passNight vir_X4_passNight ml_X8_39 dX8_pass_113 (by first | assumption | omega) q3.2.2.1 (by first | assumption | (show _ ≤ d; omega)) ⟨(Nat.le_of_ble_eq_true rfl), (Nat.le_of_ble_eq_true rfl)⟩ rfl rfl (Nat.le_of_ble_eq_true rfl) ?_
      refine mt_iinc (pc := 116) (c9 := 1) dX8_pass_116 rfl (by decide) (Nat.le_of_ble_eq_true rfl) rfl ?_
      refine mt_goto (pc := 119) (tgt := 26) dX8_pass_119 (by decide) ?_
      rw [show (nI i + 1 : Int32) = nI (i + 1) from nI_1 i]
      rw [q4] at ni
      refine mt_fg ?_ (ni (hset m r (rwE (nigF f2 nn))) ⟨fun j a b c d => (hset_ne d).trans (q1 j a b c d), (hset_ne (by omega)).trans q2, ?_⟩)
      · repeat (first | exact trivial | refine ⟨rfl, ?_⟩)
      · rw [nlo_eq hnn]
        exact WN_r hne hr5 q3 ⟨nn, RW_nigF hnn nn (Nat.le_refl nn)⟩
    refine mt_iload (pc := 26) dX8_pass_26 rfl ?_
    refine mt_iload (pc := 28) dX8_pass_28 rfl ?_
    refine mt_icmp_ge (pc := 30) (tgt := 122) dX8_pass_30 (by decide) (fun c30 => ?_) (fun c30 => ?_)
    · exact absurd c30 (nI_ge hi (by omega))
    · skip
      refine mt_iload (pc := 33) dX8_pass_33 rfl ?_
      refine mt_if_le (pc := 35) (tgt := 111) dX8_pass_35 (by decide) (fun c35 => ?_) (fun c35 => ?_)
      · (refine go a g y none none none none f1 f2 f3 ?_; unfold winS; rw [if_neg (fun z => absurd c35 (by rw [show (0 : Int32) = nI 0 from rfl]; exact nI_ge z.1 (by omega)))])
      · skip
        refine mt_iload (pc := 38) dX8_pass_38 rfl ?_
        refine mt_if_le (pc := 40) (tgt := 111) dX8_pass_40 (by decide) (fun c40 => ?_) (fun c40 => ?_)
        · (refine go a g y none none none none f1 f2 f3 ?_; unfold winS; rw [if_neg (fun z => absurd c40 (by rw [show (0 : Int32) = nI 0 from rfl]; exact nI_ge z.2 (by omega)))])
        · skip
          have l1 : 0 < k.2.1 := Nat.pos_of_ne_zero fun z => c35 (by rw [z]; decide)
          have l2 : 0 < k.1 := Nat.pos_of_ne_zero fun z => c40 (by rw [z]; decide)
          obtain ⟨nn, hnn⟩ := f3.2.2.2.2.2
          refine mt_aload_n (pc := 43) dX8_pass_43 rfl ?_
          refine mt_iload (pc := 44) dX8_pass_44 rfl ?_
          refine mt_cV (pc := 46) (c_draw (d := 0) hx l1 (by omega) f2) cal_X8_draw vir_X8_draw ml_X8_27 dX8_pass_46 (by first | assumption | omega) f2 (by first | assumption | (show _ ≤ d; omega)) ⟨(Nat.le_of_ble_eq_true rfl), (Nat.le_of_ble_eq_true rfl)⟩ rfl rfl (Nat.le_of_ble_eq_true rfl) ?_
          refine mt_istore (pc := 49) dX8_pass_49 (Nat.le_of_ble_eq_true rfl) rfl ?_
          refine mt_aload_n (pc := 51) dX8_pass_51 rfl ?_
          refine mt_iload (pc := 52) dX8_pass_52 rfl ?_
          refine mt_cV (pc := 54) (c_draw (d := 0) hx l2 (by omega) (hset_eq _ _ _)) cal_X8_draw vir_X8_draw ml_X8_27 dX8_pass_54 (by first | assumption | omega) (hset_eq _ _ _) (by first | assumption | (show _ ≤ d; omega)) ⟨(Nat.le_of_ble_eq_true rfl), (Nat.le_of_ble_eq_true rfl)⟩ rfl rfl (Nat.le_of_ble_eq_true rfl) ?_
          rw [hset_hset]
          refine mt_istore (pc := 57) dX8_pass_57 (Nat.le_of_ble_eq_true rfl) rfl ?_
          refine mt_aload_n (pc := 59) dX8_pass_59 rfl ?_
          refine mt_bipush (pc := 60) (v := 20) dX8_pass_60 (by decide) ?_
          refine mt_cV (pc := 62) (c_draw (d := 0) (n := 20) hx (by decide) (by decide) (hset_eq _ _ _)) cal_X8_draw vir_X8_draw ml_X8_27 dX8_pass_62 (by first | assumption | omega) (hset_eq _ _ _) (by first | assumption | (show _ ≤ d; omega)) ⟨(Nat.le_of_ble_eq_true rfl), (Nat.le_of_ble_eq_true rfl)⟩ rfl rfl (Nat.le_of_ble_eq_true rfl) ?_
          rw [hset_hset]
          refine mt_iconst (pc := 65) (v := 1) dX8_pass_65 (by decide) ?_
          refine mt_iadd (pc := 66) dX8_pass_66 ?_
          rw [show (nI (drw (nxs (nxs y)) 20) + 1 : Int32) = nI (drw (nxs (nxs y)) 20 + 1) from nI_1 _]
          refine mt_istore (pc := 67) dX8_pass_67 (Nat.le_of_ble_eq_true rfl) rfl ?_
          refine mt_aload_n (pc := 69) dX8_pass_69 rfl ?_
          refine mt_bipush (pc := 70) (v := 9) dX8_pass_70 (by decide) ?_
          refine mt_cV (pc := 72) (c_draw (d := 0) (n := 9) hx (by decide) (by decide) (hset_eq _ _ _)) cal_X8_draw vir_X8_draw ml_X8_27 dX8_pass_72 (by first | assumption | omega) (hset_eq _ _ _) (by first | assumption | (show _ ≤ d; omega)) ⟨(Nat.le_of_ble_eq_true rfl), (Nat.le_of_ble_eq_true rfl)⟩ rfl rfl (Nat.le_of_ble_eq_true rfl) ?_
          rw [hset_hset]
          refine mt_iconst (pc := 75) (v := 1) dX8_pass_75 (by decide) ?_
          refine mt_iadd (pc := 76) dX8_pass_76 ?_
          rw [show (nI (drw (nxs (nxs (nxs y))) 9) + 1 : Int32) = nI (drw (nxs (nxs (nxs y))) 9 + 1) from nI_1 _]
          have hW4 := WN_186 (x := wnE (nxs (nxs (nxs (nxs y))))) (by omega) (by omega) f3
          have hF4 : FRv r h (hset a 186 (wnE (nxs (nxs (nxs (nxs y)))))) := fun j b c d e => (hset_ne d).trans (f1 j b c d e)
          have h4 : hset a 186 (wnE (nxs (nxs (nxs (nxs y))))) 186 = wnE (nxs (nxs (nxs (nxs y)))) := hset_eq _ _ _
          generalize hset a 186 (wnE (nxs (nxs (nxs (nxs y))))) = m4 at hW4 hF4 h4
          have ha6 : drw y k.2.1 < k.2.1 := Nat.mod_lt _ l1
          have hp8 : drw (nxs y) k.1 < k.1 := Nat.mod_lt _ l2
          refine mt_istore (pc := 77) dX8_pass_77 (Nat.le_of_ble_eq_true rfl) rfl ?_
          refine mt_aload_n (pc := 79) dX8_pass_79 rfl ?_
          refine mt_aload_n (pc := 80) dX8_pass_80 rfl ?_
          refine mt_iload (pc := 81) dX8_pass_81 rfl ?_
          refine mt_iload (pc := 83) dX8_pass_83 rfl ?_
          refine mt_iload (pc := 85) dX8_pass_85 rfl ?_
          refine mt_iload (pc := 87) dX8_pass_87 rfl ?_
          refine mt_cV (pc := 89) (c_lendD (d := 4) (cs := cs) (Nat.le_refl 4) (by omega) (by omega) (by omega) hnn hW4.2.1 hW4.2.2.1 hne (by omega) (by omega) hW4.2.2.2.1 hW4.2.2.2.2.1) cal_X4_lend vir_X4_lend ml_X8_31 dX8_pass_89 (by first | assumption | omega) hW4.2.2.1 (by first | assumption | (show _ ≤ d; omega)) ⟨(Nat.le_of_ble_eq_true rfl), (Nat.le_of_ble_eq_true rfl)⟩ rfl rfl (Nat.le_of_ble_eq_true rfl) ?_
          refine mt_pop (pc := 92) dX8_pass_92 rfl ?_
          have hRC1 : ∃ n, RW (doS k cs (0, [drw y k.2.1, drw (nxs y) k.1, drw (nxs (nxs y)) 20 + 1, drw (nxs (nxs (nxs y))) 9 + 1], 0) g).1 n := RW_do hk2 hk1 (Or.inl ⟨_, _, _, _, rfl, ha6, hp8, by omega, by unfold drw; omega, by omega, by unfold drw; omega⟩) (by simp) hnn
          have hW5 := WN_r hne hr5 hW4 hRC1
          have hF5 : FRv r h (hset m4 r (rwE (doS k cs (0, [drw y k.2.1, drw (nxs y) k.1, drw (nxs (nxs y)) 20 + 1, drw (nxs (nxs (nxs y))) 9 + 1], 0) g).1)) := fun j b c d e => (hset_ne e).trans (hF4 j b c d e)
          have h5 : hset m4 r (rwE (doS k cs (0, [drw y k.2.1, drw (nxs y) k.1, drw (nxs (nxs y)) 20 + 1, drw (nxs (nxs (nxs y))) 9 + 1], 0) g).1) 186 = wnE (nxs (nxs (nxs (nxs y)))) := (hset_ne (by omega)).trans h4
          have e2 : winS k cs q (g, y) = (nigF (if nI (drw (nxs (nxs (nxs (nxs y)))) 16) < q then (doS k cs (1, [0], 0) (doS k cs (0, [drw y k.2.1, drw (nxs y) k.1, drw (nxs (nxs y)) 20 + 1, drw (nxs (nxs (nxs y))) 9 + 1], 0) g).1).1 else (doS k cs (0, [drw y k.2.1, drw (nxs y) k.1, drw (nxs (nxs y)) 20 + 1, drw (nxs (nxs (nxs y))) 9 + 1], 0) g).1) (nlo (if nI (drw (nxs (nxs (nxs (nxs y)))) 16) < q then (doS k cs (1, [0], 0) (doS k cs (0, [drw y k.2.1, drw (nxs y) k.1, drw (nxs (nxs y)) 20 + 1, drw (nxs (nxs (nxs y))) 9 + 1], 0) g).1).1 else (doS k cs (0, [drw y k.2.1, drw (nxs y) k.1, drw (nxs (nxs y)) 20 + 1, drw (nxs (nxs (nxs y))) 9 + 1], 0) g).1)), nxs (nxs (nxs (nxs (nxs y))))) := by unfold winS; rw [if_pos ⟨l1, l2⟩]
          generalize (doS k cs (0, [drw y k.2.1, drw (nxs y) k.1, drw (nxs (nxs y)) 20 + 1, drw (nxs (nxs (nxs y))) 9 + 1], 0) g).1 = g1 at hRC1 hW5 hF5 h5 e2
          generalize hset m4 r (rwE g1) = m5 at hW5 hF5 h5
          refine mt_aload_n (pc := 93) dX8_pass_93 rfl ?_
          refine mt_bipush (pc := 94) (v := 16) dX8_pass_94 (by decide) ?_
          refine mt_cV (pc := 96) (c_draw (d := 0) (n := 16) hx (by decide) (by decide) h5) cal_X8_draw vir_X8_draw ml_X8_27 dX8_pass_96 (by first | assumption | omega) h5 (by first | assumption | (show _ ≤ d; omega)) ⟨(Nat.le_of_ble_eq_true rfl), (Nat.le_of_ble_eq_true rfl)⟩ rfl rfl (Nat.le_of_ble_eq_true rfl) ?_
          have hW6 := WN_186 (x := wnE (nxs (nxs (nxs (nxs (nxs y)))))) (by omega) (by omega) hW5
          have hF6 : FRv r h (hset m5 186 (wnE (nxs (nxs (nxs (nxs (nxs y))))))) := fun j b c d e => (hset_ne d).trans (hF5 j b c d e)
          have h6 : hset m5 186 (wnE (nxs (nxs (nxs (nxs (nxs y)))))) 186 = wnE (nxs (nxs (nxs (nxs (nxs y))))) := hset_eq _ _ _
          generalize hset m5 186 (wnE (nxs (nxs (nxs (nxs (nxs y)))))) = m6 at hW6 hF6 h6
          obtain ⟨n1, hn1⟩ := hRC1
          refine mt_iload (pc := 99) dX8_pass_99 rfl ?_
          refine mt_icmp_ge (pc := 101) (tgt := 111) dX8_pass_101 (by decide) (fun c101 => ?_) (fun c101 => ?_)
          · (refine go m6 g1 _ _ _ _ _ hF6 h6 hW6 ?_; rw [e2, if_neg (Int32.not_lt.mpr c101)])
          · skip
            refine mt_aload_n (pc := 104) dX8_pass_104 rfl ?_
            refine mt_aload_n (pc := 105) dX8_pass_105 rfl ?_
            refine mt_iconst (pc := 106) (v := 0) dX8_pass_106 (by decide) ?_
            refine mt_aV (pc := 107) (c_payD (d := 4) (i := 0) (Nat.le_refl 4) (by omega) (by decide) hn1 hW6.1 hLW hW6.2.1 hW6.2.2.1 hs5 hr5 hne (by omega) (by omega) hW6.2.2.2.1 hW6.2.2.2.2.1) cal_X4_pay vir_X4_pay ml_X8_35 dX8_pass_107 (by first | assumption | omega) hW6.2.2.1 (by first | assumption | (show _ ≤ d; omega)) ⟨(Nat.le_of_ble_eq_true rfl), (Nat.le_of_ble_eq_true rfl)⟩ rfl rfl (Nat.le_of_ble_eq_true rfl) ?_ ?_
            · rintro x9 n9 k9 h9
              simp [P_row] at h9
            · rintro v9 n9 k9 ⟨hv, rfl, hF9, hR9⟩
              cases hv
              refine ⟨rfl, ?_⟩
              refine mt_pop (pc := 110) dX8_pass_110 rfl ?_
              refine go k9 (doS k cs (1, [0], 0) g1).1 _ _ _ _ _ (fun j b c d e => (hF9.1 j b c e).trans (hF6 j b c d e)) ((hF9.1 186 (by decide) (by decide) (by omega)).trans h6) (WN_row hs5 hne hr5 hW6 hF9 hR9 (RW_do hk2 hk1 (Or.inr (Or.inl ⟨0, rfl, by decide⟩)) (by simp) hn1)) ?_
              rw [e2, if_pos (Int32.not_le.mp c101)]
  · skip
    obtain ⟨f1, f2, f3⟩ := fi
    refine mt_iload (pc := 26) dX8_pass_26 rfl ?_
    refine mt_iload (pc := 28) dX8_pass_28 rfl ?_
    refine mt_icmp_ge (pc := 30) (tgt := 122) dX8_pass_30 (by decide) (fun c30 => ?_) (fun c30 => ?_)
    · skip
      exact mt_vret rfl dX8_pass_122 (Nat.le_of_ble_eq_true rfl) (Nat.le_of_ble_eq_true rfl) ⟨rfl, rfl, f1, ⟨_, f2⟩, f3⟩
    · exact absurd (nI_le (Nat.le_refl _) (by omega)) c30
end WINTER
