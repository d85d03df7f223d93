/-! The law: its frame, its rules, what holds between two rounds. -/
def PL : mm_P := fun o _ _ => o = .inl (some (.int 1))
abbrev ML (G : mm_G) (l : Launch) : mm_M := (G, l, yL_law_, 8, some .boolean, 2048, 601024, 7293034, PL, 0)
abbrev LO (i : Nat) (q5 q6 q7 : Option Value) : List (Option Value) := [some (.ref 1004000), some (.ref 0), some (.ref 188), some (.ref 215), some (.int (nI i)), q5, q6, q7]
section LWR
variable {M : mm_M} {own : String} {cc : ByteArray} {nx : Nat} {h : Nat → mm_E} {kc ks pc : Nat} {lo : List (Option Value)} {st : List Value}
theorem mt_sc {L : Nat} {xs : Nat → Int32} {i kN : Nat} {kI : Int} (hS : SCX (mm_mG M) L xs) (hb : i + kN < L) (hL : L ≤ 4608) (hl0 : lo[0]? = some (some (.ref 1004000))) (hl4 : lo[4]? = some (some (.int (nI i)))) (hk : Int32.ofInt kI = nI kN) (d0 : decode cc pc = .ok (.aload_n 0, 1)) (d1 : decode cc (pc + 1) = .ok (.iload 4, 2)) (d2 : decode cc (pc + 3) = .ok (.iconst kI, 1)) (d3 : decode cc (pc + 4) = .ok (.iadd, 1)) (d4 : decode cc (pc + 5) = .ok (.iaload, 1)) (kk : mm_T M own cc nx h kc ks (pc + 6) lo (.int (xs (i + kN)) :: st)) : mm_T M own cc nx h kc ks pc lo st := by
  refine mt_aload_n d0 hl0 ?_
  refine mt_iload d1 hl4 ?_
  refine mt_iconst d2 hk ?_
  refine mt_iadd d3 ?_
  rw [nI_add]
  refine mt_sald hS (nI_in hb (by omega)) d4 ?_
  rw [nI_clamp (by omega)]
  exact kk
theorem mt_scB {L : Nat} {xs : Nat → Int32} {i kN : Nat} {kI : Int} (hS : SCX (mm_mG M) L xs) (hb : i + kN < L) (hL : L ≤ 4608) (hl0 : lo[0]? = some (some (.ref 1004000))) (hl4 : lo[4]? = some (some (.int (nI i)))) (hk : (Int8.ofInt kI).toInt32 = nI kN) (d0 : decode cc pc = .ok (.aload_n 0, 1)) (d1 : decode cc (pc + 1) = .ok (.iload 4, 2)) (d2 : decode cc (pc + 3) = .ok (.bipush kI, 2)) (d3 : decode cc (pc + 5) = .ok (.iadd, 1)) (d4 : decode cc (pc + 6) = .ok (.iaload, 1)) (kk : mm_T M own cc nx h kc ks (pc + 7) lo (.int (xs (i + kN)) :: st)) : mm_T M own cc nx h kc ks pc lo st := by
  refine mt_aload_n d0 hl0 ?_
  refine mt_iload d1 hl4 ?_
  refine mt_bipush d2 hk ?_
  refine mt_iadd d3 ?_
  rw [nI_add]
  refine mt_sald hS (nI_in hb (by omega)) d4 ?_
  rw [nI_clamp (by omega)]
  exact kk
theorem lcmp_ne {x y : Int64} (h : x = y) : lg_cmp x y = 0 := by
  subst h
  unfold lg_cmp
  rw [if_neg (Int64.lt_irrefl), if_pos rfl]
/-- what stands behind the reference's answer: the exceptions are compared, then the answers -/
theorem lt_tail {W : Nat → mm_E} {g : MG} {A : MA} {F : Nat → Int64} {v0 v1 v4 : Value} {q6 q7 : Option Value} {kk bb : Int32} {off : Int} {tgt : Nat} (hx : 216 ≤ nx) (hd : 10 ≤ mm_d M) (hroom : kc ≤ mm_mc M ∧ ks ≤ mm_ms M) (hnL : mm_nL M = 8) (hg : g 0 = kk) (hF : W 215 = ouE F) (hv : kk = 0 → F 0 = bb.toInt64)
    (d0 : decode cc pc = .ok (.istore 6, 2)) (d2 : decode cc (pc + 2) = .ok (.aload_n 2, 1)) (d3 : decode cc (pc + 3) = .ok (.invokevirtual 132, 3)) (d6 : decode cc (pc + 6) = .ok (.iload 5, 2)) (d8 : decode cc (pc + 8) = .ok (.if_icmp .eq 5, 3)) (d13 : decode cc (pc + 13) = .ok (.iload 5, 2)) (d15 : decode cc (pc + 15) = .ok (.ifCond .ne 15, 3)) (d18 : decode cc (pc + 18) = .ok (.aload_n 3, 1)) (d19 : decode cc (pc + 19) = .ok (.iconst 0, 1)) (d20 : decode cc (pc + 20) = .ok (.laload, 1)) (d21 : decode cc (pc + 21) = .ok (.iload 6, 2)) (d23 : decode cc (pc + 23) = .ok (.i2l, 1)) (d24 : decode cc (pc + 24) = .ok (.lcmp, 1)) (d25 : decode cc (pc + 25) = .ok (.ifCond .eq 5, 3)) (d30 : decode cc (pc + 30) = .ok (.goto off, 3)) (ht : ((pc + 30 : Nat) : Int) + off = (tgt : Int))
    (k : mm_T M RL cc nx (mos W g A) kc ks tgt [some v0, some v1, some (.ref 188), some (.ref 215), some v4, none, none, none] []) (h41 : v4.category = 1) : mm_T M RL cc nx (mos W g A) kc ks pc [some v0, some v1, some (.ref 188), some (.ref 215), some v4, some (.int kk), q6, q7] [.int bb] := by
  refine mt_istore d0 (by rw [hnL]; decide) rfl ?_
  refine mt_aload_n d2 rfl ?_
  refine mt_cV (n_thrown (d := 9) (by omega)) cal_X11_thrown vir_X11_thrown ml_L_132 d3 (by omega) (mos_o W g A) hd hroom rfl rfl (Nat.le_of_ble_eq_true rfl) ?_
  refine mt_iload d6 rfl ?_
  refine mt_icmp_eq (tgt := pc + 13) d8 (by omega) (fun _ => ?_) (fun z => absurd hg z)
  refine mt_iload d13 rfl ?_
  have k2 : mm_T M RL cc nx (mos W g A) kc ks (pc + 30) [some v0, some v1, some (.ref 188), some (.ref 215), some v4, some (.int kk), some (.int bb), q7] [] := by
    refine mt_goto d30 ht ?_
    exact mt_fg (lo' := [some v0, some v1, some (.ref 188), some (.ref 215), some v4, none, none, none]) ⟨rfl, rfl, rfl, rfl, rfl, trivial⟩ k
  refine mt_if_ne (tgt := pc + 30) d15 (by omega) (fun _ => k2) (fun hz => ?_)
  refine mt_aload_n d18 rfl ?_
  refine mt_iconst d19 rfl ?_
  refine mt_lald d20 (by omega) ((mos_n (by decide) (by decide)).trans hF) (by unfold vp_in; decide) ?_
  refine mt_iload d21 rfl ?_
  refine mt_i2l d23 rfl ?_
  refine mt_lcmp d24 ?_
  refine mt_if_eq (tgt := pc + 30) d25 (by omega) (fun _ => k2) (fun z => absurd (lcmp_ne (hv hz)) z)
end LWR
/-! between two rounds -/
section LIV
variable {h m W W' : Nat → mm_E} {g g' : MG} {A A' : MA} {b : Nat → Int32} {sz : Nat} {fp : Int32} {ic : Nat} {rs ne ia : Int32} {k : CS} {cs : List Nat} {bk : BS} {pg : PGS} {im : Nat → PGS} {F : Nat → Int64}
def IVs (h : Nat → mm_E) (g : MG) (A : MA) (b : Nat → Int32) (sz : Nat) (fp : Int32) (ic : Nat) (rs ne ia : Int32) (k : CS) (cs : List Nat) (bk : BS) (pg : PGS) (im : Nat → PGS) : Prop :=
  h = mos h g A ∧ CW h b sz fp ic rs ne ia k cs bk pg im ∧ MV h g A b sz fp ic rs ne ia k cs bk pg im ∧ ∃ F, h 215 = ouE F
def IV (h : Nat → mm_E) : Prop := ∃ g A b sz fp ic rs ne ia k cs bk pg im, IVs h g A b sz fp ic rs ne ia k cs bk pg im
theorem CW_lo (hW : CW h b sz fp ic rs ne ia k cs bk pg im) (e : ∀ j, j < 188 → m j = h j) : CW m b sz fp ic rs ne ia k cs bk pg im := CW_mos (g := fun _ => 0) (A := fun _ _ => 0) hW e
theorem MV.w (h : MV W g A b sz fp ic rs ne ia k cs bk pg im) (e : W' 213 = W 213) : MV W' g A b sz fp ic rs ne ia k cs bk pg im := by
  obtain ⟨m1, m2, m3, m4, m5, m6, m10, m11, m12, m13, m14, m15, F, m16⟩ := h
  exact ⟨m1, m2, m3, m4, m5, m6, m10, m11, m12, m13, m14, m15, F, e.trans m16⟩
theorem mos_same (hh : h = mos h g A) (e : ∀ j, 188 ≤ j → j < 215 → m j = h j) : m = mos m g A := by
  refine (mos_of ((e 188 (by decide) (by decide)).trans ((congrFun hh 188).trans (mos_o h g A))) (fun j hj => ?_)).symm
  have hl := mAr_lt hj
  exact (e j (by omega) (by omega)).trans ((congrFun hh j).trans (mos_a hj))
theorem IV_mk (hC : CW W b sz fp ic rs ne ia k cs bk pg im) (hM : MV W g A b sz fp ic rs ne ia k cs bk pg im) (hF : W 215 = ouE F) : IV (mos W g A) :=
  ⟨g, A, b, sz, fp, ic, rs, ne, ia, k, cs, bk, pg, im, (mos_mos W g g A A).symm, CW_lo hC (fun j hj => mos_lo hj), hM.w (mos_n (by decide) (by decide)), F, (mos_n (by decide) (by decide)).trans hF⟩
/-- class and reference have answered alike: the exception's number, and the answer -/
def QE (kk : Int32) (cv : Value → Int64) (o : Option Value) (n : Nat) (m : Nat → mm_E) : Prop := n = 216 ∧ ∃ (bb : Int32) (W : Nat → mm_E) (g : MG) (A : MA) (F : Nat → Int64), o = some (.int bb) ∧ m = mos W g A ∧ g 0 = kk ∧ W 215 = ouE F ∧ (kk = 0 → F 0 = cv (.int bb)) ∧ IV (mos W g A)
def QEL (kk : Int32) (o : Option Value) (n : Nat) (m : Nat → mm_E) : Prop := n = 216 ∧ ∃ (bb : Int64) (W : Nat → mm_E) (g : MG) (A : MA) (F : Nat → Int64), o = some (.long bb) ∧ m = mos W g A ∧ g 0 = kk ∧ W 215 = ouE F ∧ (kk = 0 → F 0 = bb) ∧ IV (mos W g A)
def PQL (kk : Int32) : mm_P := fun o n m => ∃ o', o = .inl o' ∧ QEL kk o' n m
def PQE (kk : Int32) (cv : Value → Int64) : mm_P := fun o n m => ∃ o', o = .inl o' ∧ QE kk cv o' n m
/-- the world behind the caught call: the class as told, the reference as it was -/
theorem CW.out (hC : CW m b sz fp ic rs ne ia k cs bk pg im) {e : mm_E} : CW (hset m 215 e) b sz fp ic rs ne ia k cs bk pg im := CW_lo hC (fun j hj => hset_ne (by omega))
theorem CW.b0 (hC : CW h b sz fp ic rs ne ia k cs bk pg im) : CW (hset h 0 (bmp 0 (nI ic) rs ne ia)) b sz fp ic rs (ne + 1) ia k cs bk pg im := hC.c0 hC.2.2.2.2.2.2.2.2.2.2.2.2.2.2.2.1
theorem CW.b1 (hC : CW h b sz fp ic rs ne ia k cs bk pg im) : CW (hset h 0 (bmp 1 (nI ic) rs ne ia)) b sz fp ic rs ne (ia + 1) k cs bk pg im := hC.c0 hC.2.2.2.2.2.2.2.2.2.2.2.2.2.2.2.1
theorem WO_q {r : Nat ⊕ Int32} {x0 x1 x2 x3 : Int32} (hF : ∃ F, h 215 = ouE F) : WO 216 (P_q r x0 x1 x2 x3 216 h) := by
  intro v n m hp
  obtain ⟨rfl, hp⟩ := hp
  rcases r with x | w
  · cases hp.1
  · obtain ⟨e, hq⟩ := hp
    cases e
    obtain ⟨F, hF⟩ := hF
    exact ⟨rfl, ⟨w, rfl⟩, F, (hq.1 215 (by decide) (by decide) (by decide) (Or.inr (by decide))).trans hF⟩
theorem X_q {r : Nat ⊕ Int32} {x0 x1 x2 x3 : Int32} {nx : Nat} {P : Nat → Prop} (hr : ∀ x, r = .inl x → P x) : ∀ x n m, P_q r x0 x1 x2 x3 nx h (.inr x) n m → P x := by
  intro x n m hp
  obtain ⟨-, hp⟩ := hp
  rcases r with y | w
  · cases hp.1
    exact hr x rfl
  · cases hp.1
theorem P_w_nox {c1 : Int32} {cv : Value → Int64} {Po : mm_P} {x n : Nat} : ¬ P_w c1 cv Po (.inr x) n m := by
  rintro (⟨y, -, e⟩ | ⟨v, m0, F, -, -, e, -⟩) <;> cases e
/-- a question: the class's answer caught, then the reference's -/
theorem q_all {G : mm_G} {l : Launch} {y : MethodName} {c : ByteArray} {nL : Nat} {rt : Option FieldType} {av : List Value} {r : Nat ⊕ Int32} {c1 : Int32} {cv : Value → Int64} (hI : IVs h g A b sz fp ic rs ne ia k cs bk pg im) (hr : ∀ x, r = .inl x → x = 0 ∨ x = 1) (hc1 : ¬ c1 = 0) (hm : ∀ m, mm_Con G l y c nL rt 50 0 0 av 216 (mos m g A) (P_mq 1 c1 r 216 m g A)) :
    ∀ o n m, P_w c1 cv (P_q r (nI ic) rs ne ia 216 h) (.inl o) n m → n = 216 ∧ ∃ kk, o = some (.int kk) ∧ ∃ g A, m = mos m g A ∧ mm_Con G l y c nL rt 50 0 0 av 216 (mos m g A) (PQE kk cv) := by
  intro o n m hw
  obtain ⟨hh, hC, hM, F0, hF0⟩ := hI
  rcases hw with ⟨x, ⟨hn, hq⟩, e⟩ | ⟨v, m0, F, ⟨hn, hq⟩, hF, e, hm0⟩
  · cases e
    rcases r with y' | w
    · obtain ⟨e1, e2⟩ := hq
      cases e1
      have hj : ∀ j, j ≠ 0 → m j = h j := fun j hj => by rw [e2]; exact hset_ne hj
      refine ⟨hn, _, rfl, g, A, mos_same hh (fun j h1 h2 => hj j (by omega)), con_imp (hm m) ?_⟩
      rintro o2 n2 m2 ⟨hn2, e3, e4⟩
      subst e3 e4
      refine ⟨_, rfl, hn2, 0, m, _, _, F0, rfl, rfl, upd_eq _ _ _, (hj 215 (by decide)).trans hF0, ?_, ?_⟩
      · intro z
        rcases hr x rfl with rfl | rfl
        · cases z
        · exact absurd z hc1
      · rcases hr x rfl with rfl | rfl
        · exact IV_mk (by rw [e2]; exact hC.b0) ((hM.b0 (z := 1)).w (hj 213 (by decide))) ((hj 215 (by decide)).trans hF0)
        · exact IV_mk (by rw [e2]; exact hC.b1) ((hM.b1 (z := c1)).w (hj 213 (by decide))) ((hj 215 (by decide)).trans hF0)
    · cases hq.1
  · cases e
    rcases r with y' | w
    · cases hq.1
    · obtain ⟨e1, hq⟩ := hq
      cases e1
      obtain ⟨hC0, hj0⟩ := hC.fq hq
      have hj : ∀ j, 188 ≤ j → j ≠ 215 → m j = h j := fun j h1 h2 => by rw [hm0, hset_ne h2]; exact hj0 j h1
      have h215 : m 215 = ouE (vp_updL F 0 (cv (.int w))) := by rw [hm0]; exact hset_eq _ _ _
      refine ⟨hn, 0, rfl, g, A, mos_same hh (fun j h1 h2 => hj j h1 (by omega)), con_imp (hm m) ?_⟩
      rintro o2 n2 m2 ⟨hn2, e3, g', A', e4, hg, hA⟩
      subst e3 e4
      exact ⟨_, rfl, hn2, w, m, g', A', _, rfl, rfl, hg.1, h215, fun _ => if_pos rfl, IV_mk (by rw [hm0]; exact hC0.out) (hM.q hg hA (hj 213 (by decide) (by decide))) h215⟩
end LIV
