/-! The reference reads a law: units, products, sums. -/
theorem ldcWS {p : Program} {l : Launch} {e : Env} {R : Room} {s : State} {m : MethodId} {args : Array Value} {below : List Frame} {meth : Method} {c : Code} {T : State} {locs : List Loc} {cells slots : Nat}
    (X : Stand p l e R s m args below meth c T locs cells slots) (hexec : p.tables.exec = Jvm.exec) {own text : String} {index : Nat} {a : Addr} (hown : s.vm.findClass own = some m.cls)
    (hconst : (Cond.stringRef own index text).before args s = true) (hev : (Term.string own index).eval args s none [] s = some (.ref a)) {g : JFrame} (hg : g.method = m) (hdg : decode c.code g.pc = .ok (.ldc_w index, 3)) :
    ∀ target, Steps p.tables e below (T.setTop { g with pc := g.pc + 3, stack := .ref a :: g.stack }) target → Steps p.tables e below (T.setTop g) target := by
  obtain ⟨k, cf, i, a', hk, hcf, hcp, -, hr, hev'⟩ := Cond.stringRef_spec hown hconst
  cases hev.symm.trans hev'
  obtain ⟨k', hk', he⟩ := X.warmed.alike.2.2 _ _ hk
  have hr' : k'.resolved[index]? = some (some (.string a)) := by
    rcases X.warmed.entry hk hk' index with h | ⟨h, -⟩
    · rw [h]; exact hr
    · rw [hr] at h; cases h
  intro target hrest
  subst hg
  jvm_step X.here [hexec, hdg, ldc_w.wp_string (e := e) (s := T) (f := g) X.here.top hk' (by rw [he]; exact hcf) hcp hr']
  exact hrest
section MLC
variable {M : mm_M} {own : String} {cc : ByteArray} {nx : Nat} {h : Nat → mm_E} {kc ks pc : Nat} {lo : List (Option Value)} {st : List Value}
theorem mt_ldcSw {index j : Nat} {tx : String} (hm : (own, index, tx, j) ∈ mm_sr) (hd : decode cc pc = .ok (.ldc_w index, 3)) (kk : mm_T M own cc nx h kc ks (pc + 3) lo (.ref (1000000 + j) :: st)) : mm_T M own cc nx h kc ks pc lo st := by
  intro p e s m args below meth c H locs ad ad0 ls C A B L
  have e1 := B.2.2.2.2.2.2.2.2.2.1 _ hm
  dsimp only at e1
  rw [← B.ext (by omega)] at e1
  intro T hT X
  obtain ⟨t, a1, b1⟩ := kk p e s m args below meth c H locs ad ad0 ls C A B L T hT X
  exact ⟨t, ldcWS X C.1 C.own (text := tx) (a := ad (1000000 + j)) e1.1 e1.2 (g := F0 m pc ls (st.map (mm_rv ad))) rfl (by rw [C.2.1]; exact hd) t a1, b1⟩
end MLC
theorem unS_sk {b : Nat → Int32} {e o p : Nat} {T : Nat → rsL} (hp : p ≤ e) : unS b e T o (sk b e p) = unS b e T o p := by
  simp only [unS, brS, signS, numS_sk hp, pk_sk hp, sk_sk hp]
theorem un_alt {b : Nat → Int32} {e o p : Nat} {T : Nat → rsL} (hb : BY b) (hp : p ≤ e) (h1 : ¬ isD (pk b e p)) (h2 : ¬ pk b e p = 40) : unS b e T o p = if WD b (sk b e p) (lt b e (sk b e p)) 4 then sbind (prS b e T o (sk b e p) (lt b e (sk b e p))) fun x => .inr (x.1, x.2 ++ [2005])
  else if WD b (sk b e p) (lt b e (sk b e p)) 5 then sbind (prS b e T o (sk b e p) (lt b e (sk b e p))) fun x => .inr (x.1, x.2 ++ [2006])
  else match namS b (sk b e p) (lt b e (sk b e p)) with
    | none => .inl (1, sk b e p)
    | some k => .inr (lt b e (sk b e p), [k]) := by
  by_cases hL : isL (pk b e p)
  · simp only [unS]
    rw [if_neg h1, if_neg h2, if_neg (fun z => z hL)]
    rfl
  · have no : ∀ j, 1 ≤ mm_tl.getD j 0 → ¬ WD b (sk b e p) (lt b e (sk b e p)) j := fun j hj hw => hL (WD_L hb hp hj hw)
    have nn : namS b (sk b e p) (lt b e (sk b e p)) = none := by
      simp only [namS]
      rw [if_neg (no 6 (by decide)), if_neg (no 7 (by decide)), if_neg (no 8 (by decide)), if_neg (no 3 (by decide)), if_neg (no 9 (by decide)), if_neg (no 10 (by decide)), if_neg (no 11 (by decide)), if_neg (no 2 (by decide))]
    simp only [unS]
    rw [if_neg h1, if_neg h2, if_pos hL, if_neg (no 4 (by decide)), if_neg (no 5 (by decide)), nn]
theorem namS_1000 {b : Nat → Int32} {q r k : Nat} (h : namS b q r = some k) : 1000 ≤ k ∧ k < 1008 := by
  unfold namS at h
  repeat' split at h
  all_goals cases h
  all_goals omega
theorem namS_lt2 {b : Nat → Int32} {e p k : Nat} (hb : BY b) (hp : p ≤ e) (h : namS b (sk b e p) (lt b e (sk b e p)) = some k) : sk b e p < lt b e (sk b e p) := by
  have key : ∀ j, 1 ≤ mm_tl.getD j 0 → WD b (sk b e p) (lt b e (sk b e p)) j → sk b e p < lt b e (sk b e p) := fun j hj hw => by
    have := hw.1
    omega
  unfold namS at h
  split at h
  · next hw => exact key 6 (by decide) hw
  split at h
  · next hw => exact key 7 (by decide) hw
  split at h
  · next hw => exact key 8 (by decide) hw
  split at h
  · next hw => exact key 3 (by decide) hw
  split at h
  · next hw => exact key 9 (by decide) hw
  split at h
  · next hw => exact key 10 (by decide) hw
  split at h
  · next hw => exact key 11 (by decide) hw
  split at h
  · next hw => exact key 2 (by decide) hw
  cases h
section MLB
variable {G : mm_G} {l : Launch} {d nx : Nat} {h : Nat → mm_E} {g : MG} {A : MA} {b : Nat → Int32} {Po : mm_P} {e : Nat} {g0 : MG} {A0 : MA}
theorem LSt.slt {x : rsL} {c : Int32} {a : Nat × List Nat} (hc : ¬ c = -1) (hL : LSt e g0 A0 g A x) (ha : apS b e x c = .inr a) : a.2.length < a.1 := by
  rcases x with y | a5
  · cases ha
  · obtain ⟨q, h1, h2⟩ := sbind_inr (show sbind (signS b e a5.1 c) (fun q => (.inr (q, a5.2) : rsL)) = .inr a from ha)
    cases h2
    have := signS_le (b := b) hc hL.2.2.2.2.2.1 h1
    have := hL.2.2.2.2.2.2.2.2
    show a5.2.length < q
    omega
theorem sumB_c {y : Nat × Nat} {U : Nat → rsL} (hd : 3 ≤ d) (hx : 215 ≤ nx) (hL : LSt e g0 A0 g A (.inl y)) : mm_Con G l yX11_readSum cX11_readSum 2 none d 0 0 [.ref 188] nx (mos h g A) (fun q n m => q = .inl none ∧ n = nx ∧ ∃ g' A', m = mos h g' A' ∧ LSt e g0 A0 g' A' (apL (.inl y) U)) := by
  refine mm_start (lo := [some (.ref 188), none]) pn_X11 rfl rfl (Nat.le_of_ble_eq_true rfl) ?_
  refine mt_aload_n (pc := 0) dX11_readSum_0 rfl ?_
  refine mt_cV (pc := 1) (n_prodB (d := 2) (Nat.le_refl 2) hx hL) cal_X11_readProduct vir_X11_readProduct ml_X11_223 dX11_readSum_1 (by omega) (mos_o _ _ _) (by first | assumption | (show _ ≤ d; omega)) ⟨(Nat.le_of_ble_eq_true rfl), (Nat.le_of_ble_eq_true rfl)⟩ rfl rfl (Nat.le_of_ble_eq_true rfl) ?_
  refine mt_aload_n (pc := 4) dX11_readSum_4 rfl ?_
  refine mt_cV (pc := 5) (n_fineN (d := 0) hx hL.nf) cal_X11_fine vir_X11_fine ml_X11_134 dX11_readSum_5 (by omega) (mos_o _ _ _) (by first | assumption | (show _ ≤ d; omega)) ⟨(Nat.le_of_ble_eq_true rfl), (Nat.le_of_ble_eq_true rfl)⟩ rfl rfl (Nat.le_of_ble_eq_true rfl) ?_
  refine mt_if_eq (pc := 8) (tgt := 67) dX11_readSum_8 (by decide) (fun c8 => ?_) (fun c8 => ?_)
  · skip
    exact mt_vret rfl dX11_readSum_67 (Nat.le_of_ble_eq_true rfl) (Nat.le_of_ble_eq_true rfl) ⟨rfl, rfl, g, A, rfl, hL⟩
  · exact absurd rfl c8
theorem two_eq {T : Nat → rsL} {x : rsL} {o n k : Nat} : (sbind (apS b e (apL (apS b e (apL (apS b e (sbind x fun a => if 6 ≤ o then .inl (3, a.1) else .inr (a.1 + n, a.2)) 91) T) 44) T) 93) fun a => .inr (a.1, a.2 ++ [k])) = sbind x fun a => sbind (prS b e T o a.1 (a.1 + n)) fun z => (.inr (z.1, a.2 ++ (z.2 ++ [k])) : rsL) := by
  rcases x with y | a
  · rfl
  · simp only [sbind, prS]
    by_cases ho : 6 ≤ o
    · rw [if_pos ho, if_pos ho]
      rfl
    · rw [if_neg ho, if_neg ho]
      simp only [apS, sbind]
      cases signS b e (a.1 + n) 91 with
      | inl y => rfl
      | inr q =>
        simp only [apL, sbind]
        cases T q with
        | inl y => rfl
        | inr z =>
          simp only [sbind]
          cases signS b e z.1 44 with
          | inl y => rfl
          | inr q2 =>
            simp only [sbind]
            cases T q2 with
            | inl y => rfl
            | inr z2 =>
              simp only [sbind]
              cases signS b e z2.1 93 with
              | inl y => rfl
              | inr q3 => simp only [sbind, List.append_assoc]
theorem n_two {x : rsL} {T : Nat → rsL} {o n k c D : Nat} (hD : D + 1 ≤ d) (hD3 : 3 ≤ D) (hx : 215 ≤ nx) (he : e ≤ 150) (ho : o ≤ 6) (hb : BY b) (hT : TP (A0 190) b) (hc : o < 6 → CLm G l b e yX11_readSum cX11_readSum 2 D (o + 1) T) (hGd : GdU e T) (h7 : g0 7 = nI o) (hck : c = cdN k) (hk0 : coN k = 0) (hL : LSt e g0 A0 g A x) (hx1 : ∀ a, x = .inr a → a.1 + n ≤ e) : mm_Con G l yX11_readTwo cX11_readTwo 3 none d 0 0 [.ref 188, .int (nI n), .int (nI c)] nx (mos h g A) (fun q n' m => q = .inl none ∧ n' = nx ∧ ∃ g' A', m = mos h g' A' ∧ LSt e g0 A0 g' A' (sbind x fun a => sbind (prS b e T o a.1 (a.1 + n)) fun z => .inr (z.1, a.2 ++ (z.2 ++ [k])))) := by
  have cs : ∀ (x' : rsL) (g : MG) (A : MA), LSt e (upd g0 7 (nI (o + 1))) A0 g A x' → (6 ≤ o → ∃ y, x' = .inl y) → mm_Con G l yX11_readSum cX11_readSum 2 none D 0 0 [.ref 188] nx (mos h g A) (fun q n m => q = .inl none ∧ n = nx ∧ ∃ g' A', m = mos h g' A' ∧ LSt e (upd g0 7 (nI (o + 1))) A0 g' A' (apL x' T)) := by
    intro x' g A hL' hx'
    by_cases h9 : 6 ≤ o
    · obtain ⟨y, rfl⟩ := hx' h9
      exact sumB_c hD3 hx hL'
    · exact hc (by omega) nx h _ A0 g A x' hx hT hL' (upd_eq _ _ _)
  subst hck
  refine mm_start (lo := [some (.ref 188), some (.int (nI n)), some (.int (nI (cdN k)))]) pn_X11 rfl rfl (Nat.le_of_ble_eq_true rfl) ?_
  refine mt_aload_n (pc := 0) dX11_readTwo_0 rfl ?_
  refine mt_iload_n (pc := 1) dX11_readTwo_1 rfl ?_
  refine mt_aV (pc := 2) (n_opens (d := 1) (Nat.le_refl 1) hx he ho h7 hL hx1) cal_X11_opensOne vir_X11_opensOne ml_X11_232 dX11_readTwo_2 (by omega) (mos_o _ _ _) (by first | assumption | (show _ ≤ d; omega)) ⟨(Nat.le_of_ble_eq_true rfl), (Nat.le_of_ble_eq_true rfl)⟩ rfl rfl (Nat.le_of_ble_eq_true rfl) ?_ ?_
  · rintro x9 n9 k9 h9
    simp at h9
  · rintro v9 n9 k9 ⟨⟨⟩, rfl, g1, rfl, hL1⟩
    refine ⟨rfl, ?_⟩
    have hb1 : 6 ≤ o → ∃ y, (sbind x fun a => if 6 ≤ o then .inl (3, a.1) else .inr (a.1 + n, a.2) : rsL) = .inl y := fun z => by
      rcases x with y | a
      · exact ⟨y, rfl⟩
      · exact ⟨(3, a.1), if_pos z⟩
    have e7 := two_eq (b := b) (e := e) (T := T) (x := x) (o := o) (n := n) (k := k)
    generalize (sbind x fun a => if 6 ≤ o then .inl (3, a.1) else .inr (a.1 + n, a.2) : rsL) = x1 at hL1 hb1 e7
    refine mt_aload_n (pc := 5) dX11_readTwo_5 rfl ?_
    refine mt_bipush (pc := 6) (v := 91) dX11_readTwo_6 (by decide) ?_
    refine mt_aV (pc := 8) (n_sign (d := 1) (by decide) (by decide) (Nat.le_refl 1) hx (hL1.tp hT) hb (by omega) hL1.pst) cal_X11_sign vir_X11_sign ml_X11_213 dX11_readTwo_8 (by omega) (mos_o _ _ _) (by first | assumption | (show _ ≤ d; omega)) ⟨(Nat.le_of_ble_eq_true rfl), (Nat.le_of_ble_eq_true rfl)⟩ rfl rfl (Nat.le_of_ble_eq_true rfl) ?_ ?_
    · rintro x9 n9 k9 h9
      simp at h9
    · rintro v9 n9 k9 ⟨⟨⟩, rfl, g2, rfl, hP2⟩
      refine ⟨rfl, ?_⟩
      have hL2 := hL1.sign (b := b) (c := 91) (by decide) hP2
      have hb2 : 6 ≤ o → ∃ y, apS b e x1 91 = .inl y := fun z => by
        obtain ⟨y, rfl⟩ := hb1 z
        exact ⟨y, rfl⟩
      refine mt_aload_n (pc := 11) dX11_readTwo_11 rfl ?_
      refine mt_aV (pc := 12) (cs _ g2 A hL2 hb2) cal_X11_readSum vir_X11_readSum ml_X11_235 dX11_readTwo_12 (by omega) (mos_o _ _ _) hD ⟨(Nat.le_of_ble_eq_true rfl), (Nat.le_of_ble_eq_true rfl)⟩ rfl rfl (Nat.le_of_ble_eq_true rfl) ?_ ?_
      · rintro x9 n9 k9 h9
        simp at h9
      · rintro v9 n9 k9 ⟨⟨⟩, rfl, g3, A3, rfl, hL3⟩
        refine ⟨rfl, ?_⟩
        refine mt_aload_n (pc := 15) dX11_readTwo_15 rfl ?_
        refine mt_bipush (pc := 16) (v := 44) dX11_readTwo_16 (by decide) ?_
        refine mt_aV (pc := 18) (n_sign (d := 1) (by decide) (by decide) (Nat.le_refl 1) hx (hL3.tp hT) hb (by omega) hL3.pst) cal_X11_sign vir_X11_sign ml_X11_213 dX11_readTwo_18 (by omega) (mos_o _ _ _) (by first | assumption | (show _ ≤ d; omega)) ⟨(Nat.le_of_ble_eq_true rfl), (Nat.le_of_ble_eq_true rfl)⟩ rfl rfl (Nat.le_of_ble_eq_true rfl) ?_ ?_
        · rintro x9 n9 k9 h9
          simp at h9
        · rintro v9 n9 k9 ⟨⟨⟩, rfl, g4, rfl, hP4⟩
          refine ⟨rfl, ?_⟩
          have hL4 := hL3.sign (b := b) (c := 44) (by decide) hP4
          have hb4 : 6 ≤ o → ∃ y, apS b e (apL (apS b e x1 91) T) 44 = .inl y := fun z => by
            obtain ⟨y, rfl⟩ := hb1 z
            exact ⟨y, rfl⟩
          refine mt_aload_n (pc := 21) dX11_readTwo_21 rfl ?_
          refine mt_aV (pc := 22) (cs _ g4 A3 hL4 hb4) cal_X11_readSum vir_X11_readSum ml_X11_235 dX11_readTwo_22 (by omega) (mos_o _ _ _) hD ⟨(Nat.le_of_ble_eq_true rfl), (Nat.le_of_ble_eq_true rfl)⟩ rfl rfl (Nat.le_of_ble_eq_true rfl) ?_ ?_
          · rintro x9 n9 k9 h9
            simp at h9
          · rintro v9 n9 k9 ⟨⟨⟩, rfl, g5, A5, rfl, hL5⟩
            refine ⟨rfl, ?_⟩
            refine mt_aload_n (pc := 25) dX11_readTwo_25 rfl ?_
            refine mt_bipush (pc := 26) (v := 93) dX11_readTwo_26 (by decide) ?_
            refine mt_aV (pc := 28) (n_sign (d := 1) (by decide) (by decide) (Nat.le_refl 1) hx (hL5.tp hT) hb (by omega) hL5.pst) cal_X11_sign vir_X11_sign ml_X11_213 dX11_readTwo_28 (by omega) (mos_o _ _ _) (by first | assumption | (show _ ≤ d; omega)) ⟨(Nat.le_of_ble_eq_true rfl), (Nat.le_of_ble_eq_true rfl)⟩ rfl rfl (Nat.le_of_ble_eq_true rfl) ?_ ?_
            · rintro x9 n9 k9 h9
              simp at h9
            · rintro v9 n9 k9 ⟨⟨⟩, rfl, g6, rfl, hP6⟩
              refine ⟨rfl, ?_⟩
              have hL6 := hL5.sign (b := b) (c := 93) (by decide) hP6
              have t6 : g6 7 = nI (o + 1) := (hL6.1 7 (by decide) (by decide) (by decide) (by decide)).trans (upd_eq _ _ _)
              have hL7 := hL6.up (nI o)
              rw [upd_upd, upd_self h7] at hL7
              refine mt_aload_n (pc := 31) dX11_readTwo_31 rfl ?_
              refine mt_dup (pc := 32) dX11_readTwo_32 rfl ?_
              refine mt_mgetI (pc := 33) (x := nI (o + 1)) gf_X11_145 dX11_readTwo_33 hx rfl t6 ?_
              refine mt_iconst (pc := 36) (v := 1) dX11_readTwo_36 (by decide) ?_
              refine mt_isubN (pc := 37) (a := o + 1) (b := 1) dX11_readTwo_37 rfl rfl (by omega) ?_
              refine mt_mput (pc := 38) pf_X11_145 dX11_readTwo_38 hx rfl ?_
              refine mt_aload_n (pc := 41) dX11_readTwo_41 rfl ?_
              refine mt_iload_n (pc := 42) dX11_readTwo_42 rfl ?_
              refine mt_iconst (pc := 43) (v := 0) dX11_readTwo_43 (by decide) ?_
              refine mt_aV (pc := 44) (n_emit (d := 1) (k := k) (Nat.le_refl 1) hx he hL7 (fun a ha => ⟨hL5.slt (by decide) ha, rfl, by rw [hk0]; rfl⟩)) cal_X11_emit vir_X11_emit ml_X11_226 dX11_readTwo_44 (by omega) (mos_o _ _ _) (by first | assumption | (show _ ≤ d; omega)) ⟨(Nat.le_of_ble_eq_true rfl), (Nat.le_of_ble_eq_true rfl)⟩ rfl rfl (Nat.le_of_ble_eq_true rfl) ?_ ?_
              · rintro x9 n9 k9 h9
                simp at h9
              · rintro v9 n9 k9 ⟨⟨⟩, rfl, g8, A8, rfl, hL8⟩
                refine ⟨rfl, ?_⟩
                exact mt_vret rfl dX11_readTwo_47 (Nat.le_of_ble_eq_true rfl) (Nat.le_of_ble_eq_true rfl) ⟨rfl, rfl, g8, A8, rfl, by rw [← e7]; exact hL8⟩
theorem br_eq {T : Nat → rsL} {o p : Nat} {cs : List Nat} (hpk : pk b e p = 40) : apS b e (apL (if 6 ≤ o then .inl (3, sk b e p) else .inr (sk b e p + 1, cs) : rsL) T) 41 = apL (.inr (p, cs)) (brS b e T o) := by
  have e40 : signS b e p 40 = .inr (sk b e p + 1) := if_pos hpk
  simp only [apL, sbind, brS]
  by_cases ho : 6 ≤ o
  · rw [if_pos ho, if_pos ho]
    rfl
  · rw [if_neg ho, if_neg ho, e40]
    simp only [sbind]
    cases T (sk b e p + 1) with
    | inl y => rfl
    | inr z =>
      simp only [apS, sbind]
      cases signS b e z.1 41 with
      | inl y => rfl
      | inr q => rfl
theorem n_unit {x : rsL} {T : Nat → rsL} {o D : Nat} (hD : D + 2 ≤ d) (hD3 : 6 ≤ D) (hx : 215 ≤ nx) (he : e ≤ 150) (ho : o ≤ 6) (hb : BY b) (hT : TP (A0 190) b) (hc : o < 6 → CLm G l b e yX11_readSum cX11_readSum 2 D (o + 1) T) (hGd : GdU e T) (h7 : g0 7 = nI o) (hL : LSt e g0 A0 g A x) : mm_Con G l yX11_readUnit cX11_readUnit 2 none d 0 0 [.ref 188] nx (mos h g A) (fun q n' m => q = .inl none ∧ n' = nx ∧ ∃ g' A', m = mos h g' A' ∧ LSt e g0 A0 g' A' (apL x (unS b e T o))) := by
  have cs : ∀ (x' : rsL) (g : MG) (A : MA), LSt e (upd g0 7 (nI (o + 1))) A0 g A x' → (6 ≤ o → ∃ y, x' = .inl y) → mm_Con G l yX11_readSum cX11_readSum 2 none D 0 0 [.ref 188] nx (mos h g A) (fun q n m => q = .inl none ∧ n = nx ∧ ∃ g' A', m = mos h g' A' ∧ LSt e (upd g0 7 (nI (o + 1))) A0 g' A' (apL x' T)) := by
    intro x' g A hL' hx'
    by_cases h9 : 6 ≤ o
    · obtain ⟨y, rfl⟩ := hx' h9
      exact sumB_c (by omega) hx hL'
    · exact hc (by omega) nx h _ A0 g A x' hx hT hL' (upd_eq _ _ _)
  refine mm_start (lo := [some (.ref 188), none]) pn_X11 rfl rfl (Nat.le_of_ble_eq_true rfl) ?_
  rcases x with y | ⟨p, c0⟩
  · skip
    refine mt_aload_n (pc := 0) dX11_readUnit_0 rfl ?_
    refine mt_cV (pc := 1) (n_fineN (d := 0) hx hL.nf) cal_X11_fine vir_X11_fine ml_X11_134 dX11_readUnit_1 (by omega) (mos_o _ _ _) (by first | assumption | (show _ ≤ d; omega)) ⟨(Nat.le_of_ble_eq_true rfl), (Nat.le_of_ble_eq_true rfl)⟩ rfl rfl (Nat.le_of_ble_eq_true rfl) ?_
    refine mt_if_ne (pc := 4) (tgt := 8) dX11_readUnit_4 (by decide) (fun c4 => ?_) (fun c4 => ?_)
    · exact absurd rfl c4
    · skip
      exact mt_vret rfl dX11_readUnit_7 (Nat.le_of_ble_eq_true rfl) (Nat.le_of_ble_eq_true rfl) ⟨rfl, rfl, g, A, rfl, hL⟩
  · obtain ⟨h5, h4, h6, h25, hM, hl⟩ := hL.2.2.2
    dsimp only at h4 h6 hM hl h25
    have h3 := hL.e
    have hTA := hL.tp hT
    have hq := sk_le (b := b) h6
    have hr := lt_le (b := b) hq.2
    have hL0 : LSt e g0 A0 (upd g 4 (nI (sk b e p))) A (.inr (sk b e p, c0)) := hL.of (hL.pst.at hq.2) (fun w hw => by cases hw) (fun q hq2 => by cases hq2; exact ⟨_, rfl, hq.1, rfl⟩)
    have eS : apL (.inr (p, c0)) (unS b e T o) = apL (.inr (sk b e p, c0)) (unS b e T o) := by simp only [apL, sbind, unS_sk h6]
    have hLL : ∀ i, sk b e p ≤ i → i < lt b e (sk b e p) → isL (b i) := fun i a1 a2 => lt_L (e := e) a1 a2
    have w4 := wv_of (b := b) (q := sk b e p) (r := lt b e (sk b e p)) (j := 4) hr.1 hLL (by decide) (by decide) (by decide) (by decide)
    have w5 := wv_of (b := b) (q := sk b e p) (r := lt b e (sk b e p)) (j := 5) hr.1 hLL (by decide) (by decide) (by decide) (by decide)
    refine mt_aload_n (pc := 0) dX11_readUnit_0 rfl ?_
    refine mt_cV (pc := 1) (n_fineY (d := 0) hx h5) cal_X11_fine vir_X11_fine ml_X11_134 dX11_readUnit_1 (by omega) (mos_o _ _ _) (by first | assumption | (show _ ≤ d; omega)) ⟨(Nat.le_of_ble_eq_true rfl), (Nat.le_of_ble_eq_true rfl)⟩ rfl rfl (Nat.le_of_ble_eq_true rfl) ?_
    refine mt_if_ne (pc := 4) (tgt := 8) dX11_readUnit_4 (by decide) (fun c4 => ?_) (fun c4 => ?_)
    · skip
      refine mt_aload_n (pc := 8) dX11_readUnit_8 rfl ?_
      refine mt_cV (pc := 9) (n_here (d := 0) hx hTA hb h3 (by omega) h4 h6) cal_X11_here vir_X11_here ml_X11_117 dX11_readUnit_9 (by omega) (mos_o _ _ _) (by first | assumption | (show _ ≤ d; omega)) ⟨(Nat.le_of_ble_eq_true rfl), (Nat.le_of_ble_eq_true rfl)⟩ rfl rfl (Nat.le_of_ble_eq_true rfl) ?_
      refine mt_bipush (pc := 12) (v := 40) dX11_readUnit_12 (by decide) ?_
      refine mt_icmp_ne (pc := 14) (tgt := 45) dX11_readUnit_14 (by decide) (fun c14 => ?_) (fun c14 => ?_)
      · skip
        have n40 : ¬ pk b e p = 40 := fun z => c14 ((hrk_pk (by decide) (by decide)).mpr z)
        refine mt_aload_n (pc := 45) dX11_readUnit_45 rfl ?_
        refine mt_cV (pc := 46) (n_here (d := 0) (p := sk b e p) hx hTA hb h3 (by omega) (upd_eq _ _ _) hq.2) cal_X11_here vir_X11_here ml_X11_117 dX11_readUnit_46 (by omega) (mos_o _ _ _) (by first | assumption | (show _ ≤ d; omega)) ⟨(Nat.le_of_ble_eq_true rfl), (Nat.le_of_ble_eq_true rfl)⟩ rfl rfl (Nat.le_of_ble_eq_true rfl) ?_
        rw [sk_sk h6, upd_upd]
        refine mt_cS (pc := 49) (n_isDigit (d := 0)) cal_X11_isDigit sta_X11_isDigit ml_X11_138 dX11_readUnit_49 (by first | assumption | (show _ ≤ d; omega)) ⟨(Nat.le_of_ble_eq_true rfl), (Nat.le_of_ble_eq_true rfl)⟩ rfl rfl (Nat.le_of_ble_eq_true rfl) ?_
        refine mt_if_eq (pc := 52) (tgt := 71) dX11_readUnit_52 (by decide) (fun c52 => ?_) (fun c52 => ?_)
        · skip
          have nD : ¬ isD (pk b e p) := fun z => isD_if.mp c52 (by rw [hrk_D, pk_sk h6]; exact z)
          have eA := un_alt (T := T) (o := o) hb h6 nD n40
          refine mt_aload_n (pc := 71) dX11_readUnit_71 rfl ?_
          refine mt_cV (pc := 72) (n_word (d := 1) (p := sk b e p) (Nat.le_refl 1) hx hTA hb h3 (by omega) (upd_eq _ _ _) hq.2) cal_X11_word vir_X11_word ml_X11_201 dX11_readUnit_72 (by omega) (mos_o _ _ _) (by first | assumption | (show _ ≤ d; omega)) ⟨(Nat.le_of_ble_eq_true rfl), (Nat.le_of_ble_eq_true rfl)⟩ rfl rfl (Nat.le_of_ble_eq_true rfl) ?_
          rw [sk_sk h6, upd_upd]
          refine mt_ldcS (pc := 75) (j := 4) (tx := "least") (by decide +kernel) dX11_readUnit_75 ?_
          refine mt_cS (pc := 77) (n_of (d := 4) (j := 4) (Nat.le_refl 4) (by decide) (by decide) (by decide)) cal_X11_of sta_X11_of ml_X11_180 dX11_readUnit_77 (by first | assumption | (show _ ≤ d; omega)) ⟨(Nat.le_of_ble_eq_true rfl), (Nat.le_of_ble_eq_true rfl)⟩ rfl rfl (Nat.le_of_ble_eq_true rfl) ?_
          refine mt_icmp_ne (pc := 80) (tgt := 93) dX11_readUnit_80 (by decide) (fun c80 => ?_) (fun c80 => ?_)
          · skip
            have n4 : ¬ WD b (sk b e p) (lt b e (sk b e p)) 4 := fun z => c80 (w4.mpr z)
            rw [if_neg n4] at eA
            refine mt_aload_n (pc := 93) dX11_readUnit_93 rfl ?_
            refine mt_cV (pc := 94) (n_word (d := 1) (p := sk b e p) (Nat.le_refl 1) hx hTA hb h3 (by omega) (upd_eq _ _ _) hq.2) cal_X11_word vir_X11_word ml_X11_201 dX11_readUnit_94 (by omega) (mos_o _ _ _) (by first | assumption | (show _ ≤ d; omega)) ⟨(Nat.le_of_ble_eq_true rfl), (Nat.le_of_ble_eq_true rfl)⟩ rfl rfl (Nat.le_of_ble_eq_true rfl) ?_
            rw [sk_sk h6, upd_upd]
            refine mt_ldcSw (pc := 97) (j := 5) (tx := "most") (by decide +kernel) dX11_readUnit_97 ?_
            refine mt_cS (pc := 100) (n_of (d := 4) (j := 5) (Nat.le_refl 4) (by decide) (by decide) (by decide)) cal_X11_of sta_X11_of ml_X11_180 dX11_readUnit_100 (by first | assumption | (show _ ≤ d; omega)) ⟨(Nat.le_of_ble_eq_true rfl), (Nat.le_of_ble_eq_true rfl)⟩ rfl rfl (Nat.le_of_ble_eq_true rfl) ?_
            refine mt_icmp_ne (pc := 103) (tgt := 116) dX11_readUnit_103 (by decide) (fun c103 => ?_) (fun c103 => ?_)
            · skip
              have n5 : ¬ WD b (sk b e p) (lt b e (sk b e p)) 5 := fun z => c103 (w5.mpr z)
              rw [if_neg n5] at eA
              refine mt_aload_n (pc := 116) dX11_readUnit_116 rfl ?_
              refine mt_cV (pc := 117) (n_fact (d := 6) (p := sk b e p) (Nat.le_refl 6) hx hTA hb (by omega) h3 (upd_eq _ _ _) hq.2) cal_X11_factHere vir_X11_factHere ml_X11_261 dX11_readUnit_117 (by omega) (mos_o _ _ _) (by first | assumption | (show _ ≤ d; omega)) ⟨(Nat.le_of_ble_eq_true rfl), (Nat.le_of_ble_eq_true rfl)⟩ rfl rfl (Nat.le_of_ble_eq_true rfl) ?_
              rw [sk_sk h6, upd_upd]
              rcases hN : namS b (sk b e p) (lt b e (sk b e p)) with _ | k9
              · rw [hN] at eA
                refine mt_istore_n (pc := 120) dX11_readUnit_120 (Nat.le_of_ble_eq_true rfl) rfl ?_
                refine mt_iload_n (pc := 121) dX11_readUnit_121 rfl ?_
                refine mt_iconst (pc := 122) (v := -1) dX11_readUnit_122 (by decide) ?_
                refine mt_icmp_ne (pc := 123) (tgt := 135) dX11_readUnit_123 (by decide) (fun c123 => absurd rfl c123) (fun c123 => ?_)
                refine mt_aload_n (pc := 126) dX11_readUnit_126 rfl ?_
                refine mt_iconst (pc := 127) (v := 1) dX11_readUnit_127 (by decide) ?_
                refine mt_aload_n (pc := 128) dX11_readUnit_128 rfl ?_
                refine mt_mgetI (pc := 129) (x := nI (sk b e p)) gf_X11_111 dX11_readUnit_129 hx rfl rfl ?_
                refine mt_cV (pc := 132) (n_wrong (d := 0) hx h5) cal_X11_wrong vir_X11_wrong ml_X11_141 dX11_readUnit_132 (by omega) (mos_o _ _ _) (by show _ ≤ d; omega) ⟨Nat.zero_le _, Nat.zero_le _⟩ rfl rfl (Nat.le_of_ble_eq_true rfl) ?_
                refine mt_aload_n (pc := 135) dX11_readUnit_135 rfl ?_
                refine mt_cV (pc := 136) (n_fineN (d := 0) hx (show ¬ nI (sk b e p) = -1 from nI_m1 (hi := 1000) (by show ((sk b e p : Nat) : Int) ≤ 1000; omega))) cal_X11_fine vir_X11_fine ml_X11_134 dX11_readUnit_136 (by omega) (mos_o _ _ _) (by show _ ≤ d; omega) ⟨Nat.zero_le _, Nat.zero_le _⟩ rfl rfl (Nat.le_of_ble_eq_true rfl) ?_
                refine mt_if_ne (pc := 139) (tgt := 143) dX11_readUnit_139 (by decide) (fun c139 => absurd rfl c139) (fun c139 => ?_)
                refine mt_vret rfl dX11_readUnit_142 (Nat.le_of_ble_eq_true rfl) (Nat.le_of_ble_eq_true rfl) ⟨rfl, rfl, _, A, rfl, ?_⟩
                have e8 : apL (.inr (p, c0)) (unS b e T o) = .inl (1, sk b e p) := by simp only [apL, sbind, eA]
                rw [e8]
                exact hL.of (x' := .inl (1, sk b e p)) (hL.pst.bad (kd := 1) (pl := sk b e p) _ (by omega)) (fun w hw => by cases hw; rfl) (fun q hq2 => by cases hq2)
              rw [hN] at eA
              have hk9 := namS_1000 hN
              have hwl := namS_lt2 hb h6 hN
              refine mt_istore_n (pc := 120) dX11_readUnit_120 (Nat.le_of_ble_eq_true rfl) rfl ?_
              refine mt_iload_n (pc := 121) dX11_readUnit_121 rfl ?_
              refine mt_iconst (pc := 122) (v := (-1)) dX11_readUnit_122 (by decide) ?_
              refine mt_icmp_ne (pc := 123) (tgt := 135) dX11_readUnit_123 (by decide) (fun c123 => ?_) (fun c123 => ?_)
              · skip
                refine mt_aload_n (pc := 135) dX11_readUnit_135 rfl ?_
                refine mt_cV (pc := 136) (n_fineY (d := 0) hx h5) cal_X11_fine vir_X11_fine ml_X11_134 dX11_readUnit_136 (by omega) (mos_o _ _ _) (by first | assumption | (show _ ≤ d; omega)) ⟨(Nat.le_of_ble_eq_true rfl), (Nat.le_of_ble_eq_true rfl)⟩ rfl rfl (Nat.le_of_ble_eq_true rfl) ?_
                refine mt_if_ne (pc := 139) (tgt := 143) dX11_readUnit_139 (by decide) (fun c139 => ?_) (fun c139 => ?_)
                · skip
                  refine mt_aload_n (pc := 143) dX11_readUnit_143 rfl ?_
                  refine mt_cV (pc := 144) (n_pass (d := 1) (p := sk b e p) (Nat.le_refl 1) hx hTA hb h3 (by omega) (upd_eq _ _ _) hq.2) cal_X11_pass vir_X11_pass ml_X11_207 dX11_readUnit_144 (by omega) (mos_o _ _ _) (by first | assumption | (show _ ≤ d; omega)) ⟨(Nat.le_of_ble_eq_true rfl), (Nat.le_of_ble_eq_true rfl)⟩ rfl rfl (Nat.le_of_ble_eq_true rfl) ?_
                  rw [upd_upd]
                  have hL9 : LSt e g0 A0 (upd g 4 (nI (lt b e (sk b e p)))) A (.inr (lt b e (sk b e p), c0)) := hL.of (hL.pst.at hr.2) (fun w hw => by cases hw) (fun q hq2 => by cases hq2; exact ⟨_, rfl, by show p ≤ lt b e (sk b e p); omega, rfl⟩)
                  refine mt_aload_n (pc := 147) dX11_readUnit_147 rfl ?_
                  refine mt_iconst (pc := 148) (v := 1) dX11_readUnit_148 (by decide) ?_
                  refine mt_iload_n (pc := 149) dX11_readUnit_149 rfl ?_
                  refine mt_aV (pc := 150) (n_emit (d := 1) (k := k9) (Nat.le_refl 1) hx he hL9 (fun a ha => by
                    cases ha
                    refine ⟨by show c0.length < lt b e (sk b e p); omega, ?_, ?_⟩
                    · show (1 : Int32) = nI (cdN k9)
                      rw [cdN, if_neg (by omega), if_pos (by omega)]; rfl
                    · show nI (k9 - 1000) = nI (coN k9)
                      rw [coN, if_neg (by omega), if_pos (by omega)])) cal_X11_emit vir_X11_emit ml_X11_226 dX11_readUnit_150 (by omega) (mos_o _ _ _) (by first | assumption | (show _ ≤ d; omega)) ⟨(Nat.le_of_ble_eq_true rfl), (Nat.le_of_ble_eq_true rfl)⟩ rfl rfl (Nat.le_of_ble_eq_true rfl) ?_ ?_
                  · rintro x9 n9 k9 h9
                    simp at h9
                  · rintro v9 n9 k9 ⟨⟨⟩, rfl, g1, A1, rfl, hL1⟩
                    refine ⟨rfl, ?_⟩
                    exact mt_vret rfl dX11_readUnit_153 (Nat.le_of_ble_eq_true rfl) (Nat.le_of_ble_eq_true rfl) ⟨rfl, rfl, g1, A1, rfl, by
                      have e8 : apL (.inr (p, c0)) (unS b e T o) = .inr (lt b e (sk b e p), c0 ++ [k9]) := by simp only [apL, sbind, eA]
                      rw [e8]
                      exact hL1⟩
                · exact absurd c139 (by decide)
              · exact absurd c123 (nI_m1 (hi := 1000) (by show ((k9 - 1000 : Nat) : Int) ≤ 1000; omega))
            · skip
              have y5 := w5.mp c103
              have hl5 : lt b e (sk b e p) = sk b e p + 4 := y5.1
              rw [if_pos y5, hl5] at eA
              refine mt_aload_n (pc := 106) dX11_readUnit_106 rfl ?_
              refine mt_iconst (pc := 107) (v := 4) dX11_readUnit_107 (by decide) ?_
              refine mt_bipush (pc := 108) (v := 7) dX11_readUnit_108 (by decide) ?_
              refine mt_aV (pc := 110) (n_two (d := D + 1) (D := D) (n := 4) (k := 2006) (c := 7) (Nat.le_refl _) (by omega) hx he ho hb hT hc hGd h7 rfl rfl hL0 (fun a ha => by cases ha; show sk b e p + 4 ≤ e; omega)) cal_X11_readTwo vir_X11_readTwo ml_X11_256 dX11_readUnit_110 (by omega) (mos_o _ _ _) (by show D + 1 + 1 ≤ d; omega) ⟨(Nat.le_of_ble_eq_true rfl), (Nat.le_of_ble_eq_true rfl)⟩ rfl rfl (Nat.le_of_ble_eq_true rfl) ?_ ?_
              · rintro x9 n9 k9 h9
                simp at h9
              · rintro v9 n9 k9 ⟨⟨⟩, rfl, g1, A1, rfl, hL1⟩
                refine ⟨rfl, ?_⟩
                refine mt_goto (pc := 113) (tgt := 153) dX11_readUnit_113 (by decide) ?_
                exact mt_vret rfl dX11_readUnit_153 (Nat.le_of_ble_eq_true rfl) (Nat.le_of_ble_eq_true rfl) ⟨rfl, rfl, g1, A1, rfl, by
                  have e8 : apL (.inr (p, c0)) (unS b e T o) = sbind (prS b e T o (sk b e p) (sk b e p + 4)) fun z => .inr (z.1, c0 ++ (z.2 ++ [2006])) := by
                    simp only [apL, sbind, eA]
                    cases prS b e T o (sk b e p) (sk b e p + 4) <;> rfl
                  rw [e8]
                  exact hL1⟩
          · skip
            have y4 := w4.mp c80
            have hl5 : lt b e (sk b e p) = sk b e p + 5 := y4.1
            rw [if_pos y4, hl5] at eA
            refine mt_aload_n (pc := 83) dX11_readUnit_83 rfl ?_
            refine mt_iconst (pc := 84) (v := 5) dX11_readUnit_84 (by decide) ?_
            refine mt_bipush (pc := 85) (v := 6) dX11_readUnit_85 (by decide) ?_
            refine mt_aV (pc := 87) (n_two (d := D + 1) (D := D) (n := 5) (k := 2005) (c := 6) (Nat.le_refl _) (by omega) hx he ho hb hT hc hGd h7 rfl rfl hL0 (fun a ha => by cases ha; show sk b e p + 5 ≤ e; omega)) cal_X11_readTwo vir_X11_readTwo ml_X11_256 dX11_readUnit_87 (by omega) (mos_o _ _ _) (by show D + 1 + 1 ≤ d; omega) ⟨(Nat.le_of_ble_eq_true rfl), (Nat.le_of_ble_eq_true rfl)⟩ rfl rfl (Nat.le_of_ble_eq_true rfl) ?_ ?_
            · rintro x9 n9 k9 h9
              simp at h9
            · rintro v9 n9 k9 ⟨⟨⟩, rfl, g1, A1, rfl, hL1⟩
              refine ⟨rfl, ?_⟩
              refine mt_goto (pc := 90) (tgt := 153) dX11_readUnit_90 (by decide) ?_
              exact mt_vret rfl dX11_readUnit_153 (Nat.le_of_ble_eq_true rfl) (Nat.le_of_ble_eq_true rfl) ⟨rfl, rfl, g1, A1, rfl, by
                have e8 : apL (.inr (p, c0)) (unS b e T o) = sbind (prS b e T o (sk b e p) (sk b e p + 5)) fun z => .inr (z.1, c0 ++ (z.2 ++ [2005])) := by
                  simp only [apL, sbind, eA]
                  cases prS b e T o (sk b e p) (sk b e p + 5) <;> rfl
                rw [e8]
                exact hL1⟩
        · skip
          have yD : isD (pk b e p) := by
            have := hrk_D.mp (Classical.not_not.mp fun z => c52 (isD_if.mpr z))
            rwa [pk_sk h6] at this
          refine mt_aload_n (pc := 55) dX11_readUnit_55 rfl ?_
          refine mt_iconst (pc := 56) (v := 0) dX11_readUnit_56 (by decide) ?_
          refine mt_aload_n (pc := 57) dX11_readUnit_57 rfl ?_
          refine mt_iconst (pc := 58) (v := 0) dX11_readUnit_58 (by decide) ?_
          refine mt_sipush (pc := 59) (v := 999) dX11_readUnit_59 (by decide) ?_
          refine mt_aV (pc := 62) (n_rnum (d := 1) (by decide) (by decide) (Nat.le_refl 1) hx hTA hb (by omega) hL0.pst) cal_X11_readNumber vir_X11_readNumber ml_X11_186 dX11_readUnit_62 (by omega) (mos_o _ _ _) (by first | assumption | (show _ ≤ d; omega)) ⟨(Nat.le_of_ble_eq_true rfl), (Nat.le_of_ble_eq_true rfl)⟩ rfl rfl (Nat.le_of_ble_eq_true rfl) ?_ ?_
          · rintro x9 n9 k9 h9
            simp at h9
          · rintro v9 n9 k9 ⟨⟨⟩, rfl, g1, rfl, hP1⟩
            refine ⟨rfl, ?_⟩
            have eN : nmS b e (rpL (.inr (sk b e p, c0))) 0 999 = numS b e p 0 999 := numS_sk h6
            rw [eN] at hP1
            rw [show rvN (nmS b e (rpL (.inr (sk b e p, c0))) 0 999) = rvN (numS b e p 0 999) by rw [eN]]
            have eU : apL (.inr (p, c0)) (unS b e T o) = sbind (numS b e p 0 999) fun z => .inr (z.2, c0 ++ [z.1]) := by
              simp only [apL, sbind, unS]
              rw [if_pos yD]
              cases numS b e p 0 999 <;> rfl
            have hL1 : LSt e g0 A0 g1 A (sbind (numS b e p 0 999) fun z => .inr (z.2, c0)) := hL0.of hP1 (fun w hw => by
                rcases hX : numS b e p 0 999 with y | z
                · rw [hX] at hw; cases hw; rfl
                · rw [hX] at hw; cases hw) (fun q hq2 => by
                rcases hX : numS b e p 0 999 with y | z
                · rw [hX] at hq2; cases hq2
                · rw [hX] at hq2; cases hq2
                  have := num_prog hb hq.2 (show numS b e (sk b e p) 0 999 = .inr (z.1, z.2) by rw [numS_sk h6]; exact hX)
                  exact ⟨_, rfl, by show sk b e p ≤ z.2; omega, rfl⟩)
            have hvl : ∀ z, numS b e p 0 999 = .inr z → z.1 ≤ 999 ∧ sk b e p < z.2 := fun z hz => by
              have h1 := num_prog hb hq.2 (show numS b e (sk b e p) 0 999 = .inr (z.1, z.2) by rw [numS_sk h6]; exact hz)
              have h2 := (numS_le h6 (show numS b e p 0 999 = .inr (z.1, z.2) from hz)).2.2
              rw [show (999 : Int32).toInt = 999 from rfl] at h2
              exact ⟨by omega, h1.1⟩
            rw [eU]
            generalize numS b e p 0 999 = X at hL1 hvl ⊢
            have eK : (sbind (sbind X fun z => (.inr (z.2, c0) : rsL)) fun a => .inr (a.1, a.2 ++ [(match X with | .inl _ => 0 | .inr z => z.1)])) = (sbind X fun z => .inr (z.2, c0 ++ [z.1]) : rsL) := by cases X <;> rfl
            refine mt_aV (pc := 65) (n_emit (d := 1) (k := (match X with | .inl _ => 0 | .inr z => z.1)) (Nat.le_refl 1) hx he hL1 (fun a ha => by
              rcases X with y | z
              · cases ha
              · cases ha
                have := hvl z rfl
                refine ⟨by show c0.length < z.2; omega, ?_, ?_⟩
                · show (0 : Int32) = nI (cdN z.1)
                  rw [cdN, if_pos (by omega)]; rfl
                · show nI z.1 = nI (coN z.1)
                  rw [coN, if_pos (by omega)])) cal_X11_emit vir_X11_emit ml_X11_226 dX11_readUnit_65 (by omega) (mos_o _ _ _) (by first | assumption | (show _ ≤ d; omega)) ⟨(Nat.le_of_ble_eq_true rfl), (Nat.le_of_ble_eq_true rfl)⟩ rfl rfl (Nat.le_of_ble_eq_true rfl) ?_ ?_
            · rintro x9 n9 k9 h9
              simp at h9
            · rintro v9 n9 k9 ⟨⟨⟩, rfl, g2, A2, rfl, hL2⟩
              refine ⟨rfl, ?_⟩
              refine mt_goto (pc := 68) (tgt := 153) dX11_readUnit_68 (by decide) ?_
              exact mt_vret rfl dX11_readUnit_153 (Nat.le_of_ble_eq_true rfl) (Nat.le_of_ble_eq_true rfl) ⟨rfl, rfl, g2, A2, rfl, by rw [← eK]; exact hL2⟩
      · skip
        have y40 : pk b e p = 40 := (hrk_pk (by decide) (by decide)).mp c14
        have hlt := pkv_lt y40 (by decide)
        refine mt_aload_n (pc := 17) dX11_readUnit_17 rfl ?_
        refine mt_iconst (pc := 18) (v := 1) dX11_readUnit_18 (by decide) ?_
        refine mt_aV (pc := 19) (n_opens (d := 1) (n := 1) (Nat.le_refl 1) hx he ho h7 hL0 (fun a ha => by cases ha; exact hlt)) cal_X11_opensOne vir_X11_opensOne ml_X11_232 dX11_readUnit_19 (by omega) (mos_o _ _ _) (by first | assumption | (show _ ≤ d; omega)) ⟨(Nat.le_of_ble_eq_true rfl), (Nat.le_of_ble_eq_true rfl)⟩ rfl rfl (Nat.le_of_ble_eq_true rfl) ?_ ?_
        · rintro x9 n9 k9 h9
          simp at h9
        · rintro v9 n9 k9 ⟨⟨⟩, rfl, g1, rfl, hL1⟩
          refine ⟨rfl, ?_⟩
          have hL1 : LSt e (upd g0 7 (nI (o + 1))) A0 g1 A (if 6 ≤ o then .inl (3, sk b e p) else .inr (sk b e p + 1, c0)) := hL1
          refine mt_aload_n (pc := 22) dX11_readUnit_22 rfl ?_
          refine mt_aV (pc := 23) (cs _ g1 A hL1 (fun z => ⟨_, if_pos z⟩)) cal_X11_readSum vir_X11_readSum ml_X11_235 dX11_readUnit_23 (by omega) (mos_o _ _ _) (by show D + 1 ≤ d; omega) ⟨(Nat.le_of_ble_eq_true rfl), (Nat.le_of_ble_eq_true rfl)⟩ rfl rfl (Nat.le_of_ble_eq_true rfl) ?_ ?_
          · rintro x9 n9 k9 h9
            simp at h9
          · rintro v9 n9 k9 ⟨⟨⟩, rfl, g2, A2, rfl, hL2⟩
            refine ⟨rfl, ?_⟩
            refine mt_aload_n (pc := 26) dX11_readUnit_26 rfl ?_
            refine mt_bipush (pc := 27) (v := 41) dX11_readUnit_27 (by decide) ?_
            refine mt_aV (pc := 29) (n_sign (d := 1) (by decide) (by decide) (Nat.le_refl 1) hx (hL2.tp hT) hb (by omega) hL2.pst) cal_X11_sign vir_X11_sign ml_X11_213 dX11_readUnit_29 (by omega) (mos_o _ _ _) (by first | assumption | (show _ ≤ d; omega)) ⟨(Nat.le_of_ble_eq_true rfl), (Nat.le_of_ble_eq_true rfl)⟩ rfl rfl (Nat.le_of_ble_eq_true rfl) ?_ ?_
            · rintro x9 n9 k9 h9
              simp at h9
            · rintro v9 n9 k9 ⟨⟨⟩, rfl, g3, rfl, hP3⟩
              refine ⟨rfl, ?_⟩
              have hL3 := hL2.sign (b := b) (c := 41) (by decide) hP3
              have t3 : g3 7 = nI (o + 1) := (hL3.1 7 (by decide) (by decide) (by decide) (by decide)).trans (upd_eq _ _ _)
              have hL4 := hL3.up (nI o)
              rw [upd_upd, upd_self h7, br_eq y40] at hL4
              refine mt_aload_n (pc := 32) dX11_readUnit_32 rfl ?_
              refine mt_dup (pc := 33) dX11_readUnit_33 rfl ?_
              refine mt_mgetI (pc := 34) (x := nI (o + 1)) gf_X11_145 dX11_readUnit_34 hx rfl t3 ?_
              refine mt_iconst (pc := 37) (v := 1) dX11_readUnit_37 (by decide) ?_
              refine mt_isubN (pc := 38) (a := o + 1) (b := 1) dX11_readUnit_38 rfl rfl (by omega) ?_
              refine mt_mput (pc := 39) pf_X11_145 dX11_readUnit_39 hx rfl ?_
              refine mt_goto (pc := 42) (tgt := 153) dX11_readUnit_42 (by decide) ?_
              exact mt_vret rfl dX11_readUnit_153 (Nat.le_of_ble_eq_true rfl) (Nat.le_of_ble_eq_true rfl) ⟨rfl, rfl, _, A2, rfl, by
                have e9 : unS b e T o p = brS b e T o p := by
                  simp only [unS]
                  rw [if_neg (by rw [y40]; decide), if_pos y40]
                have e8 : apL (.inr (p, c0)) (unS b e T o) = apL (.inr (p, c0)) (brS b e T o) := by simp only [apL, sbind, e9]
                rw [e8]
                exact hL4⟩
    · exact absurd c4 (by decide)
end MLB
