/-! Serving: slabOf, leastMore, begin. -/
def amN (k : BS) (i : Nat) : Nat := (k.2.2.2 i).toNatClampNeg
def soN (k : BS) (i : Nat) : Nat := (k.2.1 i).toNatClampNeg
def rmN (f : Nat → Int32) (p : Nat) : Nat := (f (4 + p)).toNatClampNeg
/-- a book whose lines are fit for a county -/
def BKW (k : CS) (bk : BS) : Prop := bk.1 ≤ 6 ∧ ∀ i, i < bk.1 → (bk.2.1 i = nI (soN bk i) ∧ soN bk i < k.2.1) ∧ (bk.2.2.2 i = nI (amN bk i) ∧ 1 ≤ amN bk i ∧ amN bk i ≤ 60)
/-- what lies under slabs -/
def UW (f : Nat → Int32) : Prop := ∀ p, p < 8 → f (4 + p) = nI (rmN f p) ∧ rmN f p ≤ 99
abbrev elg (k : CS) (f : Nat → Int32) (bk : BS) (i p : Nat) : Prop := bk.2.2.1 i = k.2.2.1 p ∧ openC k f (soN bk i) p (bk.2.2.2 i)
def lnM (k : CS) (f : Nat → Int32) (bk : BS) (p : Nat) : Nat → Nat
  | 0 => 0
  | i + 1 => if elg k f bk i p then lnM k f bk p i + 2 ^ i else lnM k f bk p i
theorem lnM_lt {k : CS} {f : Nat → Int32} {bk : BS} {p : Nat} : ∀ n, lnM k f bk p n < 2 ^ n
  | 0 => Nat.one_pos
  | n + 1 => by
    have := lnM_lt (k := k) (f := f) (bk := bk) (p := p) n
    rw [lnM, Nat.pow_succ]
    split <;> omega
theorem lnM_bit {k : CS} {f : Nat → Int32} {bk : BS} {p : Nat} : ∀ n i, (lnM k f bk p n).testBit i = true ↔ i < n ∧ elg k f bk i p
  | 0, i => by simp [lnM]
  | n + 1, i => by
    have hl := lnM_lt (k := k) (f := f) (bk := bk) (p := p) n
    have ih := lnM_bit (k := k) (f := f) (bk := bk) (p := p) n i
    rw [lnM]
    split
    · next he =>
      rcases Nat.lt_trichotomy i n with hi | hi | hi
      · rw [Nat.add_comm, Nat.testBit_two_pow_add_gt hi, ih]
        exact ⟨fun z => ⟨by omega, z.2⟩, fun z => ⟨hi, z.2⟩⟩
      · subst hi
        rw [Nat.add_comm, Nat.testBit_two_pow_add_eq, Nat.testBit_lt_two_pow hl]
        exact ⟨fun _ => ⟨by omega, he⟩, fun _ => rfl⟩
      · rw [tb_big (n := n + 1) (by rw [Nat.pow_succ]; omega) hi]
        exact ⟨fun z => (by cases z), fun z => absurd z.1 (by omega)⟩
    · next he =>
      rw [ih]
      constructor
      · exact fun z => ⟨by omega, z.2⟩
      · intro z
        by_cases hq : i = n
        · subst hq; exact absurd z.2 he
        · exact ⟨by omega, z.2⟩
/-- lines of a kind, as bits -/
def wtM (bk : BS) (kd : Int32) : Nat → Nat
  | 0 => 0
  | i + 1 => if bk.2.2.1 i = kd then wtM bk kd i + 2 ^ i else wtM bk kd i
theorem wtM_lt {bk : BS} {kd : Int32} : ∀ n, wtM bk kd n < 2 ^ n
  | 0 => Nat.one_pos
  | n + 1 => by
    have := wtM_lt (bk := bk) (kd := kd) n
    rw [wtM, Nat.pow_succ]
    split <;> omega
theorem wtM_bit {bk : BS} {kd : Int32} : ∀ n i, (wtM bk kd n).testBit i = true ↔ i < n ∧ bk.2.2.1 i = kd
  | 0, i => by simp [wtM]
  | n + 1, i => by
    have hl := wtM_lt (bk := bk) (kd := kd) n
    have ih := wtM_bit (bk := bk) (kd := kd) n i
    rw [wtM]
    split
    · next he =>
      rcases Nat.lt_trichotomy i n with hi | hi | hi
      · rw [Nat.add_comm, Nat.testBit_two_pow_add_gt hi, ih]
        exact ⟨fun z => ⟨by omega, z.2⟩, fun z => ⟨hi, z.2⟩⟩
      · subst hi
        rw [Nat.add_comm, Nat.testBit_two_pow_add_eq, Nat.testBit_lt_two_pow hl]
        exact ⟨fun _ => ⟨by omega, he⟩, fun _ => rfl⟩
      · rw [tb_big (n := n + 1) (by rw [Nat.pow_succ]; omega) hi]
        exact ⟨fun z => (by cases z), fun z => absurd z.1 (by omega)⟩
    · next he =>
      rw [ih]
      constructor
      · exact fun z => ⟨by omega, z.2⟩
      · intro z
        by_cases hq : i = n
        · subst hq; exact absurd z.2 he
        · exact ⟨by omega, z.2⟩
theorem ma7 : ∀ n, n < 7 → ∀ s, s < 64 → s < 2 ^ n → (2 ^ n - 1) &&& (63 - s) = 2 ^ n - 1 - s := by decide +kernel
theorem ma8 : ∀ w, w < 64 → ∀ s, s < 64 → (s &&& (63 - w) = 0 ↔ s &&& w = s) := by decide +kernel
/-- sets of lines of a kind that, left out, leave what can be served -/
def candM (n sl : Nat) (A L R : Nat → Nat) (bk : BS) (kd : Int32) (s : Nat) : Prop := s < 2 ^ n ∧ s &&& wtM bk kd n = s ∧ rch n A L R 0 sl (2 ^ n - 1 - s) ∧ sumM A s n ≤ 99
def IsLeast (P : Nat → Prop) (g : Nat → Nat) (o : Option Nat) : Prop := match o with
  | none => ∀ s, ¬ P s
  | some x => (∃ s, P s ∧ g s = x) ∧ ∀ s, P s → x ≤ g s
theorem IsLeast_s {P : Nat → Prop} {g : Nat → Nat} {o : Option Nat} {c : Nat} (h : IsLeast (fun s => s < c ∧ P s) g o) (hn : ¬ P c ∨ ∃ x, o = some x ∧ x ≤ g c) : IsLeast (fun s => s < c + 1 ∧ P s) g o := by
  rcases o with _ | x
  · intro s hs
    by_cases hq : s = c
    · subst hq
      rcases hn with z | ⟨x, z, -⟩
      · exact z hs.2
      · cases z
    · exact h s ⟨by omega, hs.2⟩
  · obtain ⟨⟨s, h1, h2⟩, h3⟩ := h
    refine ⟨⟨s, ⟨by omega, h1.2⟩, h2⟩, fun s hs => ?_⟩
    by_cases hq : s = c
    · subst hq
      rcases hn with z | ⟨x', z, z2⟩
      · exact absurd hs.2 z
      · cases z; exact z2
    · exact h3 s ⟨by omega, hs.2⟩
theorem IsLeast_n {P : Nat → Prop} {g : Nat → Nat} {o : Option Nat} {c : Nat} (h : IsLeast (fun s => s < c ∧ P s) g o) (hp : P c) (hn : o = none ∨ ∃ x, o = some x ∧ g c < x) : IsLeast (fun s => s < c + 1 ∧ P s) g (some (g c)) := by
  refine ⟨⟨c, ⟨by omega, hp⟩, rfl⟩, fun s hs => ?_⟩
  by_cases hq : s = c
  · subst hq; exact Nat.le_refl _
  · rcases hn with rfl | ⟨x, rfl, hx⟩
    · exact absurd ⟨by omega, hs.2⟩ (h s)
    · exact Nat.le_of_lt (Nat.lt_of_lt_of_le hx (h.2 s ⟨by omega, hs.2⟩))
section SERV4
variable {G : mm_G} {l : Launch} {d nx : Nat} {h : Nat → mm_E} {n sl : Nat} {A L R : Nat → Nat} {V : VT} {bk : BS} {k : CS} {f : Nat → Int32}
theorem c_soulOf {i : Nat} (hd : 1 ≤ d) (hx : 34 ≤ nx) (hi : i < 6) (hB : BO h bk) : mm_Con G l yX0_soulOf cX0_soulOf 2 (some .int) d 0 0 [.ref 23, .int (nI i)] nx h (mm_ret (some (.int (bk.2.1 i))) nx h) := by
  obtain ⟨c1, c2, c3, c4, -⟩ := hB
  refine mm_start (lo := [some (.ref 23), some (.int (nI i))]) pn_X0 rfl rfl (Nat.le_of_ble_eq_true rfl) ?_
  refine mt_aload_n (pc := 0) dX0_soulOf_0 rfl ?_
  refine mt_get (pc := 1) gf_X0_9 dX0_soulOf_1 (by first | assumption | omega) (by repeat (first | exact hset_eq _ _ _ | assumption | rw [hset_ne (by first | assumption | decide | omega)])) rfl ?_
  refine mt_iload_n (pc := 4) dX0_soulOf_4 rfl ?_
  refine mt_cN (pc := 5) (c_entry (d := 0) (r := 24) (i := nI i) (by omega) c2 (by decide)) cal_X10_entry sta_X10_entry mn_X0_29 dX0_soulOf_5 (by first | assumption | (show _ ≤ d; omega)) ⟨(Nat.le_of_ble_eq_true rfl), (Nat.le_of_ble_eq_true rfl)⟩ rfl rfl (Nat.le_of_ble_eq_true rfl) ?_
  exact mt_iret rfl dX0_soulOf_8 (Nat.le_of_ble_eq_true rfl) (Nat.le_of_ble_eq_true rfl) ⟨by rw [mm_at_nI hi (by decide)], rfl, rfl⟩
theorem c_bkindOf {i : Nat} (hd : 1 ≤ d) (hx : 34 ≤ nx) (hi : i < 6) (hB : BO h bk) : mm_Con G l yX0_kindOf cX0_kindOf 2 (some .int) d 0 0 [.ref 23, .int (nI i)] nx h (mm_ret (some (.int (bk.2.2.1 i))) nx h) := by
  obtain ⟨c1, c2, c3, c4, -⟩ := hB
  refine mm_start (lo := [some (.ref 23), some (.int (nI i))]) pn_X0 rfl rfl (Nat.le_of_ble_eq_true rfl) ?_
  refine mt_aload_n (pc := 0) dX0_kindOf_0 rfl ?_
  refine mt_get (pc := 1) gf_X0_15 dX0_kindOf_1 (by first | assumption | omega) (by repeat (first | exact hset_eq _ _ _ | assumption | rw [hset_ne (by first | assumption | decide | omega)])) rfl ?_
  refine mt_iload_n (pc := 4) dX0_kindOf_4 rfl ?_
  refine mt_cN (pc := 5) (c_entry (d := 0) (r := 25) (i := nI i) (by omega) c3 (by decide)) cal_X10_entry sta_X10_entry mn_X0_29 dX0_kindOf_5 (by first | assumption | (show _ ≤ d; omega)) ⟨(Nat.le_of_ble_eq_true rfl), (Nat.le_of_ble_eq_true rfl)⟩ rfl rfl (Nat.le_of_ble_eq_true rfl) ?_
  exact mt_iret rfl dX0_kindOf_8 (Nat.le_of_ble_eq_true rfl) (Nat.le_of_ble_eq_true rfl) ⟨by rw [mm_at_nI hi (by decide)], rfl, rfl⟩
theorem c_amountOf {i : Nat} (hd : 1 ≤ d) (hx : 34 ≤ nx) (hi : i < 6) (hB : BO h bk) : mm_Con G l yX0_amountOf cX0_amountOf 2 (some .int) d 0 0 [.ref 23, .int (nI i)] nx h (mm_ret (some (.int (bk.2.2.2 i))) nx h) := by
  obtain ⟨c1, c2, c3, c4, -⟩ := hB
  refine mm_start (lo := [some (.ref 23), some (.int (nI i))]) pn_X0 rfl rfl (Nat.le_of_ble_eq_true rfl) ?_
  refine mt_aload_n (pc := 0) dX0_amountOf_0 rfl ?_
  refine mt_get (pc := 1) gf_X0_18 dX0_amountOf_1 (by first | assumption | omega) (by repeat (first | exact hset_eq _ _ _ | assumption | rw [hset_ne (by first | assumption | decide | omega)])) rfl ?_
  refine mt_iload_n (pc := 4) dX0_amountOf_4 rfl ?_
  refine mt_cN (pc := 5) (c_entry (d := 0) (r := 26) (i := nI i) (by omega) c4 (by decide)) cal_X10_entry sta_X10_entry mn_X0_29 dX0_amountOf_5 (by first | assumption | (show _ ≤ d; omega)) ⟨(Nat.le_of_ble_eq_true rfl), (Nat.le_of_ble_eq_true rfl)⟩ rfl rfl (Nat.le_of_ble_eq_true rfl) ?_
  exact mt_iret rfl dX0_amountOf_8 (Nat.le_of_ble_eq_true rfl) (Nat.le_of_ble_eq_true rfl) ⟨by rw [mm_at_nI hi (by decide)], rfl, rfl⟩
theorem slS_s {V : VT} {A L : Nat → Nat} {sl : Nat} {R0 : Nat → Nat} {i : Nat} : slS V A L sl R0 (i + 1) = match lsA V A L i (slS V A L sl R0 i).1 (slS V A L sl R0 i).2.2 sl with
    | some p => ((slS V A L sl R0 i).1 - (1000 + A i), some p, updN (slS V A L sl R0 i).2.2 p ((slS V A L sl R0 i).2.2 p - A i))
    | none => ((slS V A L sl R0 i).1, none, (slS V A L sl R0 i).2.2) := rfl
theorem c_slabOf {line : Nat} (hd : 5 ≤ d) (hx : 187 ≤ nx) (hl : line < n) (hV : VOK n sl A L V) (hS : SV h n sl A L R) : mm_Con G l yX5_slabOf cX5_slabOf 5 (some .int) d 0 0 [.ref 181, .int (nI line)] nx h (fun o n' m => o = .inl (some (.int (oI (slS V A L sl R (line + 1)).2.1))) ∧ n' = nx ∧ (∃ e, m = hset h 184 e) ∧ ∃ R', SV m n sl A L R') := by
  obtain ⟨h181, ⟨a0, h182, ha⟩, ⟨lo, h183, hlo⟩, ⟨ro, h184, hro⟩, ⟨su, h185, hsu⟩, hn, hsl, hA, hL, hR⟩ := id hS
  have hb0 := hV 0 R (by decide) hR
  have hb1 : V 0 R ≤ 20000 := by obtain ⟨⟨s, -, h2⟩, -⟩ := hb0; rw [← h2]; exact valM_le hn hA
  refine mm_start (lo := [some (.ref 181), some (.int (nI line)), none, none, none]) pn_X5 rfl rfl (Nat.le_of_ble_eq_true rfl) ?_
  refine mt_aload_n (pc := 0) dX5_slabOf_0 rfl ?_
  refine mt_iconst (pc := 1) (v := 0) dX5_slabOf_1 (by decide) ?_
  refine mt_aV (pc := 2) (c_bestFrom (d := 3) (first := 0) (Nat.le_refl 3) hx (by decide) hS) cal_X5_bestFrom vir_X5_bestFrom ml_X5_80 dX5_slabOf_2 (by first | assumption | omega) (by repeat (first | exact hset_eq _ _ _ | assumption | rw [hset_ne (by first | assumption | decide | omega)])) (by first | assumption | (show _ ≤ d; omega)) ⟨(Nat.le_of_ble_eq_true rfl), (Nat.le_of_ble_eq_true rfl)⟩ rfl rfl (Nat.le_of_ble_eq_true rfl) ?_ ?_
  · rintro x9 n9 k9 h9
    simp at h9
  · rintro v9 n9 k9 ⟨rfl, rfl, v, hv, e1, e2⟩
    cases hv
    refine ⟨rfl, ?_⟩
    obtain rfl := IsBest_u e2 hb0
    refine mt_istore_n (pc := 5) dX5_slabOf_5 (Nat.le_of_ble_eq_true rfl) rfl ?_
    refine mt_iconst (pc := 6) (v := (-1)) dX5_slabOf_6 (by decide) ?_
    refine mt_istore_n (pc := 7) dX5_slabOf_7 (Nat.le_of_ble_eq_true rfl) rfl ?_
    refine mt_iconst (pc := 8) (v := 0) dX5_slabOf_8 (by decide) ?_
    refine mt_istore (pc := 9) dX5_slabOf_9 (Nat.le_of_ble_eq_true rfl) rfl ?_
    refine mt_forE (pc := 11) (α := Nat → mm_E) (H := fun i (a : Nat → mm_E) => a) (L := fun i (a : Nat → mm_E) => [some (.ref 181), some (.int (nI line)), some (.int (nI (slS V A L sl R i).1)), some (.int (oI (slS V A L sl R i).2.1)), some (.int (nI i))]) (I := fun i (a : Nat → mm_E) => (∃ e, a = hset k9 184 e) ∧ SV a n sl A L (slS V A L sl R i).2.2 ∧ (slS V A L sl R i).1 ≤ 20000) (line + 1) (fun i a hi fi ni => ?_) (fun a fi => ?_) k9 (⟨⟨_, (hset_self rfl).symm⟩, hS, hb1⟩)
    · skip
      obtain ⟨⟨e9, g1⟩, g2, g3⟩ := fi
      have s181 := g2.1
      have hss := slS_s (V := V) (A := A) (L := L) (sl := sl) (R0 := R) (i := i)
      generalize slS V A L sl R i = w at g2 g3 hss
      obtain ⟨b, gv, Rc⟩ := w
      dsimp only at g2 g3 hss ⊢
      refine mt_iload (pc := 11) dX5_slabOf_11 rfl ?_
      refine mt_iload_n (pc := 13) dX5_slabOf_13 rfl ?_
      refine mt_icmp_gt (pc := 14) (tgt := 61) dX5_slabOf_14 (by decide) (fun c14 => ?_) (fun c14 => ?_)
      · exact absurd c14 (nI_nlt (a := line) (b := i) (by omega) (by omega))
      · skip
        refine mt_iload (pc := 17) dX5_slabOf_17 rfl ?_
        refine mt_aload_n (pc := 19) dX5_slabOf_19 rfl ?_
        refine mt_get (pc := 20) gf_X5_36 dX5_slabOf_20 (by first | assumption | omega) s181 rfl ?_
        refine mt_icmp_ge (pc := 23) (tgt := 61) dX5_slabOf_23 (by decide) (fun c23 => ?_) (fun c23 => ?_)
        · exact absurd c23 (nI_ge (by omega) (by omega))
        · skip
          refine mt_aload_n (pc := 26) dX5_slabOf_26 rfl ?_
          refine mt_iload (pc := 27) dX5_slabOf_27 rfl ?_
          refine mt_iload_n (pc := 29) dX5_slabOf_29 rfl ?_
          refine mt_aV (pc := 30) (c_leastSlab (d := 4) (line := i) (best := b) (Nat.le_refl 4) hx (by omega) (by omega) hV g2) cal_X5_leastSlab vir_X5_leastSlab ml_X5_83 dX5_slabOf_30 (by first | assumption | omega) s181 (by first | assumption | (show _ ≤ d; omega)) ⟨(Nat.le_of_ble_eq_true rfl), (Nat.le_of_ble_eq_true rfl)⟩ rfl rfl (Nat.le_of_ble_eq_true rfl) ?_ ?_
          · rintro x9 n9 k9 h9
            simp at h9
          · rintro v9 n9 k9 ⟨hv, rfl, ⟨e8, hm8⟩, g5⟩
            cases hv
            refine ⟨rfl, ?_⟩
            generalize hls : lsA V A L i b Rc sl = ls at hss g5
            refine mt_istore_n (pc := 33) dX5_slabOf_33 (Nat.le_of_ble_eq_true rfl) rfl ?_
            refine mt_iload_n (pc := 34) dX5_slabOf_34 rfl ?_
            refine mt_iconst (pc := 35) (v := (-1)) dX5_slabOf_35 (by decide) ?_
            refine mt_icmp_eq (pc := 36) (tgt := 55) dX5_slabOf_36 (by decide) (fun c36 => ?_) (fun c36 => ?_)
            · skip
              rcases ls with _ | p
              rotate_left
              · exact absurd c36 (nI_m1 (v := p) (hi := 8) (by have := lsA_lt sl hls; rw [show (8 : Int32).toInt = 8 from rfl]; omega))
              dsimp only at hss
              refine mt_iinc (pc := 55) (c9 := 1) dX5_slabOf_55 rfl (by decide) (Nat.le_of_ble_eq_true rfl) rfl ?_
              refine mt_goto (pc := 58) (tgt := 11) dX5_slabOf_58 (by decide) ?_
              rw [show (nI i + 1 : Int32) = nI (i + 1) from nI_1 i]
              have := ni k9 (by rw [hss]; exact ⟨⟨e8, by rw [hm8, g1, hset_hset]⟩, g5, g3⟩)
              rw [hss] at this
              exact this
            · skip
              rcases ls with _ | p
              · exact absurd rfl c36
              have hok := lsA_ok sl hls
              dsimp only at hss
              refine mt_iload_n (pc := 39) dX5_slabOf_39 rfl ?_
              refine mt_sipush (pc := 40) (v := 1000) dX5_slabOf_40 (by decide) ?_
              refine mt_aload_n (pc := 43) dX5_slabOf_43 rfl ?_
              refine mt_get (pc := 44) gf_X5_9 dX5_slabOf_44 (by first | assumption | omega) g5.1 rfl ?_
              refine mt_iload (pc := 47) dX5_slabOf_47 rfl ?_
              obtain ⟨a5, hq82, hq83⟩ := g5.2.1
              refine mt_cN (pc := 49) (c_entry (d := 0) (i := nI i) (by omega) hq82 (by decide)) cal_X10_entry sta_X10_entry mn_X5_73 dX5_slabOf_49 (by first | assumption | (show _ ≤ d; omega)) ⟨(Nat.le_of_ble_eq_true rfl), (Nat.le_of_ble_eq_true rfl)⟩ rfl rfl (Nat.le_of_ble_eq_true rfl) ?_
              rw [mm_at_nI (by omega) (by decide), hq83 i (by omega)]
              refine mt_iadd (pc := 52) dX5_slabOf_52 ?_
              rw [show (1000 : Int32) = nI 1000 from rfl, nI_add]
              refine mt_isub (pc := 53) dX5_slabOf_53 ?_
              rw [pk_sub (by have := hok.2.2; omega)]
              refine mt_istore_n (pc := 54) dX5_slabOf_54 (Nat.le_of_ble_eq_true rfl) rfl ?_
              refine mt_iinc (pc := 55) (c9 := 1) dX5_slabOf_55 rfl (by decide) (Nat.le_of_ble_eq_true rfl) rfl ?_
              refine mt_goto (pc := 58) (tgt := 11) dX5_slabOf_58 (by decide) ?_
              rw [show (nI i + 1 : Int32) = nI (i + 1) from nI_1 i]
              have := ni k9 (by rw [hss]; exact ⟨⟨e8, by rw [hm8, g1, hset_hset]⟩, g5, by dsimp only; omega⟩)
              rw [hss] at this
              exact this
    · skip
      obtain ⟨⟨e9, g1⟩, g2, g3⟩ := fi
      refine mt_iload (pc := 11) dX5_slabOf_11 rfl ?_
      refine mt_iload_n (pc := 13) dX5_slabOf_13 rfl ?_
      refine mt_icmp_gt (pc := 14) (tgt := 61) dX5_slabOf_14 (by decide) (fun c14 => ?_) (fun c14 => ?_)
      · skip
        refine mt_iload_n (pc := 61) dX5_slabOf_61 rfl ?_
        exact mt_iret rfl dX5_slabOf_62 (Nat.le_of_ble_eq_true rfl) (Nat.le_of_ble_eq_true rfl) ⟨rfl, rfl, ⟨e9, g1⟩, _, g2⟩
      · exact absurd (nI_lt (a := line) (b := line + 1) (by omega) (by omega)) c14
end SERV4
