/-! Serving (cells 181 to 185). -/
abbrev svE (n sl : Int32) : mm_E := .inr (5, [.ref 182, .ref 183, .ref 184, .ref 185, .int n, .int sl])
def sumM (A : Nat → Nat) (s : Nat) : Nat → Nat
  | 0 => 0
  | i + 1 => sumM A s i + s / 2 ^ i % 2 * A i
theorem sumM_le {A : Nat → Nat} {s c : Nat} : ∀ n, (∀ i, i < n → A i ≤ c) → sumM A s n ≤ n * c
  | 0, _ => Nat.zero_le _
  | n + 1, h => by
    have h1 := sumM_le (s := s) n (fun i hi => h i (by omega))
    have h2 := h n (by omega)
    have h3 : s / 2 ^ n % 2 * A n ≤ 1 * c := Nat.mul_le_mul (by omega) h2
    rw [sumM, Nat.succ_mul]
    omega
/-- the rows of those who are served: lines n, slabs sl, amounts A, who may (bits) L, room R -/
def SV (h : Nat → mm_E) (n sl : Nat) (A L R : Nat → Nat) : Prop := h 181 = svE (nI n) (nI sl) ∧ (∃ a, h 182 = iaE 6 a ∧ ∀ i, i < n → a i = nI (A i)) ∧ (∃ a, h 183 = iaE 8 a ∧ ∀ p, p < sl → a p = nI (L p)) ∧ (∃ a, h 184 = iaE 8 a ∧ ∀ p, p < sl → a p = nI (R p)) ∧ (∃ a, h 185 = iaE 64 a ∧ ∀ s, s < 2 ^ n → a s = nI (sumM A s n)) ∧ n ≤ 6 ∧ sl ≤ 8 ∧ (∀ i, i < n → A i ≤ 60) ∧ (∀ p, p < sl → L p < 2 ^ n) ∧ ∀ p, p < sl → R p ≤ 99
/-- sets that the first q slabs can serve, of lines from `first` on -/
def sub1 (L first t part : Nat) : Prop := ∀ i, part.testBit i = true → L.testBit i = true ∧ first ≤ i ∧ t.testBit i = false
def rch (n : Nat) (A L R : Nat → Nat) (first : Nat) : Nat → Nat → Prop
  | 0, s => s = 0
  | q + 1, s => rch n A L R first q s ∨ ∃ t, t < 2 ^ n ∧ rch n A L R first q t ∧ ∃ part, 0 < part ∧ part < 2 ^ n ∧ sub1 (L q) first t part ∧ sumM A part n ≤ R q ∧ s = t ||| part
theorem p2_6 {n : Nat} (h : n ≤ 6) : 2 ^ n ≤ 64 := Nat.pow_le_pow_right (by decide) h
theorem ma1 : ∀ l, l < 64 → ∀ first, first < 7 → nI l &&& (-((1 : Int32) <<< (nI first &&& 31))) = nI (l / 2 ^ first * 2 ^ first) := by decide +kernel
theorem ma2 : ∀ l, l < 64 → ∀ t, t < 64 → nI l &&& (nI t ^^^ (-1)) = nI (l &&& (63 - t)) := by decide +kernel
theorem ma3 : ∀ l, l < 64 → ∀ first, first < 7 → ∀ i, i < 6 → (l / 2 ^ first * 2 ^ first).testBit i = (decide (first ≤ i) && l.testBit i) := by decide +kernel
theorem ma4 : ∀ t, t < 64 → ∀ i, i < 6 → (63 - t).testBit i = !t.testBit i := by decide +kernel
theorem nd2 (a b : Nat) : (a &&& b) / 2 = a / 2 &&& b / 2 := by
  apply Nat.eq_of_testBit_eq
  intro i
  rw [Nat.testBit_div_two, Nat.testBit_and, Nat.testBit_and, Nat.testBit_div_two, Nat.testBit_div_two]
theorem nm2 (a b : Nat) : (a &&& b) % 2 = a % 2 * (b % 2) := by
  have h := Nat.testBit_and a b 0
  rw [Nat.testBit_zero, Nat.testBit_zero, Nat.testBit_zero] at h
  rcases Nat.mod_two_eq_zero_or_one a with ha | ha <;> rcases Nat.mod_two_eq_zero_or_one b with hb | hb <;> rcases Nat.mod_two_eq_zero_or_one (a &&& b) with hc | hc <;> rw [ha, hb, hc] at h <;> first | (simp at h; done) | (rw [ha, hb, hc])
theorem ma5 : ∀ {p m t : Nat}, p &&& m = p → t < p → t &&& m = t → t ≤ (p - 1) &&& m := by
  intro p
  induction p using Nat.strongRecOn with
  | ind p ih =>
    intro m t h1 ht h2
    have d1 := congrArg (· / 2) h1
    have d2 := congrArg (· / 2) h2
    have q1 := congrArg (· % 2) h1
    have q2 := congrArg (· % 2) h2
    simp only [nd2, nm2] at d1 d2 q1 q2
    have e1 := nd2 (p - 1) m
    have e2 := nm2 (p - 1) m
    rcases Nat.mod_two_eq_zero_or_one p with hp | hp
    · have h3 : (p - 1) / 2 = p / 2 - 1 := by omega
      have h4 : (p - 1) % 2 = 1 := by omega
      have h5 := ih (p / 2) (by omega) d1 (show t / 2 < p / 2 by omega) d2
      rw [h3] at e1
      rw [h4, Nat.one_mul] at e2
      have h6 : t % 2 ≤ m % 2 := by
        rcases Nat.mod_two_eq_zero_or_one m with hm | hm
        · rw [hm, Nat.mul_zero] at q2; omega
        · omega
      omega
    · have h3 : (p - 1) / 2 = p / 2 := by omega
      rw [h3, d1] at e1
      omega
theorem ma6 : ∀ l, l < 64 → ∀ first, first < 7 → l / 2 ^ first * 2 ^ first < 64 := by decide +kernel
theorem tb_big {n i s : Nat} (hs : s < 2 ^ n) (hi : n ≤ i) : s.testBit i = false := Nat.testBit_lt_two_pow (Nat.lt_of_lt_of_le hs (Nat.pow_le_pow_right (by decide) hi))
theorem and_sub {p m : Nat} : p &&& m = p ↔ ∀ i, p.testBit i = true → m.testBit i = true := by
  constructor
  · intro h i hi
    rw [← h, Nat.testBit_and, Bool.and_eq_true] at hi
    exact hi.2
  · intro h
    apply Nat.eq_of_testBit_eq
    intro i
    rw [Nat.testBit_and]
    rcases hp : p.testBit i with _ | _
    · rfl
    · rw [h i hp]; rfl
theorem sub1_m {n L first t part : Nat} (hn : n ≤ 6) (hL : L < 2 ^ n) (hf : first < 7) (ht : t < 2 ^ n) : (part < 2 ^ n ∧ sub1 L first t part) ↔ part &&& ((L / 2 ^ first * 2 ^ first) &&& (63 - t)) = part := by
  have h6 := p2_6 hn
  rw [and_sub]
  constructor
  · rintro ⟨hp, hs⟩ i hi
    have hi6 : i < 6 := by
      rcases Nat.lt_or_ge i 6 with z | z
      · exact z
      · rw [tb_big hp (by omega)] at hi; cases hi
    obtain ⟨h1, h2, h3⟩ := hs i hi
    rw [Nat.testBit_and, ma3 L (by omega) first hf i hi6, ma4 t (by omega) i hi6, h1, h3]
    simp [h2]
  · intro h
    have key : ∀ i, part.testBit i = true → L.testBit i = true ∧ first ≤ i ∧ t.testBit i = false := by
      intro i hi
      have h1 := h i hi
      have hi6 : i < 6 := by
        rcases Nat.lt_or_ge i 6 with z | z
        · exact z
        · rw [Nat.testBit_and, tb_big (n := 6) (s := 63 - t) (by omega) z, Bool.and_false] at h1; cases h1
      rw [Nat.testBit_and, ma3 L (by omega) first hf i hi6, ma4 t (by omega) i hi6] at h1
      simp at h1
      exact ⟨h1.1.2, h1.1.1, h1.2⟩
    refine ⟨?_, key⟩
    have e1 : part &&& L = part := and_sub.mpr (fun i hi => (key i hi).1)
    have e2 : part &&& L ≤ L := Nat.and_le_right
    omega
section SERV
variable {G : mm_G} {l : Launch} {d nx : Nat} {h : Nat → mm_E} {n sl : Nat} {A L R : Nat → Nat}
theorem shl1n {n : Nat} (hn : n ≤ 6) : (1 : Int32) <<< (nI n &&& 31) = nI (2 ^ n) := shl1 n (by omega)
theorem c_fillSums {a1 : Nat → Int32} {b1 : Nat → Int32} (hd : 1 ≤ d) (hx : 187 ≤ nx) (hn : n ≤ 6) (hA : ∀ i, i < n → A i ≤ 60) (h181 : h 181 = svE (nI n) (nI sl)) (h182 : h 182 = iaE 6 a1) (ha1 : ∀ i, i < n → a1 i = nI (A i)) (h185 : h 185 = iaE 64 b1) : mm_Con G l yX5_fillSums cX5_fillSums 4 none d 0 0 [.ref 181] nx h (fun o n' m => o = .inl none ∧ n' = nx ∧ ∃ b2, m = hset h 185 (iaE 64 b2) ∧ ∀ s, s < 2 ^ n → b2 s = nI (sumM A s n)) := by
  have h6 := p2_6 hn
  refine mm_start (lo := [some (.ref 181), none, none, none]) pn_X5 rfl rfl (Nat.le_of_ble_eq_true rfl) ?_
  refine mt_iconst (pc := 0) (v := 0) dX5_fillSums_0 (by decide) ?_
  refine mt_istore_n (pc := 1) dX5_fillSums_1 (Nat.le_of_ble_eq_true rfl) rfl ?_
  refine mt_heq (h' := hset h 185 (iaE 64 b1)) (hset_self h185).symm ?_
  refine mt_forE (pc := 2) (α := Nat → Int32) (H := fun c (b2 : Nat → Int32) => hset h 185 (iaE 64 b2)) (L := fun c (b2 : Nat → Int32) => [some (.ref 181), some (.int (nI c)), none, none]) (I := fun c (b2 : Nat → Int32) => ∀ s, s < c → b2 s = nI (sumM A s n)) (2 ^ n) (fun c b2 hc fc nc => ?_) (fun b2 fc => ?_) b1 (fun s hs => absurd hs (Nat.not_lt_zero s))
  · skip
    refine mt_iload_n (pc := 2) dX5_fillSums_2 rfl ?_
    refine mt_iconst (pc := 3) (v := 1) dX5_fillSums_3 (by decide) ?_
    refine mt_aload_n (pc := 4) dX5_fillSums_4 rfl ?_
    refine mt_get (pc := 5) gf_X5_36 dX5_fillSums_5 (by first | assumption | omega) ((hset_ne (by decide)).trans h181) rfl ?_
    refine mt_ishl (pc := 8) dX5_fillSums_8 ?_
    rw [shl1n hn]
    refine mt_icmp_ge (pc := 9) (tgt := 62) dX5_fillSums_9 (by decide) (fun c9 => ?_) (fun c9 => ?_)
    · exact absurd c9 (nI_ge hc (by omega))
    · skip
      refine mt_iconst (pc := 12) (v := 0) dX5_fillSums_12 (by decide) ?_
      refine mt_istore_n (pc := 13) dX5_fillSums_13 (Nat.le_of_ble_eq_true rfl) rfl ?_
      refine mt_iconst (pc := 14) (v := 0) dX5_fillSums_14 (by decide) ?_
      refine mt_istore_n (pc := 15) dX5_fillSums_15 (Nat.le_of_ble_eq_true rfl) rfl ?_
      refine mt_for (pc := 16) (H := fun i => hset h 185 (iaE 64 b2)) (L := fun i => [some (.ref 181), some (.int (nI c)), some (.int (nI (sumM A c i))), some (.int (nI i))]) n (fun i hi ni => ?_) ?_
      · skip
        refine mt_iload_n (pc := 16) dX5_fillSums_16 rfl ?_
        refine mt_aload_n (pc := 17) dX5_fillSums_17 rfl ?_
        refine mt_get (pc := 18) gf_X5_36 dX5_fillSums_18 (by first | assumption | omega) ((hset_ne (by decide)).trans h181) rfl ?_
        refine mt_icmp_ge (pc := 21) (tgt := 47) dX5_fillSums_21 (by decide) (fun c21 => ?_) (fun c21 => ?_)
        · exact absurd c21 (nI_ge hi (by omega))
        · skip
          refine mt_iload_n (pc := 24) dX5_fillSums_24 rfl ?_
          refine mt_iload_n (pc := 25) dX5_fillSums_25 rfl ?_
          refine mt_iload_n (pc := 26) dX5_fillSums_26 rfl ?_
          refine mt_ishr (pc := 27) dX5_fillSums_27 ?_
          refine mt_iconst (pc := 28) (v := 1) dX5_fillSums_28 (by decide) ?_
          refine mt_iand (pc := 29) dX5_fillSums_29 ?_
          refine mt_aload_n (pc := 30) dX5_fillSums_30 rfl ?_
          refine mt_get (pc := 31) gf_X5_9 dX5_fillSums_31 (by first | assumption | omega) ((hset_ne (by decide)).trans h181) rfl ?_
          refine mt_iload_n (pc := 34) dX5_fillSums_34 rfl ?_
          refine mt_cN (pc := 35) (c_entry (d := 0) (i := nI i) (by omega) ((hset_ne (by decide)).trans h182) (by decide)) cal_X10_entry sta_X10_entry mn_X5_73 dX5_fillSums_35 (by first | assumption | (show _ ≤ d; omega)) ⟨(Nat.le_of_ble_eq_true rfl), (Nat.le_of_ble_eq_true rfl)⟩ rfl rfl (Nat.le_of_ble_eq_true rfl) ?_
          rw [mm_at_nI (by omega) (by decide), ha1 i hi, bit32 (by omega) (by omega)]
          refine mt_imul (pc := 38) dX5_fillSums_38 ?_
          refine mt_iadd (pc := 39) dX5_fillSums_39 ?_
          rw [pk_mul, nI_add]
          refine mt_istore_n (pc := 40) dX5_fillSums_40 (Nat.le_of_ble_eq_true rfl) rfl ?_
          refine mt_iinc (pc := 41) (c9 := 1) dX5_fillSums_41 rfl (by decide) (Nat.le_of_ble_eq_true rfl) rfl ?_
          refine mt_goto (pc := 44) (tgt := 16) dX5_fillSums_44 (by decide) ?_
          rw [show (nI i + 1 : Int32) = nI (i + 1) from nI_1 i]
          first
            | exact ni
            | exact mt_fg (by repeat (first | exact trivial | refine ⟨rfl, ?_⟩ | rfl)) ni
      · skip
        refine mt_iload_n (pc := 16) dX5_fillSums_16 rfl ?_
        refine mt_aload_n (pc := 17) dX5_fillSums_17 rfl ?_
        refine mt_get (pc := 18) gf_X5_36 dX5_fillSums_18 (by first | assumption | omega) ((hset_ne (by decide)).trans h181) rfl ?_
        refine mt_icmp_ge (pc := 21) (tgt := 47) dX5_fillSums_21 (by decide) (fun c21 => ?_) (fun c21 => ?_)
        · skip
          refine mt_aload_n (pc := 47) dX5_fillSums_47 rfl ?_
          refine mt_get (pc := 48) gf_X5_21 dX5_fillSums_48 (by first | assumption | omega) ((hset_ne (by decide)).trans h181) rfl ?_
          refine mt_iload_n (pc := 51) dX5_fillSums_51 rfl ?_
          refine mt_iload_n (pc := 52) dX5_fillSums_52 rfl ?_
          refine mt_cN (pc := 53) (c_setEntry (d := 0) (i := nI c) (by omega) (hset_eq _ _ _) (by decide)) cal_X10_setEntry sta_X10_setEntry mn_X5_53 dX5_fillSums_53 (by first | assumption | (show _ ≤ d; omega)) ⟨(Nat.le_of_ble_eq_true rfl), (Nat.le_of_ble_eq_true rfl)⟩ rfl rfl (Nat.le_of_ble_eq_true rfl) ?_
          rw [mm_wr_nI (by omega) (by decide), hset_hset]
          refine mt_iinc (pc := 56) (c9 := 1) dX5_fillSums_56 rfl (by decide) (Nat.le_of_ble_eq_true rfl) rfl ?_
          refine mt_goto (pc := 59) (tgt := 2) dX5_fillSums_59 (by decide) ?_
          rw [show (nI c + 1 : Int32) = nI (c + 1) from nI_1 c]
          refine mt_fg (by repeat (first | exact trivial | refine ⟨rfl, ?_⟩ | rfl)) (nc _ (fun s hs => ?_))
          by_cases hq : s = c
          · subst hq; exact upd_eq _ _ _
          · rw [upd_ne hq]; exact fc s (by omega)
        · exact absurd (nI_le (Nat.le_refl _) (by omega)) c21
  · skip
    refine mt_iload_n (pc := 2) dX5_fillSums_2 rfl ?_
    refine mt_iconst (pc := 3) (v := 1) dX5_fillSums_3 (by decide) ?_
    refine mt_aload_n (pc := 4) dX5_fillSums_4 rfl ?_
    refine mt_get (pc := 5) gf_X5_36 dX5_fillSums_5 (by first | assumption | omega) ((hset_ne (by decide)).trans h181) rfl ?_
    refine mt_ishl (pc := 8) dX5_fillSums_8 ?_
    rw [shl1n hn]
    refine mt_icmp_ge (pc := 9) (tgt := 62) dX5_fillSums_9 (by decide) (fun c9 => ?_) (fun c9 => ?_)
    · skip
      exact mt_vret rfl dX5_fillSums_62 (Nat.le_of_ble_eq_true rfl) (Nat.le_of_ble_eq_true rfl) ⟨rfl, rfl, b2, rfl, fc⟩
    · exact absurd (nI_le (Nat.le_refl _) (by omega)) c9
theorem c_joined {t m : Nat} {free : Nat} (hd : 1 ≤ d) (hx : 187 ≤ nx) (hfr : free < 1000) (ht : t < 64) (hm : m < 2 ^ n) (hS : SV h n sl A L R) : mm_Con G l yX5_joined cX5_joined 7 (some .long) d 0 0 [.ref 181, .int (nI t), .int (nI m), .int (nI free)] nx h (fun o n' k => n' = nx ∧ k = h ∧ ∃ ρ, o = .inl (some (.long (lN ρ))) ∧ ρ < 2 ^ 64 ∧ ∀ s, s < 64 → (ρ.testBit s = true ↔ ∃ part, 0 < part ∧ part &&& m = part ∧ sumM A part n ≤ free ∧ s = t ||| part)) := by
  obtain ⟨h181, ⟨a, h182, ha⟩, ⟨lo, h183, hlo⟩, ⟨ro, h184, hro⟩, ⟨su, h185, hsu⟩, hn, hsl, hA, hL, hR⟩ := hS
  have h6 := p2_6 hn
  have hor : ∀ x, x < 64 → t ||| x < 64 := fun x hx => Nat.or_lt_two_pow (n := 6) ht hx
  refine mm_start (lo := [some (.ref 181), some (.int (nI t)), some (.int (nI m)), some (.int (nI free)), none, none, none]) pn_X5 rfl rfl (Nat.le_of_ble_eq_true rfl) ?_
  refine mt_lconst (pc := 0) (v := 0) dX5_joined_0 (by decide) ?_
  refine mt_lstore (pc := 1) dX5_joined_1 (Nat.le_of_ble_eq_true rfl) rfl ?_
  refine mt_iload_n (pc := 3) dX5_joined_3 rfl ?_
  refine mt_istore (pc := 4) dX5_joined_4 (Nat.le_of_ble_eq_true rfl) rfl ?_
  refine mt_forE (pc := 6) (α := Nat × Nat) (H := fun c (q : Nat × Nat) => h) (L := fun c (q : Nat × Nat) => [some (.ref 181), some (.int (nI t)), some (.int (nI m)), some (.int (nI free)), some (.long (lN q.2)), none, some (.int (nI q.1))]) (I := fun c (q : Nat × Nat) => q.1 + c ≤ 64 ∧ q.1 < 2 ^ n ∧ q.1 &&& m = q.1 ∧ q.2 < 2 ^ 64 ∧ ∀ s, s < 64 → (q.2.testBit s = true ↔ ∃ part, q.1 < part ∧ part &&& m = part ∧ sumM A part n ≤ free ∧ s = t ||| part)) 64 (fun c q hc fc nc => ?_) (fun q fc => ?_) ((m, 0)) (⟨by dsimp only; omega, hm, Nat.and_self m, Nat.two_pow_pos 64, fun s hs => ⟨fun z => by simp at z, fun ⟨part, z1, z2, _⟩ => by have : part &&& m ≤ m := Nat.and_le_right; dsimp only at z1; omega⟩⟩)
  · skip
    obtain ⟨q, ρ⟩ := q
    obtain ⟨g1, g2, g3, g4, g5⟩ := fc
    dsimp only at g1 g2 g3 g4 g5 ⊢
    refine mt_iload (pc := 6) dX5_joined_6 rfl ?_
    refine mt_if_le (pc := 8) (tgt := 46) dX5_joined_8 (by decide) (fun c8 => ?_) (fun c8 => ?_)
    · skip
      obtain rfl : q = 0 := Nat.eq_zero_of_not_pos fun z => nI_ge (b := q) z (by omega) c8
      skip
      refine mt_lload (pc := 46) dX5_joined_46 rfl ?_
      exact mt_lret rfl dX5_joined_48 (Nat.le_of_ble_eq_true rfl) (Nat.le_of_ble_eq_true rfl) ⟨rfl, rfl, ρ, rfl, g4, g5⟩
    · skip
      have hq0 : 0 < q := Nat.pos_of_ne_zero fun z => c8 (by rw [z]; decide)
      refine mt_aload_n (pc := 11) dX5_joined_11 rfl ?_
      refine mt_get (pc := 12) gf_X5_21 dX5_joined_12 (by first | assumption | omega) (by repeat (first | exact hset_eq _ _ _ | assumption | rw [hset_ne (by first | assumption | decide | omega)])) rfl ?_
      refine mt_iload (pc := 15) dX5_joined_15 rfl ?_
      refine mt_cN (pc := 17) (c_entry (d := 0) (i := nI q) (by omega) h185 (by decide)) cal_X10_entry sta_X10_entry mn_X5_73 dX5_joined_17 (by first | assumption | (show _ ≤ d; omega)) ⟨(Nat.le_of_ble_eq_true rfl), (Nat.le_of_ble_eq_true rfl)⟩ rfl rfl (Nat.le_of_ble_eq_true rfl) ?_
      rw [mm_at_nI (by omega) (by decide), hsu q g2]
      refine mt_iload_n (pc := 20) dX5_joined_20 rfl ?_
      refine mt_icmp_gt (pc := 21) (tgt := 35) dX5_joined_21 (by decide) (fun c21 => ?_) (fun c21 => ?_)
      · skip
        have hno : ¬ sumM A q n ≤ free := fun z => nI_nlt (a := free) (b := sumM A q n) z (by omega) c21
        refine mt_iload (pc := 35) dX5_joined_35 rfl ?_
        refine mt_iconst (pc := 37) (v := 1) dX5_joined_37 (by decide) ?_
        refine mt_isub (pc := 38) dX5_joined_38 ?_
        refine mt_iload_n (pc := 39) dX5_joined_39 rfl ?_
        refine mt_iand (pc := 40) dX5_joined_40 ?_
        rw [show (nI q - 1 : Int32) = nI (q - 1) by rw [show (1 : Int32) = nI 1 from rfl, pk_sub (by omega)], fa_and]
        refine mt_istore (pc := 41) dX5_joined_41 (Nat.le_of_ble_eq_true rfl) rfl ?_
        refine mt_goto (pc := 43) (tgt := 6) dX5_joined_43 (by decide) ?_
        refine mt_forget 5 ?_
        have hle : (q - 1) &&& m ≤ q - 1 := Nat.and_le_left
        have hsame : ((q - 1) &&& m) &&& m = (q - 1) &&& m := by rw [Nat.and_assoc, Nat.and_self]
        have key : ∀ part, part &&& m = part → ((q - 1) &&& m < part ↔ part = q ∨ q < part) := by
          intro part hpm
          constructor
          · intro z
            rcases Nat.lt_trichotomy part q with y | y | y
            · have := ma5 (m := m) g3 y hpm; omega
            · exact Or.inl y
            · exact Or.inr y
          · intro z; rcases z with z | z <;> omega
        refine nc ((q - 1) &&& m, ρ) ⟨by dsimp only; omega, by dsimp only; omega, hsame, g4, fun s hs => ?_⟩
        rw [g5 s hs]
        constructor
        · rintro ⟨part, z1, z2, z3, z4⟩
          exact ⟨part, (key part z2).mpr (Or.inr z1), z2, z3, z4⟩
        · rintro ⟨part, z1, z2, z3, z4⟩
          rcases (key part z2).mp z1 with rfl | z1
          · exact absurd z3 hno
          · exact ⟨part, z1, z2, z3, z4⟩
      · skip
        have hyes : sumM A q n ≤ free := Nat.le_of_not_lt fun z => c21 (nI_lt z (by have := sumM_le (s := q) n hA; omega))
        refine mt_lload (pc := 24) dX5_joined_24 rfl ?_
        refine mt_lconst (pc := 26) (v := 1) dX5_joined_26 (by decide) ?_
        refine mt_iload_n (pc := 27) dX5_joined_27 rfl ?_
        refine mt_iload (pc := 28) dX5_joined_28 rfl ?_
        refine mt_ior (pc := 30) dX5_joined_30 ?_
        rw [fa_or]
        refine mt_lshl (pc := 31) dX5_joined_31 rfl ?_
        rw [show (1 : Int64) = lN 1 from rfl, wb_shl 1 (hor q (by omega)), Nat.one_mul]
        refine mt_lor (pc := 32) dX5_joined_32 ?_
        rw [wb_or g4 (Nat.pow_lt_pow_right (by decide) (hor q (by omega)))]
        refine mt_lstore (pc := 33) dX5_joined_33 (Nat.le_of_ble_eq_true rfl) rfl ?_
        refine mt_iload (pc := 35) dX5_joined_35 rfl ?_
        refine mt_iconst (pc := 37) (v := 1) dX5_joined_37 (by decide) ?_
        refine mt_isub (pc := 38) dX5_joined_38 ?_
        refine mt_iload_n (pc := 39) dX5_joined_39 rfl ?_
        refine mt_iand (pc := 40) dX5_joined_40 ?_
        rw [show (nI q - 1 : Int32) = nI (q - 1) by rw [show (1 : Int32) = nI 1 from rfl, pk_sub (by omega)], fa_and]
        refine mt_istore (pc := 41) dX5_joined_41 (Nat.le_of_ble_eq_true rfl) rfl ?_
        refine mt_goto (pc := 43) (tgt := 6) dX5_joined_43 (by decide) ?_
        refine mt_forget 5 ?_
        have hle : (q - 1) &&& m ≤ q - 1 := Nat.and_le_left
        have hsame : ((q - 1) &&& m) &&& m = (q - 1) &&& m := by rw [Nat.and_assoc, Nat.and_self]
        have key : ∀ part, part &&& m = part → ((q - 1) &&& m < part ↔ part = q ∨ q < part) := by
          intro part hpm
          constructor
          · intro z
            rcases Nat.lt_trichotomy part q with y | y | y
            · have := ma5 (m := m) g3 y hpm; omega
            · exact Or.inl y
            · exact Or.inr y
          · intro z; rcases z with z | z <;> omega
        refine nc ((q - 1) &&& m, ρ ||| 2 ^ (t ||| q)) ⟨by dsimp only; omega, by dsimp only; omega, hsame, Nat.or_lt_two_pow g4 (Nat.pow_lt_pow_right (by decide) (hor q (by omega))), fun s hs => ?_⟩
        dsimp only
        rw [Nat.testBit_or, Bool.or_eq_true, g5 s hs, Nat.testBit_two_pow, decide_eq_true_iff]
        constructor
        · rintro (⟨part, z1, z2, z3, z4⟩ | z)
          · exact ⟨part, (key part z2).mpr (Or.inr z1), z2, z3, z4⟩
          · exact ⟨q, (key q g3).mpr (Or.inl rfl), g3, hyes, z.symm⟩
        · rintro ⟨part, z1, z2, z3, z4⟩
          rcases (key part z2).mp z1 with rfl | z1
          · exact Or.inr z4.symm
          · exact Or.inl ⟨part, z1, z2, z3, z4⟩
  · skip
    obtain ⟨q, ρ⟩ := q
    obtain ⟨g1, g2, g3, g4, g5⟩ := fc
    dsimp only at g1 g2 g3 g4 g5 ⊢
    obtain rfl : q = 0 := by omega
    refine mt_iload (pc := 6) dX5_joined_6 rfl ?_
    refine mt_if_le (pc := 8) (tgt := 46) dX5_joined_8 (by decide) (fun c8 => ?_) (fun c8 => ?_)
    · skip
      skip
      refine mt_lload (pc := 46) dX5_joined_46 rfl ?_
      exact mt_lret rfl dX5_joined_48 (Nat.le_of_ble_eq_true rfl) (Nat.le_of_ble_eq_true rfl) ⟨rfl, rfl, ρ, rfl, g4, g5⟩
    · exact absurd (by decide) c8
end SERV
