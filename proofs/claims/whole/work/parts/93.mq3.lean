/-! The reference's questions: trust, shut, worth, late, kind, ahead, broke, cheapest. -/
theorem trus_s (k : CS) (f : Nat → Int32) (p : Nat) (n : Int32) (a : Nat) : trusF k f p n (a + 1) = if clC k f a p n then trusF k f p n a ||| ((1 : Int32) <<< (nI a &&& 31)) else trusF k f p n a := rfl
theorem shut_s (k : CS) (f : Nat → Int32) (a : Nat) : shutF k f (a + 1) = if anyL k f a k.1 = true then shutF k f a else shutF k f a ||| ((1 : Int32) <<< (nI a &&& 31)) := rfl
theorem anyL_s (k : CS) (f : Nat → Int32) (a c : Nat) : anyL k f a (c + 1) = (anyL k f a c || decide (clC k f a c 1)) := rfl
/-- late ones, and those that aren't -/
theorem late_c {f : Nat → Int32} {a : Int32} (hn : nlo f ≤ 10) (hov : ∀ i, i < nlo f → f (24 + 6 * i + 5) = 0 ∨ f (24 + 6 * i + 5) = 1) : lwF f 0 a &&& (lwF f 5 1 ^^^ (-1)) = lwF f 0 a &&& lwF f 5 0 := by
  obtain ⟨m0, a1, a2, a3⟩ := lwG_n (f := f) (j := 0) (v := a) (nlo f) hn
  obtain ⟨m1, b1, b2, b3⟩ := lwG_n (f := f) (j := 5) (v := 1) (nlo f) hn
  obtain ⟨m2, c1, c2, c3⟩ := lwG_n (f := f) (j := 5) (v := 0) (nlo f) hn
  have hp : 2 ^ nlo f ≤ 2 ^ 10 := pow_mono hn
  rw [show lwF f 0 a = lwG f 0 a (nlo f) from rfl, show lwF f 5 1 = lwG f 5 1 (nlo f) from rfl, show lwF f 5 0 = lwG f 5 0 (nlo f) from rfl, a1, b1, c1]
  apply Int32.toBitVec_inj.mp
  show BitVec.ofNat 32 m0 &&& (BitVec.ofNat 32 m1 ^^^ BitVec.allOnes 32) = BitVec.ofNat 32 m0 &&& BitVec.ofNat 32 m2
  apply BitVec.eq_of_getLsbD_eq
  intro i hi
  rw [BitVec.getLsbD_and, BitVec.getLsbD_and, BitVec.getLsbD_xor, BitVec.getLsbD_allOnes, BitVec.getLsbD_ofNat, BitVec.getLsbD_ofNat, BitVec.getLsbD_ofNat]
  simp only [hi, decide_true, Bool.true_and, Bool.xor_true]
  have tb : ∀ m j, Nat.testBit m j = decide (m / 2 ^ j % 2 = 1) := fun m j => by rw [Nat.testBit_eq_decide_div_mod_eq]
  by_cases hin : i < nlo f
  · rw [tb m1, tb m2, b3 i hin, c3 i hin]
    rcases hov i hin with z | z
    · rw [z]
      simp
    · rw [z]
      simp
  · have hz : m0.testBit i = false := by
      rw [tb, bit_hi a2 (by omega)]
      rfl
    rw [hz]
    simp
theorem add_rot (x y z : Int32) : x + (y + z) = x + y + z := (Int32.add_assoc x y z).symm
theorem add_swp (x y z : Int32) : x + y + z = x + z + y := by rw [Int32.add_assoc, Int32.add_comm y z, ← Int32.add_assoc]
def kgF (k : CS) (kd : Int32) (F : Nat → Int32) : Nat → Int32 := fld (fun p acc => if k.2.2.1 p = kd then acc + F p else acc) 0
theorem kgF_s (k : CS) (kd : Int32) (F : Nat → Int32) (p : Nat) : kgF k kd F (p + 1) = if k.2.2.1 p = kd then kgF k kd F p + F p else kgF k kd F p := rfl
theorem kgF_one {k : CS} {kd m : Int32} {F F' : Nat → Int32} {s : Nat} : ∀ N, (∀ p, p < N → F' p = if s = p then F p + m else F p) → kgF k kd F' N = kgF k kd F N + (if s < N ∧ k.2.2.1 s = kd then m else 0)
  | 0, _ => by rw [if_neg (fun z => absurd z.1 (Nat.not_lt_zero s)), add_0]; rfl
  | N + 1, h => by
    have ih := kgF_one (k := k) (kd := kd) (m := m) (F := F) (F' := F') (s := s) N (fun p hp => h p (by omega))
    rw [kgF_s, kgF_s, ih, h N (by omega)]
    by_cases hs : s = N
    · subst hs
      rw [show (if s < s ∧ k.2.2.1 s = kd then m else 0) = 0 from if_neg (fun z => Nat.lt_irrefl _ z.1), add_0, if_pos rfl]
      by_cases hk : k.2.2.1 s = kd
      · rw [if_pos hk, if_pos hk, show (if s < s + 1 ∧ k.2.2.1 s = kd then m else 0) = m from if_pos ⟨by omega, hk⟩, add_rot]
      · rw [if_neg hk, if_neg hk, show (if s < s + 1 ∧ k.2.2.1 s = kd then m else 0) = 0 from if_neg (fun z => hk z.2), add_0]
    · rw [if_neg hs]
      by_cases hk : s < N ∧ k.2.2.1 s = kd
      · rw [show (if s < N ∧ k.2.2.1 s = kd then m else 0) = m from if_pos hk, show (if s < N + 1 ∧ k.2.2.1 s = kd then m else 0) = m from if_pos ⟨by omega, hk.2⟩]
        by_cases hN : k.2.2.1 N = kd
        · rw [if_pos hN, if_pos hN, add_swp]
        · rw [if_neg hN, if_neg hN]
      · rw [show (if s < N ∧ k.2.2.1 s = kd then m else 0) = 0 from if_neg hk, show (if s < N + 1 ∧ k.2.2.1 s = kd then m else 0) = 0 from if_neg (fun z => hk ⟨by omega, z.2⟩), add_0, add_0]
/-- what is lent by kind, SLAB by SLAB or LOAN by LOAN -/
def klF (k : CS) (f : Nat → Int32) (kd : Int32) : Nat → Int32 := fld (fun l acc => acc + (if k.2.2.1 (lslab f l) = kd then f (24 + 6 * l + 2) else 0)) 0
theorem klF_s (k : CS) (f : Nat → Int32) (kd : Int32) (l : Nat) : klF k f kd (l + 1) = klF k f kd l + (if k.2.2.1 (lslab f l) = kd then f (24 + 6 * l + 2) else 0) := rfl
theorem kgF_0 {k : CS} {kd : Int32} : ∀ N, kgF k kd (fun _ => 0) N = 0
  | 0 => rfl
  | N + 1 => by
    rw [kgF_s, kgF_0 N, add_0]
    split <;> rfl
theorem kl_kg {k : CS} {f : Nat → Int32} {kd : Int32} {n : Nat} (hk1 : k.1 ≤ 8) (hsl : ∀ i, i < n → f (24 + 6 * i + 1) = nI (lslab f i) ∧ lslab f i < k.1) : ∀ c, c ≤ n → klF k f kd c = kgF k kd (fun p => ltG f 1 (nI p) c) k.1
  | 0, _ => (kgF_0 k.1).symm
  | c + 1, hc => by
    have ih := kl_kg (kd := kd) hk1 hsl c (by omega)
    obtain ⟨s1, s2⟩ := hsl c (by omega)
    show klF k f kd c + _ = _
    rw [kgF_one (k := k) (kd := kd) (m := f (24 + 6 * c + 2)) (F := fun p => ltG f 1 (nI p) c) (s := lslab f c) k.1 (fun p hp => ?_), ← ih]
    · congr 1
      by_cases z : k.2.2.1 (lslab f c) = kd
      · rw [if_pos z, if_pos ⟨s2, z⟩]
      · rw [if_neg z, if_neg (fun y => z y.2)]
    · show (if f (24 + 6 * c + 1) = nI p then ltG f 1 (nI p) c + f (24 + 6 * c + 2) else ltG f 1 (nI p) c) = _
      rw [s1]
      by_cases z : lslab f c = p
      · rw [if_pos (by rw [z]), if_pos z]
      · rw [if_neg (fun y => z ((nI_eq (by omega) (by omega)).mp y)), if_neg z]
theorem kind_1 {k : CS} {f : Nat → Int32} {kd : Int32} (hk1 : k.1 ≤ 8) (hI : RI k f) : klF k f kd (nlo f) = kindF k f kd 1 k.1 := by
  rw [kl_kg hk1 (fun i hi => ⟨(hI.nl.2.2.sl hi).1, (hI.2.2.2.2.2.2 i hi).2.1⟩) _ (Nat.le_refl _)]
  unfold kgF kindF
  refine fld_cg _ (fun p x hp => ?_)
  rw [if_neg (show ¬ (1 : Int32) = 0 by decide)]
  rfl
theorem kind_0 {k : CS} {f : Nat → Int32} {kd : Int32} : kgF k kd (fun p => f (4 + p)) k.1 = kindF k f kd 0 k.1 := by
  unfold kgF kindF
  refine fld_cg _ (fun p x hp => ?_)
  rw [if_pos rfl]
/-- what is owed in all stays small -/
theorem owA_b {k : CS} {cs : List Nat} {f : Nat → Int32} {w : Int32} : ∀ n, ∃ u, owA k cs f w n = nI u ∧ u ≤ 200 * n
  | 0 => ⟨0, rfl, by decide⟩
  | n + 1 => by
    obtain ⟨u, u1, u2⟩ := owA_b (k := k) (cs := cs) (f := f) (w := w) n
    obtain ⟨v, v1, v2⟩ := owI_b k cs f n
    show ∃ u, (if w = -1 ∨ f (24 + 6 * n + 0) = w then owA k cs f w n + owI k cs f n else owA k cs f w n) = nI u ∧ _
    by_cases h : w = -1 ∨ f (24 + 6 * n + 0) = w
    · rw [if_pos h, u1, v1, nI_add]
      exact ⟨u + v, rfl, by omega⟩
    · rw [if_neg h]
      exact ⟨u, u1, by omega⟩
theorem sub_neg {a b : Nat} (ha : a < 2 ^ 30) (hb : b < 2 ^ 30) : 0 ≤ nI a - nI b ↔ ¬ nI a < nI b := by
  rw [Int32.le_iff_toInt_le, pk_sub_toInt ha hb, Int32.lt_iff_toInt_lt, nI_toInt (by omega), nI_toInt (by omega), show (0 : Int32).toInt = 0 from rfl]
  omega
theorem nigN_s (f : Nat → Int32) (c : Nat) : nigN f (c + 1) = nigF (nigN f c) (nlo (nigN f c)) := rfl
theorem nigN_RJ {N : Nat} {k : CS} {f : Nat → Int32} (hk : k.1 ≤ 8) (h : RJ N k f) : ∀ c, N + c ≤ 1000 → RJ (N + c) k (nigN f c)
  | 0, _ => h
  | c + 1, hc => nig_RJ (N := N + c) hk (by omega) (nigN_RJ hk h c (by omega))
theorem che_s (k : CS) (cs : List Nat) (f : Nat → Int32) (a : Nat) (kd n t : Int32) (p : Nat) : cheF k cs f a kd n t (p + 1) = if k.2.2.1 p = kd ∧ clC k f a p n then (if (cheF k cs f a kd n t p).1 = -1 ∨ cheV k cs f a p n t < (cheF k cs f a kd n t p).2 then (nI p, cheV k cs f a p n t) else cheF k cs f a kd n t p) else cheF k cs f a kd n t p := rfl
section MQD
variable {G : mm_G} {l : Launch} {d nx : Nat} {h : Nat → mm_E} {g : MG} {A : MA} {k : CS} {cs : List Nat} {f : Nat → Int32} {bk : BS}
theorem n_trust {p x : Int32} (hd : 4 ≤ d) (hx : 215 ≤ nx) (hQ : MQs k cs g A) (hR : RR (A 205) f) (hI : RI k f) : mm_Con G l yX11_trust cX11_trust 5 (some .int) d 0 0 [.ref 188, .int p, .int x] nx (mos h g A) (P_mq 1 2 (if inR p k.1 then ifR x 1 60 (.inr (trusF k f p.toNatClampNeg x k.2.1)) else .inl 0) nx h g A) := by
  obtain ⟨h18, h19, hM, hL⟩ := id hQ
  have hk1 := hM.1
  have hk2 := hM.2.1
  obtain ⟨hn10, e3, -⟩ := hI.nl
  by_cases hp : inR p k.1
  · rw [if_pos hp]
    obtain ⟨j, hj, rfl⟩ := inR_of hp (by omega)
    rw [nI_clamp (by omega)]
    by_cases hok : ¬ x < 1 ∧ ¬ 60 < x
    · rw [ifR_p hok]
      obtain ⟨r, hr⟩ : ∃ r : Nat ⊕ Int32, r = .inr (trusF k f j x k.2.1) := ⟨_, rfl⟩
      rw [← hr]
      refine mm_start (lo := [some (.ref 188), some (.int (nI j)), some (.int x), none, none]) pn_X11 rfl rfl (Nat.le_of_ble_eq_true rfl) ?_
      refine mt_aload_n (pc := 0) dX11_trust_0 rfl ?_
      refine mt_iconst (pc := 1) (v := 0) dX11_trust_1 (by decide) ?_
      refine mt_mput (pc := 2) pf_X11_3 dX11_trust_2 hx rfl ?_
      refine mt_aload_n (pc := 5) dX11_trust_5 rfl ?_
      refine mt_iload_n (pc := 6) dX11_trust_6 rfl ?_
      refine mt_iconst (pc := 7) (v := 1) dX11_trust_7 (by decide) ?_
      refine mt_cV (pc := 8) (n_isSlabY (d := 1) (k := k) (Nat.le_refl 1) hx rfl hk1 h18 hp) cal_X11_isSlab vir_X11_isSlab ml_X11_366 dX11_trust_8 (by omega) (mos_o _ _ _) (by first | assumption | (show _ ≤ d; omega)) ⟨(Nat.le_of_ble_eq_true rfl), (Nat.le_of_ble_eq_true rfl)⟩ rfl rfl (Nat.le_of_ble_eq_true rfl) ?_
      refine mt_if_eq (pc := 11) (tgt := 30) dX11_trust_11 (by decide) (fun c11 => ?_) (fun c11 => ?_)
      · exact absurd c11 (by decide)
      · skip
        refine mt_aload_n (pc := 14) dX11_trust_14 rfl ?_
        refine mt_iload_n (pc := 15) dX11_trust_15 rfl ?_
        refine mt_iconst (pc := 16) (v := 1) dX11_trust_16 (by decide) ?_
        refine mt_bipush (pc := 17) (v := 60) dX11_trust_17 (by decide) ?_
        refine mt_cS (pc := 19) (n_within) cal_X11_within sta_X11_within ml_X11_348 dX11_trust_19 (by first | assumption | (show _ ≤ d; omega)) ⟨(Nat.le_of_ble_eq_true rfl), (Nat.le_of_ble_eq_true rfl)⟩ rfl rfl (Nat.le_of_ble_eq_true rfl) ?_
        rw [in_w hok]
        refine mt_iconst (pc := 22) (v := 2) dX11_trust_22 (by decide) ?_
        refine mt_iconst (pc := 23) (v := 1) dX11_trust_23 (by decide) ?_
        refine mt_cV (pc := 24) (n_mayY (d := 0) (q := 1) hx rfl (by decide)) cal_X11_may vir_X11_may ml_X11_190 dX11_trust_24 (by omega) (mos_o _ _ _) (by first | assumption | (show _ ≤ d; omega)) ⟨(Nat.le_of_ble_eq_true rfl), (Nat.le_of_ble_eq_true rfl)⟩ rfl rfl (Nat.le_of_ble_eq_true rfl) ?_
        refine mt_if_ne (pc := 27) (tgt := 32) dX11_trust_27 (by decide) (fun c27 => ?_) (fun c27 => ?_)
        · skip
          refine mt_aload_n (pc := 32) dX11_trust_32 rfl ?_
          refine mt_aV (pc := 33) (n_takeR (d := 1) (f := f) (Nat.le_refl 1) hx hR hn10) cal_X11_take vir_X11_take ml_X11_293 dX11_trust_33 (by omega) (mos_o _ _ _) (by first | assumption | (show _ ≤ d; omega)) ⟨(Nat.le_of_ble_eq_true rfl), (Nat.le_of_ble_eq_true rfl)⟩ rfl rfl (Nat.le_of_ble_eq_true rfl) ?_ ?_
          · rintro x9 n9 k9 h9
            obtain ⟨⟨⟩, -⟩ := h9
          · rintro v9 n9 k9 ⟨⟨⟩, rfl, S, rfl, hS⟩
            refine ⟨rfl, ?_⟩
            have hS' : RR (updR A 206 S 206) f := by rw [updR_eq]; exact hS
            refine mt_iconst (pc := 36) (v := 0) dX11_trust_36 (by decide) ?_
            refine mt_istore_n (pc := 37) dX11_trust_37 (Nat.le_of_ble_eq_true rfl) rfl ?_
            refine mt_iconst (pc := 38) (v := 0) dX11_trust_38 (by decide) ?_
            refine mt_istore (pc := 39) dX11_trust_39 (Nat.le_of_ble_eq_true rfl) rfl ?_
            refine mt_for (pc := 41) (H := fun c => mos h (upd g 0 0) (updR A 206 S)) (L := fun c => [some (.ref 188), some (.int (nI j)), some (.int x), some (.int (trusF k f j x c)), some (.int (nI c))]) (k.2.1) (fun c hc nc => ?_) ?_
            · skip
              rw [trus_s] at nc
              refine mt_iload (pc := 41) dX11_trust_41 rfl ?_
              refine mt_aload_n (pc := 43) dX11_trust_43 rfl ?_
              refine mt_mgetI (pc := 44) (x := nI k.2.1) gf_X11_157 dX11_trust_44 hx rfl h19 ?_
              refine mt_icmp_ge (pc := 47) (tgt := 78) dX11_trust_47 (by decide) (fun c47 => ?_) (fun c47 => ?_)
              · exact absurd c47 (nI_ge hc (by first | omega | decide))
              · skip
                refine mt_iload_n (pc := 50) dX11_trust_50 rfl ?_
                refine mt_aload_n (pc := 51) dX11_trust_51 rfl ?_
                refine mt_iload (pc := 52) dX11_trust_52 rfl ?_
                refine mt_iload_n (pc := 54) dX11_trust_54 rfl ?_
                refine mt_iload_n (pc := 55) dX11_trust_55 rfl ?_
                refine mt_cV (pc := 56) (n_canLend (d := 1) (k := k) (f := f) (Nat.le_refl 1) hx hM hS' (by omega) hj) cal_X11_canLend vir_X11_canLend ml_X11_325 dX11_trust_56 (by omega) (mos_o _ _ _) (by first | assumption | (show _ ≤ d; omega)) ⟨(Nat.le_of_ble_eq_true rfl), (Nat.le_of_ble_eq_true rfl)⟩ rfl rfl (Nat.le_of_ble_eq_true rfl) ?_
                refine mt_if_eq (pc := 59) (tgt := 69) dX11_trust_59 (by decide) (fun c59 => ?_) (fun c59 => ?_)
                · skip
                  have no : ¬ clC k f c j x := fun z => by rw [if_pos z] at c59; exact absurd c59 (by decide)
                  rw [if_neg no] at nc
                  refine mt_iconst (pc := 69) (v := 0) dX11_trust_69 (by decide) ?_
                  refine mt_ior (pc := 70) dX11_trust_70 ?_
                  rw [or_0]
                  refine mt_istore_n (pc := 71) dX11_trust_71 (Nat.le_of_ble_eq_true rfl) rfl ?_
                  refine mt_iinc (pc := 72) (c9 := 1) dX11_trust_72 rfl (by decide) (Nat.le_of_ble_eq_true rfl) rfl ?_
                  refine mt_goto (pc := 75) (tgt := 41) dX11_trust_75 (by decide) ?_
                  rw [show (nI c + 1 : Int32) = nI (c + 1) from nI_1 c]
                  first
                    | exact nc
                    | exact mt_fg (by repeat (first | exact trivial | refine ⟨rfl, ?_⟩ | rfl)) nc
                · skip
                  have yes : clC k f c j x := Classical.not_not.mp fun z => c59 (if_neg z)
                  rw [if_pos yes] at nc
                  refine mt_iconst (pc := 62) (v := 1) dX11_trust_62 (by decide) ?_
                  refine mt_iload (pc := 63) dX11_trust_63 rfl ?_
                  refine mt_ishl (pc := 65) dX11_trust_65 ?_
                  refine mt_goto (pc := 66) (tgt := 70) dX11_trust_66 (by decide) ?_
                  refine mt_ior (pc := 70) dX11_trust_70 ?_
                  refine mt_istore_n (pc := 71) dX11_trust_71 (Nat.le_of_ble_eq_true rfl) rfl ?_
                  refine mt_iinc (pc := 72) (c9 := 1) dX11_trust_72 rfl (by decide) (Nat.le_of_ble_eq_true rfl) rfl ?_
                  refine mt_goto (pc := 75) (tgt := 41) dX11_trust_75 (by decide) ?_
                  rw [show (nI c + 1 : Int32) = nI (c + 1) from nI_1 c]
                  first
                    | exact nc
                    | exact mt_fg (by repeat (first | exact trivial | refine ⟨rfl, ?_⟩ | rfl)) nc
            · skip
              refine mt_iload (pc := 41) dX11_trust_41 rfl ?_
              refine mt_aload_n (pc := 43) dX11_trust_43 rfl ?_
              refine mt_mgetI (pc := 44) (x := nI k.2.1) gf_X11_157 dX11_trust_44 hx rfl h19 ?_
              refine mt_icmp_ge (pc := 47) (tgt := 78) dX11_trust_47 (by decide) (fun c47 => ?_) (fun c47 => ?_)
              · skip
                refine mt_iload_n (pc := 78) dX11_trust_78 rfl ?_
                exact mt_iret rfl dX11_trust_79 (Nat.le_of_ble_eq_true rfl) (Nat.le_of_ble_eq_true rfl) (P_mqv (c0 := 1) (c1 := 2) (r := r) hr GQ_0 SD_u.aq)
              · exact absurd (nI_le (Nat.le_refl _) (by first | omega | decide)) c47
        · exact absurd c27 (by decide)
    · rw [ifR_n hok]
      refine mm_start (lo := [some (.ref 188), some (.int (nI j)), some (.int x), none, none]) pn_X11 rfl rfl (Nat.le_of_ble_eq_true rfl) ?_
      refine mt_aload_n (pc := 0) dX11_trust_0 rfl ?_
      refine mt_iconst (pc := 1) (v := 0) dX11_trust_1 (by decide) ?_
      refine mt_mput (pc := 2) pf_X11_3 dX11_trust_2 hx rfl ?_
      refine mt_aload_n (pc := 5) dX11_trust_5 rfl ?_
      refine mt_iload_n (pc := 6) dX11_trust_6 rfl ?_
      refine mt_iconst (pc := 7) (v := 1) dX11_trust_7 (by decide) ?_
      refine mt_cV (pc := 8) (n_isSlabY (d := 1) (k := k) (Nat.le_refl 1) hx rfl hk1 h18 hp) cal_X11_isSlab vir_X11_isSlab ml_X11_366 dX11_trust_8 (by omega) (mos_o _ _ _) (by first | assumption | (show _ ≤ d; omega)) ⟨(Nat.le_of_ble_eq_true rfl), (Nat.le_of_ble_eq_true rfl)⟩ rfl rfl (Nat.le_of_ble_eq_true rfl) ?_
      refine mt_if_eq (pc := 11) (tgt := 30) dX11_trust_11 (by decide) (fun c11 => ?_) (fun c11 => ?_)
      · exact absurd c11 (by decide)
      · skip
        refine mt_aload_n (pc := 14) dX11_trust_14 rfl ?_
        refine mt_iload_n (pc := 15) dX11_trust_15 rfl ?_
        refine mt_iconst (pc := 16) (v := 1) dX11_trust_16 (by decide) ?_
        refine mt_bipush (pc := 17) (v := 60) dX11_trust_17 (by decide) ?_
        refine mt_cS (pc := 19) (n_within) cal_X11_within sta_X11_within ml_X11_348 dX11_trust_19 (by first | assumption | (show _ ≤ d; omega)) ⟨(Nat.le_of_ble_eq_true rfl), (Nat.le_of_ble_eq_true rfl)⟩ rfl rfl (Nat.le_of_ble_eq_true rfl) ?_
        rw [in_nw hok]
        refine mt_iconst (pc := 22) (v := 2) dX11_trust_22 (by decide) ?_
        refine mt_iconst (pc := 23) (v := 1) dX11_trust_23 (by decide) ?_
        refine mt_cV (pc := 24) (n_mayN (d := 0) (q := 1) hx (by decide) rfl rfl (by decide)) cal_X11_may vir_X11_may ml_X11_190 dX11_trust_24 (by omega) (mos_o _ _ _) (by first | assumption | (show _ ≤ d; omega)) ⟨(Nat.le_of_ble_eq_true rfl), (Nat.le_of_ble_eq_true rfl)⟩ rfl rfl (Nat.le_of_ble_eq_true rfl) ?_
        refine mt_if_ne (pc := 27) (tgt := 32) dX11_trust_27 (by decide) (fun c27 => ?_) (fun c27 => ?_)
        · exact absurd rfl c27
        · skip
          refine mt_iconst (pc := 30) (v := 0) dX11_trust_30 (by decide) ?_
          exact mt_iret rfl dX11_trust_31 (Nat.le_of_ble_eq_true rfl) (Nat.le_of_ble_eq_true rfl) (P_mq1 (c0 := 1) (c1 := 2) (r := .inl 1) rfl)
  · rw [if_neg hp]
    refine mm_start (lo := [some (.ref 188), some (.int p), some (.int x), none, none]) pn_X11 rfl rfl (Nat.le_of_ble_eq_true rfl) ?_
    refine mt_aload_n (pc := 0) dX11_trust_0 rfl ?_
    refine mt_iconst (pc := 1) (v := 0) dX11_trust_1 (by decide) ?_
    refine mt_mput (pc := 2) pf_X11_3 dX11_trust_2 hx rfl ?_
    refine mt_aload_n (pc := 5) dX11_trust_5 rfl ?_
    refine mt_iload_n (pc := 6) dX11_trust_6 rfl ?_
    refine mt_iconst (pc := 7) (v := 1) dX11_trust_7 (by decide) ?_
    refine mt_cV (pc := 8) (n_isSlabN (d := 1) (k := k) (Nat.le_refl 1) hx rfl hk1 h18 (by decide) hp) cal_X11_isSlab vir_X11_isSlab ml_X11_366 dX11_trust_8 (by omega) (mos_o _ _ _) (by first | assumption | (show _ ≤ d; omega)) ⟨(Nat.le_of_ble_eq_true rfl), (Nat.le_of_ble_eq_true rfl)⟩ rfl rfl (Nat.le_of_ble_eq_true rfl) ?_
    refine mt_if_eq (pc := 11) (tgt := 30) dX11_trust_11 (by decide) (fun c11 => ?_) (fun c11 => ?_)
    · skip
      refine mt_iconst (pc := 30) (v := 0) dX11_trust_30 (by decide) ?_
      exact mt_iret rfl dX11_trust_31 (Nat.le_of_ble_eq_true rfl) (Nat.le_of_ble_eq_true rfl) (P_mq0 (c0 := 1) (c1 := 2) (r := .inl 0) rfl)
    · exact absurd rfl c11
theorem n_shut (hd : 3 ≤ d) (hx : 215 ≤ nx) (hQ : MQs k cs g A) (hR : RR (A 205) f) (hI : RI k f) : mm_Con G l yX11_shut cX11_shut 5 (some .int) d 0 0 [.ref 188] nx (mos h g A) (P_mq 1 1 (.inr (shutF k f k.2.1)) nx h g A) := by
  obtain ⟨h18, h19, hM, hL⟩ := id hQ
  have hk1 := hM.1
  have hk2 := hM.2.1
  obtain ⟨hn10, e3, -⟩ := hI.nl
  obtain ⟨r, hr⟩ : ∃ r : Nat ⊕ Int32, r = .inr (shutF k f k.2.1) := ⟨_, rfl⟩
  rw [← hr]
  refine mm_start (lo := [some (.ref 188), none, none, none, none]) pn_X11 rfl rfl (Nat.le_of_ble_eq_true rfl) ?_
  refine mt_aload_n (pc := 0) dX11_shut_0 rfl ?_
  refine mt_iconst (pc := 1) (v := 0) dX11_shut_1 (by decide) ?_
  refine mt_mput (pc := 2) pf_X11_3 dX11_shut_2 hx rfl ?_
  refine mt_aload_n (pc := 5) dX11_shut_5 rfl ?_
  refine mt_aV (pc := 6) (n_takeR (d := 1) (f := f) (Nat.le_refl 1) hx hR hn10) cal_X11_take vir_X11_take ml_X11_293 dX11_shut_6 (by omega) (mos_o _ _ _) (by first | assumption | (show _ ≤ d; omega)) ⟨(Nat.le_of_ble_eq_true rfl), (Nat.le_of_ble_eq_true rfl)⟩ rfl rfl (Nat.le_of_ble_eq_true rfl) ?_ ?_
  · rintro x9 n9 k9 h9
    obtain ⟨⟨⟩, -⟩ := h9
  · rintro v9 n9 k9 ⟨⟨⟩, rfl, S, rfl, hS⟩
    refine ⟨rfl, ?_⟩
    have hS' : RR (updR A 206 S 206) f := by rw [updR_eq]; exact hS
    refine mt_iconst (pc := 9) (v := 0) dX11_shut_9 (by decide) ?_
    refine mt_istore_n (pc := 10) dX11_shut_10 (Nat.le_of_ble_eq_true rfl) rfl ?_
    refine mt_iconst (pc := 11) (v := 0) dX11_shut_11 (by decide) ?_
    refine mt_istore_n (pc := 12) dX11_shut_12 (Nat.le_of_ble_eq_true rfl) rfl ?_
    refine mt_for (pc := 13) (H := fun c => mos h (upd g 0 0) (updR A 206 S)) (L := fun c => [some (.ref 188), some (.int (shutF k f c)), some (.int (nI c)), none, none]) (k.2.1) (fun c hc nc => ?_) ?_
    · skip
      rw [shut_s] at nc
      refine mt_iload_n (pc := 13) dX11_shut_13 rfl ?_
      refine mt_aload_n (pc := 14) dX11_shut_14 rfl ?_
      refine mt_mgetI (pc := 15) (x := nI k.2.1) gf_X11_157 dX11_shut_15 hx rfl h19 ?_
      refine mt_icmp_ge (pc := 18) (tgt := 82) dX11_shut_18 (by decide) (fun c18 => ?_) (fun c18 => ?_)
      · exact absurd c18 (nI_ge hc (by first | omega | decide))
      · skip
        refine mt_iconst (pc := 21) (v := 1) dX11_shut_21 (by decide) ?_
        refine mt_istore_n (pc := 22) dX11_shut_22 (Nat.le_of_ble_eq_true rfl) rfl ?_
        refine mt_iconst (pc := 23) (v := 0) dX11_shut_23 (by decide) ?_
        refine mt_istore (pc := 24) dX11_shut_24 (Nat.le_of_ble_eq_true rfl) rfl ?_
        refine mt_for (pc := 26) (H := fun q => mos h (upd g 0 0) (updR A 206 S)) (L := fun q => [some (.ref 188), some (.int (shutF k f c)), some (.int (nI c)), some (.int ((if anyL k f c q = true then 0 else 1))), some (.int (nI q))]) (k.1) (fun q hq nq => ?_) ?_
        · skip
          rw [anyL_s] at nq
          refine mt_iload (pc := 26) dX11_shut_26 rfl ?_
          refine mt_aload_n (pc := 28) dX11_shut_28 rfl ?_
          refine mt_mgetI (pc := 29) (x := nI k.1) gf_X11_154 dX11_shut_29 hx rfl h18 ?_
          refine mt_icmp_ge (pc := 32) (tgt := 62) dX11_shut_32 (by decide) (fun c32 => ?_) (fun c32 => ?_)
          · exact absurd c32 (nI_ge hq (by first | omega | decide))
          · skip
            refine mt_iload_n (pc := 35) dX11_shut_35 rfl ?_
            refine mt_if_eq (pc := 36) (tgt := 54) dX11_shut_36 (by decide) (fun c36 => ?_) (fun c36 => ?_)
            · skip
              have y : anyL k f c q = true := Classical.not_not.mp fun z => by rw [if_neg z] at c36; exact absurd c36 (by decide)
              rw [y, Bool.true_or, if_pos rfl] at nq
              refine mt_iconst (pc := 54) (v := 0) dX11_shut_54 (by decide) ?_
              refine mt_istore_n (pc := 55) dX11_shut_55 (Nat.le_of_ble_eq_true rfl) rfl ?_
              refine mt_iinc (pc := 56) (c9 := 1) dX11_shut_56 rfl (by decide) (Nat.le_of_ble_eq_true rfl) rfl ?_
              refine mt_goto (pc := 59) (tgt := 26) dX11_shut_59 (by decide) ?_
              rw [show (nI q + 1 : Int32) = nI (q + 1) from nI_1 q]
              first
                | exact nq
                | exact mt_fg (by repeat (first | exact trivial | refine ⟨rfl, ?_⟩ | rfl)) nq
            · skip
              have y : anyL k f c q = false := by
                rcases hb : anyL k f c q with _ | _
                · rfl
                · rw [hb] at c36; exact absurd rfl c36
              rw [y, Bool.false_or] at nq
              refine mt_aload_n (pc := 39) dX11_shut_39 rfl ?_
              refine mt_iload_n (pc := 40) dX11_shut_40 rfl ?_
              refine mt_iload (pc := 41) dX11_shut_41 rfl ?_
              refine mt_iconst (pc := 43) (v := 1) dX11_shut_43 (by decide) ?_
              refine mt_cV (pc := 44) (n_canLend (d := 1) (k := k) (f := f) (x := 1) (Nat.le_refl 1) hx hM hS' (by omega) hq) cal_X11_canLend vir_X11_canLend ml_X11_325 dX11_shut_44 (by omega) (mos_o _ _ _) (by first | assumption | (show _ ≤ d; omega)) ⟨(Nat.le_of_ble_eq_true rfl), (Nat.le_of_ble_eq_true rfl)⟩ rfl rfl (Nat.le_of_ble_eq_true rfl) ?_
              refine mt_if_ne (pc := 47) (tgt := 54) dX11_shut_47 (by decide) (fun c47 => ?_) (fun c47 => ?_)
              · skip
                have yes : clC k f c q 1 := Classical.not_not.mp fun z => c47 (if_neg z)
                rw [decide_eq_true yes, if_pos rfl] at nq
                refine mt_iconst (pc := 54) (v := 0) dX11_shut_54 (by decide) ?_
                refine mt_istore_n (pc := 55) dX11_shut_55 (Nat.le_of_ble_eq_true rfl) rfl ?_
                refine mt_iinc (pc := 56) (c9 := 1) dX11_shut_56 rfl (by decide) (Nat.le_of_ble_eq_true rfl) rfl ?_
                refine mt_goto (pc := 59) (tgt := 26) dX11_shut_59 (by decide) ?_
                rw [show (nI q + 1 : Int32) = nI (q + 1) from nI_1 q]
                first
                  | exact nq
                  | exact mt_fg (by repeat (first | exact trivial | refine ⟨rfl, ?_⟩ | rfl)) nq
              · skip
                have no : ¬ clC k f c q 1 := fun z => by rw [if_pos z] at c47; exact absurd c47 (by decide)
                rw [decide_eq_false no, if_neg (by decide)] at nq
                refine mt_iconst (pc := 50) (v := 1) dX11_shut_50 (by decide) ?_
                refine mt_goto (pc := 51) (tgt := 55) dX11_shut_51 (by decide) ?_
                refine mt_istore_n (pc := 55) dX11_shut_55 (Nat.le_of_ble_eq_true rfl) rfl ?_
                refine mt_iinc (pc := 56) (c9 := 1) dX11_shut_56 rfl (by decide) (Nat.le_of_ble_eq_true rfl) rfl ?_
                refine mt_goto (pc := 59) (tgt := 26) dX11_shut_59 (by decide) ?_
                rw [show (nI q + 1 : Int32) = nI (q + 1) from nI_1 q]
                first
                  | exact nq
                  | exact mt_fg (by repeat (first | exact trivial | refine ⟨rfl, ?_⟩ | rfl)) nq
        · skip
          refine mt_iload (pc := 26) dX11_shut_26 rfl ?_
          refine mt_aload_n (pc := 28) dX11_shut_28 rfl ?_
          refine mt_mgetI (pc := 29) (x := nI k.1) gf_X11_154 dX11_shut_29 hx rfl h18 ?_
          refine mt_icmp_ge (pc := 32) (tgt := 62) dX11_shut_32 (by decide) (fun c32 => ?_) (fun c32 => ?_)
          · skip
            refine mt_iload_n (pc := 62) dX11_shut_62 rfl ?_
            refine mt_iload_n (pc := 63) dX11_shut_63 rfl ?_
            refine mt_if_eq (pc := 64) (tgt := 73) dX11_shut_64 (by decide) (fun c64 => ?_) (fun c64 => ?_)
            · skip
              have y : anyL k f c k.1 = true := Classical.not_not.mp fun z => by rw [if_neg z] at c64; exact absurd c64 (by decide)
              rw [if_pos y] at nc
              refine mt_iconst (pc := 73) (v := 0) dX11_shut_73 (by decide) ?_
              refine mt_ior (pc := 74) dX11_shut_74 ?_
              rw [or_0]
              refine mt_istore_n (pc := 75) dX11_shut_75 (Nat.le_of_ble_eq_true rfl) rfl ?_
              refine mt_iinc (pc := 76) (c9 := 1) dX11_shut_76 rfl (by decide) (Nat.le_of_ble_eq_true rfl) rfl ?_
              refine mt_goto (pc := 79) (tgt := 13) dX11_shut_79 (by decide) ?_
              rw [show (nI c + 1 : Int32) = nI (c + 1) from nI_1 c]
              exact mt_forget 3 (mt_forget 4 nc)
            · skip
              have y : ¬ anyL k f c k.1 = true := fun z => c64 (if_pos z)
              rw [if_neg y] at nc
              refine mt_iconst (pc := 67) (v := 1) dX11_shut_67 (by decide) ?_
              refine mt_iload_n (pc := 68) dX11_shut_68 rfl ?_
              refine mt_ishl (pc := 69) dX11_shut_69 ?_
              refine mt_goto (pc := 70) (tgt := 74) dX11_shut_70 (by decide) ?_
              refine mt_ior (pc := 74) dX11_shut_74 ?_
              refine mt_istore_n (pc := 75) dX11_shut_75 (Nat.le_of_ble_eq_true rfl) rfl ?_
              refine mt_iinc (pc := 76) (c9 := 1) dX11_shut_76 rfl (by decide) (Nat.le_of_ble_eq_true rfl) rfl ?_
              refine mt_goto (pc := 79) (tgt := 13) dX11_shut_79 (by decide) ?_
              rw [show (nI c + 1 : Int32) = nI (c + 1) from nI_1 c]
              exact mt_forget 3 (mt_forget 4 nc)
          · exact absurd (nI_le (Nat.le_refl _) (by first | omega | decide)) c32
    · skip
      refine mt_iload_n (pc := 13) dX11_shut_13 rfl ?_
      refine mt_aload_n (pc := 14) dX11_shut_14 rfl ?_
      refine mt_mgetI (pc := 15) (x := nI k.2.1) gf_X11_157 dX11_shut_15 hx rfl h19 ?_
      refine mt_icmp_ge (pc := 18) (tgt := 82) dX11_shut_18 (by decide) (fun c18 => ?_) (fun c18 => ?_)
      · skip
        refine mt_iload_n (pc := 82) dX11_shut_82 rfl ?_
        exact mt_iret rfl dX11_shut_83 (Nat.le_of_ble_eq_true rfl) (Nat.le_of_ble_eq_true rfl) (P_mqv (c0 := 1) (c1 := 1) (r := r) hr GQ_0 SD_u.aq)
      · exact absurd (nI_le (Nat.le_refl _) (by first | omega | decide)) c18
theorem n_worthOf {a : Nat} (hd : 6 ≤ d) (hx : 215 ≤ nx) (ha : a < 6) (hQ : MQs k cs g A) (hR : RR (A 206) f) (hI : RI k f) : mm_Con G l yX11_worthOf cX11_worthOf 2 (some .int) d 0 0 [.ref 188, .int (nI a)] nx (mos h g A) (fun o n m => o = .inl (some (.int (f (18 + a) - owA k cs f (nI a) (nlo f)))) ∧ n = nx ∧ ∃ A', m = mos h g A' ∧ SC A A') := by
  obtain ⟨hn10, e3, -⟩ := hI.nl
  refine mm_start (lo := [some (.ref 188), some (.int (nI a))]) pn_X11 rfl rfl (Nat.le_of_ble_eq_true rfl) ?_
  refine mt_aload_n (pc := 0) dX11_worthOf_0 rfl ?_
  refine mt_mget (pc := 1) gf_X11_68 dX11_worthOf_1 hx rfl ?_
  refine mt_bipush (pc := 4) (v := 22) dX11_worthOf_4 (by decide) ?_
  refine mt_iload_n (pc := 6) dX11_worthOf_6 rfl ?_
  refine mt_iaddN (pc := 7) (a := 22) (b := a) dX11_worthOf_7 rfl rfl ?_
  refine mt_mald (pc := 8) (i := 206) (j := 22 + a) (x := f (18 + a)) dX11_worthOf_8 hx rfl rfl (by show _ < 91; omega) (hR.2.2.2.1 a ha) ?_
  refine mt_aload_n (pc := 9) dX11_worthOf_9 rfl ?_
  refine mt_aload_n (pc := 10) dX11_worthOf_10 rfl ?_
  refine mt_iconst (pc := 11) (v := 0) dX11_worthOf_11 (by decide) ?_
  refine mt_iload_n (pc := 12) dX11_worthOf_12 rfl ?_
  refine mt_cV (pc := 13) (n_loansBy (d := 1) (k := k) (f := f) (j := 0) (v := nI a) (Nat.le_refl 1) hx (by decide) hR hI) cal_X11_loansBy vir_X11_loansBy ml_X11_363 dX11_worthOf_13 (by omega) (mos_o _ _ _) (by first | assumption | (show _ ≤ d; omega)) ⟨(Nat.le_of_ble_eq_true rfl), (Nat.le_of_ble_eq_true rfl)⟩ rfl rfl (Nat.le_of_ble_eq_true rfl) ?_
  refine mt_aV (pc := 16) (n_owesAll (d := 5) (cs := cs) (k := k) (f := f) (Nat.le_refl 5) hx hQ hR hI) cal_X11_owesAll vir_X11_owesAll ml_X11_360 dX11_worthOf_16 (by omega) (mos_o _ _ _) (by first | assumption | (show _ ≤ d; omega)) ⟨(Nat.le_of_ble_eq_true rfl), (Nat.le_of_ble_eq_true rfl)⟩ rfl rfl (Nat.le_of_ble_eq_true rfl) ?_ ?_
  · rintro x9 n9 k9 h9
    obtain ⟨⟨⟩, -⟩ := h9
  · rintro v9 n9 k9 ⟨⟨⟩, rfl, A1, rfl, hSC⟩
    refine ⟨rfl, ?_⟩
    refine mt_isub (pc := 19) dX11_worthOf_19 ?_
    exact mt_iret rfl dX11_worthOf_20 (Nat.le_of_ble_eq_true rfl) (Nat.le_of_ble_eq_true rfl) ⟨by rw [oa_own hn10 ha], rfl, A1, rfl, hSC⟩
theorem n_worth {a : Int32} (hd : 7 ≤ d) (hx : 215 ≤ nx) (hQ : MQs k cs g A) (hR : RR (A 205) f) (hI : RI k f) : mm_Con G l yX11_worth cX11_worth 2 (some .int) d 0 0 [.ref 188, .int a] nx (mos h g A) (P_mq 1 1 (if inR a k.2.1 then .inr (f (18 + a.toNatClampNeg) - owA k cs f a (nlo f)) else .inl 0) nx h g A) := by
  obtain ⟨h18, h19, hM, hL⟩ := id hQ
  have hk1 := hM.1
  have hk2 := hM.2.1
  obtain ⟨hn10, e3, -⟩ := hI.nl
  by_cases hp : inR a k.2.1
  · rw [if_pos hp]
    obtain ⟨j, hj, rfl⟩ := inR_of hp (by omega)
    rw [nI_clamp (by omega)]
    refine mm_start (lo := [some (.ref 188), some (.int (nI j))]) pn_X11 rfl rfl (Nat.le_of_ble_eq_true rfl) ?_
    refine mt_aload_n (pc := 0) dX11_worth_0 rfl ?_
    refine mt_iconst (pc := 1) (v := 0) dX11_worth_1 (by decide) ?_
    refine mt_mput (pc := 2) pf_X11_3 dX11_worth_2 hx rfl ?_
    refine mt_aload_n (pc := 5) dX11_worth_5 rfl ?_
    refine mt_iload_n (pc := 6) dX11_worth_6 rfl ?_
    refine mt_iconst (pc := 7) (v := 1) dX11_worth_7 (by decide) ?_
    refine mt_cV (pc := 8) (n_isSoulY (d := 1) (k := k) (Nat.le_refl 1) hx rfl hk2 h19 hp) cal_X11_isSoul vir_X11_isSoul ml_X11_369 dX11_worth_8 (by omega) (mos_o _ _ _) (by first | assumption | (show _ ≤ d; omega)) ⟨(Nat.le_of_ble_eq_true rfl), (Nat.le_of_ble_eq_true rfl)⟩ rfl rfl (Nat.le_of_ble_eq_true rfl) ?_
    refine mt_if_ne (pc := 11) (tgt := 16) dX11_worth_11 (by decide) (fun c11 => ?_) (fun c11 => ?_)
    · skip
      refine mt_aload_n (pc := 16) dX11_worth_16 rfl ?_
      refine mt_aV (pc := 17) (n_takeR (d := 1) (f := f) (Nat.le_refl 1) hx hR hn10) cal_X11_take vir_X11_take ml_X11_293 dX11_worth_17 (by omega) (mos_o _ _ _) (by first | assumption | (show _ ≤ d; omega)) ⟨(Nat.le_of_ble_eq_true rfl), (Nat.le_of_ble_eq_true rfl)⟩ rfl rfl (Nat.le_of_ble_eq_true rfl) ?_ ?_
      · rintro x9 n9 k9 h9
        obtain ⟨⟨⟩, -⟩ := h9
      · rintro v9 n9 k9 ⟨⟨⟩, rfl, S, rfl, hS⟩
        refine ⟨rfl, ?_⟩
        refine mt_aload_n (pc := 20) dX11_worth_20 rfl ?_
        refine mt_iload_n (pc := 21) dX11_worth_21 rfl ?_
        refine mt_aV (pc := 22) (n_worthOf (d := 6) (k := k) (cs := cs) (f := f) (a := j) (Nat.le_refl 6) hx (by omega) (show MQs k cs (upd g 0 0) (updR A 206 S) from ⟨h18, h19, hM, hL⟩) (by rw [updR_eq]; exact hS) hI) cal_X11_worthOf vir_X11_worthOf ml_X11_409 dX11_worth_22 (by omega) (mos_o _ _ _) (by first | assumption | (show _ ≤ d; omega)) ⟨(Nat.le_of_ble_eq_true rfl), (Nat.le_of_ble_eq_true rfl)⟩ rfl rfl (Nat.le_of_ble_eq_true rfl) ?_ ?_
        · rintro x9 n9 k9 h9
          obtain ⟨⟨⟩, -⟩ := h9
        · rintro v9 n9 k9 ⟨⟨⟩, rfl, A1, rfl, hSC⟩
          refine ⟨rfl, ?_⟩
          exact mt_iret rfl dX11_worth_25 (Nat.le_of_ble_eq_true rfl) (Nat.le_of_ble_eq_true rfl) (P_mqv (c0 := 1) (c1 := 1) (r := .inr (f (18 + j) - owA k cs f (nI j) (nlo f))) rfl GQ_0 (SD_u.trans hSC.sd).aq)
    · exact absurd c11 (by decide)
  · rw [if_neg hp]
    refine mm_start (lo := [some (.ref 188), some (.int a)]) pn_X11 rfl rfl (Nat.le_of_ble_eq_true rfl) ?_
    refine mt_aload_n (pc := 0) dX11_worth_0 rfl ?_
    refine mt_iconst (pc := 1) (v := 0) dX11_worth_1 (by decide) ?_
    refine mt_mput (pc := 2) pf_X11_3 dX11_worth_2 hx rfl ?_
    refine mt_aload_n (pc := 5) dX11_worth_5 rfl ?_
    refine mt_iload_n (pc := 6) dX11_worth_6 rfl ?_
    refine mt_iconst (pc := 7) (v := 1) dX11_worth_7 (by decide) ?_
    refine mt_cV (pc := 8) (n_isSoulN (d := 1) (k := k) (Nat.le_refl 1) hx rfl hk2 h19 (by decide) hp) cal_X11_isSoul vir_X11_isSoul ml_X11_369 dX11_worth_8 (by omega) (mos_o _ _ _) (by first | assumption | (show _ ≤ d; omega)) ⟨(Nat.le_of_ble_eq_true rfl), (Nat.le_of_ble_eq_true rfl)⟩ rfl rfl (Nat.le_of_ble_eq_true rfl) ?_
    refine mt_if_ne (pc := 11) (tgt := 16) dX11_worth_11 (by decide) (fun c11 => ?_) (fun c11 => ?_)
    · exact absurd rfl c11
    · skip
      refine mt_iconst (pc := 14) (v := 0) dX11_worth_14 (by decide) ?_
      exact mt_iret rfl dX11_worth_15 (Nat.le_of_ble_eq_true rfl) (Nat.le_of_ble_eq_true rfl) (P_mq0 (c0 := 1) (c1 := 1) (r := .inl 0) rfl)
theorem n_late {a x : Int32} (hd : 4 ≤ d) (hx : 215 ≤ nx) (hQ : MQs k cs g A) (hR : RR (A 205) f) (hI : RI k f) : mm_Con G l yX11_late cX11_late 3 (some .int) d 0 0 [.ref 188, .int a, .int x] nx (mos h g A) (P_mq 1 2 (if inR a k.2.1 then ifR x 0 1 (.inr (if x = 0 then lwF f 0 a &&& lwF f 5 1 else lwF f 0 a &&& (lwF f 5 1 ^^^ (-1)))) else .inl 0) nx h g A) := by
  obtain ⟨h18, h19, hM, hL⟩ := id hQ
  have hk1 := hM.1
  have hk2 := hM.2.1
  obtain ⟨hn10, e3, -⟩ := hI.nl
  by_cases hp : inR a k.2.1
  · rw [if_pos hp]
    by_cases hok : ¬ x < 0 ∧ ¬ 1 < x
    · rw [ifR_p hok]
      obtain ⟨r, hr⟩ : ∃ r : Nat ⊕ Int32, r = .inr (if x = 0 then lwF f 0 a &&& lwF f 5 1 else lwF f 0 a &&& (lwF f 5 1 ^^^ (-1))) := ⟨_, rfl⟩
      rw [← hr]
      obtain ⟨c, -, hc, rfl⟩ := okR_nI (lo := 0) (hi := 1) hok (by decide) (by decide)
      refine mm_start (lo := [some (.ref 188), some (.int a), some (.int (nI c))]) pn_X11 rfl rfl (Nat.le_of_ble_eq_true rfl) ?_
      refine mt_aload_n (pc := 0) dX11_late_0 rfl ?_
      refine mt_iconst (pc := 1) (v := 0) dX11_late_1 (by decide) ?_
      refine mt_mput (pc := 2) pf_X11_3 dX11_late_2 hx rfl ?_
      refine mt_aload_n (pc := 5) dX11_late_5 rfl ?_
      refine mt_iload_n (pc := 6) dX11_late_6 rfl ?_
      refine mt_iconst (pc := 7) (v := 1) dX11_late_7 (by decide) ?_
      refine mt_cV (pc := 8) (n_isSoulY (d := 1) (k := k) (Nat.le_refl 1) hx rfl hk2 h19 hp) cal_X11_isSoul vir_X11_isSoul ml_X11_369 dX11_late_8 (by omega) (mos_o _ _ _) (by first | assumption | (show _ ≤ d; omega)) ⟨(Nat.le_of_ble_eq_true rfl), (Nat.le_of_ble_eq_true rfl)⟩ rfl rfl (Nat.le_of_ble_eq_true rfl) ?_
      refine mt_if_eq (pc := 11) (tgt := 29) dX11_late_11 (by decide) (fun c11 => ?_) (fun c11 => ?_)
      · exact absurd c11 (by decide)
      · skip
        refine mt_aload_n (pc := 14) dX11_late_14 rfl ?_
        refine mt_iload_n (pc := 15) dX11_late_15 rfl ?_
        refine mt_iconst (pc := 16) (v := 0) dX11_late_16 (by decide) ?_
        refine mt_iconst (pc := 17) (v := 1) dX11_late_17 (by decide) ?_
        refine mt_cS (pc := 18) (n_within) cal_X11_within sta_X11_within ml_X11_348 dX11_late_18 (by first | assumption | (show _ ≤ d; omega)) ⟨(Nat.le_of_ble_eq_true rfl), (Nat.le_of_ble_eq_true rfl)⟩ rfl rfl (Nat.le_of_ble_eq_true rfl) ?_
        rw [in_w hok]
        refine mt_iconst (pc := 21) (v := 2) dX11_late_21 (by decide) ?_
        refine mt_iconst (pc := 22) (v := 1) dX11_late_22 (by decide) ?_
        refine mt_cV (pc := 23) (n_mayY (d := 0) (q := 1) hx rfl (by decide)) cal_X11_may vir_X11_may ml_X11_190 dX11_late_23 (by omega) (mos_o _ _ _) (by first | assumption | (show _ ≤ d; omega)) ⟨(Nat.le_of_ble_eq_true rfl), (Nat.le_of_ble_eq_true rfl)⟩ rfl rfl (Nat.le_of_ble_eq_true rfl) ?_
        refine mt_if_ne (pc := 26) (tgt := 31) dX11_late_26 (by decide) (fun c26 => ?_) (fun c26 => ?_)
        · skip
          refine mt_aload_n (pc := 31) dX11_late_31 rfl ?_
          refine mt_aV (pc := 32) (n_takeR (d := 1) (f := f) (Nat.le_refl 1) hx hR hn10) cal_X11_take vir_X11_take ml_X11_293 dX11_late_32 (by omega) (mos_o _ _ _) (by first | assumption | (show _ ≤ d; omega)) ⟨(Nat.le_of_ble_eq_true rfl), (Nat.le_of_ble_eq_true rfl)⟩ rfl rfl (Nat.le_of_ble_eq_true rfl) ?_ ?_
          · rintro x9 n9 k9 h9
            obtain ⟨⟨⟩, -⟩ := h9
          · rintro v9 n9 k9 ⟨⟨⟩, rfl, S, rfl, hS⟩
            refine ⟨rfl, ?_⟩
            have hS' : RR (updR A 206 S 206) f := by rw [updR_eq]; exact hS
            refine mt_aload_n (pc := 35) dX11_late_35 rfl ?_
            refine mt_iconst (pc := 36) (v := 0) dX11_late_36 (by decide) ?_
            refine mt_iload_n (pc := 37) dX11_late_37 rfl ?_
            refine mt_cV (pc := 38) (n_loansBy (d := 1) (k := k) (f := f) (j := 0) (v := a) (Nat.le_refl 1) hx (by decide) hS' hI) cal_X11_loansBy vir_X11_loansBy ml_X11_363 dX11_late_38 (by omega) (mos_o _ _ _) (by first | assumption | (show _ ≤ d; omega)) ⟨(Nat.le_of_ble_eq_true rfl), (Nat.le_of_ble_eq_true rfl)⟩ rfl rfl (Nat.le_of_ble_eq_true rfl) ?_
            refine mt_aload_n (pc := 41) dX11_late_41 rfl ?_
            refine mt_iconst (pc := 42) (v := 5) dX11_late_42 (by decide) ?_
            refine mt_iconst (pc := 43) (v := 1) dX11_late_43 (by decide) ?_
            refine mt_iload_n (pc := 44) dX11_late_44 rfl ?_
            refine mt_isub (pc := 45) dX11_late_45 ?_
            refine mt_cV (pc := 46) (n_loansBy (d := 1) (k := k) (f := f) (j := 5) (v := 1 - nI c) (Nat.le_refl 1) hx (by decide) hS' hI) cal_X11_loansBy vir_X11_loansBy ml_X11_363 dX11_late_46 (by omega) (mos_o _ _ _) (by first | assumption | (show _ ≤ d; omega)) ⟨(Nat.le_of_ble_eq_true rfl), (Nat.le_of_ble_eq_true rfl)⟩ rfl rfl (Nat.le_of_ble_eq_true rfl) ?_
            refine mt_iand (pc := 49) dX11_late_49 ?_
            exact mt_iret rfl dX11_late_50 (Nat.le_of_ble_eq_true rfl) (Nat.le_of_ble_eq_true rfl) (P_mqv (c0 := 1) (c1 := 2) (r := r) (by
              rw [hr]
              rcases (show c = 0 ∨ c = 1 by omega) with rfl | rfl
              · rfl
              · rw [if_neg (by decide), late_c hn10 (fun i hi => (hI.2.2.2.2.2.2 i hi).2.2.1)]
                rfl) GQ_0 SD_u.aq)
        · exact absurd c26 (by decide)
    · rw [ifR_n hok]
      refine mm_start (lo := [some (.ref 188), some (.int a), some (.int x)]) pn_X11 rfl rfl (Nat.le_of_ble_eq_true rfl) ?_
      refine mt_aload_n (pc := 0) dX11_late_0 rfl ?_
      refine mt_iconst (pc := 1) (v := 0) dX11_late_1 (by decide) ?_
      refine mt_mput (pc := 2) pf_X11_3 dX11_late_2 hx rfl ?_
      refine mt_aload_n (pc := 5) dX11_late_5 rfl ?_
      refine mt_iload_n (pc := 6) dX11_late_6 rfl ?_
      refine mt_iconst (pc := 7) (v := 1) dX11_late_7 (by decide) ?_
      refine mt_cV (pc := 8) (n_isSoulY (d := 1) (k := k) (Nat.le_refl 1) hx rfl hk2 h19 hp) cal_X11_isSoul vir_X11_isSoul ml_X11_369 dX11_late_8 (by omega) (mos_o _ _ _) (by first | assumption | (show _ ≤ d; omega)) ⟨(Nat.le_of_ble_eq_true rfl), (Nat.le_of_ble_eq_true rfl)⟩ rfl rfl (Nat.le_of_ble_eq_true rfl) ?_
      refine mt_if_eq (pc := 11) (tgt := 29) dX11_late_11 (by decide) (fun c11 => ?_) (fun c11 => ?_)
      · exact absurd c11 (by decide)
      · skip
        refine mt_aload_n (pc := 14) dX11_late_14 rfl ?_
        refine mt_iload_n (pc := 15) dX11_late_15 rfl ?_
        refine mt_iconst (pc := 16) (v := 0) dX11_late_16 (by decide) ?_
        refine mt_iconst (pc := 17) (v := 1) dX11_late_17 (by decide) ?_
        refine mt_cS (pc := 18) (n_within) cal_X11_within sta_X11_within ml_X11_348 dX11_late_18 (by first | assumption | (show _ ≤ d; omega)) ⟨(Nat.le_of_ble_eq_true rfl), (Nat.le_of_ble_eq_true rfl)⟩ rfl rfl (Nat.le_of_ble_eq_true rfl) ?_
        rw [in_nw hok]
        refine mt_iconst (pc := 21) (v := 2) dX11_late_21 (by decide) ?_
        refine mt_iconst (pc := 22) (v := 1) dX11_late_22 (by decide) ?_
        refine mt_cV (pc := 23) (n_mayN (d := 0) (q := 1) hx (by decide) rfl rfl (by decide)) cal_X11_may vir_X11_may ml_X11_190 dX11_late_23 (by omega) (mos_o _ _ _) (by first | assumption | (show _ ≤ d; omega)) ⟨(Nat.le_of_ble_eq_true rfl), (Nat.le_of_ble_eq_true rfl)⟩ rfl rfl (Nat.le_of_ble_eq_true rfl) ?_
        refine mt_if_ne (pc := 26) (tgt := 31) dX11_late_26 (by decide) (fun c26 => ?_) (fun c26 => ?_)
        · exact absurd rfl c26
        · skip
          refine mt_iconst (pc := 29) (v := 0) dX11_late_29 (by decide) ?_
          exact mt_iret rfl dX11_late_30 (Nat.le_of_ble_eq_true rfl) (Nat.le_of_ble_eq_true rfl) (P_mq1 (c0 := 1) (c1 := 2) (r := .inl 1) rfl)
  · rw [if_neg hp]
    refine mm_start (lo := [some (.ref 188), some (.int a), some (.int x)]) pn_X11 rfl rfl (Nat.le_of_ble_eq_true rfl) ?_
    refine mt_aload_n (pc := 0) dX11_late_0 rfl ?_
    refine mt_iconst (pc := 1) (v := 0) dX11_late_1 (by decide) ?_
    refine mt_mput (pc := 2) pf_X11_3 dX11_late_2 hx rfl ?_
    refine mt_aload_n (pc := 5) dX11_late_5 rfl ?_
    refine mt_iload_n (pc := 6) dX11_late_6 rfl ?_
    refine mt_iconst (pc := 7) (v := 1) dX11_late_7 (by decide) ?_
    refine mt_cV (pc := 8) (n_isSoulN (d := 1) (k := k) (Nat.le_refl 1) hx rfl hk2 h19 (by decide) hp) cal_X11_isSoul vir_X11_isSoul ml_X11_369 dX11_late_8 (by omega) (mos_o _ _ _) (by first | assumption | (show _ ≤ d; omega)) ⟨(Nat.le_of_ble_eq_true rfl), (Nat.le_of_ble_eq_true rfl)⟩ rfl rfl (Nat.le_of_ble_eq_true rfl) ?_
    refine mt_if_eq (pc := 11) (tgt := 29) dX11_late_11 (by decide) (fun c11 => ?_) (fun c11 => ?_)
    · skip
      refine mt_iconst (pc := 29) (v := 0) dX11_late_29 (by decide) ?_
      exact mt_iret rfl dX11_late_30 (Nat.le_of_ble_eq_true rfl) (Nat.le_of_ble_eq_true rfl) (P_mq0 (c0 := 1) (c1 := 2) (r := .inl 0) rfl)
    · exact absurd rfl c11
theorem n_kind {kd x : Int32} (hd : 3 ≤ d) (hx : 215 ≤ nx) (hQ : MQs k cs g A) (hR : RR (A 205) f) (hI : RI k f) : mm_Con G l yX11_kind cX11_kind 5 (some .int) d 0 0 [.ref 188, .int kd, .int x] nx (mos h g A) (P_mq 1 1 (ifR kd 0 5 (ifR x 0 1 (.inr (kindF k f kd x k.1)))) nx h g A) := by
  obtain ⟨h18, h19, hM, hL⟩ := id hQ
  have hk1 := hM.1
  have hk2 := hM.2.1
  obtain ⟨hn10, e3, hw⟩ := hI.nl
  by_cases hkd : ¬ kd < 0 ∧ ¬ 5 < kd
  · rw [ifR_p hkd]
    by_cases hok : ¬ x < 0 ∧ ¬ 1 < x
    · rw [ifR_p hok]
      obtain ⟨c0, -, hc0, rfl⟩ := okR_nI (lo := 0) (hi := 1) hok (by decide) (by decide)
      obtain ⟨r, hr⟩ : ∃ r : Nat ⊕ Int32, r = .inr (kindF k f kd (nI c0) k.1) := ⟨_, rfl⟩
      rw [← hr]
      have go : ∀ S, RR S f → mm_T (G, l, yX11_kind, 5, some .int, d, 0, 0, (P_mq 1 1 r nx h g A), nx) RX11 cX11_kind nx (mos h (upd g 0 0) (updR A 206 S)) 0 0 43 [some (.ref 188), some (.int kd), some (.int (nI c0)), none, none] [] := by
        intro S hS
        have hS' : RR (updR A 206 S 206) f := by rw [updR_eq]; exact hS
        rcases (show c0 = 0 ∨ c0 = 1 by omega) with rfl | rfl
        · skip
          refine mt_iconst (pc := 43) (v := 0) dX11_kind_43 (by decide) ?_
          refine mt_istore_n (pc := 44) dX11_kind_44 (Nat.le_of_ble_eq_true rfl) rfl ?_
          refine mt_iconst (pc := 45) (v := 0) dX11_kind_45 (by decide) ?_
          refine mt_istore (pc := 46) dX11_kind_46 (Nat.le_of_ble_eq_true rfl) rfl ?_
          refine mt_for (pc := 48) (H := fun c => mos h (upd g 0 0) (updR A 206 S)) (L := fun c => [some (.ref 188), some (.int kd), some (.int (nI 0)), some (.int (kgF k kd (fun p => f (4 + p)) c)), some (.int (nI c))]) (k.1) (fun c hc nc => ?_) ?_
          · skip
            rw [kgF_s] at nc
            refine mt_iload (pc := 48) dX11_kind_48 rfl ?_
            refine mt_aload_n (pc := 50) dX11_kind_50 rfl ?_
            refine mt_mgetI (pc := 51) (x := nI k.1) gf_X11_154 dX11_kind_51 hx rfl h18 ?_
            refine mt_icmp_ge (pc := 54) (tgt := 96) dX11_kind_54 (by decide) (fun c54 => ?_) (fun c54 => ?_)
            · exact absurd c54 (nI_ge hc (by first | omega | decide))
            · skip
              refine mt_iload_n (pc := 57) dX11_kind_57 rfl ?_
              refine mt_if_ne (pc := 58) (tgt := 96) dX11_kind_58 (by decide) (fun c58 => ?_) (fun c58 => ?_)
              · exact absurd (by decide) c58
              · skip
                refine mt_iload_n (pc := 61) dX11_kind_61 rfl ?_
                refine mt_aload_n (pc := 62) dX11_kind_62 rfl ?_
                refine mt_mget (pc := 63) gf_X11_32 dX11_kind_63 hx rfl ?_
                refine mt_iconst (pc := 66) (v := 2) dX11_kind_66 (by decide) ?_
                refine mt_iload (pc := 67) dX11_kind_67 rfl ?_
                refine mt_imulN (pc := 69) (a := 2) (b := c) dX11_kind_69 rfl rfl ?_
                refine mt_mald (pc := 70) (i := 194) (j := 2 * c) (x := k.2.2.1 c) dX11_kind_70 hx rfl rfl (by show _ < 16; omega) ((hM.2.2.1 c (by omega)).1) ?_
                refine mt_iload_n (pc := 71) dX11_kind_71 rfl ?_
                refine mt_icmp_ne (pc := 72) (tgt := 87) dX11_kind_72 (by decide) (fun c72 => ?_) (fun c72 => ?_)
                · skip
                  rw [if_neg c72] at nc
                  refine mt_iconst (pc := 87) (v := 0) dX11_kind_87 (by decide) ?_
                  refine mt_iadd (pc := 88) dX11_kind_88 ?_
                  rw [add_0]
                  refine mt_istore_n (pc := 89) dX11_kind_89 (Nat.le_of_ble_eq_true rfl) rfl ?_
                  refine mt_iinc (pc := 90) (c9 := 1) dX11_kind_90 rfl (by decide) (Nat.le_of_ble_eq_true rfl) rfl ?_
                  refine mt_goto (pc := 93) (tgt := 48) dX11_kind_93 (by decide) ?_
                  rw [show (nI c + 1 : Int32) = nI (c + 1) from nI_1 c]
                  first
                    | exact nc
                    | exact mt_fg (by repeat (first | exact trivial | refine ⟨rfl, ?_⟩ | rfl)) nc
                · skip
                  rw [if_pos c72] at nc
                  refine mt_aload_n (pc := 75) dX11_kind_75 rfl ?_
                  refine mt_mget (pc := 76) gf_X11_68 dX11_kind_76 hx rfl ?_
                  refine mt_iconst (pc := 79) (v := 0) dX11_kind_79 (by decide) ?_
                  refine mt_iload (pc := 80) dX11_kind_80 rfl ?_
                  refine mt_iaddN (pc := 82) (a := 0) (b := c) dX11_kind_82 rfl rfl ?_
                  refine mt_mald2 (pc := 83) (i := 206) (j := c) (x := f (4 + c)) dX11_kind_83 hx rfl (by rw [Nat.zero_add]) (by show _ < 91; omega) (hS.1 c (by omega)) ?_
                  refine mt_goto (pc := 84) (tgt := 88) dX11_kind_84 (by decide) ?_
                  refine mt_iadd (pc := 88) dX11_kind_88 ?_
                  refine mt_istore_n (pc := 89) dX11_kind_89 (Nat.le_of_ble_eq_true rfl) rfl ?_
                  refine mt_iinc (pc := 90) (c9 := 1) dX11_kind_90 rfl (by decide) (Nat.le_of_ble_eq_true rfl) rfl ?_
                  refine mt_goto (pc := 93) (tgt := 48) dX11_kind_93 (by decide) ?_
                  rw [show (nI c + 1 : Int32) = nI (c + 1) from nI_1 c]
                  first
                    | exact nc
                    | exact mt_fg (by repeat (first | exact trivial | refine ⟨rfl, ?_⟩ | rfl)) nc
          · skip
            refine mt_iload (pc := 48) dX11_kind_48 rfl ?_
            refine mt_aload_n (pc := 50) dX11_kind_50 rfl ?_
            refine mt_mgetI (pc := 51) (x := nI k.1) gf_X11_154 dX11_kind_51 hx rfl h18 ?_
            refine mt_icmp_ge (pc := 54) (tgt := 96) dX11_kind_54 (by decide) (fun c54 => ?_) (fun c54 => ?_)
            · skip
              refine mt_iconst (pc := 96) (v := 0) dX11_kind_96 (by decide) ?_
              refine mt_istore (pc := 97) dX11_kind_97 (Nat.le_of_ble_eq_true rfl) rfl ?_
              refine mt_iload (pc := 99) dX11_kind_99 rfl ?_
              refine mt_aload_n (pc := 101) dX11_kind_101 rfl ?_
              refine mt_mget (pc := 102) gf_X11_68 dX11_kind_102 hx rfl ?_
              refine mt_bipush (pc := 105) (v := 88) dX11_kind_105 (by decide) ?_
              refine mt_mald2 (pc := 107) (i := 206) (j := 88) (x := nI (nlo f)) dX11_kind_107 hx rfl rfl (by show _ < 91; omega) (by rw [hS.2.2.2.2.2.1]; exact e3) ?_
              refine mt_icmp_ge (pc := 108) (tgt := 154) dX11_kind_108 (by decide) (fun c108 => ?_) (fun c108 => ?_)
              · skip
                refine mt_iload_n (pc := 154) dX11_kind_154 rfl ?_
                exact mt_iret rfl dX11_kind_155 (Nat.le_of_ble_eq_true rfl) (Nat.le_of_ble_eq_true rfl) (P_mqv (c0 := 1) (c1 := 1) (r := r) (by rw [hr]; exact congrArg Sum.inr kind_0.symm) GQ_0 SD_u.aq)
              · skip
                refine mt_iload_n (pc := 111) dX11_kind_111 rfl ?_
                refine mt_iconst (pc := 112) (v := 1) dX11_kind_112 (by decide) ?_
                refine mt_icmp_ne (pc := 113) (tgt := 154) dX11_kind_113 (by decide) (fun c113 => ?_) (fun c113 => ?_)
                · skip
                  refine mt_iload_n (pc := 154) dX11_kind_154 rfl ?_
                  exact mt_iret rfl dX11_kind_155 (Nat.le_of_ble_eq_true rfl) (Nat.le_of_ble_eq_true rfl) (P_mqv (c0 := 1) (c1 := 1) (r := r) (by rw [hr]; exact congrArg Sum.inr kind_0.symm) GQ_0 SD_u.aq)
                · exact absurd c113 (by decide)
            · exact absurd (nI_le (Nat.le_refl _) (by first | omega | decide)) c54
        · skip
          refine mt_iconst (pc := 43) (v := 0) dX11_kind_43 (by decide) ?_
          refine mt_istore_n (pc := 44) dX11_kind_44 (Nat.le_of_ble_eq_true rfl) rfl ?_
          refine mt_iconst (pc := 45) (v := 0) dX11_kind_45 (by decide) ?_
          refine mt_istore (pc := 46) dX11_kind_46 (Nat.le_of_ble_eq_true rfl) rfl ?_
          refine mt_iload (pc := 48) dX11_kind_48 rfl ?_
          refine mt_aload_n (pc := 50) dX11_kind_50 rfl ?_
          refine mt_mgetI (pc := 51) (x := nI k.1) gf_X11_154 dX11_kind_51 hx rfl h18 ?_
          refine mt_icmp_ge (pc := 54) (tgt := 96) dX11_kind_54 (by decide) (fun c54 => ?_) (fun c54 => ?_)
          · skip
            refine mt_iconst (pc := 96) (v := 0) dX11_kind_96 (by decide) ?_
            refine mt_istore (pc := 97) dX11_kind_97 (Nat.le_of_ble_eq_true rfl) rfl ?_
            refine mt_for (pc := 99) (H := fun c => mos h (upd g 0 0) (updR A 206 S)) (L := fun c => [some (.ref 188), some (.int kd), some (.int (nI 1)), some (.int (klF k f kd c)), some (.int (nI c))]) (nlo f) (fun c hc nc => ?_) ?_
            · skip
              have sl := hw.sl hc
              have sk := (hI.2.2.2.2.2.2 c hc).2.1
              rw [klF_s] at nc
              refine mt_iload (pc := 99) dX11_kind_99 rfl ?_
              refine mt_aload_n (pc := 101) dX11_kind_101 rfl ?_
              refine mt_mget (pc := 102) gf_X11_68 dX11_kind_102 hx rfl ?_
              refine mt_bipush (pc := 105) (v := 88) dX11_kind_105 (by decide) ?_
              refine mt_mald2 (pc := 107) (i := 206) (j := 88) (x := nI (nlo f)) dX11_kind_107 hx rfl rfl (by show _ < 91; omega) (by rw [hS.2.2.2.2.2.1]; exact e3) ?_
              refine mt_icmp_ge (pc := 108) (tgt := 154) dX11_kind_108 (by decide) (fun c108 => ?_) (fun c108 => ?_)
              · exact absurd c108 (nI_ge hc (by first | omega | decide))
              · skip
                refine mt_iload_n (pc := 111) dX11_kind_111 rfl ?_
                refine mt_iconst (pc := 112) (v := 1) dX11_kind_112 (by decide) ?_
                refine mt_icmp_ne (pc := 113) (tgt := 154) dX11_kind_113 (by decide) (fun c113 => ?_) (fun c113 => ?_)
                · exact absurd (by decide) c113
                · skip
                  refine mt_iload_n (pc := 116) dX11_kind_116 rfl ?_
                  refine mt_aload_n (pc := 117) dX11_kind_117 rfl ?_
                  refine mt_mget (pc := 118) gf_X11_32 dX11_kind_118 hx rfl ?_
                  refine mt_iconst (pc := 121) (v := 2) dX11_kind_121 (by decide) ?_
                  refine mt_aload_n (pc := 122) dX11_kind_122 rfl ?_
                  refine mt_iload (pc := 123) dX11_kind_123 rfl ?_
                  refine mt_iconst (pc := 125) (v := 1) dX11_kind_125 (by decide) ?_
                  refine mt_cV (pc := 126) (n_loanOf (d := 0) (i := c) (k := 1) hx (by omega) (by decide)) cal_X11_loanOf vir_X11_loanOf ml_X11_314 dX11_kind_126 (by omega) (mos_o _ _ _) (by first | assumption | (show _ ≤ d; omega)) ⟨(Nat.le_of_ble_eq_true rfl), (Nat.le_of_ble_eq_true rfl)⟩ rfl rfl (Nat.le_of_ble_eq_true rfl) ?_
                  rw [(hS'.ln hc (by decide)).trans sl.1]
                  refine mt_imulN (pc := 129) (a := 2) (b := lslab f c) dX11_kind_129 rfl rfl ?_
                  refine mt_mald (pc := 130) (i := 194) (j := 2 * (lslab f c)) (x := k.2.2.1 (lslab f c)) dX11_kind_130 hx rfl rfl (by show _ < 16; omega) ((hM.2.2.1 _ sk).1) ?_
                  refine mt_iload_n (pc := 131) dX11_kind_131 rfl ?_
                  refine mt_icmp_ne (pc := 132) (tgt := 145) dX11_kind_132 (by decide) (fun c132 => ?_) (fun c132 => ?_)
                  · skip
                    rw [if_neg c132] at nc
                    refine mt_iconst (pc := 145) (v := 0) dX11_kind_145 (by decide) ?_
                    refine mt_iadd (pc := 146) dX11_kind_146 ?_
                    refine mt_istore_n (pc := 147) dX11_kind_147 (Nat.le_of_ble_eq_true rfl) rfl ?_
                    refine mt_iinc (pc := 148) (c9 := 1) dX11_kind_148 rfl (by decide) (Nat.le_of_ble_eq_true rfl) rfl ?_
                    refine mt_goto (pc := 151) (tgt := 99) dX11_kind_151 (by decide) ?_
                    rw [show (nI c + 1 : Int32) = nI (c + 1) from nI_1 c]
                    first
                      | exact nc
                      | exact mt_fg (by repeat (first | exact trivial | refine ⟨rfl, ?_⟩ | rfl)) nc
                  · skip
                    rw [if_pos c132] at nc
                    refine mt_aload_n (pc := 135) dX11_kind_135 rfl ?_
                    refine mt_iload (pc := 136) dX11_kind_136 rfl ?_
                    refine mt_iconst (pc := 138) (v := 2) dX11_kind_138 (by decide) ?_
                    refine mt_cV (pc := 139) (n_loanOf (d := 0) (i := c) (k := 2) hx (by omega) (by decide)) cal_X11_loanOf vir_X11_loanOf ml_X11_314 dX11_kind_139 (by omega) (mos_o _ _ _) (by first | assumption | (show _ ≤ d; omega)) ⟨(Nat.le_of_ble_eq_true rfl), (Nat.le_of_ble_eq_true rfl)⟩ rfl rfl (Nat.le_of_ble_eq_true rfl) ?_
                    rw [hS'.ln hc (show 2 < 6 by decide)]
                    refine mt_goto (pc := 142) (tgt := 146) dX11_kind_142 (by decide) ?_
                    refine mt_iadd (pc := 146) dX11_kind_146 ?_
                    refine mt_istore_n (pc := 147) dX11_kind_147 (Nat.le_of_ble_eq_true rfl) rfl ?_
                    refine mt_iinc (pc := 148) (c9 := 1) dX11_kind_148 rfl (by decide) (Nat.le_of_ble_eq_true rfl) rfl ?_
                    refine mt_goto (pc := 151) (tgt := 99) dX11_kind_151 (by decide) ?_
                    rw [show (nI c + 1 : Int32) = nI (c + 1) from nI_1 c]
                    first
                      | exact nc
                      | exact mt_fg (by repeat (first | exact trivial | refine ⟨rfl, ?_⟩ | rfl)) nc
            · skip
              refine mt_iload (pc := 99) dX11_kind_99 rfl ?_
              refine mt_aload_n (pc := 101) dX11_kind_101 rfl ?_
              refine mt_mget (pc := 102) gf_X11_68 dX11_kind_102 hx rfl ?_
              refine mt_bipush (pc := 105) (v := 88) dX11_kind_105 (by decide) ?_
              refine mt_mald2 (pc := 107) (i := 206) (j := 88) (x := nI (nlo f)) dX11_kind_107 hx rfl rfl (by show _ < 91; omega) (by rw [hS.2.2.2.2.2.1]; exact e3) ?_
              refine mt_icmp_ge (pc := 108) (tgt := 154) dX11_kind_108 (by decide) (fun c108 => ?_) (fun c108 => ?_)
              · skip
                refine mt_iload_n (pc := 154) dX11_kind_154 rfl ?_
                exact mt_iret rfl dX11_kind_155 (Nat.le_of_ble_eq_true rfl) (Nat.le_of_ble_eq_true rfl) (P_mqv (c0 := 1) (c1 := 1) (r := r) (by rw [hr]; exact congrArg Sum.inr (kind_1 hk1 hI).symm) GQ_0 SD_u.aq)
              · exact absurd (nI_le (Nat.le_refl _) (by first | omega | decide)) c108
          · skip
            refine mt_iload_n (pc := 57) dX11_kind_57 rfl ?_
            refine mt_if_ne (pc := 58) (tgt := 96) dX11_kind_58 (by decide) (fun c58 => ?_) (fun c58 => ?_)
            · skip
              refine mt_iconst (pc := 96) (v := 0) dX11_kind_96 (by decide) ?_
              refine mt_istore (pc := 97) dX11_kind_97 (Nat.le_of_ble_eq_true rfl) rfl ?_
              refine mt_for (pc := 99) (H := fun c => mos h (upd g 0 0) (updR A 206 S)) (L := fun c => [some (.ref 188), some (.int kd), some (.int (nI 1)), some (.int (klF k f kd c)), some (.int (nI c))]) (nlo f) (fun c hc nc => ?_) ?_
              · skip
                have sl := hw.sl hc
                have sk := (hI.2.2.2.2.2.2 c hc).2.1
                rw [klF_s] at nc
                refine mt_iload (pc := 99) dX11_kind_99 rfl ?_
                refine mt_aload_n (pc := 101) dX11_kind_101 rfl ?_
                refine mt_mget (pc := 102) gf_X11_68 dX11_kind_102 hx rfl ?_
                refine mt_bipush (pc := 105) (v := 88) dX11_kind_105 (by decide) ?_
                refine mt_mald2 (pc := 107) (i := 206) (j := 88) (x := nI (nlo f)) dX11_kind_107 hx rfl rfl (by show _ < 91; omega) (by rw [hS.2.2.2.2.2.1]; exact e3) ?_
                refine mt_icmp_ge (pc := 108) (tgt := 154) dX11_kind_108 (by decide) (fun c108 => ?_) (fun c108 => ?_)
                · exact absurd c108 (nI_ge hc (by first | omega | decide))
                · skip
                  refine mt_iload_n (pc := 111) dX11_kind_111 rfl ?_
                  refine mt_iconst (pc := 112) (v := 1) dX11_kind_112 (by decide) ?_
                  refine mt_icmp_ne (pc := 113) (tgt := 154) dX11_kind_113 (by decide) (fun c113 => ?_) (fun c113 => ?_)
                  · exact absurd (by decide) c113
                  · skip
                    refine mt_iload_n (pc := 116) dX11_kind_116 rfl ?_
                    refine mt_aload_n (pc := 117) dX11_kind_117 rfl ?_
                    refine mt_mget (pc := 118) gf_X11_32 dX11_kind_118 hx rfl ?_
                    refine mt_iconst (pc := 121) (v := 2) dX11_kind_121 (by decide) ?_
                    refine mt_aload_n (pc := 122) dX11_kind_122 rfl ?_
                    refine mt_iload (pc := 123) dX11_kind_123 rfl ?_
                    refine mt_iconst (pc := 125) (v := 1) dX11_kind_125 (by decide) ?_
                    refine mt_cV (pc := 126) (n_loanOf (d := 0) (i := c) (k := 1) hx (by omega) (by decide)) cal_X11_loanOf vir_X11_loanOf ml_X11_314 dX11_kind_126 (by omega) (mos_o _ _ _) (by first | assumption | (show _ ≤ d; omega)) ⟨(Nat.le_of_ble_eq_true rfl), (Nat.le_of_ble_eq_true rfl)⟩ rfl rfl (Nat.le_of_ble_eq_true rfl) ?_
                    rw [(hS'.ln hc (by decide)).trans sl.1]
                    refine mt_imulN (pc := 129) (a := 2) (b := lslab f c) dX11_kind_129 rfl rfl ?_
                    refine mt_mald (pc := 130) (i := 194) (j := 2 * (lslab f c)) (x := k.2.2.1 (lslab f c)) dX11_kind_130 hx rfl rfl (by show _ < 16; omega) ((hM.2.2.1 _ sk).1) ?_
                    refine mt_iload_n (pc := 131) dX11_kind_131 rfl ?_
                    refine mt_icmp_ne (pc := 132) (tgt := 145) dX11_kind_132 (by decide) (fun c132 => ?_) (fun c132 => ?_)
                    · skip
                      rw [if_neg c132] at nc
                      refine mt_iconst (pc := 145) (v := 0) dX11_kind_145 (by decide) ?_
                      refine mt_iadd (pc := 146) dX11_kind_146 ?_
                      refine mt_istore_n (pc := 147) dX11_kind_147 (Nat.le_of_ble_eq_true rfl) rfl ?_
                      refine mt_iinc (pc := 148) (c9 := 1) dX11_kind_148 rfl (by decide) (Nat.le_of_ble_eq_true rfl) rfl ?_
                      refine mt_goto (pc := 151) (tgt := 99) dX11_kind_151 (by decide) ?_
                      rw [show (nI c + 1 : Int32) = nI (c + 1) from nI_1 c]
                      first
                        | exact nc
                        | exact mt_fg (by repeat (first | exact trivial | refine ⟨rfl, ?_⟩ | rfl)) nc
                    · skip
                      rw [if_pos c132] at nc
                      refine mt_aload_n (pc := 135) dX11_kind_135 rfl ?_
                      refine mt_iload (pc := 136) dX11_kind_136 rfl ?_
                      refine mt_iconst (pc := 138) (v := 2) dX11_kind_138 (by decide) ?_
                      refine mt_cV (pc := 139) (n_loanOf (d := 0) (i := c) (k := 2) hx (by omega) (by decide)) cal_X11_loanOf vir_X11_loanOf ml_X11_314 dX11_kind_139 (by omega) (mos_o _ _ _) (by first | assumption | (show _ ≤ d; omega)) ⟨(Nat.le_of_ble_eq_true rfl), (Nat.le_of_ble_eq_true rfl)⟩ rfl rfl (Nat.le_of_ble_eq_true rfl) ?_
                      rw [hS'.ln hc (show 2 < 6 by decide)]
                      refine mt_goto (pc := 142) (tgt := 146) dX11_kind_142 (by decide) ?_
                      refine mt_iadd (pc := 146) dX11_kind_146 ?_
                      refine mt_istore_n (pc := 147) dX11_kind_147 (Nat.le_of_ble_eq_true rfl) rfl ?_
                      refine mt_iinc (pc := 148) (c9 := 1) dX11_kind_148 rfl (by decide) (Nat.le_of_ble_eq_true rfl) rfl ?_
                      refine mt_goto (pc := 151) (tgt := 99) dX11_kind_151 (by decide) ?_
                      rw [show (nI c + 1 : Int32) = nI (c + 1) from nI_1 c]
                      first
                        | exact nc
                        | exact mt_fg (by repeat (first | exact trivial | refine ⟨rfl, ?_⟩ | rfl)) nc
              · skip
                refine mt_iload (pc := 99) dX11_kind_99 rfl ?_
                refine mt_aload_n (pc := 101) dX11_kind_101 rfl ?_
                refine mt_mget (pc := 102) gf_X11_68 dX11_kind_102 hx rfl ?_
                refine mt_bipush (pc := 105) (v := 88) dX11_kind_105 (by decide) ?_
                refine mt_mald2 (pc := 107) (i := 206) (j := 88) (x := nI (nlo f)) dX11_kind_107 hx rfl rfl (by show _ < 91; omega) (by rw [hS.2.2.2.2.2.1]; exact e3) ?_
                refine mt_icmp_ge (pc := 108) (tgt := 154) dX11_kind_108 (by decide) (fun c108 => ?_) (fun c108 => ?_)
                · skip
                  refine mt_iload_n (pc := 154) dX11_kind_154 rfl ?_
                  exact mt_iret rfl dX11_kind_155 (Nat.le_of_ble_eq_true rfl) (Nat.le_of_ble_eq_true rfl) (P_mqv (c0 := 1) (c1 := 1) (r := r) (by rw [hr]; exact congrArg Sum.inr (kind_1 hk1 hI).symm) GQ_0 SD_u.aq)
                · exact absurd (nI_le (Nat.le_refl _) (by first | omega | decide)) c108
            · exact absurd c58 (by decide)
      refine mm_start (lo := [some (.ref 188), some (.int kd), some (.int (nI c0)), none, none]) pn_X11 rfl rfl (Nat.le_of_ble_eq_true rfl) ?_
      refine mt_aload_n (pc := 0) dX11_kind_0 rfl ?_
      refine mt_iconst (pc := 1) (v := 0) dX11_kind_1 (by decide) ?_
      refine mt_mput (pc := 2) pf_X11_3 dX11_kind_2 hx rfl ?_
      refine mt_aload_n (pc := 5) dX11_kind_5 rfl ?_
      refine mt_iload_n (pc := 6) dX11_kind_6 rfl ?_
      refine mt_iconst (pc := 7) (v := 0) dX11_kind_7 (by decide) ?_
      refine mt_iconst (pc := 8) (v := 5) dX11_kind_8 (by decide) ?_
      refine mt_cS (pc := 9) (n_within) cal_X11_within sta_X11_within ml_X11_348 dX11_kind_9 (by first | assumption | (show _ ≤ d; omega)) ⟨(Nat.le_of_ble_eq_true rfl), (Nat.le_of_ble_eq_true rfl)⟩ rfl rfl (Nat.le_of_ble_eq_true rfl) ?_
      rw [in_w hkd]
      refine mt_if_eq (pc := 12) (tgt := 28) dX11_kind_12 (by decide) (fun c12 => ?_) (fun c12 => ?_)
      · exact absurd c12 (by decide)
      · skip
        refine mt_iload_n (pc := 15) dX11_kind_15 rfl ?_
        refine mt_iconst (pc := 16) (v := 0) dX11_kind_16 (by decide) ?_
        refine mt_iconst (pc := 17) (v := 1) dX11_kind_17 (by decide) ?_
        refine mt_cS (pc := 18) (n_within) cal_X11_within sta_X11_within ml_X11_348 dX11_kind_18 (by first | assumption | (show _ ≤ d; omega)) ⟨(Nat.le_of_ble_eq_true rfl), (Nat.le_of_ble_eq_true rfl)⟩ rfl rfl (Nat.le_of_ble_eq_true rfl) ?_
        rw [in_w hok]
        refine mt_if_eq (pc := 21) (tgt := 28) dX11_kind_21 (by decide) (fun c21 => ?_) (fun c21 => ?_)
        · exact absurd c21 (by decide)
        · skip
          refine mt_iconst (pc := 24) (v := 1) dX11_kind_24 (by decide) ?_
          refine mt_goto (pc := 25) (tgt := 29) dX11_kind_25 (by decide) ?_
          refine mt_iconst (pc := 29) (v := 1) dX11_kind_29 (by decide) ?_
          refine mt_iconst (pc := 30) (v := 1) dX11_kind_30 (by decide) ?_
          refine mt_cV (pc := 31) (n_mayY (d := 0) (q := 1) hx rfl (by decide)) cal_X11_may vir_X11_may ml_X11_190 dX11_kind_31 (by omega) (mos_o _ _ _) (by first | assumption | (show _ ≤ d; omega)) ⟨(Nat.le_of_ble_eq_true rfl), (Nat.le_of_ble_eq_true rfl)⟩ rfl rfl (Nat.le_of_ble_eq_true rfl) ?_
          refine mt_if_ne (pc := 34) (tgt := 39) dX11_kind_34 (by decide) (fun c34 => ?_) (fun c34 => ?_)
          · skip
            refine mt_aload_n (pc := 39) dX11_kind_39 rfl ?_
            refine mt_aV (pc := 40) (n_takeR (d := 1) (f := f) (Nat.le_refl 1) hx hR hn10) cal_X11_take vir_X11_take ml_X11_293 dX11_kind_40 (by omega) (mos_o _ _ _) (by first | assumption | (show _ ≤ d; omega)) ⟨(Nat.le_of_ble_eq_true rfl), (Nat.le_of_ble_eq_true rfl)⟩ rfl rfl (Nat.le_of_ble_eq_true rfl) ?_ ?_
            · rintro x9 n9 k9 h9
              obtain ⟨⟨⟩, -⟩ := h9
            · rintro v9 n9 k9 ⟨⟨⟩, rfl, S, rfl, hS⟩
              refine ⟨rfl, ?_⟩
              exact go S hS
          · exact absurd c34 (by decide)
    · rw [ifR_n hok]
      refine mm_start (lo := [some (.ref 188), some (.int kd), some (.int x), none, none]) pn_X11 rfl rfl (Nat.le_of_ble_eq_true rfl) ?_
      refine mt_aload_n (pc := 0) dX11_kind_0 rfl ?_
      refine mt_iconst (pc := 1) (v := 0) dX11_kind_1 (by decide) ?_
      refine mt_mput (pc := 2) pf_X11_3 dX11_kind_2 hx rfl ?_
      refine mt_aload_n (pc := 5) dX11_kind_5 rfl ?_
      refine mt_iload_n (pc := 6) dX11_kind_6 rfl ?_
      refine mt_iconst (pc := 7) (v := 0) dX11_kind_7 (by decide) ?_
      refine mt_iconst (pc := 8) (v := 5) dX11_kind_8 (by decide) ?_
      refine mt_cS (pc := 9) (n_within) cal_X11_within sta_X11_within ml_X11_348 dX11_kind_9 (by first | assumption | (show _ ≤ d; omega)) ⟨(Nat.le_of_ble_eq_true rfl), (Nat.le_of_ble_eq_true rfl)⟩ rfl rfl (Nat.le_of_ble_eq_true rfl) ?_
      rw [in_w hkd]
      refine mt_if_eq (pc := 12) (tgt := 28) dX11_kind_12 (by decide) (fun c12 => ?_) (fun c12 => ?_)
      · exact absurd c12 (by decide)
      · skip
        refine mt_iload_n (pc := 15) dX11_kind_15 rfl ?_
        refine mt_iconst (pc := 16) (v := 0) dX11_kind_16 (by decide) ?_
        refine mt_iconst (pc := 17) (v := 1) dX11_kind_17 (by decide) ?_
        refine mt_cS (pc := 18) (n_within) cal_X11_within sta_X11_within ml_X11_348 dX11_kind_18 (by first | assumption | (show _ ≤ d; omega)) ⟨(Nat.le_of_ble_eq_true rfl), (Nat.le_of_ble_eq_true rfl)⟩ rfl rfl (Nat.le_of_ble_eq_true rfl) ?_
        rw [in_nw hok]
        refine mt_if_eq (pc := 21) (tgt := 28) dX11_kind_21 (by decide) (fun c21 => ?_) (fun c21 => ?_)
        · skip
          refine mt_iconst (pc := 28) (v := 0) dX11_kind_28 (by decide) ?_
          refine mt_iconst (pc := 29) (v := 1) dX11_kind_29 (by decide) ?_
          refine mt_iconst (pc := 30) (v := 1) dX11_kind_30 (by decide) ?_
          refine mt_cV (pc := 31) (n_mayN (d := 0) (q := 1) hx (by decide) rfl rfl (by decide)) cal_X11_may vir_X11_may ml_X11_190 dX11_kind_31 (by omega) (mos_o _ _ _) (by first | assumption | (show _ ≤ d; omega)) ⟨(Nat.le_of_ble_eq_true rfl), (Nat.le_of_ble_eq_true rfl)⟩ rfl rfl (Nat.le_of_ble_eq_true rfl) ?_
          refine mt_if_ne (pc := 34) (tgt := 39) dX11_kind_34 (by decide) (fun c34 => ?_) (fun c34 => ?_)
          · exact absurd rfl c34
          · skip
            refine mt_iconst (pc := 37) (v := 0) dX11_kind_37 (by decide) ?_
            exact mt_iret rfl dX11_kind_38 (Nat.le_of_ble_eq_true rfl) (Nat.le_of_ble_eq_true rfl) (P_mq1 (c0 := 1) (c1 := 1) (r := .inl 1) rfl)
        · exact absurd rfl c21
  · rw [ifR_n hkd]
    refine mm_start (lo := [some (.ref 188), some (.int kd), some (.int x), none, none]) pn_X11 rfl rfl (Nat.le_of_ble_eq_true rfl) ?_
    refine mt_aload_n (pc := 0) dX11_kind_0 rfl ?_
    refine mt_iconst (pc := 1) (v := 0) dX11_kind_1 (by decide) ?_
    refine mt_mput (pc := 2) pf_X11_3 dX11_kind_2 hx rfl ?_
    refine mt_aload_n (pc := 5) dX11_kind_5 rfl ?_
    refine mt_iload_n (pc := 6) dX11_kind_6 rfl ?_
    refine mt_iconst (pc := 7) (v := 0) dX11_kind_7 (by decide) ?_
    refine mt_iconst (pc := 8) (v := 5) dX11_kind_8 (by decide) ?_
    refine mt_cS (pc := 9) (n_within) cal_X11_within sta_X11_within ml_X11_348 dX11_kind_9 (by first | assumption | (show _ ≤ d; omega)) ⟨(Nat.le_of_ble_eq_true rfl), (Nat.le_of_ble_eq_true rfl)⟩ rfl rfl (Nat.le_of_ble_eq_true rfl) ?_
    rw [in_nw hkd]
    refine mt_if_eq (pc := 12) (tgt := 28) dX11_kind_12 (by decide) (fun c12 => ?_) (fun c12 => ?_)
    · skip
      refine mt_iconst (pc := 28) (v := 0) dX11_kind_28 (by decide) ?_
      refine mt_iconst (pc := 29) (v := 1) dX11_kind_29 (by decide) ?_
      refine mt_iconst (pc := 30) (v := 1) dX11_kind_30 (by decide) ?_
      refine mt_cV (pc := 31) (n_mayN (d := 0) (q := 1) hx (by decide) rfl rfl (by decide)) cal_X11_may vir_X11_may ml_X11_190 dX11_kind_31 (by omega) (mos_o _ _ _) (by first | assumption | (show _ ≤ d; omega)) ⟨(Nat.le_of_ble_eq_true rfl), (Nat.le_of_ble_eq_true rfl)⟩ rfl rfl (Nat.le_of_ble_eq_true rfl) ?_
      refine mt_if_ne (pc := 34) (tgt := 39) dX11_kind_34 (by decide) (fun c34 => ?_) (fun c34 => ?_)
      · exact absurd rfl c34
      · skip
        refine mt_iconst (pc := 37) (v := 0) dX11_kind_37 (by decide) ?_
        exact mt_iret rfl dX11_kind_38 (Nat.le_of_ble_eq_true rfl) (Nat.le_of_ble_eq_true rfl) (P_mq1 (c0 := 1) (c1 := 1) (r := .inl 1) rfl)
    · exact absurd rfl c12
theorem n_ahead {nn x : Int32} (hd : 7 ≤ d) (hx : 215 ≤ nx) (hQ : MQs k cs g A) (hR : RR (A 205) f) (hJ : RJ 400 k f) : mm_Con G l yX11_ahead cX11_ahead 4 (some .int) d 0 0 [.ref 188, .int nn, .int x] nx (mos h g A) (P_mq 1 1 (ifR nn 0 99 (ifR x 0 2 (.inr (adV k cs (nigN f nn.toNatClampNeg) x)))) nx h g A) := by
  obtain ⟨h18, h19, hM, hL⟩ := id hQ
  have hk1 := hM.1
  have hk2 := hM.2.1
  obtain ⟨hn10, e3, hw⟩ := hJ.1.nl
  by_cases hkd : ¬ nn < 0 ∧ ¬ 99 < nn
  · rw [ifR_p hkd]
    by_cases hok : ¬ x < 0 ∧ ¬ 2 < x
    · rw [ifR_p hok]
      obtain ⟨n, -, hn, rfl⟩ := okR_nI (lo := 0) (hi := 99) hkd (by decide) (by decide)
      rw [nI_clamp (by omega)]
      obtain ⟨c0, -, hc0, rfl⟩ := okR_nI (lo := 0) (hi := 2) hok (by decide) (by decide)
      obtain ⟨r, hr⟩ : ∃ r : Nat ⊕ Int32, r = .inr (adV k cs (nigN f n) (nI c0)) := ⟨_, rfl⟩
      rw [← hr]
      have go : ∀ S, RR S (nigN f n) → mm_T (G, l, yX11_ahead, 4, some .int, d, 0, 0, (P_mq 1 1 r nx h g A), nx) RX11 cX11_ahead nx (mos h (upd g 0 0) (updR A 206 S)) 0 0 61 [some (.ref 188), some (.int (nI n)), some (.int (nI c0)), some (.int (nI n))] [] := by
        intro S hS
        have hS' : RR (updR A 206 S 206) (nigN f n) := by rw [updR_eq]; exact hS
        have hQ' : MQs k cs (upd g 0 0) (updR A 206 S) := ⟨h18, h19, hM, hL⟩
        have hJn := nigN_RJ hk1 hJ n (by omega)
        have hn10' := hJn.1.nl.1
        generalize nigN f n = F at hS hS' hJn hn10' hr
        rcases (show c0 = 0 ∨ c0 = 1 ∨ c0 = 2 by omega) with rfl | rfl | rfl
        · skip
          refine mt_iload_n (pc := 61) dX11_ahead_61 rfl ?_
          refine mt_if_ne (pc := 62) (tgt := 76) dX11_ahead_62 (by decide) (fun c62 => ?_) (fun c62 => ?_)
          · exact absurd (by decide) c62
          · skip
            refine mt_aload_n (pc := 65) dX11_ahead_65 rfl ?_
            refine mt_aload_n (pc := 66) dX11_ahead_66 rfl ?_
            refine mt_cV (pc := 67) (n_allLoans (d := 0) (k := k) (f := F) hx hS' hJn.1) cal_X11_allLoans vir_X11_allLoans ml_X11_357 dX11_ahead_67 (by omega) (mos_o _ _ _) (by first | assumption | (show _ ≤ d; omega)) ⟨(Nat.le_of_ble_eq_true rfl), (Nat.le_of_ble_eq_true rfl)⟩ rfl rfl (Nat.le_of_ble_eq_true rfl) ?_
            refine mt_aV (pc := 70) (n_owesAll (d := 5) (cs := cs) (k := k) (f := F) (Nat.le_refl 5) hx hQ' hS' hJn.1) cal_X11_owesAll vir_X11_owesAll ml_X11_360 dX11_ahead_70 (by omega) (mos_o _ _ _) (by first | assumption | (show _ ≤ d; omega)) ⟨(Nat.le_of_ble_eq_true rfl), (Nat.le_of_ble_eq_true rfl)⟩ rfl rfl (Nat.le_of_ble_eq_true rfl) ?_ ?_
            · rintro x9 n9 k9 h9
              obtain ⟨⟨⟩, -⟩ := h9
            · rintro v9 n9 k9 ⟨⟨⟩, rfl, A1, rfl, hSC⟩
              refine ⟨rfl, ?_⟩
              refine mt_goto (pc := 73) (tgt := 94) dX11_ahead_73 (by decide) ?_
              exact mt_iret rfl dX11_ahead_94 (Nat.le_of_ble_eq_true rfl) (Nat.le_of_ble_eq_true rfl) (P_mqv (c0 := 1) (c1 := 1) (r := r) (by rw [hr, oa_all rfl hn10']; rfl) GQ_0 (SD_u.trans hSC.sd).aq)
        · skip
          refine mt_iload_n (pc := 61) dX11_ahead_61 rfl ?_
          refine mt_if_ne (pc := 62) (tgt := 76) dX11_ahead_62 (by decide) (fun c62 => ?_) (fun c62 => ?_)
          · skip
            refine mt_iload_n (pc := 76) dX11_ahead_76 rfl ?_
            refine mt_iconst (pc := 77) (v := 1) dX11_ahead_77 (by decide) ?_
            refine mt_icmp_ne (pc := 78) (tgt := 88) dX11_ahead_78 (by decide) (fun c78 => ?_) (fun c78 => ?_)
            · exact absurd (by decide) c78
            · skip
              refine mt_aload_n (pc := 81) dX11_ahead_81 rfl ?_
              refine mt_cV (pc := 82) (n_shutNow (d := 0) (k := k) (f := F) hx hk1 h18 hS' hJn.1) cal_X11_shutNow vir_X11_shutNow ml_X11_351 dX11_ahead_82 (by omega) (mos_o _ _ _) (by first | assumption | (show _ ≤ d; omega)) ⟨(Nat.le_of_ble_eq_true rfl), (Nat.le_of_ble_eq_true rfl)⟩ rfl rfl (Nat.le_of_ble_eq_true rfl) ?_
              refine mt_goto (pc := 85) (tgt := 94) dX11_ahead_85 (by decide) ?_
              exact mt_iret rfl dX11_ahead_94 (Nat.le_of_ble_eq_true rfl) (Nat.le_of_ble_eq_true rfl) (P_mqv (c0 := 1) (c1 := 1) (r := r) (by rw [hr]; rfl) GQ_0 SD_u.aq)
          · exact absurd c62 (by decide)
        · skip
          refine mt_iload_n (pc := 61) dX11_ahead_61 rfl ?_
          refine mt_if_ne (pc := 62) (tgt := 76) dX11_ahead_62 (by decide) (fun c62 => ?_) (fun c62 => ?_)
          · skip
            refine mt_iload_n (pc := 76) dX11_ahead_76 rfl ?_
            refine mt_iconst (pc := 77) (v := 1) dX11_ahead_77 (by decide) ?_
            refine mt_icmp_ne (pc := 78) (tgt := 88) dX11_ahead_78 (by decide) (fun c78 => ?_) (fun c78 => ?_)
            · skip
              refine mt_aload_n (pc := 88) dX11_ahead_88 rfl ?_
              refine mt_iconst (pc := 89) (v := 5) dX11_ahead_89 (by decide) ?_
              refine mt_iconst (pc := 90) (v := 1) dX11_ahead_90 (by decide) ?_
              refine mt_cV (pc := 91) (n_loansBy (d := 1) (k := k) (f := F) (j := 5) (v := 1) (Nat.le_refl 1) hx (by decide) hS' hJn.1) cal_X11_loansBy vir_X11_loansBy ml_X11_363 dX11_ahead_91 (by omega) (mos_o _ _ _) (by first | assumption | (show _ ≤ d; omega)) ⟨(Nat.le_of_ble_eq_true rfl), (Nat.le_of_ble_eq_true rfl)⟩ rfl rfl (Nat.le_of_ble_eq_true rfl) ?_
              exact mt_iret rfl dX11_ahead_94 (Nat.le_of_ble_eq_true rfl) (Nat.le_of_ble_eq_true rfl) (P_mqv (c0 := 1) (c1 := 1) (r := r) (by rw [hr]; rfl) GQ_0 SD_u.aq)
            · exact absurd c78 (by decide)
          · exact absurd c62 (by decide)
      refine mm_start (lo := [some (.ref 188), some (.int (nI n)), some (.int (nI c0)), none]) pn_X11 rfl rfl (Nat.le_of_ble_eq_true rfl) ?_
      refine mt_aload_n (pc := 0) dX11_ahead_0 rfl ?_
      refine mt_iconst (pc := 1) (v := 0) dX11_ahead_1 (by decide) ?_
      refine mt_mput (pc := 2) pf_X11_3 dX11_ahead_2 hx rfl ?_
      refine mt_aload_n (pc := 5) dX11_ahead_5 rfl ?_
      refine mt_iload_n (pc := 6) dX11_ahead_6 rfl ?_
      refine mt_iconst (pc := 7) (v := 0) dX11_ahead_7 (by decide) ?_
      refine mt_bipush (pc := 8) (v := 99) dX11_ahead_8 (by decide) ?_
      refine mt_cS (pc := 10) (n_within) cal_X11_within sta_X11_within ml_X11_348 dX11_ahead_10 (by first | assumption | (show _ ≤ d; omega)) ⟨(Nat.le_of_ble_eq_true rfl), (Nat.le_of_ble_eq_true rfl)⟩ rfl rfl (Nat.le_of_ble_eq_true rfl) ?_
      rw [in_w hkd]
      refine mt_if_eq (pc := 13) (tgt := 29) dX11_ahead_13 (by decide) (fun c13 => ?_) (fun c13 => ?_)
      · exact absurd c13 (by decide)
      · skip
        refine mt_iload_n (pc := 16) dX11_ahead_16 rfl ?_
        refine mt_iconst (pc := 17) (v := 0) dX11_ahead_17 (by decide) ?_
        refine mt_iconst (pc := 18) (v := 2) dX11_ahead_18 (by decide) ?_
        refine mt_cS (pc := 19) (n_within) cal_X11_within sta_X11_within ml_X11_348 dX11_ahead_19 (by first | assumption | (show _ ≤ d; omega)) ⟨(Nat.le_of_ble_eq_true rfl), (Nat.le_of_ble_eq_true rfl)⟩ rfl rfl (Nat.le_of_ble_eq_true rfl) ?_
        rw [in_w hok]
        refine mt_if_eq (pc := 22) (tgt := 29) dX11_ahead_22 (by decide) (fun c22 => ?_) (fun c22 => ?_)
        · exact absurd c22 (by decide)
        · skip
          refine mt_iconst (pc := 25) (v := 1) dX11_ahead_25 (by decide) ?_
          refine mt_goto (pc := 26) (tgt := 30) dX11_ahead_26 (by decide) ?_
          refine mt_iconst (pc := 30) (v := 1) dX11_ahead_30 (by decide) ?_
          refine mt_iconst (pc := 31) (v := 1) dX11_ahead_31 (by decide) ?_
          refine mt_cV (pc := 32) (n_mayY (d := 0) (q := 1) hx rfl (by decide)) cal_X11_may vir_X11_may ml_X11_190 dX11_ahead_32 (by omega) (mos_o _ _ _) (by first | assumption | (show _ ≤ d; omega)) ⟨(Nat.le_of_ble_eq_true rfl), (Nat.le_of_ble_eq_true rfl)⟩ rfl rfl (Nat.le_of_ble_eq_true rfl) ?_
          refine mt_if_ne (pc := 35) (tgt := 40) dX11_ahead_35 (by decide) (fun c35 => ?_) (fun c35 => ?_)
          · skip
            refine mt_aload_n (pc := 40) dX11_ahead_40 rfl ?_
            refine mt_aV (pc := 41) (n_takeR (d := 1) (f := f) (Nat.le_refl 1) hx hR hn10) cal_X11_take vir_X11_take ml_X11_293 dX11_ahead_41 (by omega) (mos_o _ _ _) (by first | assumption | (show _ ≤ d; omega)) ⟨(Nat.le_of_ble_eq_true rfl), (Nat.le_of_ble_eq_true rfl)⟩ rfl rfl (Nat.le_of_ble_eq_true rfl) ?_ ?_
            · rintro x9 n9 k9 h9
              obtain ⟨⟨⟩, -⟩ := h9
            · rintro v9 n9 k9 ⟨⟨⟩, rfl, S, rfl, hS⟩
              refine ⟨rfl, ?_⟩
              refine mt_iconst (pc := 44) (v := 0) dX11_ahead_44 (by decide) ?_
              refine mt_istore_n (pc := 45) dX11_ahead_45 (Nat.le_of_ble_eq_true rfl) rfl ?_
              refine mt_forE (pc := 46) (α := Nat → Int32) (H := fun c (a : Nat → Int32) => mos h (upd g 0 0) (updR A 206 a)) (L := fun c (a : Nat → Int32) => [some (.ref 188), some (.int (nI n)), some (.int (nI c0)), some (.int (nI c))]) (I := fun c (a : Nat → Int32) => RR a (nigN f c)) n (fun c a hc fc nc => ?_) (fun a fc => ?_) S hS
              · skip
                refine mt_iload_n (pc := 46) dX11_ahead_46 rfl ?_
                refine mt_iload_n (pc := 47) dX11_ahead_47 rfl ?_
                refine mt_icmp_ge (pc := 48) (tgt := 61) dX11_ahead_48 (by decide) (fun c48 => ?_) (fun c48 => ?_)
                · exact absurd c48 (nI_ge hc (by first | omega | decide))
                · skip
                  refine mt_aload_n (pc := 51) dX11_ahead_51 rfl ?_
                  refine mt_aV (pc := 52) (n_passes (d := 1) (k := k) (f := nigN f c) (N := 400 + c) (Nat.le_refl 1) hx hk1 (by rw [updR_eq]; exact fc) (nigN_RJ hk1 hJ c (by omega)) (by omega)) cal_X11_passes vir_X11_passes ml_X11_345 dX11_ahead_52 (by omega) (mos_o _ _ _) (by first | assumption | (show _ ≤ d; omega)) ⟨(Nat.le_of_ble_eq_true rfl), (Nat.le_of_ble_eq_true rfl)⟩ rfl rfl (Nat.le_of_ble_eq_true rfl) ?_ ?_
                  · rintro x9 n9 k9 h9
                    obtain ⟨⟨⟩, -⟩ := h9
                  · rintro v9 n9 k9 ⟨⟨⟩, rfl, S1, rfl, hS1⟩
                    refine ⟨rfl, ?_⟩
                    refine mt_iinc (pc := 55) (c9 := 1) dX11_ahead_55 rfl (by decide) (Nat.le_of_ble_eq_true rfl) rfl ?_
                    refine mt_goto (pc := 58) (tgt := 46) dX11_ahead_58 (by decide) ?_
                    rw [show (nI c + 1 : Int32) = nI (c + 1) from nI_1 c, updR_updR]
                    exact nc S1 hS1
              · skip
                refine mt_iload_n (pc := 46) dX11_ahead_46 rfl ?_
                refine mt_iload_n (pc := 47) dX11_ahead_47 rfl ?_
                refine mt_icmp_ge (pc := 48) (tgt := 61) dX11_ahead_48 (by decide) (fun c48 => ?_) (fun c48 => ?_)
                · skip
                  exact go a fc
                · exact absurd (nI_le (Nat.le_refl _) (by first | omega | decide)) c48
          · exact absurd c35 (by decide)
    · rw [ifR_n hok]
      refine mm_start (lo := [some (.ref 188), some (.int nn), some (.int x), none]) pn_X11 rfl rfl (Nat.le_of_ble_eq_true rfl) ?_
      refine mt_aload_n (pc := 0) dX11_ahead_0 rfl ?_
      refine mt_iconst (pc := 1) (v := 0) dX11_ahead_1 (by decide) ?_
      refine mt_mput (pc := 2) pf_X11_3 dX11_ahead_2 hx rfl ?_
      refine mt_aload_n (pc := 5) dX11_ahead_5 rfl ?_
      refine mt_iload_n (pc := 6) dX11_ahead_6 rfl ?_
      refine mt_iconst (pc := 7) (v := 0) dX11_ahead_7 (by decide) ?_
      refine mt_bipush (pc := 8) (v := 99) dX11_ahead_8 (by decide) ?_
      refine mt_cS (pc := 10) (n_within) cal_X11_within sta_X11_within ml_X11_348 dX11_ahead_10 (by first | assumption | (show _ ≤ d; omega)) ⟨(Nat.le_of_ble_eq_true rfl), (Nat.le_of_ble_eq_true rfl)⟩ rfl rfl (Nat.le_of_ble_eq_true rfl) ?_
      rw [in_w hkd]
      refine mt_if_eq (pc := 13) (tgt := 29) dX11_ahead_13 (by decide) (fun c13 => ?_) (fun c13 => ?_)
      · exact absurd c13 (by decide)
      · skip
        refine mt_iload_n (pc := 16) dX11_ahead_16 rfl ?_
        refine mt_iconst (pc := 17) (v := 0) dX11_ahead_17 (by decide) ?_
        refine mt_iconst (pc := 18) (v := 2) dX11_ahead_18 (by decide) ?_
        refine mt_cS (pc := 19) (n_within) cal_X11_within sta_X11_within ml_X11_348 dX11_ahead_19 (by first | assumption | (show _ ≤ d; omega)) ⟨(Nat.le_of_ble_eq_true rfl), (Nat.le_of_ble_eq_true rfl)⟩ rfl rfl (Nat.le_of_ble_eq_true rfl) ?_
        rw [in_nw hok]
        refine mt_if_eq (pc := 22) (tgt := 29) dX11_ahead_22 (by decide) (fun c22 => ?_) (fun c22 => ?_)
        · skip
          refine mt_iconst (pc := 29) (v := 0) dX11_ahead_29 (by decide) ?_
          refine mt_iconst (pc := 30) (v := 1) dX11_ahead_30 (by decide) ?_
          refine mt_iconst (pc := 31) (v := 1) dX11_ahead_31 (by decide) ?_
          refine mt_cV (pc := 32) (n_mayN (d := 0) (q := 1) hx (by decide) rfl rfl (by decide)) cal_X11_may vir_X11_may ml_X11_190 dX11_ahead_32 (by omega) (mos_o _ _ _) (by first | assumption | (show _ ≤ d; omega)) ⟨(Nat.le_of_ble_eq_true rfl), (Nat.le_of_ble_eq_true rfl)⟩ rfl rfl (Nat.le_of_ble_eq_true rfl) ?_
          refine mt_if_ne (pc := 35) (tgt := 40) dX11_ahead_35 (by decide) (fun c35 => ?_) (fun c35 => ?_)
          · exact absurd rfl c35
          · skip
            refine mt_iconst (pc := 38) (v := 0) dX11_ahead_38 (by decide) ?_
            exact mt_iret rfl dX11_ahead_39 (Nat.le_of_ble_eq_true rfl) (Nat.le_of_ble_eq_true rfl) (P_mq1 (c0 := 1) (c1 := 1) (r := .inl 1) rfl)
        · exact absurd rfl c22
  · rw [ifR_n hkd]
    refine mm_start (lo := [some (.ref 188), some (.int nn), some (.int x), none]) pn_X11 rfl rfl (Nat.le_of_ble_eq_true rfl) ?_
    refine mt_aload_n (pc := 0) dX11_ahead_0 rfl ?_
    refine mt_iconst (pc := 1) (v := 0) dX11_ahead_1 (by decide) ?_
    refine mt_mput (pc := 2) pf_X11_3 dX11_ahead_2 hx rfl ?_
    refine mt_aload_n (pc := 5) dX11_ahead_5 rfl ?_
    refine mt_iload_n (pc := 6) dX11_ahead_6 rfl ?_
    refine mt_iconst (pc := 7) (v := 0) dX11_ahead_7 (by decide) ?_
    refine mt_bipush (pc := 8) (v := 99) dX11_ahead_8 (by decide) ?_
    refine mt_cS (pc := 10) (n_within) cal_X11_within sta_X11_within ml_X11_348 dX11_ahead_10 (by first | assumption | (show _ ≤ d; omega)) ⟨(Nat.le_of_ble_eq_true rfl), (Nat.le_of_ble_eq_true rfl)⟩ rfl rfl (Nat.le_of_ble_eq_true rfl) ?_
    rw [in_nw hkd]
    refine mt_if_eq (pc := 13) (tgt := 29) dX11_ahead_13 (by decide) (fun c13 => ?_) (fun c13 => ?_)
    · skip
      refine mt_iconst (pc := 29) (v := 0) dX11_ahead_29 (by decide) ?_
      refine mt_iconst (pc := 30) (v := 1) dX11_ahead_30 (by decide) ?_
      refine mt_iconst (pc := 31) (v := 1) dX11_ahead_31 (by decide) ?_
      refine mt_cV (pc := 32) (n_mayN (d := 0) (q := 1) hx (by decide) rfl rfl (by decide)) cal_X11_may vir_X11_may ml_X11_190 dX11_ahead_32 (by omega) (mos_o _ _ _) (by first | assumption | (show _ ≤ d; omega)) ⟨(Nat.le_of_ble_eq_true rfl), (Nat.le_of_ble_eq_true rfl)⟩ rfl rfl (Nat.le_of_ble_eq_true rfl) ?_
      refine mt_if_ne (pc := 35) (tgt := 40) dX11_ahead_35 (by decide) (fun c35 => ?_) (fun c35 => ?_)
      · exact absurd rfl c35
      · skip
        refine mt_iconst (pc := 38) (v := 0) dX11_ahead_38 (by decide) ?_
        exact mt_iret rfl dX11_ahead_39 (Nat.le_of_ble_eq_true rfl) (Nat.le_of_ble_eq_true rfl) (P_mq1 (c0 := 1) (c1 := 1) (r := .inl 1) rfl)
    · exact absurd rfl c13
theorem n_broke {a : Int32} (hd : 8 ≤ d) (hx : 215 ≤ nx) (hQ : MQs k cs g A) (hR : RR (A 205) f) (hJ : RJ 400 k f) : mm_Con G l yX11_broke cX11_broke 3 (some .int) d 0 0 [.ref 188, .int a] nx (mos h g A) (P_mq 1 1 (if inR a k.2.1 then .inr (brkS k cs a.toNatClampNeg 100 0 f) else .inl 0) nx h g A) := by
  obtain ⟨h18, h19, hM, hL⟩ := id hQ
  have hk1 := hM.1
  have hk2 := hM.2.1
  obtain ⟨hn10, e3, -⟩ := hJ.1.nl
  by_cases hp : inR a k.2.1
  · rw [if_pos hp]
    obtain ⟨j, hj, rfl⟩ := inR_of hp (by omega)
    rw [nI_clamp (by omega)]
    obtain ⟨r, hr⟩ : ∃ r : Nat ⊕ Int32, r = .inr (brkS k cs j 100 0 f) := ⟨_, rfl⟩
    rw [← hr]
    refine mm_start (lo := [some (.ref 188), some (.int (nI j)), none]) pn_X11 rfl rfl (Nat.le_of_ble_eq_true rfl) ?_
    refine mt_aload_n (pc := 0) dX11_broke_0 rfl ?_
    refine mt_iconst (pc := 1) (v := 0) dX11_broke_1 (by decide) ?_
    refine mt_mput (pc := 2) pf_X11_3 dX11_broke_2 hx rfl ?_
    refine mt_aload_n (pc := 5) dX11_broke_5 rfl ?_
    refine mt_iload_n (pc := 6) dX11_broke_6 rfl ?_
    refine mt_iconst (pc := 7) (v := 1) dX11_broke_7 (by decide) ?_
    refine mt_cV (pc := 8) (n_isSoulY (d := 1) (k := k) (Nat.le_refl 1) hx rfl hk2 h19 hp) cal_X11_isSoul vir_X11_isSoul ml_X11_369 dX11_broke_8 (by omega) (mos_o _ _ _) (by first | assumption | (show _ ≤ d; omega)) ⟨(Nat.le_of_ble_eq_true rfl), (Nat.le_of_ble_eq_true rfl)⟩ rfl rfl (Nat.le_of_ble_eq_true rfl) ?_
    refine mt_if_ne (pc := 11) (tgt := 16) dX11_broke_11 (by decide) (fun c11 => ?_) (fun c11 => ?_)
    · skip
      refine mt_aload_n (pc := 16) dX11_broke_16 rfl ?_
      refine mt_aV (pc := 17) (n_takeR (d := 1) (f := f) (Nat.le_refl 1) hx hR hn10) cal_X11_take vir_X11_take ml_X11_293 dX11_broke_17 (by omega) (mos_o _ _ _) (by first | assumption | (show _ ≤ d; omega)) ⟨(Nat.le_of_ble_eq_true rfl), (Nat.le_of_ble_eq_true rfl)⟩ rfl rfl (Nat.le_of_ble_eq_true rfl) ?_ ?_
      · rintro x9 n9 k9 h9
        obtain ⟨⟨⟩, -⟩ := h9
      · rintro v9 n9 k9 ⟨⟨⟩, rfl, S, rfl, hS⟩
        refine ⟨rfl, ?_⟩
        refine mt_iconst (pc := 20) (v := 0) dX11_broke_20 (by decide) ?_
        refine mt_istore_n (pc := 21) dX11_broke_21 (Nat.le_of_ble_eq_true rfl) rfl ?_
        refine mt_forE (pc := 22) (α := MA) (H := fun c (w : MA) => mos h (upd g 0 0) w) (L := fun c (w : MA) => [some (.ref 188), some (.int (nI j)), some (.int (nI c))]) (I := fun c (w : MA) => AQ A w ∧ RR (w 206) (nigN f c) ∧ MQs k cs (upd g 0 0) w ∧ r = .inr (brkS k cs j (100 - c) c (nigN f c))) 100 (fun c w hc fc nc => ?_) (fun w fc => ?_) (updR A 206 S) (⟨SD_u.aq, by rw [updR_eq]; exact hS, ⟨h18, h19, hM, hL⟩, hr⟩)
        · skip
          obtain ⟨w1, w2, w3, w4⟩ := fc
          have hJc := nigN_RJ hk1 hJ c (by omega)
          rw [show 100 - c = (100 - (c + 1)) + 1 by omega, brkS_s] at w4
          refine mt_iload_n (pc := 22) dX11_broke_22 rfl ?_
          refine mt_bipush (pc := 23) (v := 99) dX11_broke_23 (by decide) ?_
          refine mt_icmp_gt (pc := 25) (tgt := 48) dX11_broke_25 (by decide) (fun c25 => ?_) (fun c25 => ?_)
          · exact absurd c25 (nI_nlt (a := 99) (b := c) (by omega) (by decide))
          · skip
            refine mt_aload_n (pc := 28) dX11_broke_28 rfl ?_
            refine mt_iload_n (pc := 29) dX11_broke_29 rfl ?_
            refine mt_aV (pc := 30) (n_worthOf (d := 6) (k := k) (cs := cs) (f := nigN f c) (a := j) (Nat.le_refl 6) hx (by omega) w3 w2 hJc.1) cal_X11_worthOf vir_X11_worthOf ml_X11_409 dX11_broke_30 (by omega) (mos_o _ _ _) (by first | assumption | (show _ ≤ d; omega)) ⟨(Nat.le_of_ble_eq_true rfl), (Nat.le_of_ble_eq_true rfl)⟩ rfl rfl (Nat.le_of_ble_eq_true rfl) ?_ ?_
            · rintro x9 n9 k9 h9
              obtain ⟨⟨⟩, -⟩ := h9
            · rintro v9 n9 k9 ⟨⟨⟩, rfl, A1, rfl, hSC⟩
              refine ⟨rfl, ?_⟩
              obtain ⟨u, u1, u2⟩ := hJc.1.2.2.2.1 j (by omega)
              obtain ⟨v, v1, v2⟩ := owA_b (k := k) (cs := cs) (f := nigN f c) (w := nI j) (nlo (nigN f c))
              have hl10 := hJc.1.nl.1
              have hcmp : 0 ≤ nigN f c (18 + j) - owA k cs (nigN f c) (nI j) (nlo (nigN f c)) ↔ ¬ nigN f c (18 + j) < owA k cs (nigN f c) (nI j) (nlo (nigN f c)) := by rw [u1, v1]; exact sub_neg (by omega) (by omega)
              refine mt_if_ge (pc := 33) (tgt := 38) dX11_broke_33 (by decide) (fun c33 => ?_) (fun c33 => ?_)
              · skip
                rw [if_neg (hcmp.mp c33)] at w4
                refine mt_aload_n (pc := 38) dX11_broke_38 rfl ?_
                refine mt_aV (pc := 39) (n_passes (d := 1) (k := k) (f := nigN f c) (N := 400 + c) (Nat.le_refl 1) hx hk1 (by rw [hSC 206 (by decide) (by decide)]; exact w2) hJc (by omega)) cal_X11_passes vir_X11_passes ml_X11_345 dX11_broke_39 (by omega) (mos_o _ _ _) (by first | assumption | (show _ ≤ d; omega)) ⟨(Nat.le_of_ble_eq_true rfl), (Nat.le_of_ble_eq_true rfl)⟩ rfl rfl (Nat.le_of_ble_eq_true rfl) ?_ ?_
                · rintro x9 n9 k9 h9
                  obtain ⟨⟨⟩, -⟩ := h9
                · rintro v9 n9 k9 ⟨⟨⟩, rfl, S1, rfl, hS1⟩
                  refine ⟨rfl, ?_⟩
                  refine mt_iinc (pc := 42) (c9 := 1) dX11_broke_42 rfl (by decide) (Nat.le_of_ble_eq_true rfl) rfl ?_
                  refine mt_goto (pc := 45) (tgt := 22) dX11_broke_45 (by decide) ?_
                  rw [show (nI c + 1 : Int32) = nI (c + 1) from nI_1 c]
                  exact nc (updR A1 206 S1) ⟨w1.trans (SD_s hSC.sd).aq, by rw [updR_eq]; exact hS1, (SD_s hSC.sd).mq w3, w4⟩
              · skip
                rw [if_pos (Classical.not_not.mp fun z => c33 (hcmp.mpr z))] at w4
                refine mt_iload_n (pc := 36) dX11_broke_36 rfl ?_
                exact mt_iret rfl dX11_broke_37 (Nat.le_of_ble_eq_true rfl) (Nat.le_of_ble_eq_true rfl) (P_mqv (c0 := 1) (c1 := 1) (r := r) w4 GQ_0 (w1.trans hSC.sd.aq))
        · skip
          obtain ⟨w1, w2, w3, w4⟩ := fc
          refine mt_iload_n (pc := 22) dX11_broke_22 rfl ?_
          refine mt_bipush (pc := 23) (v := 99) dX11_broke_23 (by decide) ?_
          refine mt_icmp_gt (pc := 25) (tgt := 48) dX11_broke_25 (by decide) (fun c25 => ?_) (fun c25 => ?_)
          · skip
            refine mt_iconst (pc := 48) (v := (-1)) dX11_broke_48 (by decide) ?_
            exact mt_iret rfl dX11_broke_49 (Nat.le_of_ble_eq_true rfl) (Nat.le_of_ble_eq_true rfl) (P_mqv (c0 := 1) (c1 := 1) (r := r) w4 GQ_0 w1)
          · exact absurd (nI_lt (a := 99) (b := 100) (by decide) (by decide)) c25
    · exact absurd c11 (by decide)
  · rw [if_neg hp]
    refine mm_start (lo := [some (.ref 188), some (.int a), none]) pn_X11 rfl rfl (Nat.le_of_ble_eq_true rfl) ?_
    refine mt_aload_n (pc := 0) dX11_broke_0 rfl ?_
    refine mt_iconst (pc := 1) (v := 0) dX11_broke_1 (by decide) ?_
    refine mt_mput (pc := 2) pf_X11_3 dX11_broke_2 hx rfl ?_
    refine mt_aload_n (pc := 5) dX11_broke_5 rfl ?_
    refine mt_iload_n (pc := 6) dX11_broke_6 rfl ?_
    refine mt_iconst (pc := 7) (v := 1) dX11_broke_7 (by decide) ?_
    refine mt_cV (pc := 8) (n_isSoulN (d := 1) (k := k) (Nat.le_refl 1) hx rfl hk2 h19 (by decide) hp) cal_X11_isSoul vir_X11_isSoul ml_X11_369 dX11_broke_8 (by omega) (mos_o _ _ _) (by first | assumption | (show _ ≤ d; omega)) ⟨(Nat.le_of_ble_eq_true rfl), (Nat.le_of_ble_eq_true rfl)⟩ rfl rfl (Nat.le_of_ble_eq_true rfl) ?_
    refine mt_if_ne (pc := 11) (tgt := 16) dX11_broke_11 (by decide) (fun c11 => ?_) (fun c11 => ?_)
    · exact absurd rfl c11
    · skip
      refine mt_iconst (pc := 14) (v := 0) dX11_broke_14 (by decide) ?_
      exact mt_iret rfl dX11_broke_15 (Nat.le_of_ble_eq_true rfl) (Nat.le_of_ble_eq_true rfl) (P_mq0 (c0 := 1) (c1 := 1) (r := .inl 0) rfl)
end MQD
