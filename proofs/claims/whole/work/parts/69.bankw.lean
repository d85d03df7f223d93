/-! CryptBank: run, all. -/
/-! ===== lN to 2^62 under >> and >>> ===== -/
theorem pf_lI {a : Nat} (h : a < 2 ^ 63) : (lN a).toInt = (a : Int) := lg_ofNat_toInt h
theorem pf_shr {a d : Nat} {D : Int64} (hD : (D.toBitVec.smod 64).toNat = d) (h : a < 2 ^ 62) : lN a >>> D = lN (a / 2 ^ d) := by
  have hd : a / 2 ^ d ≤ a := Nat.div_le_self _ _
  apply Int64.toInt_inj.mp
  have e : (lN a >>> D).toInt = (lN a).toInt >>> d := by
    rw [← hD]
    exact BitVec.toInt_sshiftRight ..
  rw [e, Int.shiftRight_eq_div_pow, pf_lI (by omega), pf_lI (by omega)]
  rfl
def fct : Nat → Nat
  | 0 => 1
  | n + 1 => fct n * (n + 1)
def orS (k : CS) (f : Nat → Int32) (t : Nat) : Nat → Int32 → Int32 → Int32
  | 0 => fun _ _ => 0
  | n + 1 => fun u c => fld (fun a acc => if (c >>> (nI a &&& 31)) &&& 1 = 0 then (if ¬ a = t then acc + orS k f t n (if u < (if 1 < f (18 + a) / 2 then f (18 + a) / 2 else 1) then u else u - (if 1 < f (18 + a) / 2 then f (18 + a) / 2 else 1)) (c ||| ((1 : Int32) <<< (nI a &&& 31))) else if u < (if 1 < f (18 + a) / 2 then f (18 + a) / 2 else 1) then acc + nI (fct n) else acc) else acc) 0 k.2.1
def orF (k : CS) (f : Nat → Int32) (t n : Nat) (u c : Int32) : Nat → Int32 := fld (fun a acc => if (c >>> (nI a &&& 31)) &&& 1 = 0 then (if ¬ a = t then acc + orS k f t n (if u < (if 1 < f (18 + a) / 2 then f (18 + a) / 2 else 1) then u else u - (if 1 < f (18 + a) / 2 then f (18 + a) / 2 else 1)) (c ||| ((1 : Int32) <<< (nI a &&& 31))) else if u < (if 1 < f (18 + a) / 2 then f (18 + a) / 2 else 1) then acc + nI (fct n) else acc) else acc) 0
theorem orF_s {k : CS} {f : Nat → Int32} {t n : Nat} {u c : Int32} (a : Nat) : orF k f t n u c (a + 1) = if (c >>> (nI a &&& 31)) &&& 1 = 0 then (if ¬ a = t then orF k f t n u c a + orS k f t n (if u < (if 1 < f (18 + a) / 2 then f (18 + a) / 2 else 1) then u else u - (if 1 < f (18 + a) / 2 then f (18 + a) / 2 else 1)) (c ||| ((1 : Int32) <<< (nI a &&& 31))) else if u < (if 1 < f (18 + a) / 2 then f (18 + a) / 2 else 1) then orF k f t n u c a + nI (fct n) else orF k f t n u c a) else orF k f t n u c a := rfl
def chN (n : Nat) : Nat → Nat
  | 0 => 1
  | c + 1 => chN n c * (n - c) / (c + 1)
def abN (n k q : Nat) : Nat → Nat
  | 0 => 0
  | m + 1 => abN n k q m + chN n (k + m) * q ^ (k + m) * (16 - q) ^ (n - (k + m))
def hvN : Nat → Nat × Nat → Nat × Nat
  | 0, p => p
  | f + 1, p => if (p.1 ||| p.2) % 2 = 0 then hvN f (p.1 / 2, p.2 / 2) else p
theorem hvN_s {f : Nat} {p : Nat × Nat} : hvN (f + 1) p = if (p.1 ||| p.2) % 2 = 0 then hvN f (p.1 / 2, p.2 / 2) else p := rfl
def allN (n k q : Nat) : Nat × Nat := hvN 48 (abN n k q (n + 1 - k), 16 ^ n)
theorem chN_le : ∀ n, n < 13 → ∀ c, c < 13 → chN n c ≤ 924 := by decide +kernel
theorem pw_le {q n i : Nat} (hq : q ≤ 16) (hi : i ≤ n) (hn : n ≤ 12) : q ^ i * (16 - q) ^ (n - i) ≤ 2 ^ 48 := by
  have h1 : q ^ i ≤ 16 ^ i := Nat.pow_le_pow_left hq i
  have h2 : (16 - q) ^ (n - i) ≤ 16 ^ (n - i) := Nat.pow_le_pow_left (by omega) _
  have h3 := Nat.mul_le_mul h1 h2
  rw [← Nat.pow_add, show i + (n - i) = n by omega] at h3
  have h4 : (16 : Nat) ^ n ≤ 16 ^ 12 := Nat.pow_le_pow_right (by decide) hn
  exact Nat.le_trans h3 (Nat.le_trans h4 (by decide))
theorem abN_le {n k q : Nat} (hn : n ≤ 12) (hq : q ≤ 16) : ∀ m, k + m ≤ n + 1 → abN n k q m ≤ m * 2 ^ 58
  | 0, _ => Nat.zero_le _
  | m + 1, hm => by
    have h1 := abN_le (k := k) hn hq m (by omega)
    have h2 := pw_le (i := k + m) hq (by omega) hn
    have h3 := chN_le n (by omega) (k + m) (by omega)
    have h4 : chN n (k + m) * q ^ (k + m) * (16 - q) ^ (n - (k + m)) ≤ 924 * 2 ^ 48 := by rw [Nat.mul_assoc]; exact Nat.mul_le_mul h3 h2
    rw [abN, Nat.succ_mul]
    have h5 : 924 * 2 ^ 48 ≤ 2 ^ 58 := by decide
    omega
section BANKW
variable {G : mm_G} {l : Launch} {d nx : Nat} {h : Nat → mm_E} {ic rs ne ia : Int32} {k : CS} {cs : List Nat} {bk : BS} {pg : PGS}
theorem c_factorial {n : Nat} (hn : n < 100) : mm_Con G l yX10_factorial cX10_factorial 3 (some .int) d 0 0 [.int (nI n)] nx h (mm_ret (some (.int (nI (fct n)))) nx h) := by
  refine mm_start (lo := [some (.int (nI n)), none, none]) pn_X10 rfl rfl (Nat.le_of_ble_eq_true rfl) ?_
  refine mt_iconst (pc := 0) (v := 1) dX10_factorial_0 (by decide) ?_
  refine mt_istore_n (pc := 1) dX10_factorial_1 (Nat.le_of_ble_eq_true rfl) rfl ?_
  refine mt_iconst (pc := 2) (v := 2) dX10_factorial_2 (by decide) ?_
  refine mt_istore_n (pc := 3) dX10_factorial_3 (Nat.le_of_ble_eq_true rfl) rfl ?_
  refine mt_for (pc := 4) (H := fun i => h) (L := fun i => [some (.int (nI n)), some (.int (nI (fct (i + 1)))), some (.int (nI (i + 2)))]) (n - 1) (fun i hi ni => ?_) ?_
  · skip
    refine mt_iload_n (pc := 4) dX10_factorial_4 rfl ?_
    refine mt_iload_n (pc := 5) dX10_factorial_5 rfl ?_
    refine mt_icmp_gt (pc := 6) (tgt := 19) dX10_factorial_6 (by decide) (fun c6 => ?_) (fun c6 => ?_)
    · exact absurd c6 (nI_nlt (a := n) (b := i + 2) (by omega) (by omega))
    · skip
      refine mt_iload_n (pc := 9) dX10_factorial_9 rfl ?_
      refine mt_iload_n (pc := 10) dX10_factorial_10 rfl ?_
      refine mt_imul (pc := 11) dX10_factorial_11 ?_
      rw [pk_mul]
      refine mt_istore_n (pc := 12) dX10_factorial_12 (Nat.le_of_ble_eq_true rfl) rfl ?_
      refine mt_iinc (pc := 13) (c9 := 1) dX10_factorial_13 rfl (by decide) (Nat.le_of_ble_eq_true rfl) rfl ?_
      refine mt_goto (pc := 16) (tgt := 4) dX10_factorial_16 (by decide) ?_
      rw [show (nI (i + 2) + 1 : Int32) = nI (i + 1 + 2) from nI_1 (i + 2)]
      exact ni
  · skip
    refine mt_iload_n (pc := 4) dX10_factorial_4 rfl ?_
    refine mt_iload_n (pc := 5) dX10_factorial_5 rfl ?_
    refine mt_icmp_gt (pc := 6) (tgt := 19) dX10_factorial_6 (by decide) (fun c6 => ?_) (fun c6 => ?_)
    · skip
      refine mt_iload_n (pc := 19) dX10_factorial_19 rfl ?_
      exact mt_iret rfl dX10_factorial_20 (Nat.le_of_ble_eq_true rfl) (Nat.le_of_ble_eq_true rfl) ⟨by rcases n with _ | n <;> rfl, rfl, rfl⟩
    · exact absurd (nI_lt (by omega) (by omega)) c6
theorem c_orders {t : Nat} (hx : 188 ≤ nx) (ht : t < 6) (hQ : QW h ic rs ne ia k cs bk pg) : ∀ (n : Nat) (d : Nat) (u c : Int32), n ≤ 6 → n + 4 ≤ d → mm_Con G l yX10_ordersWithNothing cX10_ordersWithNothing 9 (some .int) d 0 0 [.ref 0, .int (nI t), .int u, .int c, .int (nI n)] nx h (mm_ret (some (.int (orS k pg.2.1 t n u c))) nx h)
  | 0, d, u, c, hn6, hd => by
    have h0 := hQ.1
    refine mm_start (lo := [some (.ref 0), some (.int (nI t)), some (.int u), some (.int c), some (.int (nI 0)), none, none, none, none]) pn_X10 rfl rfl (Nat.le_of_ble_eq_true rfl) ?_
    refine mt_iconst (pc := 0) (v := 0) dX10_ordersWithNothing_0 (by decide) ?_
    refine mt_istore (pc := 1) dX10_ordersWithNothing_1 (Nat.le_of_ble_eq_true rfl) rfl ?_
    refine mt_iload (pc := 3) dX10_ordersWithNothing_3 rfl ?_
    refine mt_if_gt (pc := 5) (tgt := 11) dX10_ordersWithNothing_5 (by decide) (fun c5 => ?_) (fun c5 => ?_)
    · exact absurd c5 (by decide)
    · skip
      refine mt_iload (pc := 8) dX10_ordersWithNothing_8 rfl ?_
      exact mt_iret rfl dX10_ordersWithNothing_10 (Nat.le_of_ble_eq_true rfl) (Nat.le_of_ble_eq_true rfl) ⟨rfl, rfl, rfl⟩
  | n + 1, d, u, c, hn6, hd => by
    obtain ⟨h0, hC, hA, hLW, hB, h33, hP, ⟨⟨n1, hw⟩, hcn⟩, -⟩ := id hQ
    obtain rfl : n1 = nlo pg.2.1 := (nlo_eq hw).symm
    have c0 := hC.1
    have hk1 : k.1 ≤ 8 := hC.2.2.2.2.2.2.1
    have hk2 : k.2.1 ≤ 6 := hC.2.2.2.2.2.2.2
    obtain ⟨p1, p2, p3, -⟩ := id hP
    have hn := hw.2.1
    have e9 : (nI (n + 1) - 1 : Int32) = nI n := by rw [show (1 : Int32) = nI 1 from rfl, pk_sub (by omega)]; rfl
    refine mm_start (lo := [some (.ref 0), some (.int (nI t)), some (.int u), some (.int c), some (.int (nI (n + 1))), none, none, none, none]) pn_X10 rfl rfl (Nat.le_of_ble_eq_true rfl) ?_
    refine mt_iconst (pc := 0) (v := 0) dX10_ordersWithNothing_0 (by decide) ?_
    refine mt_istore (pc := 1) dX10_ordersWithNothing_1 (Nat.le_of_ble_eq_true rfl) rfl ?_
    refine mt_iload (pc := 3) dX10_ordersWithNothing_3 rfl ?_
    refine mt_if_gt (pc := 5) (tgt := 11) dX10_ordersWithNothing_5 (by decide) (fun c5 => ?_) (fun c5 => ?_)
    · skip
      refine mt_iconst (pc := 11) (v := 0) dX10_ordersWithNothing_11 (by decide) ?_
      refine mt_istore (pc := 12) dX10_ordersWithNothing_12 (Nat.le_of_ble_eq_true rfl) rfl ?_
      refine mt_for (pc := 14) (H := fun a => h) (L := fun a => [some (.ref 0), some (.int (nI t)), some (.int u), some (.int c), some (.int (nI (n + 1))), some (.int (orF k pg.2.1 t n u c a)), some (.int (nI a)), none, none]) (k.2.1) (fun a ha na => ?_) ?_
      · skip
        have e1 := orF_s (k := k) (f := pg.2.1) (t := t) (n := n) (u := u) (c := c) a
        generalize hwt : (if 1 < pg.2.1 (18 + a) / 2 then pg.2.1 (18 + a) / 2 else 1) = wt at e1
        have back : mm_T (G, l, yX10_ordersWithNothing, 9, some .int, d, 0, 0, mm_ret (some (.int (orS k pg.2.1 t (n + 1) u c))) nx h, nx) RX10 cX10_ordersWithNothing nx h 0 0 120 [some (.ref 0), some (.int (nI t)), some (.int u), some (.int c), some (.int (nI (n + 1))), some (.int (orF k pg.2.1 t n u c (a + 1))), some (.int (nI a)), none, none] [] := by
          refine mt_iinc (pc := 120) (c9 := 1) dX10_ordersWithNothing_120 rfl (by decide) (Nat.le_of_ble_eq_true rfl) rfl ?_
          refine mt_goto (pc := 123) (tgt := 14) dX10_ordersWithNothing_123 (by decide) ?_
          rw [show (nI a + 1 : Int32) = nI (a + 1) from nI_1 a]
          exact na
        refine mt_iload (pc := 14) dX10_ordersWithNothing_14 rfl ?_
        refine mt_aload_n (pc := 16) dX10_ordersWithNothing_16 rfl ?_
        refine mt_get (pc := 17) gf_X10_19 dX10_ordersWithNothing_17 (by first | assumption | omega) (by repeat (first | exact hset_eq _ _ _ | assumption | rw [hset_ne (by first | assumption | decide | omega)])) rfl ?_
        refine mt_get (pc := 20) gf_X10_173 dX10_ordersWithNothing_20 (by first | assumption | omega) (by repeat (first | exact hset_eq _ _ _ | assumption | rw [hset_ne (by first | assumption | decide | omega)])) rfl ?_
        refine mt_icmp_ge (pc := 23) (tgt := 126) dX10_ordersWithNothing_23 (by decide) (fun c23 => ?_) (fun c23 => ?_)
        · exact absurd c23 (nI_ge ha (by omega))
        · skip
          refine mt_iload_n (pc := 26) dX10_ordersWithNothing_26 rfl ?_
          refine mt_iload (pc := 27) dX10_ordersWithNothing_27 rfl ?_
          refine mt_ishr (pc := 29) dX10_ordersWithNothing_29 ?_
          refine mt_iconst (pc := 30) (v := 1) dX10_ordersWithNothing_30 (by decide) ?_
          refine mt_iand (pc := 31) dX10_ordersWithNothing_31 ?_
          refine mt_if_ne (pc := 32) (tgt := 120) dX10_ordersWithNothing_32 (by decide) (fun c32 => ?_) (fun c32 => ?_)
          · skip
            rw [if_neg c32] at e1
            rw [e1] at back
            exact mt_fg (by repeat (first | exact trivial | refine ⟨rfl, ?_⟩ | rfl)) back
          · skip
            rw [if_pos c32] at e1
            refine mt_iconst (pc := 35) (v := 1) dX10_ordersWithNothing_35 (by decide) ?_
            refine mt_aload_n (pc := 36) dX10_ordersWithNothing_36 rfl ?_
            refine mt_get (pc := 37) gf_X10_65 dX10_ordersWithNothing_37 (by first | assumption | omega) (by repeat (first | exact hset_eq _ _ _ | assumption | rw [hset_ne (by first | assumption | decide | omega)])) rfl ?_
            refine mt_get (pc := 40) gf_X10_157 dX10_ordersWithNothing_40 (by first | assumption | omega) (by repeat (first | exact hset_eq _ _ _ | assumption | rw [hset_ne (by first | assumption | decide | omega)])) rfl ?_
            refine mt_iload (pc := 43) dX10_ordersWithNothing_43 rfl ?_
            refine mt_cV (pc := 45) (c_purse (d := 1) (p := a) (Nat.le_refl 1) (by omega) (by omega) (by omega) p2 p3) cal_X6_purse vir_X6_purse ml_X10_254 dX10_ordersWithNothing_45 (by first | assumption | omega) (by repeat (first | exact hset_eq _ _ _ | assumption | rw [hset_ne (by first | assumption | decide | omega)])) (by first | assumption | (show _ ≤ d; omega)) ⟨(Nat.le_of_ble_eq_true rfl), (Nat.le_of_ble_eq_true rfl)⟩ rfl rfl (Nat.le_of_ble_eq_true rfl) ?_
            refine mt_iconst (pc := 48) (v := 2) dX10_ordersWithNothing_48 (by decide) ?_
            refine mt_idiv (pc := 49) dX10_ordersWithNothing_49 (by decide) ?_
            refine mt_mmax (pc := 50) ml_X10_356 dX10_ordersWithNothing_50 (by first | assumption | (show _ ≤ d; omega)) ⟨(Nat.le_of_ble_eq_true rfl), (Nat.le_of_ble_eq_true rfl)⟩ (Nat.le_of_ble_eq_true rfl) ?_
            rw [hwt]
            refine mt_istore (pc := 53) dX10_ordersWithNothing_53 (Nat.le_of_ble_eq_true rfl) rfl ?_
            refine mt_iload (pc := 55) dX10_ordersWithNothing_55 rfl ?_
            refine mt_iload_n (pc := 57) dX10_ordersWithNothing_57 rfl ?_
            refine mt_icmp_gt (pc := 58) (tgt := 68) dX10_ordersWithNothing_58 (by decide) (fun c58 => ?_) (fun c58 => ?_)
            · skip
              rw [if_pos c58, if_pos c58] at e1
              refine mt_iload_n (pc := 68) dX10_ordersWithNothing_68 rfl ?_
              refine mt_istore (pc := 69) dX10_ordersWithNothing_69 (Nat.le_of_ble_eq_true rfl) rfl ?_
              refine mt_iload (pc := 71) dX10_ordersWithNothing_71 rfl ?_
              refine mt_iload_n (pc := 73) dX10_ordersWithNothing_73 rfl ?_
              refine mt_icmp_eq (pc := 74) (tgt := 102) dX10_ordersWithNothing_74 (by decide) (fun c74 => ?_) (fun c74 => ?_)
              · skip
                have hat : a = t := (nI_eq (by omega) (by omega)).mp c74
                rw [if_neg (fun z => z hat)] at e1
                refine mt_iload (pc := 102) dX10_ordersWithNothing_102 rfl ?_
                refine mt_iload_n (pc := 104) dX10_ordersWithNothing_104 rfl ?_
                refine mt_icmp_le (pc := 105) (tgt := 120) dX10_ordersWithNothing_105 (by decide) (fun c105 => ?_) (fun c105 => ?_)
                · exact absurd c58 (Int32.not_lt.mpr c105)
                · skip
                  refine mt_iload (pc := 108) dX10_ordersWithNothing_108 rfl ?_
                  refine mt_iload (pc := 110) dX10_ordersWithNothing_110 rfl ?_
                  refine mt_iconst (pc := 112) (v := 1) dX10_ordersWithNothing_112 (by decide) ?_
                  refine mt_isub (pc := 113) dX10_ordersWithNothing_113 ?_
                  rw [e9]
                  refine mt_cS (pc := 114) (c_factorial (d := 1) (n := n) (by omega)) cal_X10_factorial sta_X10_factorial ml_X10_387 dX10_ordersWithNothing_114 (by first | assumption | (show _ ≤ d; omega)) ⟨(Nat.le_of_ble_eq_true rfl), (Nat.le_of_ble_eq_true rfl)⟩ rfl rfl (Nat.le_of_ble_eq_true rfl) ?_
                  refine mt_iadd (pc := 117) dX10_ordersWithNothing_117 ?_
                  refine mt_istore (pc := 118) dX10_ordersWithNothing_118 (Nat.le_of_ble_eq_true rfl) rfl ?_
                  rw [e1] at back
                  exact mt_fg (by repeat (first | exact trivial | refine ⟨rfl, ?_⟩ | rfl)) back
              · skip
                have hat : ¬ a = t := fun z => c74 (by rw [z])
                rw [if_pos hat] at e1
                refine mt_iload (pc := 77) dX10_ordersWithNothing_77 rfl ?_
                refine mt_aload_n (pc := 79) dX10_ordersWithNothing_79 rfl ?_
                refine mt_iload_n (pc := 80) dX10_ordersWithNothing_80 rfl ?_
                refine mt_iload (pc := 81) dX10_ordersWithNothing_81 rfl ?_
                refine mt_iload_n (pc := 83) dX10_ordersWithNothing_83 rfl ?_
                refine mt_iconst (pc := 84) (v := 1) dX10_ordersWithNothing_84 (by decide) ?_
                refine mt_iload (pc := 85) dX10_ordersWithNothing_85 rfl ?_
                refine mt_ishl (pc := 87) dX10_ordersWithNothing_87 ?_
                refine mt_ior (pc := 88) dX10_ordersWithNothing_88 ?_
                refine mt_iload (pc := 89) dX10_ordersWithNothing_89 rfl ?_
                refine mt_iconst (pc := 91) (v := 1) dX10_ordersWithNothing_91 (by decide) ?_
                refine mt_isub (pc := 92) dX10_ordersWithNothing_92 ?_
                rw [e9]
                refine mt_cV (pc := 93) (c_orders hx ht hQ n (d - 1) _ _ (by omega) (by omega)) cal_X10_ordersWithNothing vir_X10_ordersWithNothing ml_X10_325 dX10_ordersWithNothing_93 (by first | assumption | omega) (by repeat (first | exact hset_eq _ _ _ | assumption | rw [hset_ne (by first | assumption | decide | omega)])) (by show _ ≤ d; omega) ⟨(Nat.le_of_ble_eq_true rfl), (Nat.le_of_ble_eq_true rfl)⟩ rfl rfl (Nat.le_of_ble_eq_true rfl) ?_
                refine mt_iadd (pc := 96) dX10_ordersWithNothing_96 ?_
                refine mt_istore (pc := 97) dX10_ordersWithNothing_97 (Nat.le_of_ble_eq_true rfl) rfl ?_
                refine mt_goto (pc := 99) (tgt := 120) dX10_ordersWithNothing_99 (by decide) ?_
                rw [e1] at back
                exact mt_fg (by repeat (first | exact trivial | refine ⟨rfl, ?_⟩ | rfl)) back
            · skip
              rw [if_neg c58, if_neg c58] at e1
              refine mt_iload_n (pc := 61) dX10_ordersWithNothing_61 rfl ?_
              refine mt_iload (pc := 62) dX10_ordersWithNothing_62 rfl ?_
              refine mt_isub (pc := 64) dX10_ordersWithNothing_64 ?_
              refine mt_goto (pc := 65) (tgt := 69) dX10_ordersWithNothing_65 (by decide) ?_
              refine mt_istore (pc := 69) dX10_ordersWithNothing_69 (Nat.le_of_ble_eq_true rfl) rfl ?_
              refine mt_iload (pc := 71) dX10_ordersWithNothing_71 rfl ?_
              refine mt_iload_n (pc := 73) dX10_ordersWithNothing_73 rfl ?_
              refine mt_icmp_eq (pc := 74) (tgt := 102) dX10_ordersWithNothing_74 (by decide) (fun c74 => ?_) (fun c74 => ?_)
              · skip
                have hat : a = t := (nI_eq (by omega) (by omega)).mp c74
                rw [if_neg (fun z => z hat)] at e1
                refine mt_iload (pc := 102) dX10_ordersWithNothing_102 rfl ?_
                refine mt_iload_n (pc := 104) dX10_ordersWithNothing_104 rfl ?_
                refine mt_icmp_le (pc := 105) (tgt := 120) dX10_ordersWithNothing_105 (by decide) (fun c105 => ?_) (fun c105 => ?_)
                · skip
                  rw [e1] at back
                  exact mt_fg (by repeat (first | exact trivial | refine ⟨rfl, ?_⟩ | rfl)) back
                · exact absurd (Int32.not_le.mp c105) c58
              · skip
                have hat : ¬ a = t := fun z => c74 (by rw [z])
                rw [if_pos hat] at e1
                refine mt_iload (pc := 77) dX10_ordersWithNothing_77 rfl ?_
                refine mt_aload_n (pc := 79) dX10_ordersWithNothing_79 rfl ?_
                refine mt_iload_n (pc := 80) dX10_ordersWithNothing_80 rfl ?_
                refine mt_iload (pc := 81) dX10_ordersWithNothing_81 rfl ?_
                refine mt_iload_n (pc := 83) dX10_ordersWithNothing_83 rfl ?_
                refine mt_iconst (pc := 84) (v := 1) dX10_ordersWithNothing_84 (by decide) ?_
                refine mt_iload (pc := 85) dX10_ordersWithNothing_85 rfl ?_
                refine mt_ishl (pc := 87) dX10_ordersWithNothing_87 ?_
                refine mt_ior (pc := 88) dX10_ordersWithNothing_88 ?_
                refine mt_iload (pc := 89) dX10_ordersWithNothing_89 rfl ?_
                refine mt_iconst (pc := 91) (v := 1) dX10_ordersWithNothing_91 (by decide) ?_
                refine mt_isub (pc := 92) dX10_ordersWithNothing_92 ?_
                rw [e9]
                refine mt_cV (pc := 93) (c_orders hx ht hQ n (d - 1) _ _ (by omega) (by omega)) cal_X10_ordersWithNothing vir_X10_ordersWithNothing ml_X10_325 dX10_ordersWithNothing_93 (by first | assumption | omega) (by repeat (first | exact hset_eq _ _ _ | assumption | rw [hset_ne (by first | assumption | decide | omega)])) (by show _ ≤ d; omega) ⟨(Nat.le_of_ble_eq_true rfl), (Nat.le_of_ble_eq_true rfl)⟩ rfl rfl (Nat.le_of_ble_eq_true rfl) ?_
                refine mt_iadd (pc := 96) dX10_ordersWithNothing_96 ?_
                refine mt_istore (pc := 97) dX10_ordersWithNothing_97 (Nat.le_of_ble_eq_true rfl) rfl ?_
                refine mt_goto (pc := 99) (tgt := 120) dX10_ordersWithNothing_99 (by decide) ?_
                rw [e1] at back
                exact mt_fg (by repeat (first | exact trivial | refine ⟨rfl, ?_⟩ | rfl)) back
      · skip
        refine mt_iload (pc := 14) dX10_ordersWithNothing_14 rfl ?_
        refine mt_aload_n (pc := 16) dX10_ordersWithNothing_16 rfl ?_
        refine mt_get (pc := 17) gf_X10_19 dX10_ordersWithNothing_17 (by first | assumption | omega) (by repeat (first | exact hset_eq _ _ _ | assumption | rw [hset_ne (by first | assumption | decide | omega)])) rfl ?_
        refine mt_get (pc := 20) gf_X10_173 dX10_ordersWithNothing_20 (by first | assumption | omega) (by repeat (first | exact hset_eq _ _ _ | assumption | rw [hset_ne (by first | assumption | decide | omega)])) rfl ?_
        refine mt_icmp_ge (pc := 23) (tgt := 126) dX10_ordersWithNothing_23 (by decide) (fun c23 => ?_) (fun c23 => ?_)
        · skip
          refine mt_iload (pc := 126) dX10_ordersWithNothing_126 rfl ?_
          exact mt_iret rfl dX10_ordersWithNothing_128 (Nat.le_of_ble_eq_true rfl) (Nat.le_of_ble_eq_true rfl) ⟨rfl, rfl, rfl⟩
        · exact absurd (nI_le (Nat.le_refl _) (by omega)) c23
    · exact absurd (nI_lt (a := 0) (b := n + 1) (by omega) (by omega)) c5
theorem c_run {p a : Int32} (hl : l.stackTraces = false) (hd : 11 ≤ d) (hx : 188 ≤ nx) (hQ : QW h ic rs ne ia k cs bk pg) : mm_Con G l yX10_run cX10_run 3 (some .int) d 8 48 [.ref 0, .int p, .int a] nx h (P_q (if inR p k.1 ∧ inR a k.2.1 then .inr (orS k pg.2.1 a.toNatClampNeg k.2.1 (pg.2.1 (4 + p.toNatClampNeg)) 0) else .inl 0) ic rs ne ia nx h) := by
  obtain ⟨h0, hC, hA, hLW, hB, h33, hP, ⟨⟨n, hw⟩, hcn⟩, -⟩ := id hQ
  obtain rfl : n = nlo pg.2.1 := (nlo_eq hw).symm
  have c0 := hC.1
  have hk1 : k.1 ≤ 8 := hC.2.2.2.2.2.2.1
  have hk2 : k.2.1 ≤ 6 := hC.2.2.2.2.2.2.2
  obtain ⟨p1, p2, p3, -⟩ := id hP
  have hn := hw.2.1
  refine mm_start (lo := [some (.ref 0), some (.int p), some (.int a)]) pn_X10 rfl rfl (Nat.le_of_ble_eq_true rfl) ?_
  refine mt_aload_n (pc := 0) dX10_run_0 rfl ?_
  refine mt_iload_n (pc := 1) dX10_run_1 rfl ?_
  refine mt_aV (pc := 2) (c_needSlab (d := 7) hl (Nat.le_refl 7) (by omega) h0 hC) cal_X10_needSlab vir_X10_needSlab ml_X10_222 dX10_run_2 (by first | assumption | omega) (by repeat (first | exact hset_eq _ _ _ | assumption | rw [hset_ne (by first | assumption | decide | omega)])) (by first | assumption | (show _ ≤ d; omega)) ⟨(Nat.le_of_ble_eq_true rfl), (Nat.le_of_ble_eq_true rfl)⟩ rfl rfl (Nat.le_of_ble_eq_true rfl) ?_ ?_
  · rintro x9 n9 k9 h9
    obtain ⟨rfl, rfl, hno, rfl⟩ := h9
    exact P_qx (if_neg fun z => hno z.1)
  · rintro v9 n9 k9 ⟨rfl, rfl, hok, rfl⟩
    refine ⟨rfl, ?_⟩
    refine mt_aload_n (pc := 5) dX10_run_5 rfl ?_
    refine mt_iload_n (pc := 6) dX10_run_6 rfl ?_
    refine mt_aV (pc := 7) (c_needSoul (d := 7) hl (Nat.le_refl 7) (by omega) h0 hC) cal_X10_needSoul vir_X10_needSoul ml_X10_245 dX10_run_7 (by first | assumption | omega) (by repeat (first | exact hset_eq _ _ _ | assumption | rw [hset_ne (by first | assumption | decide | omega)])) (by first | assumption | (show _ ≤ d; omega)) ⟨(Nat.le_of_ble_eq_true rfl), (Nat.le_of_ble_eq_true rfl)⟩ rfl rfl (Nat.le_of_ble_eq_true rfl) ?_ ?_
    · rintro x9 n9 k9 h9
      obtain ⟨rfl, rfl, hno, rfl⟩ := h9
      exact P_qx (if_neg fun z => hno z.2)
    · rintro v9 n9 k9 ⟨rfl, rfl, hok2, rfl⟩
      obtain ⟨j, hj, rfl⟩ := inR_of hok (by omega)
      obtain ⟨q, hq, rfl⟩ := inR_of hok2 (by omega)
      refine ⟨rfl, ?_⟩
      refine mt_aload_n (pc := 10) dX10_run_10 rfl ?_
      refine mt_iload_n (pc := 11) dX10_run_11 rfl ?_
      refine mt_aload_n (pc := 12) dX10_run_12 rfl ?_
      refine mt_get (pc := 13) gf_X10_65 dX10_run_13 (by first | assumption | omega) (by repeat (first | exact hset_eq _ _ _ | assumption | rw [hset_ne (by first | assumption | decide | omega)])) rfl ?_
      refine mt_get (pc := 16) gf_X10_157 dX10_run_16 (by first | assumption | omega) (by repeat (first | exact hset_eq _ _ _ | assumption | rw [hset_ne (by first | assumption | decide | omega)])) rfl ?_
      refine mt_iload_n (pc := 19) dX10_run_19 rfl ?_
      refine mt_cV (pc := 20) (c_under (d := 1) (p := j) (Nat.le_refl 1) (by omega) (by omega) (by omega) p2 p3) cal_X6_under vir_X6_under ml_X10_229 dX10_run_20 (by first | assumption | omega) (by repeat (first | exact hset_eq _ _ _ | assumption | rw [hset_ne (by first | assumption | decide | omega)])) (by first | assumption | (show _ ≤ d; omega)) ⟨(Nat.le_of_ble_eq_true rfl), (Nat.le_of_ble_eq_true rfl)⟩ rfl rfl (Nat.le_of_ble_eq_true rfl) ?_
      refine mt_iconst (pc := 23) (v := 0) dX10_run_23 (by decide) ?_
      refine mt_aload_n (pc := 24) dX10_run_24 rfl ?_
      refine mt_get (pc := 25) gf_X10_19 dX10_run_25 (by first | assumption | omega) (by repeat (first | exact hset_eq _ _ _ | assumption | rw [hset_ne (by first | assumption | decide | omega)])) rfl ?_
      refine mt_get (pc := 28) gf_X10_173 dX10_run_28 (by first | assumption | omega) (by repeat (first | exact hset_eq _ _ _ | assumption | rw [hset_ne (by first | assumption | decide | omega)])) rfl ?_
      refine mt_cV (pc := 31) (c_orders hx (by omega) hQ k.2.1 10 _ _ (by omega) (by omega)) cal_X10_ordersWithNothing vir_X10_ordersWithNothing ml_X10_325 dX10_run_31 (by first | assumption | omega) (by repeat (first | exact hset_eq _ _ _ | assumption | rw [hset_ne (by first | assumption | decide | omega)])) (by first | assumption | (show _ ≤ d; omega)) ⟨(Nat.le_of_ble_eq_true rfl), (Nat.le_of_ble_eq_true rfl)⟩ rfl rfl (Nat.le_of_ble_eq_true rfl) ?_
      exact mt_iret rfl dX10_run_34 (Nat.le_of_ble_eq_true rfl) (Nat.le_of_ble_eq_true rfl) (P_qv (ic := ic) (rs := rs) (ne := ne) (ia := ia) (by rw [if_pos ⟨hok, hok2⟩, nI_clamp (by omega), nI_clamp (by omega)]) hQ.fq)
theorem c_choices {n i : Nat} (hn : n ≤ 12) (hi : i ≤ n) : mm_Con G l yX10_choices cX10_choices 5 (some .long) d 0 0 [.int (nI n), .int (nI i)] nx h (mm_ret (some (.long (lN (chN n i)))) nx h) := by
  refine mm_start (lo := [some (.int (nI n)), some (.int (nI i)), none, none, none]) pn_X10 rfl rfl (Nat.le_of_ble_eq_true rfl) ?_
  refine mt_lconst (pc := 0) (v := 1) dX10_choices_0 (by decide) ?_
  refine mt_lstore_n (pc := 1) dX10_choices_1 (Nat.le_of_ble_eq_true rfl) rfl ?_
  refine mt_iconst (pc := 2) (v := 1) dX10_choices_2 (by decide) ?_
  refine mt_istore (pc := 3) dX10_choices_3 (Nat.le_of_ble_eq_true rfl) rfl ?_
  refine mt_for (pc := 5) (H := fun c => h) (L := fun c => [some (.int (nI n)), some (.int (nI i)), some (.long (lN (chN n c))), none, some (.int (nI (c + 1)))]) i (fun c hc nc => ?_) ?_
  · skip
    refine mt_iload (pc := 5) dX10_choices_5 rfl ?_
    refine mt_iload_n (pc := 7) dX10_choices_7 rfl ?_
    refine mt_icmp_gt (pc := 8) (tgt := 31) dX10_choices_8 (by decide) (fun c8 => ?_) (fun c8 => ?_)
    · exact absurd c8 (nI_nlt (a := i) (b := c + 1) (by omega) (by omega))
    · skip
      refine mt_lload_n (pc := 11) dX10_choices_11 rfl ?_
      refine mt_iload_n (pc := 12) dX10_choices_12 rfl ?_
      refine mt_iload (pc := 13) dX10_choices_13 rfl ?_
      refine mt_isub (pc := 15) dX10_choices_15 ?_
      refine mt_iconst (pc := 16) (v := 1) dX10_choices_16 (by decide) ?_
      refine mt_iadd (pc := 17) dX10_choices_17 ?_
      rw [show (nI n - nI (c + 1) + 1 : Int32) = nI (n - c) by rw [pk_sub (by omega), show (1 : Int32) = nI 1 from rfl, nI_add]; congr 1; omega]
      refine mt_i2l (pc := 18) dX10_choices_18 rfl ?_
      rw [nI_l (by omega)]
      refine mt_lmul (pc := 19) dX10_choices_19 ?_
      rw [lN_mul]
      refine mt_iload (pc := 20) dX10_choices_20 rfl ?_
      refine mt_i2l (pc := 22) dX10_choices_22 rfl ?_
      rw [nI_l (by omega)]
      refine mt_ldiv (pc := 23) dX10_choices_23 (fun z => by have := (pk_lEQ (a := c + 1) (b := 0) (by omega) (by decide)).mp z; omega) ?_
      rw [pk_lDiv (by have := chN_le n (by omega) c (by omega); have h3 : chN n c * (n - c) ≤ 924 * 12 := Nat.mul_le_mul this (by omega); omega) (by omega) (by omega)]
      refine mt_lstore_n (pc := 24) dX10_choices_24 (Nat.le_of_ble_eq_true rfl) rfl ?_
      refine mt_iinc (pc := 25) (c9 := 1) dX10_choices_25 rfl (by decide) (Nat.le_of_ble_eq_true rfl) rfl ?_
      refine mt_goto (pc := 28) (tgt := 5) dX10_choices_28 (by decide) ?_
      rw [show (nI (c + 1) + 1 : Int32) = nI (c + 1 + 1) from nI_1 (c + 1)]
      exact nc
  · skip
    refine mt_iload (pc := 5) dX10_choices_5 rfl ?_
    refine mt_iload_n (pc := 7) dX10_choices_7 rfl ?_
    refine mt_icmp_gt (pc := 8) (tgt := 31) dX10_choices_8 (by decide) (fun c8 => ?_) (fun c8 => ?_)
    · skip
      refine mt_lload_n (pc := 31) dX10_choices_31 rfl ?_
      exact mt_lret rfl dX10_choices_32 (Nat.le_of_ble_eq_true rfl) (Nat.le_of_ble_eq_true rfl) ⟨rfl, rfl, rfl⟩
    · exact absurd (nI_lt (a := i) (b := i + 1) (by omega) (by omega)) c8
theorem c_power {b t : Nat} (hb : b < 100) (ht : t < 100) : mm_Con G l yX10_power cX10_power 5 (some .long) d 0 0 [.int (nI b), .int (nI t)] nx h (mm_ret (some (.long (lN (b ^ t)))) nx h) := by
  refine mm_start (lo := [some (.int (nI b)), some (.int (nI t)), none, none, none]) pn_X10 rfl rfl (Nat.le_of_ble_eq_true rfl) ?_
  refine mt_lconst (pc := 0) (v := 1) dX10_power_0 (by decide) ?_
  refine mt_lstore_n (pc := 1) dX10_power_1 (Nat.le_of_ble_eq_true rfl) rfl ?_
  refine mt_iconst (pc := 2) (v := 0) dX10_power_2 (by decide) ?_
  refine mt_istore (pc := 3) dX10_power_3 (Nat.le_of_ble_eq_true rfl) rfl ?_
  refine mt_for (pc := 5) (H := fun c => h) (L := fun c => [some (.int (nI b)), some (.int (nI t)), some (.long (lN (b ^ c))), none, some (.int (nI c))]) t (fun c hc nc => ?_) ?_
  · skip
    refine mt_iload (pc := 5) dX10_power_5 rfl ?_
    refine mt_iload_n (pc := 7) dX10_power_7 rfl ?_
    refine mt_icmp_ge (pc := 8) (tgt := 22) dX10_power_8 (by decide) (fun c8 => ?_) (fun c8 => ?_)
    · exact absurd c8 (nI_ge hc (by omega))
    · skip
      refine mt_lload_n (pc := 11) dX10_power_11 rfl ?_
      refine mt_iload_n (pc := 12) dX10_power_12 rfl ?_
      refine mt_i2l (pc := 13) dX10_power_13 rfl ?_
      rw [nI_l (by omega)]
      refine mt_lmul (pc := 14) dX10_power_14 ?_
      rw [lN_mul, ← Nat.pow_succ]
      refine mt_lstore_n (pc := 15) dX10_power_15 (Nat.le_of_ble_eq_true rfl) rfl ?_
      refine mt_iinc (pc := 16) (c9 := 1) dX10_power_16 rfl (by decide) (Nat.le_of_ble_eq_true rfl) rfl ?_
      refine mt_goto (pc := 19) (tgt := 5) dX10_power_19 (by decide) ?_
      rw [show (nI c + 1 : Int32) = nI (c + 1) from nI_1 c]
      first
        | exact nc
        | exact mt_fg (by repeat (first | exact trivial | refine ⟨rfl, ?_⟩ | rfl)) nc
  · skip
    refine mt_iload (pc := 5) dX10_power_5 rfl ?_
    refine mt_iload_n (pc := 7) dX10_power_7 rfl ?_
    refine mt_icmp_ge (pc := 8) (tgt := 22) dX10_power_8 (by decide) (fun c8 => ?_) (fun c8 => ?_)
    · skip
      refine mt_lload_n (pc := 22) dX10_power_22 rfl ?_
      exact mt_lret rfl dX10_power_23 (Nat.le_of_ble_eq_true rfl) (Nat.le_of_ble_eq_true rfl) ⟨rfl, rfl, rfl⟩
    · exact absurd (nI_le (Nat.le_refl _) (by omega)) c8
def allR (n k q p : Int32) : Nat ⊕ Int64 := if (¬ n < 0 ∧ ¬ 12 < n) ∧ (¬ k < 0 ∧ ¬ 13 < k) ∧ (¬ q < 0 ∧ ¬ 16 < q) ∧ (¬ p < 0 ∧ ¬ 1 < p) then .inr (lN (if p = 0 then (allN n.toNatClampNeg k.toNatClampNeg q.toNatClampNeg).1 else (allN n.toNatClampNeg k.toNatClampNeg q.toNatClampNeg).2)) else .inl 1
theorem c_all {nn kk qq pp : Int32} (hl : l.stackTraces = false) (hd : 10 ≤ d) (hx : 188 ≤ nx) (h0 : h 0 = cbE ic rs ne ia) : mm_Con G l yX10_all cX10_all 10 (some .long) d 8 48 [.ref 0, .int nn, .int kk, .int qq, .int pp] nx h (fun o n' m => n' = nx ∧ ((∃ x, allR nn kk qq pp = .inl x ∧ o = .inr x ∧ m = hset h 0 (bmp x ic rs ne ia)) ∨ ∃ v, allR nn kk qq pp = .inr v ∧ o = .inl (some (.long v)) ∧ m = h)) := by
  refine mm_start (lo := [some (.ref 0), some (.int nn), some (.int kk), some (.int qq), some (.int pp), none, none, none, none, none]) pn_X10 rfl rfl (Nat.le_of_ble_eq_true rfl) ?_
  refine mt_aload_n (pc := 0) dX10_all_0 rfl ?_
  refine mt_iload_n (pc := 1) dX10_all_1 rfl ?_
  refine mt_iconst (pc := 2) (v := 0) dX10_all_2 (by decide) ?_
  refine mt_bipush (pc := 3) (v := 12) dX10_all_3 (by decide) ?_
  refine mt_aV (pc := 5) (c_needRange (d := 7) hl (Nat.le_refl 7) (by omega) h0) cal_X10_needRange vir_X10_needRange ml_X10_266 dX10_all_5 (by first | assumption | omega) (by repeat (first | exact hset_eq _ _ _ | assumption | rw [hset_ne (by first | assumption | decide | omega)])) (by first | assumption | (show _ ≤ d; omega)) ⟨(Nat.le_of_ble_eq_true rfl), (Nat.le_of_ble_eq_true rfl)⟩ rfl rfl (Nat.le_of_ble_eq_true rfl) ?_ ?_
  · rintro x9 n9 k9 h9
    obtain ⟨rfl, rfl, hno, rfl⟩ := h9
    exact ⟨rfl, Or.inl ⟨1, if_neg (fun z => hno z.1), rfl, rfl⟩⟩
  · rintro v9 n9 k9 ⟨rfl, rfl, hok, rfl⟩
    refine ⟨rfl, ?_⟩
    refine mt_aload_n (pc := 8) dX10_all_8 rfl ?_
    refine mt_iload_n (pc := 9) dX10_all_9 rfl ?_
    refine mt_iconst (pc := 10) (v := 0) dX10_all_10 (by decide) ?_
    refine mt_bipush (pc := 11) (v := 13) dX10_all_11 (by decide) ?_
    refine mt_aV (pc := 13) (c_needRange (d := 7) hl (Nat.le_refl 7) (by omega) h0) cal_X10_needRange vir_X10_needRange ml_X10_266 dX10_all_13 (by first | assumption | omega) (by repeat (first | exact hset_eq _ _ _ | assumption | rw [hset_ne (by first | assumption | decide | omega)])) (by first | assumption | (show _ ≤ d; omega)) ⟨(Nat.le_of_ble_eq_true rfl), (Nat.le_of_ble_eq_true rfl)⟩ rfl rfl (Nat.le_of_ble_eq_true rfl) ?_ ?_
    · rintro x9 n9 k9 h9
      obtain ⟨rfl, rfl, hno, rfl⟩ := h9
      exact ⟨rfl, Or.inl ⟨1, if_neg (fun z => hno z.2.1), rfl, rfl⟩⟩
    · rintro v9 n9 k9 ⟨rfl, rfl, hok2, rfl⟩
      refine ⟨rfl, ?_⟩
      refine mt_aload_n (pc := 16) dX10_all_16 rfl ?_
      refine mt_iload_n (pc := 17) dX10_all_17 rfl ?_
      refine mt_iconst (pc := 18) (v := 0) dX10_all_18 (by decide) ?_
      refine mt_bipush (pc := 19) (v := 16) dX10_all_19 (by decide) ?_
      refine mt_aV (pc := 21) (c_needRange (d := 7) hl (Nat.le_refl 7) (by omega) h0) cal_X10_needRange vir_X10_needRange ml_X10_266 dX10_all_21 (by first | assumption | omega) (by repeat (first | exact hset_eq _ _ _ | assumption | rw [hset_ne (by first | assumption | decide | omega)])) (by first | assumption | (show _ ≤ d; omega)) ⟨(Nat.le_of_ble_eq_true rfl), (Nat.le_of_ble_eq_true rfl)⟩ rfl rfl (Nat.le_of_ble_eq_true rfl) ?_ ?_
      · rintro x9 n9 k9 h9
        obtain ⟨rfl, rfl, hno, rfl⟩ := h9
        exact ⟨rfl, Or.inl ⟨1, if_neg (fun z => hno z.2.2.1), rfl, rfl⟩⟩
      · rintro v9 n9 k9 ⟨rfl, rfl, hok3, rfl⟩
        refine ⟨rfl, ?_⟩
        refine mt_aload_n (pc := 24) dX10_all_24 rfl ?_
        refine mt_iload (pc := 25) dX10_all_25 rfl ?_
        refine mt_iconst (pc := 27) (v := 0) dX10_all_27 (by decide) ?_
        refine mt_iconst (pc := 28) (v := 1) dX10_all_28 (by decide) ?_
        refine mt_aV (pc := 29) (c_needRange (d := 7) hl (Nat.le_refl 7) (by omega) h0) cal_X10_needRange vir_X10_needRange ml_X10_266 dX10_all_29 (by first | assumption | omega) (by repeat (first | exact hset_eq _ _ _ | assumption | rw [hset_ne (by first | assumption | decide | omega)])) (by first | assumption | (show _ ≤ d; omega)) ⟨(Nat.le_of_ble_eq_true rfl), (Nat.le_of_ble_eq_true rfl)⟩ rfl rfl (Nat.le_of_ble_eq_true rfl) ?_ ?_
        · rintro x9 n9 k9 h9
          obtain ⟨rfl, rfl, hno, rfl⟩ := h9
          exact ⟨rfl, Or.inl ⟨1, if_neg (fun z => hno z.2.2.2), rfl, rfl⟩⟩
        · rintro v9 n9 k9 ⟨rfl, rfl, hok4, rfl⟩
          have er : allR nn kk qq pp = .inr (lN (if pp = 0 then (allN nn.toNatClampNeg kk.toNatClampNeg qq.toNatClampNeg).1 else (allN nn.toNatClampNeg kk.toNatClampNeg qq.toNatClampNeg).2)) := if_pos ⟨hok, hok2, hok3, hok4⟩
          obtain ⟨n, hn1, hn2, rfl⟩ := okR_nI (lo := 0) (hi := 12) hok (by decide) (by decide)
          obtain ⟨k, hk1, hk2, rfl⟩ := okR_nI (lo := 0) (hi := 13) hok2 (by decide) (by decide)
          obtain ⟨q, hq1, hq2, rfl⟩ := okR_nI (lo := 0) (hi := 16) hok3 (by decide) (by decide)
          rw [nI_clamp (by omega), nI_clamp (by omega), nI_clamp (by omega)] at er
          have hab := abN_le (k := k) hn2 hq2 (n + 1 - k)
          refine ⟨rfl, ?_⟩
          refine mt_lconst (pc := 32) (v := 0) dX10_all_32 (by decide) ?_
          refine mt_lstore (pc := 33) dX10_all_33 (Nat.le_of_ble_eq_true rfl) rfl ?_
          refine mt_iload_n (pc := 35) dX10_all_35 rfl ?_
          refine mt_istore (pc := 36) dX10_all_36 (Nat.le_of_ble_eq_true rfl) rfl ?_
          refine mt_for (pc := 38) (H := fun i => h) (L := fun i => [some (.ref 0), some (.int (nI n)), some (.int (nI k)), some (.int (nI q)), some (.int pp), some (.long (lN (abN n k q i))), none, some (.int (nI (k + i))), none, none]) (n + 1 - k) (fun i hi ni => ?_) ?_
          · skip
            refine mt_iload (pc := 38) dX10_all_38 rfl ?_
            refine mt_iload_n (pc := 40) dX10_all_40 rfl ?_
            refine mt_icmp_gt (pc := 41) (tgt := 80) dX10_all_41 (by decide) (fun c41 => ?_) (fun c41 => ?_)
            · exact absurd c41 (nI_nlt (a := n) (b := k + i) (by omega) (by omega))
            · skip
              refine mt_lload (pc := 44) dX10_all_44 rfl ?_
              refine mt_iload_n (pc := 46) dX10_all_46 rfl ?_
              refine mt_iload (pc := 47) dX10_all_47 rfl ?_
              refine mt_cS (pc := 49) (c_choices (d := 1) (n := n) (i := k + i) hn2 (by omega)) cal_X10_choices sta_X10_choices ml_X10_329 dX10_all_49 (by first | assumption | (show _ ≤ d; omega)) ⟨(Nat.le_of_ble_eq_true rfl), (Nat.le_of_ble_eq_true rfl)⟩ rfl rfl (Nat.le_of_ble_eq_true rfl) ?_
              refine mt_iload_n (pc := 52) dX10_all_52 rfl ?_
              refine mt_iload (pc := 53) dX10_all_53 rfl ?_
              refine mt_cS (pc := 55) (c_power (d := 1) (b := q) (t := k + i) (by omega) (by omega)) cal_X10_power sta_X10_power ml_X10_333 dX10_all_55 (by first | assumption | (show _ ≤ d; omega)) ⟨(Nat.le_of_ble_eq_true rfl), (Nat.le_of_ble_eq_true rfl)⟩ rfl rfl (Nat.le_of_ble_eq_true rfl) ?_
              refine mt_lmul (pc := 58) dX10_all_58 ?_
              rw [lN_mul]
              refine mt_bipush (pc := 59) (v := 16) dX10_all_59 (by decide) ?_
              refine mt_iload_n (pc := 61) dX10_all_61 rfl ?_
              refine mt_isub (pc := 62) dX10_all_62 ?_
              rw [show (16 - nI q : Int32) = nI (16 - q) from pk_sub (a := 16) hq2]
              refine mt_iload_n (pc := 63) dX10_all_63 rfl ?_
              refine mt_iload (pc := 64) dX10_all_64 rfl ?_
              refine mt_isub (pc := 66) dX10_all_66 ?_
              rw [pk_sub (by omega)]
              refine mt_cS (pc := 67) (c_power (d := 1) (b := 16 - q) (t := n - (k + i)) (by omega) (by omega)) cal_X10_power sta_X10_power ml_X10_333 dX10_all_67 (by first | assumption | (show _ ≤ d; omega)) ⟨(Nat.le_of_ble_eq_true rfl), (Nat.le_of_ble_eq_true rfl)⟩ rfl rfl (Nat.le_of_ble_eq_true rfl) ?_
              refine mt_lmul (pc := 70) dX10_all_70 ?_
              rw [lN_mul]
              refine mt_ladd (pc := 71) dX10_all_71 ?_
              rw [lN_add]
              refine mt_lstore (pc := 72) dX10_all_72 (Nat.le_of_ble_eq_true rfl) rfl ?_
              refine mt_iinc (pc := 74) (c9 := 1) dX10_all_74 rfl (by decide) (Nat.le_of_ble_eq_true rfl) rfl ?_
              refine mt_goto (pc := 77) (tgt := 38) dX10_all_77 (by decide) ?_
              rw [show (nI (k + i) + 1 : Int32) = nI (k + (i + 1)) from nI_1 (k + i)]
              exact ni
          · skip
            refine mt_iload (pc := 38) dX10_all_38 rfl ?_
            refine mt_iload_n (pc := 40) dX10_all_40 rfl ?_
            refine mt_icmp_gt (pc := 41) (tgt := 80) dX10_all_41 (by decide) (fun c41 => ?_) (fun c41 => ?_)
            · skip
              refine mt_bipush (pc := 80) (v := 16) dX10_all_80 (by decide) ?_
              refine mt_iload_n (pc := 82) dX10_all_82 rfl ?_
              refine mt_cS (pc := 83) (c_power (d := 1) (b := 16) (t := n) (by decide) (by omega)) cal_X10_power sta_X10_power ml_X10_333 dX10_all_83 (by first | assumption | (show _ ≤ d; omega)) ⟨(Nat.le_of_ble_eq_true rfl), (Nat.le_of_ble_eq_true rfl)⟩ rfl rfl (Nat.le_of_ble_eq_true rfl) ?_
              refine mt_lstore (pc := 86) dX10_all_86 (Nat.le_of_ble_eq_true rfl) rfl ?_
              have hA : abN n k q (n + 1 - k) < 2 ^ 62 := by
                rcases Nat.lt_or_ge n k with z | z
                · rw [show n + 1 - k = 0 by omega]; exact Nat.two_pow_pos 62
                · have := hab (by omega)
                  have h9 : (n + 1 - k) * 2 ^ 58 ≤ 13 * 2 ^ 58 := Nat.mul_le_mul_right _ (by omega)
                  have h8 : 13 * 2 ^ 58 < 2 ^ 62 := by decide
                  omega
              have hBb : (16 : Nat) ^ n < 2 ^ 62 := Nat.lt_of_le_of_lt (Nat.pow_le_pow_right (by decide) hn2) (by decide)
              have hall : allN n k q = hvN 48 (abN n k q (n + 1 - k), 16 ^ n) := rfl
              generalize abN n k q (n + 1 - k) = A0 at hA hall
              generalize (16 : Nat) ^ n = B0 at hBb hall
              refine mt_iconst (pc := 88) (v := 0) dX10_all_88 (by decide) ?_
              refine mt_istore (pc := 89) dX10_all_89 (Nat.le_of_ble_eq_true rfl) rfl ?_
              refine mt_forE (pc := 91) (α := Nat × Nat) (H := fun i (s : Nat × Nat) => h) (L := fun i (s : Nat × Nat) => [some (.ref 0), some (.int (nI n)), some (.int (nI k)), some (.int (nI q)), some (.int pp), some (.long (lN s.1)), none, some (.long (lN s.2)), none, some (.int (nI i))]) (I := fun i (s : Nat × Nat) => s.1 < 2 ^ 62 ∧ s.2 < 2 ^ 62 ∧ allN n k q = hvN (48 - i) s) 48 (fun i s hi fi ni => ?_) (fun s fi => ?_) ((A0, B0)) (⟨hA, hBb, hall⟩)
              · skip
                obtain ⟨A1, B1⟩ := s
                obtain ⟨g1, g2, g3⟩ := fi
                dsimp only at g1 g2 g3 ⊢
                rw [show 48 - i = 48 - (i + 1) + 1 by omega, hvN_s (f := 48 - (i + 1))] at g3
                dsimp only at g3
                refine mt_iload (pc := 91) dX10_all_91 rfl ?_
                refine mt_bipush (pc := 93) (v := 48) dX10_all_93 (by decide) ?_
                refine mt_icmp_ge (pc := 95) (tgt := 128) dX10_all_95 (by decide) (fun c95 => ?_) (fun c95 => ?_)
                · exact absurd c95 (nI_ge (b := 48) hi (by decide))
                · skip
                  refine mt_lload (pc := 98) dX10_all_98 rfl ?_
                  refine mt_lload (pc := 100) dX10_all_100 rfl ?_
                  refine mt_lor (pc := 102) dX10_all_102 ?_
                  rw [wb_or (by omega) (by omega)]
                  refine mt_lconst (pc := 103) (v := 1) dX10_all_103 (by decide) ?_
                  refine mt_land (pc := 104) dX10_all_104 ?_
                  have hor : A1 ||| B1 < 2 ^ 62 := Nat.or_lt_two_pow g1 g2
                  rw [wb_a1 (by omega)]
                  refine mt_lconst (pc := 105) (v := 0) dX10_all_105 (by decide) ?_
                  refine mt_lcmp (pc := 106) dX10_all_106 ?_
                  have hcmp : lg_cmp (lN ((A1 ||| B1) % 2)) 0 = 0 ↔ (A1 ||| B1) % 2 = 0 := by
                    rcases Nat.mod_two_eq_zero_or_one (A1 ||| B1) with z | z
                    · rw [z]; decide
                    · rw [z]; decide
                  refine mt_if_ne (pc := 107) (tgt := 128) dX10_all_107 (by decide) (fun c107 => ?_) (fun c107 => ?_)
                  · skip
                    rw [if_neg (fun z => c107 (hcmp.mpr z))] at g3
                    have hfin := g3
                    rw [hfin] at er
                    refine mt_iload (pc := 128) dX10_all_128 rfl ?_
                    refine mt_if_ne (pc := 130) (tgt := 138) dX10_all_130 (by decide) (fun c130 => ?_) (fun c130 => ?_)
                    · skip
                      rw [if_neg c130] at er
                      refine mt_lload (pc := 138) dX10_all_138 rfl ?_
                      exact mt_lret rfl dX10_all_140 (Nat.le_of_ble_eq_true rfl) (Nat.le_of_ble_eq_true rfl) ⟨rfl, Or.inr ⟨_, er, rfl, rfl⟩⟩
                    · skip
                      rw [if_pos c130] at er
                      refine mt_lload (pc := 133) dX10_all_133 rfl ?_
                      refine mt_goto (pc := 135) (tgt := 140) dX10_all_135 (by decide) ?_
                      exact mt_lret rfl dX10_all_140 (Nat.le_of_ble_eq_true rfl) (Nat.le_of_ble_eq_true rfl) ⟨rfl, Or.inr ⟨_, er, rfl, rfl⟩⟩
                  · skip
                    rw [if_pos (hcmp.mp c107)] at g3
                    refine mt_lload (pc := 110) dX10_all_110 rfl ?_
                    refine mt_iconst (pc := 112) (v := 1) dX10_all_112 (by decide) ?_
                    refine mt_lshr (pc := 113) dX10_all_113 rfl ?_
                    rw [pf_shr (d := 1) (by decide) g1]
                    refine mt_lstore (pc := 114) dX10_all_114 (Nat.le_of_ble_eq_true rfl) rfl ?_
                    refine mt_lload (pc := 116) dX10_all_116 rfl ?_
                    refine mt_iconst (pc := 118) (v := 1) dX10_all_118 (by decide) ?_
                    refine mt_lshr (pc := 119) dX10_all_119 rfl ?_
                    rw [pf_shr (d := 1) (by decide) g2]
                    refine mt_lstore (pc := 120) dX10_all_120 (Nat.le_of_ble_eq_true rfl) rfl ?_
                    refine mt_iinc (pc := 122) (c9 := 1) dX10_all_122 rfl (by decide) (Nat.le_of_ble_eq_true rfl) rfl ?_
                    refine mt_goto (pc := 125) (tgt := 91) dX10_all_125 (by decide) ?_
                    rw [show (nI i + 1 : Int32) = nI (i + 1) from nI_1 i]
                    exact ni (A1 / 2 ^ 1, B1 / 2 ^ 1) ⟨by dsimp only; omega, by dsimp only; omega, g3⟩
              · skip
                obtain ⟨A1, B1⟩ := s
                obtain ⟨g1, g2, g3⟩ := fi
                dsimp only at g1 g2 g3 ⊢
                have hfin : allN n k q = (A1, B1) := g3
                refine mt_iload (pc := 91) dX10_all_91 rfl ?_
                refine mt_bipush (pc := 93) (v := 48) dX10_all_93 (by decide) ?_
                refine mt_icmp_ge (pc := 95) (tgt := 128) dX10_all_95 (by decide) (fun c95 => ?_) (fun c95 => ?_)
                · skip
                  rw [hfin] at er
                  refine mt_iload (pc := 128) dX10_all_128 rfl ?_
                  refine mt_if_ne (pc := 130) (tgt := 138) dX10_all_130 (by decide) (fun c130 => ?_) (fun c130 => ?_)
                  · skip
                    rw [if_neg c130] at er
                    refine mt_lload (pc := 138) dX10_all_138 rfl ?_
                    exact mt_lret rfl dX10_all_140 (Nat.le_of_ble_eq_true rfl) (Nat.le_of_ble_eq_true rfl) ⟨rfl, Or.inr ⟨_, er, rfl, rfl⟩⟩
                  · skip
                    rw [if_pos c130] at er
                    refine mt_lload (pc := 133) dX10_all_133 rfl ?_
                    refine mt_goto (pc := 135) (tgt := 140) dX10_all_135 (by decide) ?_
                    exact mt_lret rfl dX10_all_140 (Nat.le_of_ble_eq_true rfl) (Nat.le_of_ble_eq_true rfl) ⟨rfl, Or.inr ⟨_, er, rfl, rfl⟩⟩
                · exact absurd (nI_le (a := 48) (b := 48) (by decide) (by decide)) c95
            · exact absurd (nI_lt (by omega) (by omega)) c41
end BANKW
