/-! The reference: a run on the bank. -/
/-- what one wants -/
def wnS (f : Nat → Int32) (a : Nat) : Int32 := if 1 < f (18 + a) / 2 then f (18 + a) / 2 else 1
def woS (f : Nat → Int32) (so who : Nat) : Nat → Nat → Int32 → Int32 → Int32
  | 0 => fun _ _ got => if got = 1 then 0 else 1
  | q + 1 => fun left u got => fld (fun a acc => if left / 2 ^ a % 2 = 0 then acc else acc + woS f so who q (left - 2 ^ a) (if u < wnS f a then u else u - wnS f a) (if u < wnS f a then got else if a = who then 1 else got)) 0 so
def woF (f : Nat → Int32) (so who q left : Nat) (u got : Int32) : Nat → Int32 := fld (fun a acc => if left / 2 ^ a % 2 = 0 then acc else acc + woS f so who q (left - 2 ^ a) (if u < wnS f a then u else u - wnS f a) (if u < wnS f a then got else if a = who then 1 else got)) 0
theorem woF_s (f : Nat → Int32) (so who q left : Nat) (u got : Int32) (a : Nat) : woF f so who q left u got (a + 1) = if left / 2 ^ a % 2 = 0 then woF f so who q left u got a else woF f so who q left u got a + woS f so who q (left - 2 ^ a) (if u < wnS f a then u else u - wnS f a) (if u < wnS f a then got else if a = who then 1 else got) := rfl
theorem bit_sub : ∀ x, x < 64 → ∀ a, a < 6 → x / 2 ^ a % 2 = 1 → 2 ^ a ≤ x ∧ (∀ b, b < 6 → (x - 2 ^ a) / 2 ^ b % 2 = if b = a then 0 else x / 2 ^ b % 2) ∧ popc (x - 2 ^ a) 6 + 1 = popc x 6 := by decide +kernel
theorem wo_1 {f : Nat → Int32} {so who : Nat} (hso : so ≤ 6) : ∀ q left u, left < 64 → woS f so who q left u 1 = 0
  | 0, left, u, _ => by
    show (if (1 : Int32) = 1 then (0 : Int32) else 1) = 0
    rfl
  | q + 1, left, u, hl => by
    have : ∀ n, n ≤ so → woF f so who q left u 1 n = 0 := fun n => by
      induction n with
      | zero => intro _; rfl
      | succ n ih =>
        intro hn
        rw [woF_s, ih (by omega)]
        split
        · rfl
        · rw [show (if u < wnS f n then (1 : Int32) else if n = who then 1 else 1) = 1 by split <;> (try split) <;> rfl, wo_1 hso q _ _ (Nat.lt_of_le_of_lt (Nat.sub_le _ _) hl), add_0]
    exact this so (Nat.le_refl so)
theorem wo_2 {f : Nat → Int32} {so who : Nat} (hso : so ≤ 6) : ∀ q left u, left < 2 ^ so → popc left 6 = q → left / 2 ^ who % 2 = 0 → who < 6 → woS f so who q left u 0 = nI (fct q)
  | 0, left, u, _, _, _, _ => rfl
  | q + 1, left, u, hl, hp, hw, hw6 => by
    have h64 : 2 ^ so ≤ 2 ^ 6 := pow_mono hso
    have : ∀ n, n ≤ so → woF f so who q left u 0 n = nI (popc left n * fct q) := fun n => by
      induction n with
      | zero => intro _; rw [show popc left 0 = 0 from rfl, Nat.zero_mul]; rfl
      | succ n ih =>
        intro hn
        rw [woF_s, ih (by omega), show popc left (n + 1) = popc left n + left / 2 ^ n % 2 from rfl]
        by_cases hb : left / 2 ^ n % 2 = 0
        · rw [if_pos hb, hb, Nat.add_zero]
        · have hb1 : left / 2 ^ n % 2 = 1 := by omega
          obtain ⟨b1, b2, b3⟩ := bit_sub left (by omega) n (by omega) hb1
          have hsub : left - 2 ^ n ≤ left := Nat.sub_le _ _
          generalize hlm : left - 2 ^ n = lm at *
          have hne : ¬ n = who := fun z => hb (by rw [z]; exact hw)
          rw [if_neg hb, show (if u < wnS f n then (0 : Int32) else if n = who then 1 else 0) = 0 by rw [if_neg hne]; split <;> rfl, wo_2 hso q _ _ (by omega) (by omega) (by rw [b2 who hw6, if_neg (fun z => hne z.symm)]; exact hw) hw6, nI_add, hb1, Nat.add_mul, Nat.one_mul]
    have h1 := this so (Nat.le_refl so)
    have h2 : popc left so = popc left 6 := by
      have : ∀ m, so + m ≤ 6 → popc left (so + m) = popc left so := fun m => by
        induction m with
        | zero => intro _; rfl
        | succ m ih =>
          intro hm
          show popc left (so + m) + left / 2 ^ (so + m) % 2 = _
          rw [bit_hi hl (by omega), Nat.add_zero]
          exact ih (by omega)
      have := this (6 - so) (by omega)
      rw [show so + (6 - so) = 6 by omega] at this
      exact this.symm
    show woF f so who q left u 0 so = nI (fct q * (q + 1))
    rw [h1, h2, hp, Nat.mul_comm]
theorem wo_or {k : CS} {f : Nat → Int32} {who : Nat} (hso : k.2.1 ≤ 6) (hw6 : who < k.2.1) : ∀ q left u c, left < 2 ^ k.2.1 → popc left 6 = q → left / 2 ^ who % 2 = 1 → c < 64 → (∀ b, b < 6 → (c / 2 ^ b % 2 = 0 ↔ (left / 2 ^ b % 2 = 1 ∨ k.2.1 ≤ b))) → woS f k.2.1 who q left u 0 = orS k f who q u (nI c)
  | 0, left, u, c, hl, hp, hw, hc, hcl => by
    have h64 : 2 ^ k.2.1 ≤ 2 ^ 6 := pow_mono hso
    obtain ⟨b1, b2, b3⟩ := bit_sub left (by omega) who (by omega) hw
    omega
  | q + 1, left, u, c, hl, hp, hw, hc, hcl => by
    have h64 : 2 ^ k.2.1 ≤ 2 ^ 6 := pow_mono hso
    have : ∀ n, n ≤ k.2.1 → woF f k.2.1 who q left u 0 n = orF k f who q u (nI c) n := fun n => by
      induction n with
      | zero => intro _; rfl
      | succ n ih =>
        intro hn
        rw [woF_s, orF_s, ih (by omega), bit32 (by omega) (by omega)]
        have hcn := hcl n (by omega)
        rw [show (if 1 < f (18 + n) / 2 then f (18 + n) / 2 else 1) = wnS f n from rfl]
        by_cases hb : left / 2 ^ n % 2 = 0
        · have hc0 : ¬ c / 2 ^ n % 2 = 0 := fun z => by
            rcases hcn.mp z with y | y
            · omega
            · omega
          have hc1 : c / 2 ^ n % 2 = 1 := by omega
          rw [if_pos hb, hc1, if_neg (show ¬ nI 1 = 0 by decide)]
        · have hb1 : left / 2 ^ n % 2 = 1 := by omega
          obtain ⟨b1, b2, b3⟩ := bit_sub left (by omega) n (by omega) hb1
          have hsub : left - 2 ^ n ≤ left := Nat.sub_le _ _
          generalize hlm : left - 2 ^ n = lm at *
          have hc0 : c / 2 ^ n % 2 = 0 := hcn.mpr (Or.inl hb1)
          rw [if_neg hb, hc0, if_pos (show nI 0 = 0 from rfl)]
          by_cases hne : n = who
          · subst hne
            rw [show ∀ X Y : Int32, (if ¬ n = n then X else Y) = Y from fun X Y => if_neg (fun z => z rfl), show ∀ X Y : Int32, (if n = n then X else Y) = X from fun X Y => if_pos rfl]
            by_cases hu : u < wnS f n
            · rw [if_pos hu, if_pos hu, if_pos hu, wo_2 hso q _ _ (by omega) (by omega) (by rw [b2 n (by omega), if_pos rfl]) (by omega)]
            · rw [if_neg hu, if_neg hu, if_neg hu, wo_1 hso q _ _ (by omega), add_0]
          · rw [if_pos hne, show (if u < wnS f n then (0 : Int32) else if n = who then 1 else 0) = 0 by rw [if_neg hne]; split <;> rfl]
            congr 1
            rw [shl1 n (by omega), fa_or]
            refine wo_or hso hw6 q _ _ _ (by omega) (by omega) (by rw [b2 who (by omega), if_neg (fun z => hne z.symm)]; exact hw) (or_lt (k := 6) hc (by omega)) (fun b hb6 => ?_)
            rw [or_bit2, b2 b hb6]
            by_cases hbn : b = n
            · rw [if_pos hbn, if_pos hbn]
              constructor
              · intro z; cases z
              · intro z
                rcases z with z | z
                · cases z
                · omega
            · rw [if_neg hbn, if_neg hbn]
              exact hcl b hb6
    exact this k.2.1 (Nat.le_refl _)
theorem and_cl : ∀ x, x < 64 → ∀ a, a < 6 → x / 2 ^ a % 2 = 1 → nI x &&& (((1 : Int32) <<< (nI a &&& 31)) ^^^ (-1)) = nI (x - 2 ^ a) := by decide +kernel
theorem pop_0 : ∀ x, x < 64 → popc x 6 = 0 → x = 0 := by decide +kernel
theorem pop_all : ∀ n, n < 7 → popc (2 ^ n - 1) 6 = n ∧ ∀ b, b < 6 → ((2 ^ n - 1) / 2 ^ b % 2 = 1 ↔ b < n) := by decide +kernel
section MRUN
variable {G : mm_G} {l : Launch} {d nx : Nat} {h : Nat → mm_E} {g : MG} {A : MA} {k : CS} {cs : List Nat} {f : Nat → Int32} {bk : BS}
theorem n_without {who : Nat} (hw6 : who < 6) (hx : 215 ≤ nx) (hQ : MQs k cs g A) (hR : RR (A 205) f) (hI : RI k f) : ∀ (q d left : Nat) (u got : Int32), left < 64 → popc left 6 = q → q ≤ d → mm_Con G l yX11_without cX11_without 9 (some .int) d 0 0 [.ref 188, .int (nI left), .int u, .int (nI who), .int got] nx (mos h g A) (mm_ret (some (.int (woS f k.2.1 who q left u got))) nx (mos h g A))
  | 0, d, left, u, got, hl, hp, hd => by
    have h0 := pop_0 left hl hp
    subst h0
    refine mm_start (lo := [some (.ref 188), some (.int (nI 0)), some (.int u), some (.int (nI who)), some (.int got), none, none, none, none]) pn_X11 rfl rfl (Nat.le_of_ble_eq_true rfl) ?_
    refine mt_iload_n (pc := 0) dX11_without_0 rfl ?_
    refine mt_if_ne (pc := 1) (tgt := 16) dX11_without_1 (by decide) (fun c1 => ?_) (fun c1 => ?_)
    · exact absurd rfl c1
    · skip
      refine mt_iload (pc := 4) dX11_without_4 rfl ?_
      refine mt_iconst (pc := 6) (v := 1) dX11_without_6 (by decide) ?_
      refine mt_icmp_ne (pc := 7) (tgt := 14) dX11_without_7 (by decide) (fun c7 => ?_) (fun c7 => ?_)
      · skip
        refine mt_iconst (pc := 14) (v := 1) dX11_without_14 (by decide) ?_
        exact mt_iret rfl dX11_without_15 (Nat.le_of_ble_eq_true rfl) (Nat.le_of_ble_eq_true rfl) ⟨by show _ = Sum.inl (some (Value.int (if got = 1 then 0 else 1))); rw [if_neg c7], rfl, rfl⟩
      · skip
        refine mt_iconst (pc := 10) (v := 0) dX11_without_10 (by decide) ?_
        refine mt_goto (pc := 11) (tgt := 15) dX11_without_11 (by decide) ?_
        exact mt_iret rfl dX11_without_15 (Nat.le_of_ble_eq_true rfl) (Nat.le_of_ble_eq_true rfl) ⟨by show _ = Sum.inl (some (Value.int (if got = 1 then 0 else 1))); rw [if_pos c7], rfl, rfl⟩
  | q + 1, d, left, u, got, hl, hp, hd => by
    obtain ⟨h18, h19, hM, hL⟩ := id hQ
    have hk2 := hM.2.1
    have hne : 0 < left := Nat.pos_of_ne_zero fun z => by rw [z] at hp; cases hp
    have ih := n_without hw6 hx hQ hR hI q (d - 1)
    have hdep : d - 1 + 1 ≤ d := by omega
    obtain ⟨r, hr⟩ : ∃ r : Int32, r = woS f k.2.1 who (q + 1) left u got := ⟨_, rfl⟩
    rw [← hr]
    have hr2 : r = woF f k.2.1 who q left u got k.2.1 := hr
    refine mm_start (lo := [some (.ref 188), some (.int (nI left)), some (.int u), some (.int (nI who)), some (.int got), none, none, none, none]) pn_X11 rfl rfl (Nat.le_of_ble_eq_true rfl) ?_
    refine mt_iload_n (pc := 0) dX11_without_0 rfl ?_
    refine mt_if_ne (pc := 1) (tgt := 16) dX11_without_1 (by decide) (fun c1 => ?_) (fun c1 => ?_)
    · skip
      refine mt_iconst (pc := 16) (v := 0) dX11_without_16 (by decide) ?_
      refine mt_istore (pc := 17) dX11_without_17 (Nat.le_of_ble_eq_true rfl) rfl ?_
      refine mt_iconst (pc := 19) (v := 0) dX11_without_19 (by decide) ?_
      refine mt_istore (pc := 20) dX11_without_20 (Nat.le_of_ble_eq_true rfl) rfl ?_
      refine mt_for (pc := 22) (H := fun c => mos h g A) (L := fun c => [some (.ref 188), some (.int (nI left)), some (.int u), some (.int (nI who)), some (.int got), some (.int (woF f k.2.1 who q left u got c)), some (.int (nI c)), none, none]) (k.2.1) (fun c hc nc => ?_) ?_
      · skip
        rw [woF_s] at nc
        obtain ⟨U, U1, U2⟩ := hI.2.2.2.1 c (by omega)
        refine mt_iload (pc := 22) dX11_without_22 rfl ?_
        refine mt_aload_n (pc := 24) dX11_without_24 rfl ?_
        refine mt_mgetI (pc := 25) (x := nI k.2.1) gf_X11_157 dX11_without_25 hx rfl h19 ?_
        refine mt_icmp_ge (pc := 28) (tgt := 142) dX11_without_28 (by decide) (fun c28 => ?_) (fun c28 => ?_)
        · exact absurd c28 (nI_ge hc (by first | omega | decide))
        · skip
          refine mt_iload_n (pc := 31) dX11_without_31 rfl ?_
          refine mt_iload (pc := 32) dX11_without_32 rfl ?_
          refine mt_ishr (pc := 34) dX11_without_34 ?_
          refine mt_iconst (pc := 35) (v := 1) dX11_without_35 (by decide) ?_
          refine mt_iand (pc := 36) dX11_without_36 ?_
          rw [bit32 (by omega) (by omega)]
          refine mt_if_ne (pc := 37) (tgt := 43) dX11_without_37 (by decide) (fun c37 => ?_) (fun c37 => ?_)
          · skip
            have hb1 : left / 2 ^ c % 2 = 1 := by
              rcases Nat.mod_two_eq_zero_or_one (left / 2 ^ c) with y | y
              · rw [y] at c37; exact absurd rfl c37
              · exact y
            have hb0 : ¬ left / 2 ^ c % 2 = 0 := by omega
            rw [if_neg hb0] at nc
            obtain ⟨b1, b2, b3⟩ := bit_sub left hl c (by omega) hb1
            refine mt_aload_n (pc := 43) dX11_without_43 rfl ?_
            refine mt_mget (pc := 44) gf_X11_65 dX11_without_44 hx rfl ?_
            refine mt_bipush (pc := 47) (v := 22) dX11_without_47 (by decide) ?_
            refine mt_iload (pc := 49) dX11_without_49 rfl ?_
            refine mt_iaddN (pc := 51) (a := 22) (b := c) dX11_without_51 rfl rfl ?_
            refine mt_mald (pc := 52) (i := 205) (j := 22 + c) (x := nI U) dX11_without_52 hx rfl rfl (by show _ < 91; omega) (by rw [hR.2.2.2.1 c (by omega)]; exact U1) ?_
            refine mt_iconst (pc := 53) (v := 2) dX11_without_53 (by decide) ?_
            refine mt_icmp_ge (pc := 54) (tgt := 61) dX11_without_54 (by decide) (fun c54 => ?_) (fun c54 => ?_)
            · skip
              have ew : nI (U / 2) = wnS f c := by
                have ge : 2 ≤ U := Nat.le_of_not_lt fun y => nI_ge (b := 2) y (by decide) c54
                unfold wnS
                rw [U1, show (2 : Int32) = nI 2 from rfl, pk_div (by omega) (by decide) (by decide)]
                by_cases y : 1 < U / 2
                · rw [if_pos (show (1 : Int32) < nI (U / 2) from nI_lt (a := 1) y (by omega))]
                · rw [show U / 2 = 1 by omega]
                  rfl
              refine mt_aload_n (pc := 61) dX11_without_61 rfl ?_
              refine mt_mget (pc := 62) gf_X11_65 dX11_without_62 hx rfl ?_
              refine mt_bipush (pc := 65) (v := 22) dX11_without_65 (by decide) ?_
              refine mt_iload (pc := 67) dX11_without_67 rfl ?_
              refine mt_iaddN (pc := 69) (a := 22) (b := c) dX11_without_69 rfl rfl ?_
              refine mt_mald (pc := 70) (i := 205) (j := 22 + c) (x := nI U) dX11_without_70 hx rfl rfl (by show _ < 91; omega) (by rw [hR.2.2.2.1 c (by omega)]; exact U1) ?_
              refine mt_iconst (pc := 71) (v := 2) dX11_without_71 (by decide) ?_
              refine mt_idivN (pc := 72) (a := U) (b := 2) dX11_without_72 rfl rfl (by omega) (by omega) (by omega) ?_
              rw [ew]
              refine mt_istore (pc := 73) dX11_without_73 (Nat.le_of_ble_eq_true rfl) rfl ?_
              refine mt_iload (pc := 75) dX11_without_75 rfl ?_
              refine mt_iload_n (pc := 77) dX11_without_77 rfl ?_
              refine mt_icmp_gt (pc := 78) (tgt := 85) dX11_without_78 (by decide) (fun c78 => ?_) (fun c78 => ?_)
              · skip
                rw [if_pos c78, if_pos c78] at nc
                refine mt_iconst (pc := 85) (v := 0) dX11_without_85 (by decide) ?_
                refine mt_istore (pc := 86) dX11_without_86 (Nat.le_of_ble_eq_true rfl) rfl ?_
                refine mt_iload (pc := 88) dX11_without_88 rfl ?_
                refine mt_aload_n (pc := 90) dX11_without_90 rfl ?_
                refine mt_iload_n (pc := 91) dX11_without_91 rfl ?_
                refine mt_iconst (pc := 92) (v := 1) dX11_without_92 (by decide) ?_
                refine mt_iload (pc := 93) dX11_without_93 rfl ?_
                refine mt_ishl (pc := 95) dX11_without_95 ?_
                refine mt_iconst (pc := 96) (v := (-1)) dX11_without_96 (by decide) ?_
                refine mt_ixor (pc := 97) dX11_without_97 ?_
                refine mt_iand (pc := 98) dX11_without_98 ?_
                rw [and_cl left hl c (by omega) hb1]
                refine mt_iload (pc := 99) dX11_without_99 rfl ?_
                refine mt_if_eq (pc := 101) (tgt := 111) dX11_without_101 (by decide) (fun c101 => ?_) (fun c101 => ?_)
                · skip
                  refine mt_iload_n (pc := 111) dX11_without_111 rfl ?_
                  refine mt_iload_n (pc := 112) dX11_without_112 rfl ?_
                  refine mt_iload (pc := 113) dX11_without_113 rfl ?_
                  refine mt_if_eq (pc := 115) (tgt := 128) dX11_without_115 (by decide) (fun c115 => ?_) (fun c115 => ?_)
                  · skip
                    refine mt_iload (pc := 128) dX11_without_128 rfl ?_
                    refine mt_cV (pc := 130) (ih _ _ _ (Nat.lt_of_le_of_lt (Nat.sub_le _ _) hl) (by omega) (by omega)) cal_X11_without vir_X11_without ml_X11_394 dX11_without_130 (by omega) (mos_o _ _ _) hdep ⟨(Nat.le_of_ble_eq_true rfl), (Nat.le_of_ble_eq_true rfl)⟩ rfl rfl (Nat.le_of_ble_eq_true rfl) ?_
                    refine mt_iadd (pc := 133) dX11_without_133 ?_
                    refine mt_istore (pc := 134) dX11_without_134 (Nat.le_of_ble_eq_true rfl) rfl ?_
                    refine mt_iinc (pc := 136) (c9 := 1) dX11_without_136 rfl (by decide) (Nat.le_of_ble_eq_true rfl) rfl ?_
                    refine mt_goto (pc := 139) (tgt := 22) dX11_without_139 (by decide) ?_
                    rw [show (nI c + 1 : Int32) = nI (c + 1) from nI_1 c]
                    first
                      | exact nc
                      | exact mt_forget 7 (mt_forget 8 nc)
                  · exact absurd (by decide) c115
                · exact absurd (by decide) c101
              · skip
                rw [if_neg c78, if_neg c78] at nc
                refine mt_iconst (pc := 81) (v := 1) dX11_without_81 (by decide) ?_
                refine mt_goto (pc := 82) (tgt := 86) dX11_without_82 (by decide) ?_
                refine mt_istore (pc := 86) dX11_without_86 (Nat.le_of_ble_eq_true rfl) rfl ?_
                refine mt_iload (pc := 88) dX11_without_88 rfl ?_
                refine mt_aload_n (pc := 90) dX11_without_90 rfl ?_
                refine mt_iload_n (pc := 91) dX11_without_91 rfl ?_
                refine mt_iconst (pc := 92) (v := 1) dX11_without_92 (by decide) ?_
                refine mt_iload (pc := 93) dX11_without_93 rfl ?_
                refine mt_ishl (pc := 95) dX11_without_95 ?_
                refine mt_iconst (pc := 96) (v := (-1)) dX11_without_96 (by decide) ?_
                refine mt_ixor (pc := 97) dX11_without_97 ?_
                refine mt_iand (pc := 98) dX11_without_98 ?_
                rw [and_cl left hl c (by omega) hb1]
                refine mt_iload (pc := 99) dX11_without_99 rfl ?_
                refine mt_if_eq (pc := 101) (tgt := 111) dX11_without_101 (by decide) (fun c101 => ?_) (fun c101 => ?_)
                · exact absurd c101 (by decide)
                · skip
                  refine mt_iload_n (pc := 104) dX11_without_104 rfl ?_
                  refine mt_iload (pc := 105) dX11_without_105 rfl ?_
                  refine mt_isub (pc := 107) dX11_without_107 ?_
                  refine mt_goto (pc := 108) (tgt := 112) dX11_without_108 (by decide) ?_
                  refine mt_iload_n (pc := 112) dX11_without_112 rfl ?_
                  refine mt_iload (pc := 113) dX11_without_113 rfl ?_
                  refine mt_if_eq (pc := 115) (tgt := 128) dX11_without_115 (by decide) (fun c115 => ?_) (fun c115 => ?_)
                  · exact absurd c115 (by decide)
                  · skip
                    refine mt_iload (pc := 118) dX11_without_118 rfl ?_
                    refine mt_iload_n (pc := 120) dX11_without_120 rfl ?_
                    refine mt_icmp_ne (pc := 121) (tgt := 128) dX11_without_121 (by decide) (fun c121 => ?_) (fun c121 => ?_)
                    · skip
                      rw [if_neg (fun z => c121 (by rw [z]))] at nc
                      refine mt_iload (pc := 128) dX11_without_128 rfl ?_
                      refine mt_cV (pc := 130) (ih _ _ _ (Nat.lt_of_le_of_lt (Nat.sub_le _ _) hl) (by omega) (by omega)) cal_X11_without vir_X11_without ml_X11_394 dX11_without_130 (by omega) (mos_o _ _ _) hdep ⟨(Nat.le_of_ble_eq_true rfl), (Nat.le_of_ble_eq_true rfl)⟩ rfl rfl (Nat.le_of_ble_eq_true rfl) ?_
                      refine mt_iadd (pc := 133) dX11_without_133 ?_
                      refine mt_istore (pc := 134) dX11_without_134 (Nat.le_of_ble_eq_true rfl) rfl ?_
                      refine mt_iinc (pc := 136) (c9 := 1) dX11_without_136 rfl (by decide) (Nat.le_of_ble_eq_true rfl) rfl ?_
                      refine mt_goto (pc := 139) (tgt := 22) dX11_without_139 (by decide) ?_
                      rw [show (nI c + 1 : Int32) = nI (c + 1) from nI_1 c]
                      first
                        | exact nc
                        | exact mt_forget 7 (mt_forget 8 nc)
                    · skip
                      have ecw : c = who := (nI_eq (by omega) (by omega)).mp c121
                      rw [if_pos ecw] at nc
                      refine mt_iconst (pc := 124) (v := 1) dX11_without_124 (by decide) ?_
                      refine mt_goto (pc := 125) (tgt := 130) dX11_without_125 (by decide) ?_
                      refine mt_cV (pc := 130) (ih _ _ _ (Nat.lt_of_le_of_lt (Nat.sub_le _ _) hl) (by omega) (by omega)) cal_X11_without vir_X11_without ml_X11_394 dX11_without_130 (by omega) (mos_o _ _ _) hdep ⟨(Nat.le_of_ble_eq_true rfl), (Nat.le_of_ble_eq_true rfl)⟩ rfl rfl (Nat.le_of_ble_eq_true rfl) ?_
                      refine mt_iadd (pc := 133) dX11_without_133 ?_
                      refine mt_istore (pc := 134) dX11_without_134 (Nat.le_of_ble_eq_true rfl) rfl ?_
                      refine mt_iinc (pc := 136) (c9 := 1) dX11_without_136 rfl (by decide) (Nat.le_of_ble_eq_true rfl) rfl ?_
                      refine mt_goto (pc := 139) (tgt := 22) dX11_without_139 (by decide) ?_
                      rw [show (nI c + 1 : Int32) = nI (c + 1) from nI_1 c]
                      first
                        | exact nc
                        | exact mt_forget 7 (mt_forget 8 nc)
            · skip
              have ew : (1 : Int32) = wnS f c := by
                have lt : U < 2 := Nat.lt_of_not_le fun y => c54 (nI_le (a := 2) y (by omega))
                unfold wnS
                rw [U1, show (2 : Int32) = nI 2 from rfl, pk_div (by omega) (by decide) (by decide), show U / 2 = 0 by omega]
                rfl
              refine mt_iconst (pc := 57) (v := 1) dX11_without_57 (by decide) ?_
              refine mt_goto (pc := 58) (tgt := 73) dX11_without_58 (by decide) ?_
              rw [ew]
              refine mt_istore (pc := 73) dX11_without_73 (Nat.le_of_ble_eq_true rfl) rfl ?_
              refine mt_iload (pc := 75) dX11_without_75 rfl ?_
              refine mt_iload_n (pc := 77) dX11_without_77 rfl ?_
              refine mt_icmp_gt (pc := 78) (tgt := 85) dX11_without_78 (by decide) (fun c78 => ?_) (fun c78 => ?_)
              · skip
                rw [if_pos c78, if_pos c78] at nc
                refine mt_iconst (pc := 85) (v := 0) dX11_without_85 (by decide) ?_
                refine mt_istore (pc := 86) dX11_without_86 (Nat.le_of_ble_eq_true rfl) rfl ?_
                refine mt_iload (pc := 88) dX11_without_88 rfl ?_
                refine mt_aload_n (pc := 90) dX11_without_90 rfl ?_
                refine mt_iload_n (pc := 91) dX11_without_91 rfl ?_
                refine mt_iconst (pc := 92) (v := 1) dX11_without_92 (by decide) ?_
                refine mt_iload (pc := 93) dX11_without_93 rfl ?_
                refine mt_ishl (pc := 95) dX11_without_95 ?_
                refine mt_iconst (pc := 96) (v := (-1)) dX11_without_96 (by decide) ?_
                refine mt_ixor (pc := 97) dX11_without_97 ?_
                refine mt_iand (pc := 98) dX11_without_98 ?_
                rw [and_cl left hl c (by omega) hb1]
                refine mt_iload (pc := 99) dX11_without_99 rfl ?_
                refine mt_if_eq (pc := 101) (tgt := 111) dX11_without_101 (by decide) (fun c101 => ?_) (fun c101 => ?_)
                · skip
                  refine mt_iload_n (pc := 111) dX11_without_111 rfl ?_
                  refine mt_iload_n (pc := 112) dX11_without_112 rfl ?_
                  refine mt_iload (pc := 113) dX11_without_113 rfl ?_
                  refine mt_if_eq (pc := 115) (tgt := 128) dX11_without_115 (by decide) (fun c115 => ?_) (fun c115 => ?_)
                  · skip
                    refine mt_iload (pc := 128) dX11_without_128 rfl ?_
                    refine mt_cV (pc := 130) (ih _ _ _ (Nat.lt_of_le_of_lt (Nat.sub_le _ _) hl) (by omega) (by omega)) cal_X11_without vir_X11_without ml_X11_394 dX11_without_130 (by omega) (mos_o _ _ _) hdep ⟨(Nat.le_of_ble_eq_true rfl), (Nat.le_of_ble_eq_true rfl)⟩ rfl rfl (Nat.le_of_ble_eq_true rfl) ?_
                    refine mt_iadd (pc := 133) dX11_without_133 ?_
                    refine mt_istore (pc := 134) dX11_without_134 (Nat.le_of_ble_eq_true rfl) rfl ?_
                    refine mt_iinc (pc := 136) (c9 := 1) dX11_without_136 rfl (by decide) (Nat.le_of_ble_eq_true rfl) rfl ?_
                    refine mt_goto (pc := 139) (tgt := 22) dX11_without_139 (by decide) ?_
                    rw [show (nI c + 1 : Int32) = nI (c + 1) from nI_1 c]
                    first
                      | exact nc
                      | exact mt_forget 7 (mt_forget 8 nc)
                  · exact absurd (by decide) c115
                · exact absurd (by decide) c101
              · skip
                rw [if_neg c78, if_neg c78] at nc
                refine mt_iconst (pc := 81) (v := 1) dX11_without_81 (by decide) ?_
                refine mt_goto (pc := 82) (tgt := 86) dX11_without_82 (by decide) ?_
                refine mt_istore (pc := 86) dX11_without_86 (Nat.le_of_ble_eq_true rfl) rfl ?_
                refine mt_iload (pc := 88) dX11_without_88 rfl ?_
                refine mt_aload_n (pc := 90) dX11_without_90 rfl ?_
                refine mt_iload_n (pc := 91) dX11_without_91 rfl ?_
                refine mt_iconst (pc := 92) (v := 1) dX11_without_92 (by decide) ?_
                refine mt_iload (pc := 93) dX11_without_93 rfl ?_
                refine mt_ishl (pc := 95) dX11_without_95 ?_
                refine mt_iconst (pc := 96) (v := (-1)) dX11_without_96 (by decide) ?_
                refine mt_ixor (pc := 97) dX11_without_97 ?_
                refine mt_iand (pc := 98) dX11_without_98 ?_
                rw [and_cl left hl c (by omega) hb1]
                refine mt_iload (pc := 99) dX11_without_99 rfl ?_
                refine mt_if_eq (pc := 101) (tgt := 111) dX11_without_101 (by decide) (fun c101 => ?_) (fun c101 => ?_)
                · exact absurd c101 (by decide)
                · skip
                  refine mt_iload_n (pc := 104) dX11_without_104 rfl ?_
                  refine mt_iload (pc := 105) dX11_without_105 rfl ?_
                  refine mt_isub (pc := 107) dX11_without_107 ?_
                  refine mt_goto (pc := 108) (tgt := 112) dX11_without_108 (by decide) ?_
                  refine mt_iload_n (pc := 112) dX11_without_112 rfl ?_
                  refine mt_iload (pc := 113) dX11_without_113 rfl ?_
                  refine mt_if_eq (pc := 115) (tgt := 128) dX11_without_115 (by decide) (fun c115 => ?_) (fun c115 => ?_)
                  · exact absurd c115 (by decide)
                  · skip
                    refine mt_iload (pc := 118) dX11_without_118 rfl ?_
                    refine mt_iload_n (pc := 120) dX11_without_120 rfl ?_
                    refine mt_icmp_ne (pc := 121) (tgt := 128) dX11_without_121 (by decide) (fun c121 => ?_) (fun c121 => ?_)
                    · skip
                      rw [if_neg (fun z => c121 (by rw [z]))] at nc
                      refine mt_iload (pc := 128) dX11_without_128 rfl ?_
                      refine mt_cV (pc := 130) (ih _ _ _ (Nat.lt_of_le_of_lt (Nat.sub_le _ _) hl) (by omega) (by omega)) cal_X11_without vir_X11_without ml_X11_394 dX11_without_130 (by omega) (mos_o _ _ _) hdep ⟨(Nat.le_of_ble_eq_true rfl), (Nat.le_of_ble_eq_true rfl)⟩ rfl rfl (Nat.le_of_ble_eq_true rfl) ?_
                      refine mt_iadd (pc := 133) dX11_without_133 ?_
                      refine mt_istore (pc := 134) dX11_without_134 (Nat.le_of_ble_eq_true rfl) rfl ?_
                      refine mt_iinc (pc := 136) (c9 := 1) dX11_without_136 rfl (by decide) (Nat.le_of_ble_eq_true rfl) rfl ?_
                      refine mt_goto (pc := 139) (tgt := 22) dX11_without_139 (by decide) ?_
                      rw [show (nI c + 1 : Int32) = nI (c + 1) from nI_1 c]
                      first
                        | exact nc
                        | exact mt_forget 7 (mt_forget 8 nc)
                    · skip
                      have ecw : c = who := (nI_eq (by omega) (by omega)).mp c121
                      rw [if_pos ecw] at nc
                      refine mt_iconst (pc := 124) (v := 1) dX11_without_124 (by decide) ?_
                      refine mt_goto (pc := 125) (tgt := 130) dX11_without_125 (by decide) ?_
                      refine mt_cV (pc := 130) (ih _ _ _ (Nat.lt_of_le_of_lt (Nat.sub_le _ _) hl) (by omega) (by omega)) cal_X11_without vir_X11_without ml_X11_394 dX11_without_130 (by omega) (mos_o _ _ _) hdep ⟨(Nat.le_of_ble_eq_true rfl), (Nat.le_of_ble_eq_true rfl)⟩ rfl rfl (Nat.le_of_ble_eq_true rfl) ?_
                      refine mt_iadd (pc := 133) dX11_without_133 ?_
                      refine mt_istore (pc := 134) dX11_without_134 (Nat.le_of_ble_eq_true rfl) rfl ?_
                      refine mt_iinc (pc := 136) (c9 := 1) dX11_without_136 rfl (by decide) (Nat.le_of_ble_eq_true rfl) rfl ?_
                      refine mt_goto (pc := 139) (tgt := 22) dX11_without_139 (by decide) ?_
                      rw [show (nI c + 1 : Int32) = nI (c + 1) from nI_1 c]
                      first
                        | exact nc
                        | exact mt_forget 7 (mt_forget 8 nc)
          · skip
            have hb0 : left / 2 ^ c % 2 = 0 := by
              rcases Nat.mod_two_eq_zero_or_one (left / 2 ^ c) with y | y
              · exact y
              · rw [y] at c37; exact absurd c37 (by decide)
            rw [if_pos hb0] at nc
            refine mt_goto (pc := 40) (tgt := 136) dX11_without_40 (by decide) ?_
            refine mt_iinc (pc := 136) (c9 := 1) dX11_without_136 rfl (by decide) (Nat.le_of_ble_eq_true rfl) rfl ?_
            refine mt_goto (pc := 139) (tgt := 22) dX11_without_139 (by decide) ?_
            rw [show (nI c + 1 : Int32) = nI (c + 1) from nI_1 c]
            first
              | exact nc
              | exact mt_forget 7 (mt_forget 8 nc)
      · skip
        refine mt_iload (pc := 22) dX11_without_22 rfl ?_
        refine mt_aload_n (pc := 24) dX11_without_24 rfl ?_
        refine mt_mgetI (pc := 25) (x := nI k.2.1) gf_X11_157 dX11_without_25 hx rfl h19 ?_
        refine mt_icmp_ge (pc := 28) (tgt := 142) dX11_without_28 (by decide) (fun c28 => ?_) (fun c28 => ?_)
        · skip
          refine mt_iload (pc := 142) dX11_without_142 rfl ?_
          exact mt_iret rfl dX11_without_144 (Nat.le_of_ble_eq_true rfl) (Nat.le_of_ble_eq_true rfl) ⟨by rw [hr2], rfl, rfl⟩
        · exact absurd (nI_le (Nat.le_refl _) (by first | omega | decide)) c28
    · exact absurd c1 (nI_ne0 hne (by omega))
theorem n_run {p a : Int32} (hd : 8 ≤ d) (hx : 215 ≤ nx) (hQ : MQs k cs g A) (hR : RR (A 205) f) (hI : RI k f) : mm_Con G l yX11_run cX11_run 3 (some .int) d 0 0 [.ref 188, .int p, .int a] nx (mos h g A) (P_mq 1 1 (if inR p k.1 ∧ inR a k.2.1 then .inr (orS k f a.toNatClampNeg k.2.1 (f (4 + p.toNatClampNeg)) 0) else .inl 0) nx h g A) := by
  obtain ⟨h18, h19, hM, hL⟩ := id hQ
  have hk1 := hM.1
  have hk2 := hM.2.1
  have hQ0 : MQs k cs (upd g 0 0) A := hQ
  by_cases hp : inR p k.1
  · by_cases ha : inR a k.2.1
    · rw [if_pos ⟨hp, ha⟩]
      obtain ⟨i, hi, rfl⟩ := inR_of hp (by omega)
      obtain ⟨j, hj, rfl⟩ := inR_of ha (by omega)
      rw [nI_clamp (by omega), nI_clamp (by omega)]
      have h64 : 2 ^ k.2.1 ≤ 2 ^ 6 := pow_mono hk2
      have hp1 := Nat.two_pow_pos k.2.1
      obtain ⟨pa1, pa2⟩ := pop_all k.2.1 (by omega)
      have eo : woS f k.2.1 j k.2.1 (2 ^ k.2.1 - 1) (f (4 + i)) 0 = orS k f j k.2.1 (f (4 + i)) 0 := wo_or (c := 0) hk2 hj k.2.1 (2 ^ k.2.1 - 1) _ (by omega) pa1 ((pa2 j (by omega)).mpr hj) (by decide) (fun b hb => by
        rw [Nat.zero_div, pa2 b hb]
        constructor
        · intro _; omega
        · intro _; rfl)
      refine mm_start (lo := [some (.ref 188), some (.int (nI i)), some (.int (nI j))]) pn_X11 rfl rfl (Nat.le_of_ble_eq_true rfl) ?_
      refine mt_aload_n (pc := 0) dX11_run_0 rfl ?_
      refine mt_iconst (pc := 1) (v := 0) dX11_run_1 (by decide) ?_
      refine mt_mput (pc := 2) pf_X11_3 dX11_run_2 hx rfl ?_
      refine mt_aload_n (pc := 5) dX11_run_5 rfl ?_
      refine mt_iload_n (pc := 6) dX11_run_6 rfl ?_
      refine mt_iconst (pc := 7) (v := 1) dX11_run_7 (by decide) ?_
      refine mt_cV (pc := 8) (n_isSlabY (d := 1) (k := k) (Nat.le_refl 1) hx rfl hk1 h18 hp) cal_X11_isSlab vir_X11_isSlab ml_X11_366 dX11_run_8 (by omega) (mos_o _ _ _) (by first | assumption | (show _ ≤ d; omega)) ⟨(Nat.le_of_ble_eq_true rfl), (Nat.le_of_ble_eq_true rfl)⟩ rfl rfl (Nat.le_of_ble_eq_true rfl) ?_
      refine mt_if_eq (pc := 11) (tgt := 23) dX11_run_11 (by decide) (fun c11 => ?_) (fun c11 => ?_)
      · exact absurd c11 (by decide)
      · skip
        refine mt_aload_n (pc := 14) dX11_run_14 rfl ?_
        refine mt_iload_n (pc := 15) dX11_run_15 rfl ?_
        refine mt_iconst (pc := 16) (v := 1) dX11_run_16 (by decide) ?_
        refine mt_cV (pc := 17) (n_isSoulY (d := 1) (k := k) (Nat.le_refl 1) hx rfl hk2 h19 ha) cal_X11_isSoul vir_X11_isSoul ml_X11_369 dX11_run_17 (by omega) (mos_o _ _ _) (by first | assumption | (show _ ≤ d; omega)) ⟨(Nat.le_of_ble_eq_true rfl), (Nat.le_of_ble_eq_true rfl)⟩ rfl rfl (Nat.le_of_ble_eq_true rfl) ?_
        refine mt_if_ne (pc := 20) (tgt := 25) dX11_run_20 (by decide) (fun c20 => ?_) (fun c20 => ?_)
        · skip
          refine mt_aload_n (pc := 25) dX11_run_25 rfl ?_
          refine mt_iconst (pc := 26) (v := 1) dX11_run_26 (by decide) ?_
          refine mt_aload_n (pc := 27) dX11_run_27 rfl ?_
          refine mt_mgetI (pc := 28) (x := nI k.2.1) gf_X11_157 dX11_run_28 hx rfl h19 ?_
          refine mt_ishl (pc := 31) dX11_run_31 ?_
          rw [shl1 _ (by omega)]
          refine mt_iconst (pc := 32) (v := 1) dX11_run_32 (by decide) ?_
          refine mt_isub (pc := 33) dX11_run_33 ?_
          rw [show (1 : Int32) = nI 1 from rfl, pk_sub hp1]
          refine mt_aload_n (pc := 34) dX11_run_34 rfl ?_
          refine mt_mget (pc := 35) gf_X11_65 dX11_run_35 hx rfl ?_
          refine mt_iconst (pc := 38) (v := 0) dX11_run_38 (by decide) ?_
          refine mt_iload_n (pc := 39) dX11_run_39 rfl ?_
          refine mt_iaddN (pc := 40) (a := 0) (b := i) dX11_run_40 rfl rfl ?_
          refine mt_mald (pc := 41) (i := 205) (j := i) (x := f (4 + i)) dX11_run_41 hx rfl (by rw [Nat.zero_add]) (by show _ < 91; omega) (hR.1 i (by omega)) ?_
          refine mt_iload_n (pc := 42) dX11_run_42 rfl ?_
          refine mt_iconst (pc := 43) (v := 0) dX11_run_43 (by decide) ?_
          refine mt_cV (pc := 44) (n_without (k := k) (cs := cs) (f := f) (show j < 6 by omega) hx hQ0 hR hI k.2.1 7 (2 ^ k.2.1 - 1) (f (4 + i)) 0 (by omega) pa1 (by omega)) cal_X11_without vir_X11_without ml_X11_394 dX11_run_44 (by omega) (mos_o _ _ _) (by first | assumption | (show _ ≤ d; omega)) ⟨(Nat.le_of_ble_eq_true rfl), (Nat.le_of_ble_eq_true rfl)⟩ rfl rfl (Nat.le_of_ble_eq_true rfl) ?_
          rw [eo]
          exact mt_iret rfl dX11_run_47 (Nat.le_of_ble_eq_true rfl) (Nat.le_of_ble_eq_true rfl) (P_mqv (c0 := 1) (c1 := 1) (r := .inr (orS k f j k.2.1 (f (4 + i)) 0)) rfl GQ_0 AQ_rf)
        · exact absurd c20 (by decide)
    · rw [if_neg (fun z => ha z.2)]
      refine mm_start (lo := [some (.ref 188), some (.int p), some (.int a)]) pn_X11 rfl rfl (Nat.le_of_ble_eq_true rfl) ?_
      refine mt_aload_n (pc := 0) dX11_run_0 rfl ?_
      refine mt_iconst (pc := 1) (v := 0) dX11_run_1 (by decide) ?_
      refine mt_mput (pc := 2) pf_X11_3 dX11_run_2 hx rfl ?_
      refine mt_aload_n (pc := 5) dX11_run_5 rfl ?_
      refine mt_iload_n (pc := 6) dX11_run_6 rfl ?_
      refine mt_iconst (pc := 7) (v := 1) dX11_run_7 (by decide) ?_
      refine mt_cV (pc := 8) (n_isSlabY (d := 1) (k := k) (Nat.le_refl 1) hx rfl hk1 h18 hp) cal_X11_isSlab vir_X11_isSlab ml_X11_366 dX11_run_8 (by omega) (mos_o _ _ _) (by first | assumption | (show _ ≤ d; omega)) ⟨(Nat.le_of_ble_eq_true rfl), (Nat.le_of_ble_eq_true rfl)⟩ rfl rfl (Nat.le_of_ble_eq_true rfl) ?_
      refine mt_if_eq (pc := 11) (tgt := 23) dX11_run_11 (by decide) (fun c11 => ?_) (fun c11 => ?_)
      · exact absurd c11 (by decide)
      · skip
        refine mt_aload_n (pc := 14) dX11_run_14 rfl ?_
        refine mt_iload_n (pc := 15) dX11_run_15 rfl ?_
        refine mt_iconst (pc := 16) (v := 1) dX11_run_16 (by decide) ?_
        refine mt_cV (pc := 17) (n_isSoulN (d := 1) (k := k) (Nat.le_refl 1) hx rfl hk2 h19 (by decide) ha) cal_X11_isSoul vir_X11_isSoul ml_X11_369 dX11_run_17 (by omega) (mos_o _ _ _) (by first | assumption | (show _ ≤ d; omega)) ⟨(Nat.le_of_ble_eq_true rfl), (Nat.le_of_ble_eq_true rfl)⟩ rfl rfl (Nat.le_of_ble_eq_true rfl) ?_
        refine mt_if_ne (pc := 20) (tgt := 25) dX11_run_20 (by decide) (fun c20 => ?_) (fun c20 => ?_)
        · exact absurd rfl c20
        · skip
          refine mt_iconst (pc := 23) (v := 0) dX11_run_23 (by decide) ?_
          exact mt_iret rfl dX11_run_24 (Nat.le_of_ble_eq_true rfl) (Nat.le_of_ble_eq_true rfl) (P_mq0 (c0 := 1) (c1 := 1) (r := .inl 0) rfl)
  · rw [if_neg (fun z => hp z.1)]
    refine mm_start (lo := [some (.ref 188), some (.int p), some (.int a)]) pn_X11 rfl rfl (Nat.le_of_ble_eq_true rfl) ?_
    refine mt_aload_n (pc := 0) dX11_run_0 rfl ?_
    refine mt_iconst (pc := 1) (v := 0) dX11_run_1 (by decide) ?_
    refine mt_mput (pc := 2) pf_X11_3 dX11_run_2 hx rfl ?_
    refine mt_aload_n (pc := 5) dX11_run_5 rfl ?_
    refine mt_iload_n (pc := 6) dX11_run_6 rfl ?_
    refine mt_iconst (pc := 7) (v := 1) dX11_run_7 (by decide) ?_
    refine mt_cV (pc := 8) (n_isSlabN (d := 1) (k := k) (Nat.le_refl 1) hx rfl hk1 h18 (by decide) hp) cal_X11_isSlab vir_X11_isSlab ml_X11_366 dX11_run_8 (by omega) (mos_o _ _ _) (by first | assumption | (show _ ≤ d; omega)) ⟨(Nat.le_of_ble_eq_true rfl), (Nat.le_of_ble_eq_true rfl)⟩ rfl rfl (Nat.le_of_ble_eq_true rfl) ?_
    refine mt_if_eq (pc := 11) (tgt := 23) dX11_run_11 (by decide) (fun c11 => ?_) (fun c11 => ?_)
    · skip
      refine mt_iconst (pc := 23) (v := 0) dX11_run_23 (by decide) ?_
      exact mt_iret rfl dX11_run_24 (Nat.le_of_ble_eq_true rfl) (Nat.le_of_ble_eq_true rfl) (P_mq0 (c0 := 1) (c1 := 1) (r := .inl 0) rfl)
    · exact absurd rfl c11
end MRUN
