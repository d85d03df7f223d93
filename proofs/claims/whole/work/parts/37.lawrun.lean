/-! Law: its cells 15..18; what a LOAN owes. -/
abbrev laE (n : Int32) : mm_E := .inr (2, [.ref 16, .ref 17, .ref 18, .int n])
/-- what a deed gives -/
def resL (k : Nat) (x y : Int32) : Int32 := match k with
  | 2000 => x + y
  | 2001 => x - y
  | 2002 => x * y
  | 2003 => if y = 0 then 0 else x / y
  | 2004 => if y = 0 then 0 else x - x / y * y
  | 2005 => if x ≤ y then x else y
  | _ => if y ≤ x then x else y
/-- the eight facts -/
def factF (a0 a1 a2 a3 a4 a5 a6 a7 : Int32) : Nat → Int32 := upd (upd (upd (upd (upd (upd (upd (upd (fun _ => 0) 0 a0) 1 a1) 2 a2) 3 a3) 4 a4) 5 a5) 6 a6) 7 a7
/-- a row of codes run on a stack (its top first) of at most 32 -/
def evL (F : Nat → Int32) : List Nat → List Int32 → Option (List Int32)
  | [], s => some s
  | k :: cs, s => if 2000 ≤ k then (match s with
      | y :: x :: r => evL F cs (resL k x y :: r)
      | _ => none)
    else if s.length < 32 then evL F cs ((if k < 1000 then nI k else mm_at F 8 (nI (k - 1000))) :: s) else none
theorem evL_c {F : Nat → Int32} {k : Nat} {cs : List Nat} {s : List Int32} : evL F (k :: cs) s = if 2000 ≤ k then (match s with
      | y :: x :: r => evL F cs (resL k x y :: r)
      | _ => none)
    else if s.length < 32 then evL F cs ((if k < 1000 then nI k else mm_at F 8 (nI (k - 1000))) :: s) else none := by
  rcases s with _ | ⟨y, _ | ⟨x, r⟩⟩ <;> simp only [evL]
/-- the stack of the machine holds the list -/
def SM (S : Nat → Int32) : List Int32 → Prop
  | [] => True
  | x :: r => S r.length = x ∧ SM S r
theorem SM_upd {S : Nat → Int32} {x : Int32} {k : Nat} : ∀ {r : List Int32}, SM S r → r.length ≤ k → SM (upd S k x) r
  | [], _, _ => trivial
  | y :: r, h, hk => ⟨by rw [upd_ne (by simp only [List.length_cons] at hk; omega)]; exact h.1, SM_upd h.2 (by simp only [List.length_cons] at hk; omega)⟩
def clamp (v : Int32) : Int32 := if 0 < (if v < 200 then v else 200) then (if v < 200 then v else 200) else 0
section LAWRUN
variable {G : mm_G} {l : Launch} {d nx : Nat} {h : Nat → mm_E}
theorem c_tellLoan {n a0 a1 a2 a3 : Int32} {F : Nat → Int32} (hx : 19 ≤ nx) (h15 : h 15 = laE n) (h17 : h 17 = iaE 8 F) : mm_Con G l yX2_tellLoan cX2_tellLoan 5 none d 0 0 [.ref 15, .int a0, .int a1, .int a2, .int a3] nx h (mm_ret none nx (hset h 17 (iaE 8 (upd (upd (upd (upd F 0 a0) 1 a1) 2 a2) 3 a3)))) := by
  refine mm_start (lo := [some (.ref 15), some (.int a0), some (.int a1), some (.int a2), some (.int a3)]) pn_X2 rfl rfl (Nat.le_of_ble_eq_true rfl) ?_
  refine mt_aload_n (pc := 0) dX2_tellLoan_0 rfl ?_
  refine mt_get (pc := 1) gf_X2_15 dX2_tellLoan_1 (by first | assumption | omega) (by repeat (first | exact hset_eq _ _ _ | assumption | rw [hset_ne (by first | assumption | decide | omega)])) rfl ?_
  refine mt_iconst (pc := 4) (v := 0) dX2_tellLoan_4 (by decide) ?_
  refine mt_iload_n (pc := 5) dX2_tellLoan_5 rfl ?_
  first
    | refine mt_iast2 (pc := 6) dX2_tellLoan_6 (by first | assumption | omega) (vp_in_nI (n := 0) (by decide) (by decide)) ?_
    | refine mt_iast (pc := 6) dX2_tellLoan_6 (by first | assumption | omega) (by repeat (first | exact hset_eq _ _ _ | assumption | rw [hset_ne (by first | assumption | decide | omega)])) (vp_in_nI (n := 0) (by decide) (by decide)) ?_
  refine mt_aload_n (pc := 7) dX2_tellLoan_7 rfl ?_
  refine mt_get (pc := 8) gf_X2_15 dX2_tellLoan_8 (by first | assumption | omega) (by repeat (first | exact hset_eq _ _ _ | assumption | rw [hset_ne (by first | assumption | decide | omega)])) rfl ?_
  refine mt_iconst (pc := 11) (v := 1) dX2_tellLoan_11 (by decide) ?_
  refine mt_iload_n (pc := 12) dX2_tellLoan_12 rfl ?_
  first
    | refine mt_iast2 (pc := 13) dX2_tellLoan_13 (by first | assumption | omega) (vp_in_nI (n := 1) (by decide) (by decide)) ?_
    | refine mt_iast (pc := 13) dX2_tellLoan_13 (by first | assumption | omega) (by repeat (first | exact hset_eq _ _ _ | assumption | rw [hset_ne (by first | assumption | decide | omega)])) (vp_in_nI (n := 1) (by decide) (by decide)) ?_
  refine mt_aload_n (pc := 14) dX2_tellLoan_14 rfl ?_
  refine mt_get (pc := 15) gf_X2_15 dX2_tellLoan_15 (by first | assumption | omega) (by repeat (first | exact hset_eq _ _ _ | assumption | rw [hset_ne (by first | assumption | decide | omega)])) rfl ?_
  refine mt_iconst (pc := 18) (v := 2) dX2_tellLoan_18 (by decide) ?_
  refine mt_iload_n (pc := 19) dX2_tellLoan_19 rfl ?_
  first
    | refine mt_iast2 (pc := 20) dX2_tellLoan_20 (by first | assumption | omega) (vp_in_nI (n := 2) (by decide) (by decide)) ?_
    | refine mt_iast (pc := 20) dX2_tellLoan_20 (by first | assumption | omega) (by repeat (first | exact hset_eq _ _ _ | assumption | rw [hset_ne (by first | assumption | decide | omega)])) (vp_in_nI (n := 2) (by decide) (by decide)) ?_
  refine mt_aload_n (pc := 21) dX2_tellLoan_21 rfl ?_
  refine mt_get (pc := 22) gf_X2_15 dX2_tellLoan_22 (by first | assumption | omega) (by repeat (first | exact hset_eq _ _ _ | assumption | rw [hset_ne (by first | assumption | decide | omega)])) rfl ?_
  refine mt_iconst (pc := 25) (v := 3) dX2_tellLoan_25 (by decide) ?_
  refine mt_iload (pc := 26) dX2_tellLoan_26 rfl ?_
  first
    | refine mt_iast2 (pc := 28) dX2_tellLoan_28 (by first | assumption | omega) (vp_in_nI (n := 3) (by decide) (by decide)) ?_
    | refine mt_iast (pc := 28) dX2_tellLoan_28 (by first | assumption | omega) (by repeat (first | exact hset_eq _ _ _ | assumption | rw [hset_ne (by first | assumption | decide | omega)])) (vp_in_nI (n := 3) (by decide) (by decide)) ?_
  exact mt_vret rfl dX2_tellLoan_29 (Nat.le_of_ble_eq_true rfl) (Nat.le_of_ble_eq_true rfl) ⟨rfl, rfl, rfl⟩
theorem c_tellRest {n a0 a1 a2 a3 : Int32} {F : Nat → Int32} (hx : 19 ≤ nx) (h15 : h 15 = laE n) (h17 : h 17 = iaE 8 F) : mm_Con G l yX2_tellRest cX2_tellRest 5 none d 0 0 [.ref 15, .int a0, .int a1, .int a2, .int a3] nx h (mm_ret none nx (hset h 17 (iaE 8 (upd (upd (upd (upd F 4 a0) 5 a1) 6 a2) 7 a3)))) := by
  refine mm_start (lo := [some (.ref 15), some (.int a0), some (.int a1), some (.int a2), some (.int a3)]) pn_X2 rfl rfl (Nat.le_of_ble_eq_true rfl) ?_
  refine mt_aload_n (pc := 0) dX2_tellRest_0 rfl ?_
  refine mt_get (pc := 1) gf_X2_15 dX2_tellRest_1 (by first | assumption | omega) (by repeat (first | exact hset_eq _ _ _ | assumption | rw [hset_ne (by first | assumption | decide | omega)])) rfl ?_
  refine mt_iconst (pc := 4) (v := 4) dX2_tellRest_4 (by decide) ?_
  refine mt_iload_n (pc := 5) dX2_tellRest_5 rfl ?_
  first
    | refine mt_iast2 (pc := 6) dX2_tellRest_6 (by first | assumption | omega) (vp_in_nI (n := 4) (by decide) (by decide)) ?_
    | refine mt_iast (pc := 6) dX2_tellRest_6 (by first | assumption | omega) (by repeat (first | exact hset_eq _ _ _ | assumption | rw [hset_ne (by first | assumption | decide | omega)])) (vp_in_nI (n := 4) (by decide) (by decide)) ?_
  refine mt_aload_n (pc := 7) dX2_tellRest_7 rfl ?_
  refine mt_get (pc := 8) gf_X2_15 dX2_tellRest_8 (by first | assumption | omega) (by repeat (first | exact hset_eq _ _ _ | assumption | rw [hset_ne (by first | assumption | decide | omega)])) rfl ?_
  refine mt_iconst (pc := 11) (v := 5) dX2_tellRest_11 (by decide) ?_
  refine mt_iload_n (pc := 12) dX2_tellRest_12 rfl ?_
  first
    | refine mt_iast2 (pc := 13) dX2_tellRest_13 (by first | assumption | omega) (vp_in_nI (n := 5) (by decide) (by decide)) ?_
    | refine mt_iast (pc := 13) dX2_tellRest_13 (by first | assumption | omega) (by repeat (first | exact hset_eq _ _ _ | assumption | rw [hset_ne (by first | assumption | decide | omega)])) (vp_in_nI (n := 5) (by decide) (by decide)) ?_
  refine mt_aload_n (pc := 14) dX2_tellRest_14 rfl ?_
  refine mt_get (pc := 15) gf_X2_15 dX2_tellRest_15 (by first | assumption | omega) (by repeat (first | exact hset_eq _ _ _ | assumption | rw [hset_ne (by first | assumption | decide | omega)])) rfl ?_
  refine mt_bipush (pc := 18) (v := 6) dX2_tellRest_18 (by decide) ?_
  refine mt_iload_n (pc := 20) dX2_tellRest_20 rfl ?_
  first
    | refine mt_iast2 (pc := 21) dX2_tellRest_21 (by first | assumption | omega) (vp_in_nI (n := 6) (by decide) (by decide)) ?_
    | refine mt_iast (pc := 21) dX2_tellRest_21 (by first | assumption | omega) (by repeat (first | exact hset_eq _ _ _ | assumption | rw [hset_ne (by first | assumption | decide | omega)])) (vp_in_nI (n := 6) (by decide) (by decide)) ?_
  refine mt_aload_n (pc := 22) dX2_tellRest_22 rfl ?_
  refine mt_get (pc := 23) gf_X2_15 dX2_tellRest_23 (by first | assumption | omega) (by repeat (first | exact hset_eq _ _ _ | assumption | rw [hset_ne (by first | assumption | decide | omega)])) rfl ?_
  refine mt_bipush (pc := 26) (v := 7) dX2_tellRest_26 (by decide) ?_
  refine mt_iload (pc := 28) dX2_tellRest_28 rfl ?_
  first
    | refine mt_iast2 (pc := 30) dX2_tellRest_30 (by first | assumption | omega) (vp_in_nI (n := 7) (by decide) (by decide)) ?_
    | refine mt_iast (pc := 30) dX2_tellRest_30 (by first | assumption | omega) (by repeat (first | exact hset_eq _ _ _ | assumption | rw [hset_ne (by first | assumption | decide | omega)])) (vp_in_nI (n := 7) (by decide) (by decide)) ?_
  exact mt_vret rfl dX2_tellRest_31 (Nat.le_of_ble_eq_true rfl) (Nat.le_of_ble_eq_true rfl) ⟨rfl, rfl, rfl⟩
theorem c_res0 {x y : Int32} : mm_Con G l yX2_result cX2_result 3 (some .int) d 0 0 [.int (nI 2000), .int x, .int y] nx h (mm_ret (some (.int (resL 2000 x y))) nx h) := by
  refine mm_start (lo := [some (.int (nI 2000)), some (.int x), some (.int y)]) pn_X2 rfl rfl (Nat.le_of_ble_eq_true rfl) ?_
  refine mt_iload_n (pc := 0) dX2_result_0 rfl ?_
  refine mt_tableIn (pc := 1) (tgt := 40) dX2_result_1 (by decide) (by decide) (off := 39) (by decide +kernel) (by decide) ?_
  refine mt_iload_n (pc := 40) dX2_result_40 rfl ?_
  refine mt_iload_n (pc := 41) dX2_result_41 rfl ?_
  refine mt_iadd (pc := 42) dX2_result_42 ?_
  exact mt_iret rfl dX2_result_43 (Nat.le_of_ble_eq_true rfl) (Nat.le_of_ble_eq_true rfl) ⟨rfl, rfl, rfl⟩
theorem c_res1 {x y : Int32} : mm_Con G l yX2_result cX2_result 3 (some .int) d 0 0 [.int (nI 2001), .int x, .int y] nx h (mm_ret (some (.int (resL 2001 x y))) nx h) := by
  refine mm_start (lo := [some (.int (nI 2001)), some (.int x), some (.int y)]) pn_X2 rfl rfl (Nat.le_of_ble_eq_true rfl) ?_
  refine mt_iload_n (pc := 0) dX2_result_0 rfl ?_
  refine mt_tableIn (pc := 1) (tgt := 44) dX2_result_1 (by decide) (by decide) (off := 43) (by decide +kernel) (by decide) ?_
  refine mt_iload_n (pc := 44) dX2_result_44 rfl ?_
  refine mt_iload_n (pc := 45) dX2_result_45 rfl ?_
  refine mt_isub (pc := 46) dX2_result_46 ?_
  exact mt_iret rfl dX2_result_47 (Nat.le_of_ble_eq_true rfl) (Nat.le_of_ble_eq_true rfl) ⟨rfl, rfl, rfl⟩
theorem c_res2 {x y : Int32} : mm_Con G l yX2_result cX2_result 3 (some .int) d 0 0 [.int (nI 2002), .int x, .int y] nx h (mm_ret (some (.int (resL 2002 x y))) nx h) := by
  refine mm_start (lo := [some (.int (nI 2002)), some (.int x), some (.int y)]) pn_X2 rfl rfl (Nat.le_of_ble_eq_true rfl) ?_
  refine mt_iload_n (pc := 0) dX2_result_0 rfl ?_
  refine mt_tableIn (pc := 1) (tgt := 48) dX2_result_1 (by decide) (by decide) (off := 47) (by decide +kernel) (by decide) ?_
  refine mt_iload_n (pc := 48) dX2_result_48 rfl ?_
  refine mt_iload_n (pc := 49) dX2_result_49 rfl ?_
  refine mt_imul (pc := 50) dX2_result_50 ?_
  exact mt_iret rfl dX2_result_51 (Nat.le_of_ble_eq_true rfl) (Nat.le_of_ble_eq_true rfl) ⟨rfl, rfl, rfl⟩
theorem c_res3 {x y : Int32} : mm_Con G l yX2_result cX2_result 3 (some .int) d 0 0 [.int (nI 2003), .int x, .int y] nx h (mm_ret (some (.int (resL 2003 x y))) nx h) := by
  refine mm_start (lo := [some (.int (nI 2003)), some (.int x), some (.int y)]) pn_X2 rfl rfl (Nat.le_of_ble_eq_true rfl) ?_
  refine mt_iload_n (pc := 0) dX2_result_0 rfl ?_
  refine mt_tableIn (pc := 1) (tgt := 52) dX2_result_1 (by decide) (by decide) (off := 51) (by decide +kernel) (by decide) ?_
  refine mt_iload_n (pc := 52) dX2_result_52 rfl ?_
  refine mt_if_ne (pc := 53) (tgt := 60) dX2_result_53 (by decide) (fun c53 => ?_) (fun c53 => ?_)
  · skip
    have e1 : resL 2003 x y = x / y := if_neg c53
    refine mt_iload_n (pc := 60) dX2_result_60 rfl ?_
    refine mt_iload_n (pc := 61) dX2_result_61 rfl ?_
    refine mt_idiv (pc := 62) dX2_result_62 c53 ?_
    exact mt_iret rfl dX2_result_63 (Nat.le_of_ble_eq_true rfl) (Nat.le_of_ble_eq_true rfl) ⟨by rw [e1], rfl, rfl⟩
  · skip
    have e1 : resL 2003 x y = 0 := if_pos c53
    refine mt_iconst (pc := 56) (v := 0) dX2_result_56 (by decide) ?_
    refine mt_goto (pc := 57) (tgt := 63) dX2_result_57 (by decide) ?_
    exact mt_iret rfl dX2_result_63 (Nat.le_of_ble_eq_true rfl) (Nat.le_of_ble_eq_true rfl) ⟨by rw [e1], rfl, rfl⟩
theorem c_res4 {x y : Int32} : mm_Con G l yX2_result cX2_result 3 (some .int) d 0 0 [.int (nI 2004), .int x, .int y] nx h (mm_ret (some (.int (resL 2004 x y))) nx h) := by
  refine mm_start (lo := [some (.int (nI 2004)), some (.int x), some (.int y)]) pn_X2 rfl rfl (Nat.le_of_ble_eq_true rfl) ?_
  refine mt_iload_n (pc := 0) dX2_result_0 rfl ?_
  refine mt_tableIn (pc := 1) (tgt := 64) dX2_result_1 (by decide) (by decide) (off := 63) (by decide +kernel) (by decide) ?_
  refine mt_iload_n (pc := 64) dX2_result_64 rfl ?_
  refine mt_if_ne (pc := 65) (tgt := 72) dX2_result_65 (by decide) (fun c65 => ?_) (fun c65 => ?_)
  · skip
    have e1 : resL 2004 x y = x - x / y * y := if_neg c65
    refine mt_iload_n (pc := 72) dX2_result_72 rfl ?_
    refine mt_iload_n (pc := 73) dX2_result_73 rfl ?_
    refine mt_irem (pc := 74) dX2_result_74 c65 ?_
    exact mt_iret rfl dX2_result_75 (Nat.le_of_ble_eq_true rfl) (Nat.le_of_ble_eq_true rfl) ⟨by rw [e1], rfl, rfl⟩
  · skip
    have e1 : resL 2004 x y = 0 := if_pos c65
    refine mt_iconst (pc := 68) (v := 0) dX2_result_68 (by decide) ?_
    refine mt_goto (pc := 69) (tgt := 75) dX2_result_69 (by decide) ?_
    exact mt_iret rfl dX2_result_75 (Nat.le_of_ble_eq_true rfl) (Nat.le_of_ble_eq_true rfl) ⟨by rw [e1], rfl, rfl⟩
theorem c_res5 {x y : Int32} : mm_Con G l yX2_result cX2_result 3 (some .int) d 0 0 [.int (nI 2005), .int x, .int y] nx h (mm_ret (some (.int (resL 2005 x y))) nx h) := by
  refine mm_start (lo := [some (.int (nI 2005)), some (.int x), some (.int y)]) pn_X2 rfl rfl (Nat.le_of_ble_eq_true rfl) ?_
  refine mt_iload_n (pc := 0) dX2_result_0 rfl ?_
  refine mt_tableIn (pc := 1) (tgt := 76) dX2_result_1 (by decide) (by decide) (off := 75) (by decide +kernel) (by decide) ?_
  refine mt_iload_n (pc := 76) dX2_result_76 rfl ?_
  refine mt_iload_n (pc := 77) dX2_result_77 rfl ?_
  refine mt_icmp_gt (pc := 78) (tgt := 85) dX2_result_78 (by decide) (fun c78 => ?_) (fun c78 => ?_)
  · skip
    have e1 : resL 2005 x y = y := if_neg (Int32.not_le.mpr c78)
    refine mt_iload_n (pc := 85) dX2_result_85 rfl ?_
    exact mt_iret rfl dX2_result_86 (Nat.le_of_ble_eq_true rfl) (Nat.le_of_ble_eq_true rfl) ⟨by rw [e1], rfl, rfl⟩
  · skip
    have e1 : resL 2005 x y = x := if_pos (Int32.not_lt.mp c78)
    refine mt_iload_n (pc := 81) dX2_result_81 rfl ?_
    refine mt_goto (pc := 82) (tgt := 86) dX2_result_82 (by decide) ?_
    exact mt_iret rfl dX2_result_86 (Nat.le_of_ble_eq_true rfl) (Nat.le_of_ble_eq_true rfl) ⟨by rw [e1], rfl, rfl⟩
theorem c_res6 {x y : Int32} : mm_Con G l yX2_result cX2_result 3 (some .int) d 0 0 [.int (nI 2006), .int x, .int y] nx h (mm_ret (some (.int (resL 2006 x y))) nx h) := by
  refine mm_start (lo := [some (.int (nI 2006)), some (.int x), some (.int y)]) pn_X2 rfl rfl (Nat.le_of_ble_eq_true rfl) ?_
  refine mt_iload_n (pc := 0) dX2_result_0 rfl ?_
  refine mt_tableOut (pc := 1) (tgt := 87) dX2_result_1 (by decide) (by decide) ?_
  refine mt_iload_n (pc := 87) dX2_result_87 rfl ?_
  refine mt_iload_n (pc := 88) dX2_result_88 rfl ?_
  refine mt_icmp_lt (pc := 89) (tgt := 96) dX2_result_89 (by decide) (fun c89 => ?_) (fun c89 => ?_)
  · skip
    have e1 : resL 2006 x y = y := if_neg (Int32.not_le.mpr c89)
    refine mt_iload_n (pc := 96) dX2_result_96 rfl ?_
    exact mt_iret rfl dX2_result_97 (Nat.le_of_ble_eq_true rfl) (Nat.le_of_ble_eq_true rfl) ⟨by rw [e1], rfl, rfl⟩
  · skip
    have e1 : resL 2006 x y = x := if_pos (Int32.not_lt.mp c89)
    refine mt_iload_n (pc := 92) dX2_result_92 rfl ?_
    refine mt_goto (pc := 93) (tgt := 97) dX2_result_93 (by decide) ?_
    exact mt_iret rfl dX2_result_97 (Nat.le_of_ble_eq_true rfl) (Nat.le_of_ble_eq_true rfl) ⟨by rw [e1], rfl, rfl⟩
theorem c_result {k : Nat} {x y : Int32} (h1 : 2000 ≤ k) (h2 : k ≤ 2006) : mm_Con G l yX2_result cX2_result 3 (some .int) d 0 0 [.int (nI k), .int x, .int y] nx h (mm_ret (some (.int (resL k x y))) nx h) := by
  rcases (show k = 2000 ∨ k = 2001 ∨ k = 2002 ∨ k = 2003 ∨ k = 2004 ∨ k = 2005 ∨ k = 2006 by omega) with rfl | rfl | rfl | rfl | rfl | rfl | rfl
  · exact c_res0
  · exact c_res1
  · exact c_res2
  · exact c_res3
  · exact c_res4
  · exact c_res5
  · exact c_res6
/-- the codes of a row -/
def LW (R : Nat → Int32) (cs : List Nat) : Prop := cs.length ≤ 150 ∧ ∀ i k, cs[i]? = some k → R i = nI k ∧ k ≤ 2006
theorem c_owes {cs : List Nat} {R F S : Nat → Int32} {v : Int32} (hd : 1 ≤ d) (hx : 19 ≤ nx) (hL : LW R cs) (hev : evL F cs [] = some [v]) (h15 : h 15 = laE (nI cs.length)) (h16 : h 16 = iaE 150 R) (h17 : h 17 = iaE 8 F) (h18 : h 18 = iaE 32 S) : mm_Con G l yX2_owes cX2_owes 4 (some .int) d 0 0 [.ref 15] nx h (fun o n m => o = .inl (some (.int (clamp v))) ∧ n = nx ∧ ∃ S', m = hset h 18 (iaE 32 S')) := by
  have loop : ∀ (q i : Nat) (s : List Int32) (S' : Nat → Int32) (x3 : Option Value), i + q = cs.length → SM S' s → s.length ≤ 32 → evL F (cs.drop i) s = some [v] → mm_T (G, l, yX2_owes, 4, some .int, d, 0, 0, (fun o n m => o = .inl (some (.int (clamp v))) ∧ n = nx ∧ ∃ S', m = hset h 18 (iaE 32 S')), nx) RX2 cX2_owes nx (hset h 18 (iaE 32 S')) 0 0 4 [some (.ref 15), some (.int (nI s.length)), some (.int (nI i)), x3] [] := by
    intro q
    induction q with
    | zero =>
      intro i s S' x3 hi hS hl he
      obtain rfl : i = cs.length := by omega
      rw [List.drop_length] at he
      cases he
      refine mt_iload_n (pc := 4) dX2_owes_4 rfl ?_
      refine mt_aload_n (pc := 5) dX2_owes_5 rfl ?_
      refine mt_get (pc := 6) gf_X2_31 dX2_owes_6 (by first | assumption | omega) (by repeat (first | exact hset_eq _ _ _ | assumption | rw [hset_ne (by first | assumption | decide | omega)])) rfl ?_
      refine mt_icmp_ge (pc := 9) (tgt := 135) dX2_owes_9 (by decide) (fun c9 => ?_) (fun c9 => ?_)
      · skip
        refine mt_iconst (pc := 135) (v := 0) dX2_owes_135 (by decide) ?_
        refine mt_sipush (pc := 136) (v := 200) dX2_owes_136 (by decide) ?_
        refine mt_aload_n (pc := 139) dX2_owes_139 rfl ?_
        refine mt_get (pc := 140) gf_X2_18 dX2_owes_140 (by first | assumption | omega) (by repeat (first | exact hset_eq _ _ _ | assumption | rw [hset_ne (by first | assumption | decide | omega)])) rfl ?_
        refine mt_iconst (pc := 143) (v := 0) dX2_owes_143 (by decide) ?_
        refine mt_iald (pc := 144) dX2_owes_144 (by first | assumption | omega) (by repeat (first | exact hset_eq _ _ _ | assumption | rw [hset_ne (by first | assumption | decide | omega)])) (vp_in_nI (n := 0) (by decide) (by decide)) ?_
        rw [show S' (0 : Int32).toNatClampNeg = v from hS.1]
        refine mt_mmin (pc := 145) ml_X2_43 dX2_owes_145 hd ⟨(Nat.le_of_ble_eq_true rfl), (Nat.le_of_ble_eq_true rfl)⟩ (Nat.le_of_ble_eq_true rfl) ?_
        refine mt_mmax (pc := 148) ml_X2_49 dX2_owes_148 hd ⟨(Nat.le_of_ble_eq_true rfl), (Nat.le_of_ble_eq_true rfl)⟩ (Nat.le_of_ble_eq_true rfl) ?_
        exact mt_iret rfl dX2_owes_151 (Nat.le_of_ble_eq_true rfl) (Nat.le_of_ble_eq_true rfl) ⟨rfl, rfl, _, rfl⟩
      · exact absurd (nI_le (Nat.le_refl _) (by have := hL.1; omega)) c9
    | succ q ih =>
      intro i s S' x3 hi hS hl he
      have hL1 := hL.1
      have hlt : i < cs.length := by omega
      obtain ⟨hRk, hk6⟩ := hL.2 i cs[i] (List.getElem?_eq_getElem hlt)
      rw [List.drop_eq_getElem_cons hlt] at he
      generalize cs[i] = k at hRk hk6 he
      have hv : R (nI i).toNatClampNeg = nI k := by rw [nI_clamp (by omega)]; exact hRk
      refine mt_iload_n (pc := 4) dX2_owes_4 rfl ?_
      refine mt_aload_n (pc := 5) dX2_owes_5 rfl ?_
      refine mt_get (pc := 6) gf_X2_31 dX2_owes_6 (by first | assumption | omega) (by repeat (first | exact hset_eq _ _ _ | assumption | rw [hset_ne (by first | assumption | decide | omega)])) rfl ?_
      refine mt_icmp_ge (pc := 9) (tgt := 135) dX2_owes_9 (by decide) (fun c9 => ?_) (fun c9 => ?_)
      · exact absurd c9 (nI_ge hlt (by omega))
      · skip
        refine mt_iload_n (pc := 12) dX2_owes_12 rfl ?_
        refine mt_aload_n (pc := 13) dX2_owes_13 rfl ?_
        refine mt_get (pc := 14) gf_X2_9 dX2_owes_14 (by first | assumption | omega) (by repeat (first | exact hset_eq _ _ _ | assumption | rw [hset_ne (by first | assumption | decide | omega)])) rfl ?_
        refine mt_alen (pc := 17) dX2_owes_17 (by first | assumption | omega) (by repeat (first | exact hset_eq _ _ _ | assumption | rw [hset_ne (by first | assumption | decide | omega)])) (by decide) ?_
        refine mt_icmp_ge (pc := 18) (tgt := 135) dX2_owes_18 (by decide) (fun c18 => ?_) (fun c18 => ?_)
        · exact absurd c18 (nI_ge (b := 150) (by omega) (by decide))
        · skip
          refine mt_aload_n (pc := 21) dX2_owes_21 rfl ?_
          refine mt_get (pc := 22) gf_X2_9 dX2_owes_22 (by first | assumption | omega) (by repeat (first | exact hset_eq _ _ _ | assumption | rw [hset_ne (by first | assumption | decide | omega)])) rfl ?_
          refine mt_iload_n (pc := 25) dX2_owes_25 rfl ?_
          refine mt_iald (pc := 26) dX2_owes_26 (by first | assumption | omega) (by repeat (first | exact hset_eq _ _ _ | assumption | rw [hset_ne (by first | assumption | decide | omega)])) (vp_in_nI (n := i) (by omega) (by decide)) ?_
          rw [hv]
          refine mt_istore_n (pc := 27) dX2_owes_27 (Nat.le_of_ble_eq_true rfl) rfl ?_
          refine mt_iload_n (pc := 28) dX2_owes_28 rfl ?_
          refine mt_sipush (pc := 29) (v := 2000) dX2_owes_29 (by decide) ?_
          refine mt_icmp_lt (pc := 32) (tgt := 81) dX2_owes_32 (by decide) (fun c32 => ?_) (fun c32 => ?_)
          · skip
            have hk : k < 2000 := (nI_ltI (by omega) (by decide)).mp c32
            rw [evL_c, if_neg (by omega)] at he
            refine mt_iload_n (pc := 81) dX2_owes_81 rfl ?_
            refine mt_sipush (pc := 82) (v := 2000) dX2_owes_82 (by decide) ?_
            refine mt_icmp_ge (pc := 85) (tgt := 129) dX2_owes_85 (by decide) (fun c85 => ?_) (fun c85 => ?_)
            · exact absurd c85 (nI_ge (b := 2000) hk (by decide))
            · skip
              refine mt_iload_n (pc := 88) dX2_owes_88 rfl ?_
              refine mt_aload_n (pc := 89) dX2_owes_89 rfl ?_
              refine mt_get (pc := 90) gf_X2_18 dX2_owes_90 (by first | assumption | omega) (by repeat (first | exact hset_eq _ _ _ | assumption | rw [hset_ne (by first | assumption | decide | omega)])) rfl ?_
              refine mt_alen (pc := 93) dX2_owes_93 (by first | assumption | omega) (by repeat (first | exact hset_eq _ _ _ | assumption | rw [hset_ne (by first | assumption | decide | omega)])) (by decide) ?_
              refine mt_icmp_ge (pc := 94) (tgt := 129) dX2_owes_94 (by decide) (fun c94 => ?_) (fun c94 => ?_)
              · (have hsl : ¬ s.length < 32 := fun z => nI_ge (b := 32) z (by decide) c94; rw [if_neg hsl] at he; cases he)
              · skip
                have hsl : s.length < 32 := Nat.lt_of_not_le fun z => c94 (nI_le z (by omega))
                rw [if_pos hsl] at he
                refine mt_aload_n (pc := 97) dX2_owes_97 rfl ?_
                refine mt_get (pc := 98) gf_X2_18 dX2_owes_98 (by first | assumption | omega) (by repeat (first | exact hset_eq _ _ _ | assumption | rw [hset_ne (by first | assumption | decide | omega)])) rfl ?_
                refine mt_iload_n (pc := 101) dX2_owes_101 rfl ?_
                refine mt_iload_n (pc := 102) dX2_owes_102 rfl ?_
                refine mt_sipush (pc := 103) (v := 1000) dX2_owes_103 (by decide) ?_
                refine mt_icmp_ge (pc := 106) (tgt := 113) dX2_owes_106 (by decide) (fun c106 => ?_) (fun c106 => ?_)
                · skip
                  have hk1 : ¬ k < 1000 := fun z => nI_ge (b := 1000) z (by decide) c106
                  rw [if_neg hk1] at he
                  refine mt_aload_n (pc := 113) dX2_owes_113 rfl ?_
                  refine mt_get (pc := 114) gf_X2_15 dX2_owes_114 (by first | assumption | omega) (by repeat (first | exact hset_eq _ _ _ | assumption | rw [hset_ne (by first | assumption | decide | omega)])) rfl ?_
                  refine mt_iload_n (pc := 117) dX2_owes_117 rfl ?_
                  refine mt_sipush (pc := 118) (v := 1000) dX2_owes_118 (by decide) ?_
                  refine mt_isub (pc := 121) dX2_owes_121 ?_
                  rw [show (nI k - 1000 : Int32) = nI (k - 1000) from pk_sub (b := 1000) (by omega)]
                  refine mt_cN (pc := 122) (c_entry (d := 0) (r := 17) (i := nI (k - 1000)) (by omega) (by rw [hset_ne (by decide)]; exact h17) (by decide)) cal_X10_entry sta_X10_entry mn_X2_39 dX2_owes_122 hd ⟨(Nat.le_of_ble_eq_true rfl), (Nat.le_of_ble_eq_true rfl)⟩ rfl rfl (Nat.le_of_ble_eq_true rfl) ?_
                  first
                    | refine mt_iast2 (pc := 125) dX2_owes_125 (by first | assumption | omega) (vp_in_nI (n := s.length) hsl (by decide)) ?_
                    | refine mt_iast (pc := 125) dX2_owes_125 (by first | assumption | omega) (by repeat (first | exact hset_eq _ _ _ | assumption | rw [hset_ne (by first | assumption | decide | omega)])) (vp_in_nI (n := s.length) hsl (by decide)) ?_
                  refine mt_iinc (pc := 126) (c9 := 1) dX2_owes_126 rfl (by decide) (Nat.le_of_ble_eq_true rfl) rfl ?_
                  refine mt_iinc (pc := 129) (c9 := 1) dX2_owes_129 rfl (by decide) (Nat.le_of_ble_eq_true rfl) rfl ?_
                  refine mt_goto (pc := 132) (tgt := 4) dX2_owes_132 (by decide) ?_
                  rw [show (nI i + 1 : Int32) = nI (i + 1) from nI_1 i, show (nI s.length + 1 : Int32) = nI (s.length + 1) from nI_1 _, nI_clamp (by omega)]
                  refine ih (i + 1) (_ :: s) _ (some (.int (nI k))) (by omega) ⟨upd_eq _ _ _, SM_upd hS (Nat.le_refl _)⟩ (by simp only [List.length_cons]; omega) he
                · skip
                  have hk1 : k < 1000 := Nat.lt_of_not_le fun z => c106 (nI_le z (by omega))
                  rw [if_pos hk1] at he
                  refine mt_iload_n (pc := 109) dX2_owes_109 rfl ?_
                  refine mt_goto (pc := 110) (tgt := 125) dX2_owes_110 (by decide) ?_
                  first
                    | refine mt_iast2 (pc := 125) dX2_owes_125 (by first | assumption | omega) (vp_in_nI (n := s.length) hsl (by decide)) ?_
                    | refine mt_iast (pc := 125) dX2_owes_125 (by first | assumption | omega) (by repeat (first | exact hset_eq _ _ _ | assumption | rw [hset_ne (by first | assumption | decide | omega)])) (vp_in_nI (n := s.length) hsl (by decide)) ?_
                  refine mt_iinc (pc := 126) (c9 := 1) dX2_owes_126 rfl (by decide) (Nat.le_of_ble_eq_true rfl) rfl ?_
                  refine mt_iinc (pc := 129) (c9 := 1) dX2_owes_129 rfl (by decide) (Nat.le_of_ble_eq_true rfl) rfl ?_
                  refine mt_goto (pc := 132) (tgt := 4) dX2_owes_132 (by decide) ?_
                  rw [show (nI i + 1 : Int32) = nI (i + 1) from nI_1 i, show (nI s.length + 1 : Int32) = nI (s.length + 1) from nI_1 _, nI_clamp (by omega)]
                  refine ih (i + 1) (_ :: s) _ (some (.int (nI k))) (by omega) ⟨upd_eq _ _ _, SM_upd hS (Nat.le_refl _)⟩ (by simp only [List.length_cons]; omega) he
          · skip
            have hk : 2000 ≤ k := Nat.le_of_not_lt fun z => c32 (nI_lt (b := 2000) z (by decide))
            rw [evL_c, if_pos hk] at he
            rcases s with _ | ⟨y, _ | ⟨x, r⟩⟩
            · cases he
            · cases he
            simp only [List.length_cons] at hl hS
            have hS0 : SM S' (y :: x :: r) := hS
            have hy : S' (r.length + 1) = y := hS0.1
            have hx2 : S' r.length = x := hS0.2.1
            refine mt_iload_n (pc := 35) dX2_owes_35 rfl ?_
            refine mt_iconst (pc := 36) (v := 2) dX2_owes_36 (by decide) ?_
            refine mt_icmp_lt (pc := 37) (tgt := 81) dX2_owes_37 (by decide) (fun c37 => ?_) (fun c37 => ?_)
            · exact absurd c37 (nI_nlt (b := 2) (by simp only [List.length_cons]; omega) (by simp only [List.length_cons]; omega))
            · skip
              refine mt_iload_n (pc := 40) dX2_owes_40 rfl ?_
              refine mt_aload_n (pc := 41) dX2_owes_41 rfl ?_
              refine mt_get (pc := 42) gf_X2_18 dX2_owes_42 (by first | assumption | omega) (by repeat (first | exact hset_eq _ _ _ | assumption | rw [hset_ne (by first | assumption | decide | omega)])) rfl ?_
              refine mt_alen (pc := 45) dX2_owes_45 (by first | assumption | omega) (by repeat (first | exact hset_eq _ _ _ | assumption | rw [hset_ne (by first | assumption | decide | omega)])) (by decide) ?_
              refine mt_icmp_gt (pc := 46) (tgt := 81) dX2_owes_46 (by decide) (fun c46 => ?_) (fun c46 => ?_)
              · exact absurd c46 (nI_nlt (a := 32) (by simp only [List.length_cons]; omega) (by decide))
              · skip
                refine mt_iinc (pc := 49) (c9 := -1) dX2_owes_49 rfl (by decide) (Nat.le_of_ble_eq_true rfl) rfl ?_
                rw [show (nI (y :: x :: r).length + (-1) : Int32) = nI (r.length + 1) from pk_m1 (r.length + 1)]
                refine mt_aload_n (pc := 52) dX2_owes_52 rfl ?_
                refine mt_get (pc := 53) gf_X2_18 dX2_owes_53 (by first | assumption | omega) (by repeat (first | exact hset_eq _ _ _ | assumption | rw [hset_ne (by first | assumption | decide | omega)])) rfl ?_
                refine mt_iload_n (pc := 56) dX2_owes_56 rfl ?_
                refine mt_iconst (pc := 57) (v := 1) dX2_owes_57 (by decide) ?_
                refine mt_isub (pc := 58) dX2_owes_58 ?_
                rw [show (nI (r.length + 1) - 1 : Int32) = nI r.length from nI_pred _]
                refine mt_iload_n (pc := 59) dX2_owes_59 rfl ?_
                refine mt_aload_n (pc := 60) dX2_owes_60 rfl ?_
                refine mt_get (pc := 61) gf_X2_18 dX2_owes_61 (by first | assumption | omega) (by repeat (first | exact hset_eq _ _ _ | assumption | rw [hset_ne (by first | assumption | decide | omega)])) rfl ?_
                refine mt_iload_n (pc := 64) dX2_owes_64 rfl ?_
                refine mt_iconst (pc := 65) (v := 1) dX2_owes_65 (by decide) ?_
                refine mt_isub (pc := 66) dX2_owes_66 ?_
                rw [show (nI (r.length + 1) - 1 : Int32) = nI r.length from nI_pred _]
                refine mt_iald (pc := 67) dX2_owes_67 (by first | assumption | omega) (by repeat (first | exact hset_eq _ _ _ | assumption | rw [hset_ne (by first | assumption | decide | omega)])) (vp_in_nI (n := r.length) (by omega) (by decide)) ?_
                refine mt_aload_n (pc := 68) dX2_owes_68 rfl ?_
                refine mt_get (pc := 69) gf_X2_18 dX2_owes_69 (by first | assumption | omega) (by repeat (first | exact hset_eq _ _ _ | assumption | rw [hset_ne (by first | assumption | decide | omega)])) rfl ?_
                refine mt_iload_n (pc := 72) dX2_owes_72 rfl ?_
                refine mt_iald (pc := 73) dX2_owes_73 (by first | assumption | omega) (by repeat (first | exact hset_eq _ _ _ | assumption | rw [hset_ne (by first | assumption | decide | omega)])) (vp_in_nI (n := r.length + 1) (by omega) (by decide)) ?_
                rw [nI_clamp (by omega), nI_clamp (by omega), hy, hx2]
                refine mt_cS (pc := 74) (c_result (d := 0) hk hk6) cal_X2_result sta_X2_result ml_X2_35 dX2_owes_74 hd ⟨(Nat.le_of_ble_eq_true rfl), (Nat.le_of_ble_eq_true rfl)⟩ rfl rfl (Nat.le_of_ble_eq_true rfl) ?_
                first
                  | refine mt_iast2 (pc := 77) dX2_owes_77 (by first | assumption | omega) (vp_in_nI (n := r.length) (by omega) (by decide)) ?_
                  | refine mt_iast (pc := 77) dX2_owes_77 (by first | assumption | omega) (by repeat (first | exact hset_eq _ _ _ | assumption | rw [hset_ne (by first | assumption | decide | omega)])) (vp_in_nI (n := r.length) (by omega) (by decide)) ?_
                refine mt_goto (tgt := 129) dX2_owes_78 (by decide) ?_
                refine mt_iinc (pc := 129) (c9 := 1) dX2_owes_129 rfl (by decide) (Nat.le_of_ble_eq_true rfl) rfl ?_
                refine mt_goto (pc := 132) (tgt := 4) dX2_owes_132 (by decide) ?_
                rw [show (nI i + 1 : Int32) = nI (i + 1) from nI_1 i, nI_clamp (by omega)]
                refine ih (i + 1) (resL k x y :: r) _ (some (.int (nI k))) (by omega) ⟨upd_eq _ _ _, SM_upd hS0.2.2 (Nat.le_refl _)⟩ (by simp only [List.length_cons]; omega) he
  refine mm_start (lo := [some (.ref 15), none, none, none]) pn_X2 rfl rfl (Nat.le_of_ble_eq_true rfl) ?_
  rw [show h = hset h 18 (iaE 32 S) from (hset_self h18).symm]
  refine mt_iconst (pc := 0) (v := 0) dX2_owes_0 (by decide) ?_
  refine mt_istore_n (pc := 1) dX2_owes_1 (Nat.le_of_ble_eq_true rfl) rfl ?_
  refine mt_iconst (pc := 2) (v := 0) dX2_owes_2 (by decide) ?_
  refine mt_istore_n (pc := 3) dX2_owes_3 (Nat.le_of_ble_eq_true rfl) rfl ?_
  have := loop cs.length 0 [] S none (by omega) trivial (Nat.zero_le _) (by rw [List.drop_zero]; exact hev)
  rw [hset_self h18] at this ⊢
  exact this
end LAWRUN
