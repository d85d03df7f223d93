/-! Loops. -/
section LOOP
variable {M : mm_M} {own : String} {cc : ByteArray} {nx : Nat} {kc ks pc : Nat}
theorem mt_for {H : Nat → (Nat → mm_E)} {L : Nat → List (Option Value)} (n : Nat) (step : ∀ i, i < n → mm_T M own cc nx (H (i + 1)) kc ks pc (L (i + 1)) [] → mm_T M own cc nx (H i) kc ks pc (L i) []) (done : mm_T M own cc nx (H n) kc ks pc (L n) []) : mm_T M own cc nx (H 0) kc ks pc (L 0) [] := by
  have loop : ∀ q i, i + q = n → mm_T M own cc nx (H i) kc ks pc (L i) [] := by
    intro q
    induction q with
    | zero => intro i hi; obtain rfl : i = n := by omega
              exact done
    | succ q ih => intro i hi; exact step i (by omega) (ih (i + 1) (by omega))
  exact loop n 0 (by omega)
theorem mt_forE {α : Type} {H : Nat → α → (Nat → mm_E)} {L : Nat → α → List (Option Value)} {I : Nat → α → Prop} (n : Nat) (step : ∀ i a, i < n → I i a → (∀ a', I (i + 1) a' → mm_T M own cc nx (H (i + 1) a') kc ks pc (L (i + 1) a') []) → mm_T M own cc nx (H i a) kc ks pc (L i a) []) (done : ∀ a, I n a → mm_T M own cc nx (H n a) kc ks pc (L n a) []) (a : α) (h0 : I 0 a) : mm_T M own cc nx (H 0 a) kc ks pc (L 0 a) [] := by
  have loop : ∀ q i a, i + q = n → I i a → mm_T M own cc nx (H i a) kc ks pc (L i a) [] := by
    intro q
    induction q with
    | zero => intro i a hi hI; obtain rfl : i = n := by omega
              exact done a hI
    | succ q ih => intro i a hi hI; exact step i a (by omega) hI (fun a' h' => ih (i + 1) a' (by omega) h')
  exact loop n 0 a (by omega) h0
/-- some of the locals forgotten -/
def mm_fg : List (Option Value) → List (Option Value) → Prop
  | [], _ => True
  | _ :: _, [] => False
  | none :: r, _ :: q => mm_fg r q
  | some v :: r, w :: q => w = some v ∧ mm_fg r q
theorem mm_fg_use : ∀ {r q : List (Option Value)}, mm_fg r q → ∀ (i : Nat) (v : Value), r[i]? = some (some v) → q[i]? = some (some v)
  | [], _, _, i, v, hv => by simp at hv
  | _ :: _, [], h, _, _, _ => by simp [mm_fg] at h
  | none :: r, w :: q, h, 0, v, hv => by simp at hv
  | none :: r, w :: q, h, i + 1, v, hv => by
    simp only [List.getElem?_cons_succ] at hv ⊢
    exact mm_fg_use (r := r) (q := q) h i v hv
  | some u :: r, w :: q, h, 0, v, hv => by
    simp only [List.getElem?_cons_zero] at hv ⊢
    rw [h.1]
    exact hv
  | some u :: r, w :: q, h, i + 1, v, hv => by
    simp only [List.getElem?_cons_succ] at hv ⊢
    exact mm_fg_use (r := r) (q := q) h.2 i v hv
theorem mt_fg {h : Nat → mm_E} {lo lo' : List (Option Value)} {st : List Value} (hf : mm_fg lo' lo) (k : mm_T M own cc nx h kc ks pc lo' st) : mm_T M own cc nx h kc ks pc lo st := by
  intro p e s m args below meth c H locs ad ad0 ls C A B L
  exact k p e s m args below meth c H locs ad ad0 ls C A B ⟨L.1, L.2.1, fun i v hv => L.2.2 i v (mm_fg_use hf i v hv)⟩
theorem mt_heq {h h' : Nat → mm_E} {lo : List (Option Value)} {st : List Value} (e : h = h') (k : mm_T M own cc nx h' kc ks pc lo st) : mm_T M own cc nx h kc ks pc lo st := by
  subst e
  exact k
end LOOP
