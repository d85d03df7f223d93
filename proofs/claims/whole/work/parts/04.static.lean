/-! What is asked of the tables. -/
/-- the words that all methods share -/
def mm_ws : List Cond := lw_tbl.filter goodWord
def mm_nw : List Cond := [.methodLinkNest "CryptBank" 9 ⟨"CryptBank$Tape", "<init>", "()V"⟩ "CryptBank",
  .methodLinkNest "CryptBank" 18 ⟨"CryptBank$County", "<init>", "()V"⟩ "CryptBank",
  .methodLinkNest "CryptBank$Law" 27 ⟨"CryptBank", "copyRow", "([I[I)V"⟩ "CryptBank",
  .methodLinkNest "CryptBank" 38 ⟨"CryptBank$Book", "<init>", "()V"⟩ "CryptBank",
  .methodLinkNest "CryptBank" 48 ⟨"CryptBank$Work", "<init>", "()V"⟩ "CryptBank",
  .methodLinkNest "CryptBank$Page" 11 ⟨"CryptBank$State", "<init>", "()V"⟩ "CryptBank",
  .methodLinkNest "CryptBank" 75 ⟨"CryptBank$State", "<init>", "()V"⟩ "CryptBank",
  .methodLinkNest "CryptBank" 82 ⟨"CryptBank$Serving", "<init>", "()V"⟩ "CryptBank",
  .methodLinkNest "CryptBank" 89 ⟨"CryptBank$Winter", "<init>", "()V"⟩ "CryptBank",
  .methodLinkNest "CryptBank$State" 44 ⟨"CryptBank", "copyRow", "([I[I)V"⟩ "CryptBank",
  .methodLinkNest "CryptBank$State" 48 ⟨"CryptBank", "entry", "([II)I"⟩ "CryptBank",
  .methodLinkNest "CryptBank$County" 38 ⟨"CryptBank", "entry", "([II)I"⟩ "CryptBank",
  .methodLinkNest "CryptBank$Tape" 48 ⟨"CryptBank", "isLetter", "(I)Z"⟩ "CryptBank",
  .methodLinkNest "CryptBank$Tape" 60 ⟨"CryptBank", "isDigit", "(I)Z"⟩ "CryptBank",
  .methodLinkNest "CryptBank$County" 86 ⟨"CryptBank", "setEntry", "([III)V"⟩ "CryptBank",
  .methodLinkNest "CryptBank$County" 34 ⟨"CryptBank", "copyRow", "([I[I)V"⟩ "CryptBank",
  .methodLinkNest "CryptBank$State" 52 ⟨"CryptBank", "setEntry", "([III)V"⟩ "CryptBank",
  .methodLinkNest "CryptBank$Law" 83 ⟨"CryptBank", "isDigit", "(I)Z"⟩ "CryptBank",
  .methodLinkNest "CryptBank$Law" 62 ⟨"CryptBank", "setEntry", "([III)V"⟩ "CryptBank",
  .methodLinkNest "CryptBank$Work" 92 ⟨"CryptBank", "setEntry", "([III)V"⟩ "CryptBank",
  .methodLinkNest "CryptBank$Work" 100 ⟨"CryptBank", "entry", "([II)I"⟩ "CryptBank",
  .methodLinkNest "CryptBank$Law" 39 ⟨"CryptBank", "entry", "([II)I"⟩ "CryptBank",
  .methodLinkNest "CryptBank$Book" 54 ⟨"CryptBank", "setEntry", "([III)V"⟩ "CryptBank",
  .methodLinkNest "CryptBank$Book" 25 ⟨"CryptBank", "copyRow", "([I[I)V"⟩ "CryptBank",
  .methodLinkNest "CryptBank$Book" 29 ⟨"CryptBank", "entry", "([II)I"⟩ "CryptBank",
  .methodLinkNest "CryptBank$Serving" 53 ⟨"CryptBank", "setEntry", "([III)V"⟩ "CryptBank",
  .methodLinkNest "CryptBank$Serving" 73 ⟨"CryptBank", "entry", "([II)I"⟩ "CryptBank",
  .fieldLinkNest "CryptBank" 106 "CryptBank$Tape" "size" "I" "CryptBank",
  .fieldLinkNest "CryptBank" 185 "CryptBank$Tape" "faultPlace" "I" "CryptBank",
  .fieldLinkNest "CryptBank$Winter" 19 "CryptBank$County" "slabs" "I" "CryptBank",
  .fieldLinkNest "CryptBank$Serving" 43 "CryptBank$County" "slabs" "I" "CryptBank",
  .fieldLinkNest "CryptBank$Work" 28 "CryptBank$County" "slabs" "I" "CryptBank",
  .fieldLinkNest "CryptBank$State" 15 "CryptBank$County" "slabs" "I" "CryptBank",
  .fieldLinkNest "CryptBank" 141 "CryptBank$County" "slabs" "I" "CryptBank",
  .fieldLinkNest "CryptBank$Winter" 13 "CryptBank$County" "souls" "I" "CryptBank",
  .fieldLinkNest "CryptBank$Work" 34 "CryptBank$County" "souls" "I" "CryptBank",
  .fieldLinkNest "CryptBank$State" 29 "CryptBank$County" "souls" "I" "CryptBank",
  .fieldLinkNest "CryptBank" 173 "CryptBank$County" "souls" "I" "CryptBank",
  .fieldLinkNest "CryptBank$Serving" 24 "CryptBank$Book" "lines" "I" "CryptBank",
  .fieldLinkNest "CryptBank" 182 "CryptBank$Book" "lines" "I" "CryptBank",
  .fieldLinkNest "CryptBank" 160 "CryptBank$Work" "steps" "I" "CryptBank",
  .fieldLinkNest "CryptBank" 170 "CryptBank$Work" "done" "I" "CryptBank",
  .fieldLinkNest "CryptBank" 167 "CryptBank$Work" "refused" "I" "CryptBank",
  .fieldLinkNest "CryptBank$Winter" 7 "CryptBank$Rules" "county" "LCryptBank$County;" "CryptBank",
  .fieldLinkNest "CryptBank$Serving" 37 "CryptBank$Rules" "county" "LCryptBank$County;" "CryptBank",
  .fieldLinkNest "CryptBank" 157 "CryptBank$Page" "now" "LCryptBank$State;" "CryptBank",
  .fieldLinkNest "CryptBank" 148 "CryptBank$Page" "works" "I" "CryptBank",
  .methodLinkNest "CryptBank" 163 ⟨"CryptBank$Work", "carryOut", "(LCryptBank$Rules;LCryptBank$State;III)V"⟩ "CryptBank"]
/-- a field of an object of class ci by its place k, at an entry of the pool -/
def mm_gf (own : String) (index ci k : Nat) : Prop := ∃ (C : String) (T : u_T) (N : Nat), vwCl[ci]? = some (C, T, N) ∧ k < N ∧ (∀ w ∈ u_ws C T N, w ∈ mm_ws) ∧ (Cond.fieldLink own index (T k).1 (T k).2.1 (T k).2.2.1 ∈ mm_ws ∨ ∃ host, Cond.fieldLinkNest own index (T k).1 (T k).2.1 (T k).2.2.1 host ∈ mm_nw)
/-- the same, for a store: its type, and whether it is final -/
def mm_pf (own : String) (index ci k : Nat) (ty : FieldType) (fin : Bool) : Prop := ∃ (C : String) (T : u_T) (N : Nat) (ty0 : Nat → FieldType), vwCl[ci]? = some (C, T, N) ∧ k < N ∧ (∀ w ∈ u_ws C T N, w ∈ mm_ws) ∧ Cond.fieldLink own index (T k).1 (T k).2.1 (T k).2.2.1 ∈ mm_ws ∧
  (∀ k, k < N → parseFieldDescriptor (T k).2.2.1 = some (ty0 k)) ∧ (∀ a, a < N → ∀ b, b < N → a ≠ b → (T a).2.1 ≠ (T b).2.1) ∧ (T k).2.2.2 = fin ∧ parseFieldDescriptor (T k).2.2.1 = some ty ∧ (fin = true → (T k).1 = own)
/-- what a callee needs of the tables -/
def mm_cal (y : MethodName) (cc : ByteArray) (nL : Nat) (rt : Option FieldType) (n : Nat) : Prop :=
  Cond.code y cc nL rt ∈ mm_ws ∧ Cond.initialized y.cls ∈ mm_ws ∧ (y.cls ≠ "java/lang/invoke/MethodHandle" ∧ y.cls ≠ "java/lang/invoke/VarHandle") ∧ (parseMethodDescriptor y.desc).map (fun d => d.parameters.length) = some n ∧ nL + 19 ≤ 40
/-- an instance method, chosen by the receiver's class ci -/
def mm_vir (y : MethodName) (ci : Nat) : Prop := Cond.instanceMethod y ∈ mm_ws ∧ Cond.selects y.cls y y ∈ mm_ws ∧ ∃ (T : u_T) (N : Nat), vwCl[ci]? = some (y.cls, T, N)
