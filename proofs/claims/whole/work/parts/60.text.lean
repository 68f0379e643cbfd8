/-! TEXT: codes of characters in an array -/
def cdI (cd : Nat → Nat) : Nat → Int32 := fun j => nI (cd j)
theorem cdI_u {cd : Nat → Nat} {i k : Nat} : upd (cdI cd) i (nI k) = cdI (fun j_ => if j_ = i then k else cd j_) := by
  funext j
  unfold upd cdI
  by_cases h : j = i
  · rw [if_pos h]; exact congrArg nI (if_pos h).symm
  · rw [if_neg h]; exact congrArg nI (if_neg h).symm
/-- a character, or none -/
def atv (cd : Nat → Nat) (sz i : Nat) : Int32 := if i < sz then nI (cd i) else -1
/-- the kind that a letter tells -/
def kdr (v : Int32) : Int32 := if v = nI 71 ∨ v = nI 119 then 0 else if v = nI 104 then 1 else if v = nI 106 then 2 else if v = nI 120 then 3 else -1
theorem nar_c {k : Nat} (h : k < 256) : ((nI k).toUInt32 % 65536).toInt32 = nI k := by
  have e : ∀ j : Fin 256, ((nI j.1).toUInt32 % 65536).toInt32 = nI j.1 := by decide +kernel
  exact e ⟨k, h⟩
