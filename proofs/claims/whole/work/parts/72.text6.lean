/-! TEXT 6: what the model reads -/
noncomputable def mR0 (cd : Nat → Nat) (sz : Nat) : Int32 := steF cd sz (sz - (ltr cd sz + 1)) (ltr cd sz + 1) 0 0
noncomputable def mFS (cd : Nat → Nat) (sz : Nat) : Int32 := stS cd (sz - (ltr cd sz + 1)) (ltr cd sz + 1) 0 0 0
noncomputable def mer (cd : Nat → Nat) (sz : Nat) : Int32 := if rlg cd sz (ltr cd sz) = -1 then nI (ltr cd sz) else if ¬ atv cd sz (ltr cd sz) = nI 47 then (if ltr cd sz < sz then nI (ltr cd sz) else -1) else mR0 cd sz
noncomputable def mbt (cd : Nat → Nat) (sz : Nat) : Int32 := if rlg cd sz (ltr cd sz) = -1 then 0 else if ¬ atv cd sz (ltr cd sz) = nI 47 then 0 else mFS cd sz
theorem mer_1 {cd : Nat → Nat} {sz : Nat} (h : rlg cd sz (ltr cd sz) = -1) : mer cd sz = nI (ltr cd sz) ∧ mbt cd sz = 0 := by
  unfold mer mbt; rw [if_pos h, if_pos h]; exact ⟨rfl, rfl⟩
theorem mer_2 {cd : Nat → Nat} {sz : Nat} (h : ¬ rlg cd sz (ltr cd sz) = -1) (h2 : ¬ atv cd sz (ltr cd sz) = nI 47) : mer cd sz = (if ltr cd sz < sz then nI (ltr cd sz) else -1) ∧ mbt cd sz = 0 := by
  unfold mer mbt; rw [if_neg h, if_neg h, if_pos h2, if_pos h2]; exact ⟨rfl, rfl⟩
theorem mer_3 {cd : Nat → Nat} {sz : Nat} (h : ¬ rlg cd sz (ltr cd sz) = -1) (h2 : atv cd sz (ltr cd sz) = nI 47) : mer cd sz = mR0 cd sz ∧ mbt cd sz = mFS cd sz := by
  unfold mer mbt; rw [if_neg h, if_neg h, if_neg (fun z => z h2), if_neg (fun z => z h2)]; exact ⟨rfl, rfl⟩
theorem dg_y {cd : Nat → Nat} {sz i : Nat} {lo : Int64} (hc : cd i < 256) (hl : 48 ≤ lo.toInt) (h : lo.toInt ≤ ((atv cd sz i).toInt64).toInt ∧ ((atv cd sz i).toInt64).toInt ≤ (57 : Int64).toInt) : i < sz ∧ atv cd sz i = nI (cd i) ∧ lo.toInt ≤ (cd i : Int) ∧ cd i ≤ 57 := by
  rw [i2l_toInt, show (57 : Int64).toInt = 57 from rfl] at h
  rcases atv_i (cd := cd) (sz := sz) hc with ⟨h1, h2⟩ | ⟨h1, h2⟩
  · exact ⟨h1, if_pos h1, by omega, by omega⟩
  · omega
theorem dg_n {cd : Nat → Nat} {sz i : Nat} {lo : Int64} (hc : cd i < 256) (h : ¬ (lo.toInt ≤ ((atv cd sz i).toInt64).toInt ∧ ((atv cd sz i).toInt64).toInt ≤ (57 : Int64).toInt)) : i < sz → ¬ (lo.toInt ≤ (cd i : Int) ∧ cd i ≤ 57) := by
  intro hi z
  rw [i2l_toInt, show (57 : Int64).toInt = 57 from rfl] at h
  rcases atv_i (cd := cd) (sz := sz) hc with ⟨h1, h2⟩ | ⟨h1, h2⟩
  · exact h ⟨by omega, by omega⟩
  · omega
