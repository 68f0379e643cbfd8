/-! TEXT 4: letters as the model reads them -/
def gdI (cd : Nat → Nat) : Nat → Int32
  | 0 => -1
  | i + 1 => if cd i = 71 then nI i else gdI cd i
theorem gdI_t {cd : Nat → Nat} {i : Nat} (h : cd i = 71) : gdI cd (i + 1) = nI i := if_pos h
theorem gdI_f {cd : Nat → Nat} {i : Nat} (h : ¬ cd i = 71) : gdI cd (i + 1) = gdI cd i := if_neg h
theorem gdI_n {cd : Nat → Nat} : ∀ {i : Nat}, i ≤ 1000 → (gdI cd i = -1 ↔ ¬ gdf cd i)
  | 0, _ => ⟨fun _ => gdf_0, fun _ => rfl⟩
  | i + 1, hi => by
    by_cases h : cd i = 71
    · rw [gdI_t h]
      refine ⟨fun z => ?_, fun z => absurd (gdf_s h) z⟩
      have e := congrArg Int32.toInt z
      rw [nI_i (by omega), show (-1 : Int32).toInt = -1 from rfl] at e
      omega
    · rw [gdI_f h, gdf_n h]
      exact gdI_n (by omega)
/-- the levels that letters tell -/
def lvf (cd : Nat → Nat) (m : Nat → Int32) : Nat → Nat → Int32
  | 0 => m
  | i + 1 => fum i (kdr (nI (cd i))) (lvf cd m i)
theorem kdr_m1 : kdr (-1) = -1 := by decide
theorem atv_in {cd : Nat → Nat} {sz i : Nat} (h : ¬ kdr (atv cd sz i) = -1) : i < sz ∧ atv cd sz i = nI (cd i) := by
  by_cases hi : i < sz
  · exact ⟨hi, if_pos hi⟩
  · rw [show atv cd sz i = -1 from if_neg hi] at h
    exact absurd kdr_m1 h
theorem kdr_let {c : Nat} (hc : c < 256) (h : ¬ kdr (nI c) = -1) : c = 71 ∨ c = 104 ∨ c = 106 ∨ c = 119 ∨ c = 120 := by
  unfold kdr at h
  by_cases h1 : nI c = nI 71 ∨ nI c = nI 119
  · rcases h1 with h1 | h1
    · exact Or.inl (nI_e hc (by decide) h1)
    · exact Or.inr (Or.inr (Or.inr (Or.inl (nI_e hc (by decide) h1))))
  · rw [if_neg h1] at h
    by_cases h2 : nI c = nI 104
    · exact Or.inr (Or.inl (nI_e hc (by decide) h2))
    · rw [if_neg h2] at h
      by_cases h3 : nI c = nI 106
      · exact Or.inr (Or.inr (Or.inl (nI_e hc (by decide) h3)))
      · rw [if_neg h3] at h
        by_cases h4 : nI c = nI 120
        · exact Or.inr (Or.inr (Or.inr (Or.inr (nI_e hc (by decide) h4))))
        · rw [if_neg h4] at h
          exact absurd rfl h
theorem kdr_no {c : Nat} (h : kdr (nI c) = -1) : ¬ (c = 71 ∨ c = 104 ∨ c = 106 ∨ c = 119 ∨ c = 120) := by
  rintro (rfl | rfl | rfl | rfl | rfl) <;> exact absurd h (by decide)
theorem ok_g {cd : Nat → Nat} {i : Nat} (h : i < 16) (h2 : cd i = 71) (h3 : gdI cd i = -1) : okP cd (gdf cd i) i :=
  ⟨h, Or.inl ⟨h2, (gdI_n (by omega)).mp h3⟩⟩
theorem ok_l {cd : Nat → Nat} {i : Nat} (h : i < 16) (hc : cd i < 256) (h2 : ¬ cd i = 71) (h3 : ¬ kdr (nI (cd i)) = -1) (h4 : ¬ gdI cd i = -1 ∨ i < 15) : okP cd (gdf cd i) i :=
  ⟨h, Or.inr ⟨(kdr_let hc h3).resolve_left h2, h4.imp (fun z => Classical.byContradiction (fun y => z ((gdI_n (by omega)).mpr y))) id⟩⟩
theorem no_g {cd : Nat → Nat} {i : Nat} (h : i < 16) (h2 : cd i = 71) (h3 : ¬ gdI cd i = -1) : ¬ okP cd (gdf cd i) i :=
  fun z => z.2.elim (fun y => h3 ((gdI_n (by omega)).mpr y.2)) (fun y => by have := y.1; omega)
theorem no_l {cd : Nat → Nat} {i : Nat} (h : i = 15) (h2 : ¬ cd i = 71) (h3 : gdI cd i = -1) : ¬ okP cd (gdf cd i) i :=
  fun z => z.2.elim (fun y => h2 y.1) (fun y => y.2.elim ((gdI_n (by omega)).mp h3) (fun x => by omega))
theorem no_k {cd : Nat → Nat} {P : Prop} {i : Nat} (h : kdr (nI (cd i)) = -1) : ¬ okP cd P i :=
  fun z => z.2.elim (fun y => kdr_no h (Or.inl y.1)) (fun y => kdr_no h (Or.inr y.1))
theorem no_16 {cd : Nat → Nat} {P : Prop} {i : Nat} (h : 16 ≤ i) : ¬ okP cd P i := fun z => by have := z.1; omega
/-- the ground that the model keeps when it has read the letters -/
def rlg (cd : Nat → Nat) (sz L : Nat) : Int32 := if L < 16 ∧ ¬ kdr (atv cd sz L) = -1 then -1 else gdI cd L
theorem rlg_t {cd : Nat → Nat} {sz L : Nat} (h : L < 16) (h2 : ¬ kdr (atv cd sz L) = -1) : rlg cd sz L = -1 := if_pos ⟨h, h2⟩
theorem rlg_k {cd : Nat → Nat} {sz L : Nat} (h2 : kdr (atv cd sz L) = -1) : rlg cd sz L = gdI cd L := if_neg (fun z => z.2 h2)
theorem rlg_16 {cd : Nat → Nat} {sz L : Nat} (h : 16 ≤ L) : rlg cd sz L = gdI cd L := if_neg (fun z => by have := z.1; omega)
theorem ltr_x {cd : Nat → Nat} {sz i : Nat} (h_i : i ≤ sz) (h_e : ltr cd sz = ltrF cd (sz - i) i) (h : i < sz → ¬ okP cd (gdf cd i) i) : ltr cd sz = i := by
  rw [h_e]
  by_cases hi : i < sz
  · rw [show sz - i = sz - (i + 1) + 1 by omega, ltrF_f (h hi)]
  · rw [show sz - i = 0 by omega]; rfl
theorem atv_k {cd : Nat → Nat} {sz i : Nat} (h : kdr (atv cd sz i) = -1) (hi : i < sz) : kdr (nI (cd i)) = -1 := by
  rw [show atv cd sz i = nI (cd i) from if_pos hi] at h
  exact h
