/-! TEXT 2: letters -/
theorem nI_e {a b : Nat} (ha : a < 256) (hb : b < 256) (h : nI a = nI b) : a = b := by
  have e := congrArg Int32.toInt h
  rw [nI_i (by omega), nI_i (by omega)] at e
  omega
/-- a ground among the first letters -/
def gdf (cd : Nat → Nat) (i : Nat) : Prop := ∃ j, j < i ∧ cd j = 71
theorem gdf_0 {cd : Nat → Nat} : ¬ gdf cd 0 := fun ⟨_, h, _⟩ => absurd h (Nat.not_lt_zero _)
theorem gdf_s {cd : Nat → Nat} {i : Nat} (h : cd i = 71) : gdf cd (i + 1) := ⟨i, Nat.lt_succ_self i, h⟩
theorem gdf_n {cd : Nat → Nat} {i : Nat} (h : ¬ cd i = 71) : gdf cd (i + 1) ↔ gdf cd i :=
  ⟨fun ⟨j, hj, e⟩ => ⟨j, by
    by_cases hji : j = i
    · subst hji; exact absurd e h
    · omega, e⟩, fun ⟨j, hj, e⟩ => ⟨j, by omega, e⟩⟩
/-- a letter is allowed at its place -/
def okP (cd : Nat → Nat) (P : Prop) (i : Nat) : Prop := i < 16 ∧ ((cd i = 71 ∧ ¬ P) ∨ ((cd i = 104 ∨ cd i = 106 ∨ cd i = 119 ∨ cd i = 120) ∧ (P ∨ i < 15)))
noncomputable def ltrF (cd : Nat → Nat) : Nat → Nat → Nat
  | 0, i => i
  | k + 1, i => @ite Nat (okP cd (gdf cd i) i) (Classical.propDecidable _) (ltrF cd k (i + 1)) i
theorem ltrF_t {cd : Nat → Nat} {k i : Nat} (h : okP cd (gdf cd i) i) : ltrF cd (k + 1) i = ltrF cd k (i + 1) := if_pos h
theorem ltrF_f {cd : Nat → Nat} {k i : Nat} (h : ¬ okP cd (gdf cd i) i) : ltrF cd (k + 1) i = i := if_neg h
noncomputable def ltr (cd : Nat → Nat) (sz : Nat) : Nat := ltrF cd sz 0
theorem ltrF_le {cd : Nat → Nat} : ∀ (k i : Nat), i ≤ ltrF cd k i ∧ ltrF cd k i ≤ i + k
  | 0, i => ⟨Nat.le_refl _, Nat.le_refl _⟩
  | k + 1, i => by
    by_cases h : okP cd (gdf cd i) i
    · rw [ltrF_t h]
      have := ltrF_le (cd := cd) k (i + 1)
      omega
    · rw [ltrF_f h]
      omega
theorem ltr_le (cd : Nat → Nat) (sz : Nat) : ltr cd sz ≤ sz := by
  have := (ltrF_le (cd := cd) sz 0).2
  unfold ltr
  omega
theorem kdr_0 {v : Int32} (h : ¬ kdr v = -1) (h1 : ¬ v = nI 104) (h2 : ¬ v = nI 106) (h3 : ¬ v = nI 120) : kdr v = 0 := by
  unfold kdr at h ⊢
  by_cases hc : v = nI 71 ∨ v = nI 119
  · rw [if_pos hc]
  · rw [if_neg hc, if_neg h1, if_neg h2, if_neg h3] at h
    exact absurd rfl h
