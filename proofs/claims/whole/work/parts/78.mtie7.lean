/-! THE TIE 10: one ground among the letters -/
theorem gdI_ex {cd : Nat → Nat} : ∀ i, gdI cd i = -1 ∨ ∃ j, j < i ∧ cd j = 71 ∧ gdI cd i = nI j
  | 0 => Or.inl rfl
  | i + 1 => by
    by_cases h : cd i = 71
    · exact Or.inr ⟨i, Nat.lt_succ_self i, h, gdI_t h⟩
    · rw [gdI_f h]
      rcases gdI_ex (cd := cd) i with z | ⟨j, h1, h2, h3⟩
      · exact Or.inl z
      · exact Or.inr ⟨j, by omega, h2, h3⟩
theorem kth_ex {q : Nat → Prop} : ∀ (r i : Nat), kth q r i 0 = -1 ∨ ∃ j, i ≤ j ∧ j < i + r ∧ q j ∧ kth q r i 0 = nI j
  | 0, _ => Or.inl rfl
  | r + 1, i => by
    by_cases h : q i
    · exact Or.inr ⟨i, Nat.le_refl _, by omega, h, kth_0 h⟩
    · rw [kth_n h]
      rcases kth_ex (q := q) r (i + 1) with z | ⟨j, h1, h2, h3, h4⟩
      · exact Or.inl z
      · exact Or.inr ⟨j, by omega, by omega, h3, h4⟩
theorem ltrF_ok {cd : Nat → Nat} : ∀ (k i j : Nat), i ≤ j → j < ltrF cd k i → okP cd (gdf cd j) j
  | 0, i, j, h1, h2 => absurd h2 (by show ¬ j < i; omega)
  | k + 1, i, j, h1, h2 => by
    by_cases h : okP cd (gdf cd i) i
    · by_cases hj : j = i
      · subst hj; exact h
      · rw [ltrF_t h] at h2
        exact ltrF_ok k (i + 1) j (by omega) h2
    · rw [ltrF_f h] at h2
      omega
theorem gd_one {cd : Nat → Nat} {sz a b : Nat} (h : a < b) (hb : b < ltr cd sz) (ha : cd a = 71) : ¬ cd b = 71 := fun z =>
  (ltrF_ok (cd := cd) sz 0 b (Nat.zero_le _) hb).2.elim (fun y => y.2 ⟨a, h, ha⟩) (fun y => by have := y.1; omega)
theorem gdI_gnd {cd : Nat → Nat} {sz : Nat} (h : sz ≤ 60) : gdI cd (ltr cd sz) = gnd cd sz := by
  have hl := ltr_le cd sz
  have hg : gdI cd (ltr cd sz) = -1 ↔ gnd cd sz = -1 := (gdI_n (by omega)).trans (gnd_n h).symm
  rcases gdI_ex (cd := cd) (ltr cd sz) with z | ⟨a, h1, h2, h3⟩
  · rw [z, hg.mp z]
  · rcases kth_ex (q := fun x_ => cd x_ = 71) (ltr cd sz) 0 with z | ⟨b, g1, g2, g3, g4⟩
    · exact absurd (hg.mpr z) (fun y => by
        have e := congrArg Int32.toInt (h3.symm.trans y)
        rw [nI_i (by omega), show (-1 : Int32).toInt = -1 from rfl] at e
        omega)
    · rw [h3, show gnd cd sz = nI b from g4]
      rcases Nat.lt_trichotomy a b with q | q | q
      · exact absurd g3 (gd_one (sz := sz) q (by omega) h2)
      · rw [q]
      · exact absurd h2 (gd_one (sz := sz) q h1 g3)
