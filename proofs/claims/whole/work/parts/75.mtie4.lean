/-! THE TIE 7: both read a text alike -/
theorem kth_none {q : Nat → Prop} : ∀ (r i : Nat), i + r ≤ 1000 → (kth q r i 0 = -1 ↔ ∀ j, i ≤ j → j < i + r → ¬ q j)
  | 0, i, _ => ⟨fun _ j h1 h2 => by omega, fun _ => rfl⟩
  | r + 1, i, hb => by
    by_cases h : q i
    · rw [kth_0 h]
      refine ⟨fun z => ?_, fun z => absurd h (z i (Nat.le_refl _) (by omega))⟩
      have e := congrArg Int32.toInt z
      rw [nI_i (by omega), show (-1 : Int32).toInt = -1 from rfl] at e
      omega
    · rw [kth_n h, kth_none r (i + 1) (by omega)]
      constructor
      · intro z j h1 h2
        by_cases hj : j = i
        · subst hj; exact h
        · exact z j (by omega) (by omega)
      · intro z j h1 h2
        exact z j (by omega) (by omega)
theorem gnd_n {cd : Nat → Nat} {sz : Nat} (h : sz ≤ 60) : gnd cd sz = -1 ↔ ¬ gdf cd (ltr cd sz) := by
  have hl := ltr_le cd sz
  unfold gnd
  rw [kth_none _ _ (by omega)]
  constructor
  · rintro z ⟨j, hj, e⟩
    exact z j (Nat.zero_le _) (by omega) e
  · intro z j _ h2 e
    exact z ⟨j, by omega, e⟩
theorem mer_ferr {cd : Nat → Nat} {sz : Nat} (h : sz ≤ 60) (hcd : ∀ j, cd j < 256) : mer cd sz = ferr cd sz := by
  have hl := ltr_le cd sz
  have hg : gdI cd (ltr cd sz) = -1 ↔ gnd cd sz = -1 := (gdI_n (by omega)).trans (gnd_n h).symm
  by_cases h1 : rlg cd sz (ltr cd sz) = -1
  · rw [(mer_1 h1).1]
    by_cases hk : ltr cd sz < 16 ∧ ¬ kdr (atv cd sz (ltr cd sz)) = -1
    · have hi := atv_in hk.2
      have hk2 : ¬ kdr (nI (cd (ltr cd sz))) = -1 := by rw [← hi.2]; exact hk.2
      have hc := kdr_let (hcd _) hk2
      rw [ferr_3 (by omega) (Or.inr (by omega))]
    · have h2 : gnd cd sz = -1 := hg.mp ((show rlg cd sz (ltr cd sz) = gdI cd (ltr cd sz) from if_neg hk).symm.trans h1)
      by_cases hs : ltr cd sz = sz
      · rw [ferr_1 hs h2, hs]
      · rw [ferr_3 hs (Or.inl h2)]
  · have hk : ¬ (ltr cd sz < 16 ∧ ¬ kdr (atv cd sz (ltr cd sz)) = -1) := fun z => h1 (if_pos z)
    have h2 : ¬ gnd cd sz = -1 := fun z => h1 ((show rlg cd sz (ltr cd sz) = gdI cd (ltr cd sz) from if_neg hk).trans (hg.mpr z))
    by_cases h3 : atv cd sz (ltr cd sz) = nI 47
    · have hi := atv_lt (by decide) h3
      have hc : cd (ltr cd sz) = 47 := nI_e (hcd _) (by decide) (hi.2.symm.trans h3)
      rw [(mer_3 h1 h3).1, ferr_4 (by omega) h2 hc]
      rfl
    · rw [(mer_2 h1 h3).1]
      by_cases hs : ltr cd sz = sz
      · rw [ferr_2 hs h2, if_neg (by omega)]
      · have hc : ¬ cd (ltr cd sz) = 47 := fun z => h3 (by rw [show atv cd sz (ltr cd sz) = nI (cd (ltr cd sz)) from if_pos (by omega), z])
        rw [ferr_3 hs (Or.inr hc), if_pos (by omega)]
