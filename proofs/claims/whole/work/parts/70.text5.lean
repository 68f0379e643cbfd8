/-! TEXT 5: storeys as the model reads them -/
noncomputable def stS (cd : Nat → Nat) : Nat → Nat → Nat → Nat → Int32 → Int32
  | 0, _, b, v, B => if b < v then skp B v True else B
  | k + 1, i, b, v, B => if cd i = 44 then (if v ≤ b then B else stS cd k (i + 1) v 0 (skp B v True)) else if 48 ≤ cd i ∧ cd i ≤ 57 ∧ 1 ≤ 10 * v + cd i - 48 ∧ 10 * v + cd i - 48 ≤ 30 then stS cd k (i + 1) b (10 * v + cd i - 48) B else if v ≤ b then B else skp B v True
theorem stS_d {cd : Nat → Nat} {k i b v : Nat} {B : Int32} (h : ¬ cd i = 44) (h2 : 48 ≤ cd i ∧ cd i ≤ 57 ∧ 1 ≤ 10 * v + cd i - 48 ∧ 10 * v + cd i - 48 ≤ 30) : stS cd (k + 1) i b v B = stS cd k (i + 1) b (10 * v + cd i - 48) B := by
  show (if _ then _ else _) = _
  rw [if_neg h, if_pos h2]
theorem atv_lt {cd : Nat → Nat} {sz i k : Nat} (hk : k < 256) (h : atv cd sz i = nI k) : i < sz ∧ atv cd sz i = nI (cd i) := by
  by_cases hi : i < sz
  · exact ⟨hi, if_pos hi⟩
  · rw [show atv cd sz i = -1 from if_neg hi] at h
    have e := congrArg Int32.toInt h
    rw [nI_i (by omega), show (-1 : Int32).toInt = -1 from rfl] at e
    omega
theorem atv_i {cd : Nat → Nat} {sz i : Nat} (hc : cd i < 256) : (i < sz ∧ (atv cd sz i).toInt = (cd i : Int)) ∨ (¬ i < sz ∧ (atv cd sz i).toInt = -1) := by
  by_cases hi : i < sz
  · exact Or.inl ⟨hi, by rw [show atv cd sz i = nI (cd i) from if_pos hi, nI_i (by omega)]⟩
  · exact Or.inr ⟨hi, by rw [show atv cd sz i = -1 from if_neg hi]; rfl⟩
/-- at the end of a number that is too small -/
theorem st_x1 {cd : Nat → Nat} {sz i b v : Nat} {B R F : Int32} (hi : i ≤ sz) (h : R = steF cd sz (sz - i) i b v ∧ F = stS cd (sz - i) i b v B) (hn : i < sz → ¬ (48 ≤ cd i ∧ cd i ≤ 57 ∧ 1 ≤ 10 * v + cd i - 48 ∧ 10 * v + cd i - 48 ≤ 30)) (hv : v ≤ b) : R = nI i ∧ F = B := by
  obtain ⟨h1, h2⟩ := h
  by_cases hs : i < sz
  · rw [show sz - i = sz - (i + 1) + 1 by omega] at h1 h2
    by_cases hc : cd i = 44
    · refine ⟨h1.trans (steF_c1 hc hv), h2.trans ?_⟩
      show (if _ then _ else _) = _
      rw [if_pos hc, if_pos hv]
    · refine ⟨h1.trans (steF_n hc (hn hs)), h2.trans ?_⟩
      show (if _ then _ else _) = _
      rw [if_neg hc, if_neg (hn hs), if_pos hv]
  · rw [show sz - i = 0 by omega] at h1 h2
    refine ⟨h1.trans ((steF_e2 (by omega)).trans (by rw [show i = sz by omega])), h2.trans ?_⟩
    show (if _ then _ else _) = _
    rw [if_neg (by omega)]
/-- at the end of a number that is skipped -/
theorem st_x2 {cd : Nat → Nat} {sz i b v : Nat} {B R F : Int32} (hi : i ≤ sz) (hcd : cd i < 256) (h : R = steF cd sz (sz - i) i b v ∧ F = stS cd (sz - i) i b v B) (hn : i < sz → ¬ (48 ≤ cd i ∧ cd i ≤ 57 ∧ 1 ≤ 10 * v + cd i - 48 ∧ 10 * v + cd i - 48 ≤ 30)) (hv : b < v) : (atv cd sz i = nI 44 → R = steF cd sz (sz - (i + 1)) (i + 1) v 0 ∧ F = stS cd (sz - (i + 1)) (i + 1) v 0 (skp B v True)) ∧ (¬ atv cd sz i = nI 44 → R = (if i < sz then nI i else -1) ∧ F = skp B v True) := by
  obtain ⟨h1, h2⟩ := h
  by_cases hs : i < sz
  · rw [show sz - i = sz - (i + 1) + 1 by omega] at h1 h2
    have ha : atv cd sz i = nI (cd i) := if_pos hs
    refine ⟨fun z => ?_, fun z => ?_⟩
    · have hc : cd i = 44 := nI_e hcd (by decide) (ha.symm.trans z)
      refine ⟨h1.trans (steF_c2 hc (by omega)), h2.trans ?_⟩
      show (if _ then _ else _) = _
      rw [if_pos hc, if_neg (by omega)]
    · have hc : ¬ cd i = 44 := fun y => z (by rw [ha, y])
      refine ⟨(h1.trans (steF_n hc (hn hs))).trans (if_pos hs).symm, h2.trans ?_⟩
      show (if _ then _ else _) = _
      rw [if_neg hc, if_neg (hn hs), if_neg (by omega)]
  · rw [show sz - i = 0 by omega] at h1 h2
    refine ⟨fun z => absurd (atv_lt (by decide) z).1 hs, fun z => ⟨(h1.trans (steF_e1 hv)).trans (if_neg hs).symm, h2.trans ?_⟩⟩
    show (if _ then _ else _) = _
    rw [if_pos hv]
