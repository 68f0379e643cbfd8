/-! OPS: what a command or a turn makes of a house -/
noncomputable def oif (P : Prop) (a b : HS) : HS := @ite HS P (Classical.propDecidable P) a b
theorem oif_t {P : Prop} {a b : HS} (h : P) : oif P a b = a := if_pos h
theorem oif_f {P : Prop} {a b : HS} (h : ¬ P) : oif P a b = b := if_neg h
noncomputable def oAdd (lv k : Nat) (u : HS) : HS := (u.1 + 1, insG lv u.2.1, u.2.2.1, rn u.2.2.1 (insG lv u.2.1) 0 (u.1 + 1) (fur lv (nI k) (sh lv u.1 9 u.1 u.2.2.2)))
noncomputable def oDel (lv : Nat) (u : HS) : HS := (u.1 - 1, delG lv u.2.1, u.2.2.1, rn u.2.2.1 (delG lv u.2.1) 0 (u.1 - 1) (sd lv (u.1 - 1) 9 lv u.2.2.2))
noncomputable def oKnd (lv k : Nat) (u : HS) : HS := (u.1, u.2.1, u.2.2.1, rn u.2.2.1 u.2.1 0 u.1 (upd u.2.2.2 lv (nI k)))
noncomputable def oGnd (lv : Nat) (u : HS) : HS := (u.1, lv, u.2.2.1, rn u.2.2.1 lv 0 u.1 u.2.2.2)
noncomputable def oSkp (q : Nat) (P : Prop) (u : HS) : HS := (u.1, u.2.1, skp u.2.2.1 q P, rn (skp u.2.2.1 q P) u.2.1 0 u.1 u.2.2.2)
noncomputable def oSrv (ca lv : Nat) (P : Prop) (u : HS) : HS := (u.1, u.2.1, u.2.2.1, upd u.2.2.2 ((6 + ca) * 16 + lv) (zb P))
noncomputable def oSgn (lv : Nat) (u : HS) : HS := (u.1, u.2.1, u.2.2.1, upd u.2.2.2 (32 + lv) (u.2.2.2 (16 + lv)))
noncomputable def oBtn (ca lv : Nat) (u : HS) : HS := (u.1, u.2.1, u.2.2.1, upd u.2.2.2 ((3 + ca) * 16 + lv) (u.2.2.2 (16 + lv)))
noncomputable def oCar (ca : Nat) (u : HS) : HS := (u.1, u.2.1, u.2.2.1, ccar u.2.2.2 ca u.1)
noncomputable def oSwp (ca lv l2 : Nat) (u : HS) : HS := (u.1, u.2.1, u.2.2.1, swp u.2.2.2 ((3 + ca) * 16 + lv) ((3 + ca) * 16 + l2))
/-- the house behind a command -/
noncomputable def scm (h a b d : Nat) (u : HS) : HS := if h = 1 then oif ((10 * a + b) ≤ u.1 ∧ d < 4 ∧ u.1 < 16) (oAdd (10 * a + b) d u) u else if h = 2 then oif (d = 0 ∧ (10 * a + b) < u.1 ∧ (10 * a + b) ≠ u.2.1) (oDel (10 * a + b) u) u else if h = 3 then oif ((10 * a + b) < u.1 ∧ d < 4 ∧ ¬ ((10 * a + b) = u.2.1 ∧ d ≠ 0)) (oKnd (10 * a + b) d u) u else if h = 4 then oif (d ≤ 1 ∧ 1 ≤ (10 * a + b) ∧ (10 * a + b) ≤ 30) (oSkp (10 * a + b) (d = 1) u) u else if h = 5 then oif (d = 0 ∧ (10 * a + b) < u.1) (oSgn (10 * a + b) u) u else if h = 6 then oif (a < 3 ∧ (10 * b + d) < u.1) (oBtn a (10 * b + d) u) u else if h = 7 then oif ((10 * b + d) = 0 ∧ a < 3) (oCar a u) u else u
/-- a command succeeds -/
def sok (h a b d : Nat) (u : HS) : Prop := (h = 1 ∧ (10 * a + b) ≤ u.1 ∧ d < 4 ∧ u.1 < 16) ∨ (h = 2 ∧ d = 0 ∧ (10 * a + b) < u.1 ∧ (10 * a + b) ≠ u.2.1) ∨ (h = 3 ∧ (10 * a + b) < u.1 ∧ d < 4 ∧ ¬ ((10 * a + b) = u.2.1 ∧ d ≠ 0)) ∨ (h = 4 ∧ d ≤ 1 ∧ 1 ≤ (10 * a + b) ∧ (10 * a + b) ≤ 30) ∨ (h = 5 ∧ d = 0 ∧ (10 * a + b) < u.1) ∨ (h = 6 ∧ a < 3 ∧ (10 * b + d) < u.1) ∨ (h = 7 ∧ (10 * b + d) = 0 ∧ a < 3) ∨ (h = 8 ∧ a < 3 ∧ (10 * b + d) < u.1 ∧ u.2.2.2 ((3 + a) * 16 + (10 * b + d)) = u.2.2.2 (16 + (10 * b + d))) ∨ (h = 9 ∧ a = 0 ∧ tw u.2.2.2 u.1 ≤ (10 * b + d))
theorem scm_1t {h a b d : Nat} {u : HS} (hh : h = 1) (hc : (10 * a + b) ≤ u.1 ∧ d < 4 ∧ u.1 < 16) : scm h a b d u = oAdd (10 * a + b) d u := by
  unfold scm
  rw [if_pos hh, oif_t hc]
theorem scm_1f {h a b d : Nat} {u : HS} (hh : h = 1) (hc : ¬ ((10 * a + b) ≤ u.1 ∧ d < 4 ∧ u.1 < 16)) : scm h a b d u = u := by
  unfold scm
  rw [if_pos hh, oif_f hc]
theorem sok_1 {h a b d : Nat} {u : HS} (hh : h = 1) : sok h a b d u ↔ ((10 * a + b) ≤ u.1 ∧ d < 4 ∧ u.1 < 16) := by
  subst hh
  constructor
  · rintro (z | z | z | z | z | z | z | z | z)
    · exact z.2
    · exact absurd z.1 (by decide)
    · exact absurd z.1 (by decide)
    · exact absurd z.1 (by decide)
    · exact absurd z.1 (by decide)
    · exact absurd z.1 (by decide)
    · exact absurd z.1 (by decide)
    · exact absurd z.1 (by decide)
    · exact absurd z.1 (by decide)
  · intro z; exact Or.inl ⟨rfl, z⟩
theorem scm_2t {h a b d : Nat} {u : HS} (hh : h = 2) (hc : d = 0 ∧ (10 * a + b) < u.1 ∧ (10 * a + b) ≠ u.2.1) : scm h a b d u = oDel (10 * a + b) u := by
  unfold scm
  rw [if_neg (by omega), if_pos hh, oif_t hc]
theorem scm_2f {h a b d : Nat} {u : HS} (hh : h = 2) (hc : ¬ (d = 0 ∧ (10 * a + b) < u.1 ∧ (10 * a + b) ≠ u.2.1)) : scm h a b d u = u := by
  unfold scm
  rw [if_neg (by omega), if_pos hh, oif_f hc]
theorem sok_2 {h a b d : Nat} {u : HS} (hh : h = 2) : sok h a b d u ↔ (d = 0 ∧ (10 * a + b) < u.1 ∧ (10 * a + b) ≠ u.2.1) := by
  subst hh
  constructor
  · rintro (z | z | z | z | z | z | z | z | z)
    · exact absurd z.1 (by decide)
    · exact z.2
    · exact absurd z.1 (by decide)
    · exact absurd z.1 (by decide)
    · exact absurd z.1 (by decide)
    · exact absurd z.1 (by decide)
    · exact absurd z.1 (by decide)
    · exact absurd z.1 (by decide)
    · exact absurd z.1 (by decide)
  · intro z; exact Or.inr (Or.inl ⟨rfl, z⟩)
theorem scm_3t {h a b d : Nat} {u : HS} (hh : h = 3) (hc : (10 * a + b) < u.1 ∧ d < 4 ∧ ¬ ((10 * a + b) = u.2.1 ∧ d ≠ 0)) : scm h a b d u = oKnd (10 * a + b) d u := by
  unfold scm
  rw [if_neg (by omega), if_neg (by omega), if_pos hh, oif_t hc]
theorem scm_3f {h a b d : Nat} {u : HS} (hh : h = 3) (hc : ¬ ((10 * a + b) < u.1 ∧ d < 4 ∧ ¬ ((10 * a + b) = u.2.1 ∧ d ≠ 0))) : scm h a b d u = u := by
  unfold scm
  rw [if_neg (by omega), if_neg (by omega), if_pos hh, oif_f hc]
theorem sok_3 {h a b d : Nat} {u : HS} (hh : h = 3) : sok h a b d u ↔ ((10 * a + b) < u.1 ∧ d < 4 ∧ ¬ ((10 * a + b) = u.2.1 ∧ d ≠ 0)) := by
  subst hh
  constructor
  · rintro (z | z | z | z | z | z | z | z | z)
    · exact absurd z.1 (by decide)
    · exact absurd z.1 (by decide)
    · exact z.2
    · exact absurd z.1 (by decide)
    · exact absurd z.1 (by decide)
    · exact absurd z.1 (by decide)
    · exact absurd z.1 (by decide)
    · exact absurd z.1 (by decide)
    · exact absurd z.1 (by decide)
  · intro z; exact Or.inr (Or.inr (Or.inl ⟨rfl, z⟩))
theorem scm_4t {h a b d : Nat} {u : HS} (hh : h = 4) (hc : d ≤ 1 ∧ 1 ≤ (10 * a + b) ∧ (10 * a + b) ≤ 30) : scm h a b d u = oSkp (10 * a + b) (d = 1) u := by
  unfold scm
  rw [if_neg (by omega), if_neg (by omega), if_neg (by omega), if_pos hh, oif_t hc]
theorem scm_4f {h a b d : Nat} {u : HS} (hh : h = 4) (hc : ¬ (d ≤ 1 ∧ 1 ≤ (10 * a + b) ∧ (10 * a + b) ≤ 30)) : scm h a b d u = u := by
  unfold scm
  rw [if_neg (by omega), if_neg (by omega), if_neg (by omega), if_pos hh, oif_f hc]
theorem sok_4 {h a b d : Nat} {u : HS} (hh : h = 4) : sok h a b d u ↔ (d ≤ 1 ∧ 1 ≤ (10 * a + b) ∧ (10 * a + b) ≤ 30) := by
  subst hh
  constructor
  · rintro (z | z | z | z | z | z | z | z | z)
    · exact absurd z.1 (by decide)
    · exact absurd z.1 (by decide)
    · exact absurd z.1 (by decide)
    · exact z.2
    · exact absurd z.1 (by decide)
    · exact absurd z.1 (by decide)
    · exact absurd z.1 (by decide)
    · exact absurd z.1 (by decide)
    · exact absurd z.1 (by decide)
  · intro z; exact Or.inr (Or.inr (Or.inr (Or.inl ⟨rfl, z⟩)))
theorem scm_5t {h a b d : Nat} {u : HS} (hh : h = 5) (hc : d = 0 ∧ (10 * a + b) < u.1) : scm h a b d u = oSgn (10 * a + b) u := by
  unfold scm
  rw [if_neg (by omega), if_neg (by omega), if_neg (by omega), if_neg (by omega), if_pos hh, oif_t hc]
theorem scm_5f {h a b d : Nat} {u : HS} (hh : h = 5) (hc : ¬ (d = 0 ∧ (10 * a + b) < u.1)) : scm h a b d u = u := by
  unfold scm
  rw [if_neg (by omega), if_neg (by omega), if_neg (by omega), if_neg (by omega), if_pos hh, oif_f hc]
theorem sok_5 {h a b d : Nat} {u : HS} (hh : h = 5) : sok h a b d u ↔ (d = 0 ∧ (10 * a + b) < u.1) := by
  subst hh
  constructor
  · rintro (z | z | z | z | z | z | z | z | z)
    · exact absurd z.1 (by decide)
    · exact absurd z.1 (by decide)
    · exact absurd z.1 (by decide)
    · exact absurd z.1 (by decide)
    · exact z.2
    · exact absurd z.1 (by decide)
    · exact absurd z.1 (by decide)
    · exact absurd z.1 (by decide)
    · exact absurd z.1 (by decide)
  · intro z; exact Or.inr (Or.inr (Or.inr (Or.inr (Or.inl ⟨rfl, z⟩))))
theorem scm_6t {h a b d : Nat} {u : HS} (hh : h = 6) (hc : a < 3 ∧ (10 * b + d) < u.1) : scm h a b d u = oBtn a (10 * b + d) u := by
  unfold scm
  rw [if_neg (by omega), if_neg (by omega), if_neg (by omega), if_neg (by omega), if_neg (by omega), if_pos hh, oif_t hc]
theorem scm_6f {h a b d : Nat} {u : HS} (hh : h = 6) (hc : ¬ (a < 3 ∧ (10 * b + d) < u.1)) : scm h a b d u = u := by
  unfold scm
  rw [if_neg (by omega), if_neg (by omega), if_neg (by omega), if_neg (by omega), if_neg (by omega), if_pos hh, oif_f hc]
theorem sok_6 {h a b d : Nat} {u : HS} (hh : h = 6) : sok h a b d u ↔ (a < 3 ∧ (10 * b + d) < u.1) := by
  subst hh
  constructor
  · rintro (z | z | z | z | z | z | z | z | z)
    · exact absurd z.1 (by decide)
    · exact absurd z.1 (by decide)
    · exact absurd z.1 (by decide)
    · exact absurd z.1 (by decide)
    · exact absurd z.1 (by decide)
    · exact z.2
    · exact absurd z.1 (by decide)
    · exact absurd z.1 (by decide)
    · exact absurd z.1 (by decide)
  · intro z; exact Or.inr (Or.inr (Or.inr (Or.inr (Or.inr (Or.inl ⟨rfl, z⟩)))))
theorem scm_7t {h a b d : Nat} {u : HS} (hh : h = 7) (hc : (10 * b + d) = 0 ∧ a < 3) : scm h a b d u = oCar a u := by
  unfold scm
  rw [if_neg (by omega), if_neg (by omega), if_neg (by omega), if_neg (by omega), if_neg (by omega), if_neg (by omega), if_pos hh, oif_t hc]
theorem scm_7f {h a b d : Nat} {u : HS} (hh : h = 7) (hc : ¬ ((10 * b + d) = 0 ∧ a < 3)) : scm h a b d u = u := by
  unfold scm
  rw [if_neg (by omega), if_neg (by omega), if_neg (by omega), if_neg (by omega), if_neg (by omega), if_neg (by omega), if_pos hh, oif_f hc]
theorem sok_7 {h a b d : Nat} {u : HS} (hh : h = 7) : sok h a b d u ↔ ((10 * b + d) = 0 ∧ a < 3) := by
  subst hh
  constructor
  · rintro (z | z | z | z | z | z | z | z | z)
    · exact absurd z.1 (by decide)
    · exact absurd z.1 (by decide)
    · exact absurd z.1 (by decide)
    · exact absurd z.1 (by decide)
    · exact absurd z.1 (by decide)
    · exact absurd z.1 (by decide)
    · exact z.2
    · exact absurd z.1 (by decide)
    · exact absurd z.1 (by decide)
  · intro z; exact Or.inr (Or.inr (Or.inr (Or.inr (Or.inr (Or.inr (Or.inl ⟨rfl, z⟩))))))
theorem sok_8 {h a b d : Nat} {u : HS} (hh : h = 8) : sok h a b d u ↔ (a < 3 ∧ (10 * b + d) < u.1 ∧ u.2.2.2 ((3 + a) * 16 + (10 * b + d)) = u.2.2.2 (16 + (10 * b + d))) := by
  subst hh
  constructor
  · rintro (z | z | z | z | z | z | z | z | z)
    · exact absurd z.1 (by decide)
    · exact absurd z.1 (by decide)
    · exact absurd z.1 (by decide)
    · exact absurd z.1 (by decide)
    · exact absurd z.1 (by decide)
    · exact absurd z.1 (by decide)
    · exact absurd z.1 (by decide)
    · exact z.2
    · exact absurd z.1 (by decide)
  · intro z; exact Or.inr (Or.inr (Or.inr (Or.inr (Or.inr (Or.inr (Or.inr (Or.inl ⟨rfl, z⟩)))))))
theorem sok_9 {h a b d : Nat} {u : HS} (hh : h = 9) : sok h a b d u ↔ (a = 0 ∧ tw u.2.2.2 u.1 ≤ (10 * b + d)) := by
  subst hh
  constructor
  · rintro (z | z | z | z | z | z | z | z | z)
    · exact absurd z.1 (by decide)
    · exact absurd z.1 (by decide)
    · exact absurd z.1 (by decide)
    · exact absurd z.1 (by decide)
    · exact absurd z.1 (by decide)
    · exact absurd z.1 (by decide)
    · exact absurd z.1 (by decide)
    · exact absurd z.1 (by decide)
    · exact z.2
  · intro z; exact Or.inr (Or.inr (Or.inr (Or.inr (Or.inr (Or.inr (Or.inr (Or.inr (⟨rfl, z⟩))))))))
theorem scm_n {h a b d : Nat} {u : HS} (hh : ¬ (1 ≤ h ∧ h ≤ 7)) : scm h a b d u = u := by
  unfold scm
  rw [if_neg (by omega), if_neg (by omega), if_neg (by omega), if_neg (by omega), if_neg (by omega), if_neg (by omega), if_neg (by omega)]
theorem sok_n {h a b d : Nat} {u : HS} (hh : ¬ (1 ≤ h ∧ h ≤ 9)) : ¬ sok h a b d u := by
  rintro (z | z | z | z | z | z | z | z | z) <;> (have := z.1; omega)
/-- the house behind a turn -/
noncomputable def tst (h lv k ca l2 q : Nat) (P1 P2 : Prop) (u : HS) : HS := if h < 2 then oif (lv ≤ u.1 ∧ k < 4 ∧ u.1 < 16) (oAdd lv k u) u else if h = 2 then oif (lv < u.1 ∧ lv ≠ u.2.1) (oDel lv u) u else if h = 3 then oif (lv < u.1 ∧ k < 4 ∧ ¬ (lv = u.2.1 ∧ k ≠ 0)) (oKnd lv k u) u else if h = 4 then oif (lv < u.1 ∧ u.2.2.2 lv = 0) (oGnd lv u) u else if h < 7 then oSkp q P1 u else if h = 7 then oif (lv < u.1) (oSrv ca lv P2 u) u else if h < 11 then oif (lv < u.1) (oSgn lv u) u else if h = 11 then oCar ca u else if h = 12 then oif (lv < u.1 ∧ l2 < u.1) (oSwp ca lv l2 u) u else oif (lv < u.1) (oBtn ca lv u) u
theorem tst_0t {h lv k ca l2 q : Nat} {P1 P2 : Prop} {u : HS} (hh : h < 2) (hc : lv ≤ u.1 ∧ k < 4 ∧ u.1 < 16) : tst h lv k ca l2 q P1 P2 u = oAdd lv k u := by
  unfold tst
  rw [if_pos (by omega), oif_t hc]
theorem tst_0f {h lv k ca l2 q : Nat} {P1 P2 : Prop} {u : HS} (hh : h < 2) (hc : ¬ (lv ≤ u.1 ∧ k < 4 ∧ u.1 < 16)) : tst h lv k ca l2 q P1 P2 u = u := by
  unfold tst
  rw [if_pos (by omega), oif_f hc]
theorem tst_1t {h lv k ca l2 q : Nat} {P1 P2 : Prop} {u : HS} (hh : h = 2) (hc : lv < u.1 ∧ lv ≠ u.2.1) : tst h lv k ca l2 q P1 P2 u = oDel lv u := by
  unfold tst
  rw [if_neg (by omega), if_pos (by omega), oif_t hc]
theorem tst_1f {h lv k ca l2 q : Nat} {P1 P2 : Prop} {u : HS} (hh : h = 2) (hc : ¬ (lv < u.1 ∧ lv ≠ u.2.1)) : tst h lv k ca l2 q P1 P2 u = u := by
  unfold tst
  rw [if_neg (by omega), if_pos (by omega), oif_f hc]
theorem tst_2t {h lv k ca l2 q : Nat} {P1 P2 : Prop} {u : HS} (hh : h = 3) (hc : lv < u.1 ∧ k < 4 ∧ ¬ (lv = u.2.1 ∧ k ≠ 0)) : tst h lv k ca l2 q P1 P2 u = oKnd lv k u := by
  unfold tst
  rw [if_neg (by omega), if_neg (by omega), if_pos (by omega), oif_t hc]
theorem tst_2f {h lv k ca l2 q : Nat} {P1 P2 : Prop} {u : HS} (hh : h = 3) (hc : ¬ (lv < u.1 ∧ k < 4 ∧ ¬ (lv = u.2.1 ∧ k ≠ 0))) : tst h lv k ca l2 q P1 P2 u = u := by
  unfold tst
  rw [if_neg (by omega), if_neg (by omega), if_pos (by omega), oif_f hc]
theorem tst_3t {h lv k ca l2 q : Nat} {P1 P2 : Prop} {u : HS} (hh : h = 4) (hc : lv < u.1 ∧ u.2.2.2 lv = 0) : tst h lv k ca l2 q P1 P2 u = oGnd lv u := by
  unfold tst
  rw [if_neg (by omega), if_neg (by omega), if_neg (by omega), if_pos (by omega), oif_t hc]
theorem tst_3f {h lv k ca l2 q : Nat} {P1 P2 : Prop} {u : HS} (hh : h = 4) (hc : ¬ (lv < u.1 ∧ u.2.2.2 lv = 0)) : tst h lv k ca l2 q P1 P2 u = u := by
  unfold tst
  rw [if_neg (by omega), if_neg (by omega), if_neg (by omega), if_pos (by omega), oif_f hc]
theorem tst_4 {h lv k ca l2 q : Nat} {P1 P2 : Prop} {u : HS} (hh : h = 5 ∨ h = 6) : tst h lv k ca l2 q P1 P2 u = oSkp q P1 u := by
  unfold tst
  rw [if_neg (by omega), if_neg (by omega), if_neg (by omega), if_neg (by omega), if_pos (by omega)]
theorem tst_5t {h lv k ca l2 q : Nat} {P1 P2 : Prop} {u : HS} (hh : h = 7) (hc : lv < u.1) : tst h lv k ca l2 q P1 P2 u = oSrv ca lv P2 u := by
  unfold tst
  rw [if_neg (by omega), if_neg (by omega), if_neg (by omega), if_neg (by omega), if_neg (by omega), if_pos (by omega), oif_t hc]
theorem tst_5f {h lv k ca l2 q : Nat} {P1 P2 : Prop} {u : HS} (hh : h = 7) (hc : ¬ (lv < u.1)) : tst h lv k ca l2 q P1 P2 u = u := by
  unfold tst
  rw [if_neg (by omega), if_neg (by omega), if_neg (by omega), if_neg (by omega), if_neg (by omega), if_pos (by omega), oif_f hc]
theorem tst_6t {h lv k ca l2 q : Nat} {P1 P2 : Prop} {u : HS} (hh : 8 ≤ h ∧ h ≤ 10) (hc : lv < u.1) : tst h lv k ca l2 q P1 P2 u = oSgn lv u := by
  unfold tst
  rw [if_neg (by omega), if_neg (by omega), if_neg (by omega), if_neg (by omega), if_neg (by omega), if_neg (by omega), if_pos (by omega), oif_t hc]
theorem tst_6f {h lv k ca l2 q : Nat} {P1 P2 : Prop} {u : HS} (hh : 8 ≤ h ∧ h ≤ 10) (hc : ¬ (lv < u.1)) : tst h lv k ca l2 q P1 P2 u = u := by
  unfold tst
  rw [if_neg (by omega), if_neg (by omega), if_neg (by omega), if_neg (by omega), if_neg (by omega), if_neg (by omega), if_pos (by omega), oif_f hc]
theorem tst_7 {h lv k ca l2 q : Nat} {P1 P2 : Prop} {u : HS} (hh : h = 11) : tst h lv k ca l2 q P1 P2 u = oCar ca u := by
  unfold tst
  rw [if_neg (by omega), if_neg (by omega), if_neg (by omega), if_neg (by omega), if_neg (by omega), if_neg (by omega), if_neg (by omega), if_pos (by omega)]
theorem tst_8t {h lv k ca l2 q : Nat} {P1 P2 : Prop} {u : HS} (hh : h = 12) (hc : lv < u.1 ∧ l2 < u.1) : tst h lv k ca l2 q P1 P2 u = oSwp ca lv l2 u := by
  unfold tst
  rw [if_neg (by omega), if_neg (by omega), if_neg (by omega), if_neg (by omega), if_neg (by omega), if_neg (by omega), if_neg (by omega), if_neg (by omega), if_pos (by omega), oif_t hc]
theorem tst_8f {h lv k ca l2 q : Nat} {P1 P2 : Prop} {u : HS} (hh : h = 12) (hc : ¬ (lv < u.1 ∧ l2 < u.1)) : tst h lv k ca l2 q P1 P2 u = u := by
  unfold tst
  rw [if_neg (by omega), if_neg (by omega), if_neg (by omega), if_neg (by omega), if_neg (by omega), if_neg (by omega), if_neg (by omega), if_neg (by omega), if_pos (by omega), oif_f hc]
theorem tst_9t {h lv k ca l2 q : Nat} {P1 P2 : Prop} {u : HS} (hh : 13 ≤ h) (hc : lv < u.1) : tst h lv k ca l2 q P1 P2 u = oBtn ca lv u := by
  unfold tst
  rw [if_neg (by omega), if_neg (by omega), if_neg (by omega), if_neg (by omega), if_neg (by omega), if_neg (by omega), if_neg (by omega), if_neg (by omega), if_neg (by omega), oif_t hc]
theorem tst_9f {h lv k ca l2 q : Nat} {P1 P2 : Prop} {u : HS} (hh : 13 ≤ h) (hc : ¬ (lv < u.1)) : tst h lv k ca l2 q P1 P2 u = u := by
  unfold tst
  rw [if_neg (by omega), if_neg (by omega), if_neg (by omega), if_neg (by omega), if_neg (by omega), if_neg (by omega), if_neg (by omega), if_neg (by omega), if_neg (by omega), oif_f hc]
noncomputable def tur (r : Nat) (u : HS) : HS := tst (r % 16) (r / 16 % 16) (r / 256 % 4) (r / 256 % 3) (r / 1024 % 16) (1 + r / 16 % 30) (r / 512 % 2 = 0) (r / 1024 % 2 = 0) u
theorem Kds_c {n : Nat} {f f' : Nat → Int32} (h : Kds n f) (e : ∀ x, x < n → f' x = f x) : Kds n f' := fun x hx => by rw [e x hx]; exact h x hx
theorem Kds_4 {k : Nat} (h : k < 4) : nI k = 0 ∨ nI k = 1 ∨ nI k = 2 ∨ nI k = 3 := by
  rcases (show k = 0 ∨ k = 1 ∨ k = 2 ∨ k = 3 by omega) with rfl | rfl | rfl | rfl
  · exact Or.inl rfl
  · exact Or.inr (Or.inl rfl)
  · exact Or.inr (Or.inr (Or.inl rfl))
  · exact Or.inr (Or.inr (Or.inr rfl))
theorem Kds_ins {n lv k : Nat} {f : Nat → Int32} (h : Kds n f) (hn : n < 16) (hl : lv ≤ n) (hk : k < 4) : Kds (n + 1) (fur lv (nI k) (sh lv n 9 n f)) := by
  intro x hx
  have e := fur_at (lv := lv) (k := nI k) (F := sh lv n 9 n f) (ro := 0) (x := x) (by decide) (by decide) (by omega) (by omega)
  rw [Nat.zero_mul, Nat.zero_add] at e
  rw [e]
  by_cases hc : x = lv
  · rw [if_pos hc, if_pos rfl]; exact Kds_4 hk
  · rw [if_neg hc]
    unfold sh
    by_cases hd : lv < x
    · rw [if_pos (by omega)]; exact h (x - 1) (by omega)
    · rw [if_neg (by omega)]; exact h x (by omega)
theorem Kds_del {n lv : Nat} {f : Nat → Int32} (h : Kds n f) (hn : n ≤ 16) (hl : lv < n) : Kds (n - 1) (sd lv (n - 1) 9 lv f) := by
  intro x hx
  unfold sd
  by_cases hd : lv ≤ x
  · rw [if_pos (by omega)]; exact h (x + 1) (by omega)
  · rw [if_neg (by omega)]; exact h x (by omega)
theorem Kds_u {n lv k : Nat} {f : Nat → Int32} (h : Kds n f) (hk : k < 4) : Kds n (upd f lv (nI k)) := by
  intro x hx
  unfold upd
  by_cases hd : x = lv
  · rw [if_pos hd]; exact Kds_4 hk
  · rw [if_neg hd]; exact h x hx
theorem Kds_rn {n g a b m : Nat} {sk : Int32} {f : Nat → Int32} (h : Kds n f) (hn : n ≤ 16) : Kds n (rn sk g a b f) := Kds_c h (fun x hx => rn_k (by omega))
theorem Kds_o {n j : Nat} {v : Int32} {f : Nat → Int32} (h : Kds n f) (hn : n ≤ 16) (hj : 32 ≤ j) : Kds n (upd f j v) := Kds_c h (fun x hx => if_neg (by omega))
/-- a house as it must be -/
def hOK (u : HS) : Prop := 1 ≤ u.1 ∧ u.1 ≤ 16 ∧ u.2.1 < u.1 ∧ u.2.2.2 u.2.1 = 0 ∧ Nmd u.1 u.2.1 u.2.2.1 u.2.2.2 ∧ Kds u.1 u.2.2.2
theorem ok_mk {n g : Nat} {sk : Int32} {f : Nat → Int32} (h1 : 1 ≤ n) (h2 : n ≤ 16) (h3 : g < n) (h4 : f g = 0) (h6 : Kds n f) : hOK (n, g, sk, rn sk g 0 n f) :=
  ⟨h1, h2, h3, (rn_k (lv := g) (by omega)).trans h4, rn_Nmd h2 h3, Kds_rn (m := 0) h6 h2⟩
theorem ok_Add {lv k : Nat} {u : HS} (h : hOK u) (hl : lv ≤ u.1) (hk : k < 4) (hn : u.1 < 16) : hOK (oAdd lv k u) :=
  ok_mk (by omega) (by omega) (insG_lt h.2.2.1) (ins_g h.2.2.1 hn hl h.2.2.2.1) (Kds_ins h.2.2.2.2.2 hn hl hk)
theorem ok_Del {lv : Nat} {u : HS} (h : hOK u) (hl : lv < u.1) (hne : lv ≠ u.2.1) : hOK (oDel lv u) := by
  obtain ⟨h1, h2, h3, h4, h5, h6⟩ := h
  exact ok_mk (by omega) (by omega) (delG_lt h3 hl hne) (del_g h3 h2 hl hne h4) (Kds_del h6 h2 hl)
theorem ok_Knd {lv k : Nat} {u : HS} (h : hOK u) (hk : k < 4) (hc : ¬ (lv = u.2.1 ∧ k ≠ 0)) : hOK (oKnd lv k u) :=
  ok_mk h.1 h.2.1 h.2.2.1 (chg_f h.2.2.2.1 hc) (Kds_u h.2.2.2.2.2 hk)
theorem ok_Gnd {lv : Nat} {u : HS} (h : hOK u) (hl : lv < u.1) (hc : u.2.2.2 lv = 0) : hOK (oGnd lv u) :=
  ok_mk h.1 h.2.1 hl hc h.2.2.2.2.2
theorem ok_Skp {q : Nat} {P : Prop} {u : HS} (h : hOK u) : hOK (oSkp q P u) :=
  ok_mk h.1 h.2.1 h.2.2.1 h.2.2.2.1 h.2.2.2.2.2
theorem ok_u {j : Nat} {v : Int32} {u : HS} (h : hOK u) (hj : 32 ≤ j) : hOK (u.1, u.2.1, u.2.2.1, upd u.2.2.2 j v) := by
  obtain ⟨h1, h2, h3, h4, h5, h6⟩ := h
  exact ⟨h1, h2, h3, (show upd u.2.2.2 j v u.2.1 = u.2.2.2 u.2.1 from if_neg (by omega)).trans h4, Nmd_u h5 h2 h3 hj, Kds_o h6 h2 hj⟩
theorem ok_Srv {ca lv : Nat} {P : Prop} {u : HS} (h : hOK u) : hOK (oSrv ca lv P u) := ok_u h (by omega)
theorem ok_Sgn {lv : Nat} {u : HS} (h : hOK u) : hOK (oSgn lv u) := ok_u h (by omega)
theorem ok_Btn {ca lv : Nat} {u : HS} (h : hOK u) : hOK (oBtn ca lv u) := ok_u h (by omega)
theorem ok_Car {ca : Nat} {u : HS} (h : hOK u) : hOK (oCar ca u) := by
  obtain ⟨h1, h2, h3, h4, h5, h6⟩ := h
  have e : ∀ y, y < 48 → ccar u.2.2.2 ca u.1 y = u.2.2.2 y := fun y hy => if_neg (by omega)
  have h6b : Kds u.1 (ccar u.2.2.2 ca u.1) := Kds_c h6 (fun x hx => e x (by omega))
  refine ⟨h1, h2, h3, (e u.2.1 (by omega)).trans h4, fun x hx => ?_, h6b⟩
  show ccar u.2.2.2 ca u.1 (16 + x) = nm u.2.2.1 (ccar u.2.2.2 ca u.1) u.2.1 x
  have hx' : x < u.1 := hx
  rw [ccar_n (by omega), h5 x hx]
  exact nm_cong h3 hx (fun y hy => (e y (by omega)).symm)
theorem ok_Swp {ca lv l2 : Nat} {u : HS} (h : hOK u) : hOK (oSwp ca lv l2 u) := by
  have e := ok_u (j := (3 + ca) * 16 + lv) (v := u.2.2.2 ((3 + ca) * 16 + l2)) h (by omega)
  exact ok_u (j := (3 + ca) * 16 + l2) (v := u.2.2.2 ((3 + ca) * 16 + lv)) e (by omega)
theorem ok_load {cd : Nat → Nat} {sz g1 : Nat} {sk : Int32} {f : Nat → Int32} (hG : g1 < ltr cd sz) (hc : cd g1 = 71) : hOK (ltr cd sz, g1, sk, rn sk g1 0 (ltr cd sz) (fuf cd f (ltr cd sz))) := by
  have h16 := ltr_16 cd sz
  refine ok_mk (by omega) h16 hG (fuf_g h16 hG hc) (fun x hx => ?_)
  rw [fuf_k h16 hx]
  have hk := ltr_kdr hx
  unfold kdr at hk ⊢
  split
  · exact Or.inl rfl
  split
  · exact Or.inr (Or.inl rfl)
  split
  · exact Or.inr (Or.inr (Or.inl rfl))
  split
  · exact Or.inr (Or.inr (Or.inr rfl))
  · rename_i a1 a2 a3 a4
    rw [if_neg a1, if_neg a2, if_neg a3, if_neg a4] at hk
    exact absurd rfl hk
theorem ok_oif {P : Prop} {a u : HS} (h : hOK u) (ha : P → hOK a) : hOK (oif P a u) := by
  by_cases hp : P
  · rw [oif_t hp]; exact ha hp
  · rw [oif_f hp]; exact h
theorem ok_scm {h a b d : Nat} {u : HS} (hu : hOK u) : hOK (scm h a b d u) := by
  unfold scm
  split
  · exact ok_oif hu (fun z => ok_Add hu z.1 z.2.1 z.2.2)
  split
  · exact ok_oif hu (fun z => ok_Del hu z.2.1 z.2.2)
  split
  · exact ok_oif hu (fun z => ok_Knd hu z.2.1 z.2.2)
  split
  · exact ok_oif hu (fun z => ok_Skp hu)
  split
  · exact ok_oif hu (fun z => ok_Sgn hu)
  split
  · exact ok_oif hu (fun z => ok_Btn hu)
  split
  · exact ok_oif hu (fun z => ok_Car hu)
  · exact hu
theorem ok_tst {h lv k ca l2 q : Nat} {P1 P2 : Prop} {u : HS} (hu : hOK u) : hOK (tst h lv k ca l2 q P1 P2 u) := by
  unfold tst
  split
  · exact ok_oif hu (fun z => ok_Add hu z.1 z.2.1 z.2.2)
  split
  · exact ok_oif hu (fun z => ok_Del hu z.1 z.2)
  split
  · exact ok_oif hu (fun z => ok_Knd hu z.2.1 z.2.2)
  split
  · exact ok_oif hu (fun z => ok_Gnd hu z.1 z.2)
  split
  · exact ok_Skp hu
  split
  · exact ok_oif hu (fun z => ok_Srv hu)
  split
  · exact ok_oif hu (fun z => ok_Sgn hu)
  split
  · exact ok_Car hu
  split
  · exact ok_oif hu (fun z => ok_Swp hu)
  · exact ok_oif hu (fun z => ok_Btn hu)
theorem ok_tur {r : Nat} {u : HS} (hu : hOK u) : hOK (tur r u) := ok_tst hu
/-! scripts: groups of four digits -/
def grS (S : Nat) : Nat → Nat
  | 0 => S
  | j + 1 => grS S j / 10000
theorem grS_le (S : Nat) : ∀ j, grS S j ≤ S
  | 0 => Nat.le_refl S
  | j + 1 => Nat.le_trans (Nat.div_le_self _ _) (grS_le S j)
def cmd (S j : Nat) : Nat := grS S j % 10000
theorem cmd_lt (S j : Nat) : cmd S j < 10000 := Nat.mod_lt _ (by decide)
noncomputable def scc (c : Nat) (u : HS) : HS := scm (c / 1000) (c / 100 % 10) (c / 10 % 10) (c % 10) u
def skk (c : Nat) (u : HS) : Prop := sok (c / 1000) (c / 100 % 10) (c / 10 % 10) (c % 10) u
/-- the house behind the first commands -/
noncomputable def sru (S n : Nat) (u : HS) : Nat → HS
  | 0 => u
  | i + 1 => scc (cmd S (n - 1 - i)) (sru S n u i)
theorem ok_sru {S n : Nat} {u : HS} (hu : hOK u) : ∀ i, hOK (sru S n u i)
  | 0 => hu
  | i + 1 => ok_scm (ok_sru hu i)
/-- the first command that fails; how many were begun -/
noncomputable def srr (S n : Nat) (u : HS) : Nat → Nat → Int32
  | 0, _ => -1
  | k + 1, i => @ite Int32 (skk (cmd S (n - 1 - i)) (sru S n u i)) (Classical.propDecidable _) (srr S n u k (i + 1)) (nI i)
theorem srr_t {S n k i : Nat} {u : HS} (h : skk (cmd S (n - 1 - i)) (sru S n u i)) : srr S n u (k + 1) i = srr S n u k (i + 1) := if_pos h
theorem srr_f {S n k i : Nat} {u : HS} (h : ¬ skk (cmd S (n - 1 - i)) (sru S n u i)) : srr S n u (k + 1) i = nI i := if_neg h
noncomputable def src (S n : Nat) (u : HS) : Nat → Nat → Nat
  | 0, i => i
  | k + 1, i => @ite Nat (skk (cmd S (n - 1 - i)) (sru S n u i)) (Classical.propDecidable _) (src S n u k (i + 1)) (i + 1)
theorem src_t {S n k i : Nat} {u : HS} (h : skk (cmd S (n - 1 - i)) (sru S n u i)) : src S n u (k + 1) i = src S n u k (i + 1) := if_pos h
theorem src_f {S n k i : Nat} {u : HS} (h : ¬ skk (cmd S (n - 1 - i)) (sru S n u i)) : src S n u (k + 1) i = i + 1 := if_neg h
/-! simulations: turns out of a long -/
def lcg (x : Int64) : Int64 := x * 6364136223846793005 + 1442695040888963407
def rof (x : Int64) : Nat := x.toBitVec.toNat / 2 ^ 33
theorem pw_le {k : Nat} (h : k ≤ 3) : 10000 ^ k ≤ 1000000000000 := by
  rcases (show k = 0 ∨ k = 1 ∨ k = 2 ∨ k = 3 by omega) with rfl | rfl | rfl | rfl <;> decide
theorem lN_ne {p : Nat} (h : 0 < p) (h2 : p < 2 ^ 63) : ¬ lN p = 0 := fun z => by
  have e := (pk_lEQ h2 (by decide : 0 < 2 ^ 63)).mp (z.trans (show (0 : Int64) = lN 0 from rfl))
  omega
theorem tur_nl {r : Nat} {u : HS} (h : 8 ≤ r % 16) (h2 : r % 16 ≠ 11) (h3 : ¬ r / 16 % 16 < u.1) : tur r u = u := by
  unfold tur
  rcases (show (8 ≤ r % 16 ∧ r % 16 ≤ 10) ∨ r % 16 = 12 ∨ 13 ≤ r % 16 by omega) with z | z | z
  · exact tst_6f z h3
  · exact tst_8f z (fun y => h3 y.1)
  · exact tst_9f z h3
theorem grS_pw (S : Nat) : ∀ j, grS S j = S / 10000 ^ j
  | 0 => by show S = _; rw [Nat.pow_zero, Nat.div_one]
  | j + 1 => by show grS S j / 10000 = _; rw [grS_pw S j, Nat.div_div_eq_div_mul, Nat.pow_succ]
theorem cmd_pw (S j : Nat) : S / 10000 ^ j % 10000 = cmd S j := by unfold cmd; rw [grS_pw]
theorem pw_div {k i : Nat} (h : i < k) : 10000 ^ (k - i) / 10000 = 10000 ^ (k - 1 - i) := by
  rw [show k - i = (k - 1 - i) + 1 by omega, Nat.pow_succ]
  exact Nat.mul_div_cancel _ (by decide)
theorem rof_lt (x : Int64) : rof x < 2147483648 := by
  have h := x.toBitVec.isLt
  unfold rof
  omega
theorem rof_i (x : Int64) : ((x.toUInt64 >>> ((nI 33).toInt64.toUInt64 &&& Int64.toUInt64 63)).toInt64).toInt32 = nI (rof x) := by
  obtain ⟨n, hn, rfl⟩ := wb_of x
  rw [wb_shr hn (by decide), lN_i]
  unfold rof
  rw [wb_tn hn]
def lcx (x : Int64) : Nat → Int64
  | 0 => x
  | i + 1 => lcg (lcx x i)
noncomputable def smu (x : Int64) (u : HS) : Nat → HS
  | 0 => u
  | i + 1 => tur (rof (lcx x (i + 1))) (smu x u i)
theorem lcx_s (x : Int64) (i : Nat) : lcx x (i + 1) = lcx x i * 6364136223846793005 + 1442695040888963407 := rfl
theorem smu_s (x : Int64) (u : HS) (i : Nat) : smu x u (i + 1) = tur (rof (lcx x (i + 1))) (smu x u i) := rfl
theorem ok_smu {x : Int64} {u : HS} (hu : hOK u) : ∀ i, hOK (smu x u i)
  | 0 => hu
  | i + 1 => ok_tur (ok_smu hu i)
