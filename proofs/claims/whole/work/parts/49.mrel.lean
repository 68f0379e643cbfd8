/-! THE TIE of a row of the model to the cells of a house; rides as the model seeks them -/
def MRel (n : Nat) (sk : Int32) (g : Nat) (f m : Nat → Int32) : Prop := (∀ x, x < n → m (3 + x) = f x) ∧ (∀ x, x < n → nm sk (kdm m) g x = f (16 + x)) ∧ (∀ x, x < n → m (19 + x) = f (32 + x)) ∧ (∀ ca, ca < 3 → ∀ x, x < n → m (35 + 16 * ca + x) = f ((3 + ca) * 16 + x)) ∧ (∀ ca, ca < 3 → ∀ x, x < n → m (83 + 16 * ca + x) = f ((6 + ca) * 16 + x))
theorem MRel.nf {n g : Nat} {sk : Int32} {f m d : Nat → Int32} (h : MRel n sk g f m) {x : Nat} (hx : x < n) : nmA sk (kdm m) g 0 n d x = f (16 + x) := by
  rw [nmA_at (Nat.zero_le _) hx]; exact h.2.1 x hx
theorem orz (x : Int32) : x ||| nI 0 = x := by
  refine b_ext fun t ht => ?_
  rw [b_or, show bt (nI 0) t = false from b_0 t, Bool.or_false]
/-- so far as two loops of the model have come -/
def mrJ (f : Nat → Int32) (n : Nat) (M : Int32) (a b : Nat) (F : Int32) : Prop := ∀ t, t < 32 → (bt F t = true ↔ bt M t = true ∨ (t < n ∧ ∃ fr, (fr < a ∨ (fr = a ∧ t < b)) ∧ bt M fr = true ∧ fr ≠ t ∧ lds f n fr t))
theorem mrJ_0 {f : Nat → Int32} {n : Nat} {M : Int32} : mrJ f n M 0 0 M := by
  intro t ht
  constructor
  · exact Or.inl
  · rintro (h | ⟨-, fr, h, -⟩)
    · exact h
    · omega
theorem mrJ_row {f : Nat → Int32} {n : Nat} {M : Int32} {a b : Nat} {F : Int32} (h : mrJ f n M a b F) (hb : n ≤ b) : mrJ f n M (a + 1) 0 F := by
  intro t ht
  rw [h t ht]
  constructor
  · rintro (h0 | ⟨h1, fr, h3, h4⟩)
    · exact Or.inl h0
    · exact Or.inr ⟨h1, fr, by omega, h4⟩
  · rintro (h0 | ⟨h1, fr, h3, h4⟩)
    · exact Or.inl h0
    · refine Or.inr ⟨h1, fr, ?_, h4⟩
      by_cases hf : fr = a
      · exact Or.inr ⟨hf, by omega⟩
      · exact Or.inl (by omega)
theorem mrJ_no {f : Nat → Int32} {n : Nat} {M : Int32} {a b : Nat} {F : Int32} (h : mrJ f n M a b F) (hno : ¬ (bt M a = true ∧ a ≠ b ∧ lds f n a b)) : mrJ f n M a (b + 1) F := by
  intro t ht
  rw [h t ht]
  constructor
  · rintro (h0 | ⟨h1, fr, h3, h4⟩)
    · exact Or.inl h0
    · exact Or.inr ⟨h1, fr, by omega, h4⟩
  · rintro (h0 | ⟨h1, fr, h3, h4, h5, h6⟩)
    · exact Or.inl h0
    · refine Or.inr ⟨h1, fr, ?_, h4, h5, h6⟩
      by_cases hf : fr = a
      · subst hf
        by_cases htb : t = b
        · subst htb
          exact absurd ⟨h4, h5, h6⟩ hno
        · exact Or.inr ⟨rfl, by omega⟩
      · exact Or.inl (by omega)
theorem mrJ_yes {f : Nat → Int32} {n : Nat} {M : Int32} {a b : Nat} {F : Int32} (h : mrJ f n M a b F) (hb : b < n) (hn : n ≤ 16) (h1 : bt M a = true) (h2 : a ≠ b) (h3 : lds f n a b) : mrJ f n M a (b + 1) (F ||| bitv b) := by
  intro t ht
  rw [b_or, bt_bitv (by omega) ht, Bool.or_eq_true, h t ht, decide_eq_true_eq]
  constructor
  · rintro ((h0 | ⟨g1, fr, g3, g4⟩) | rfl)
    · exact Or.inl h0
    · exact Or.inr ⟨g1, fr, by omega, g4⟩
    · exact Or.inr ⟨hb, a, by omega, h1, h2, h3⟩
  · rintro (h0 | ⟨g1, fr, g3, g4, g5, g6⟩)
    · exact Or.inl (Or.inl h0)
    · by_cases htb : t = b
      · exact Or.inr htb
      · exact Or.inl (Or.inr ⟨g1, fr, by omega, g4, g5, g6⟩)
theorem mrJ_end {f : Nat → Int32} {n : Nat} {M : Int32} {a b : Nat} {F : Int32} (h : mrJ f n M a b F) (ha : a = n) (hb : b = 0) (hn : n ≤ 16) : F = M ||| ort f n M := by
  refine b_ext fun t ht => ?_
  rw [b_or]
  have h1 := h t ht
  have h2 := bt_msk (S := ortS f n M) (n := 32) (Nat.le_refl _) ht
  have h3 : bt (ort f n M) t = true ↔ ortS f n M t := h2.trans ⟨fun z => z.2, fun z => ⟨ht, z⟩⟩
  have h4 : (bt F t = true) ↔ ((bt M t || bt (ort f n M) t) = true) := by
    rw [h1, Bool.or_eq_true, h3]
    unfold ortS
    constructor
    · rintro (h0 | ⟨g1, fr, g3, g4, g5, g6⟩)
      · exact Or.inl h0
      · by_cases hm : bt M t = true
        · exact Or.inl hm
        · exact Or.inr ⟨g1, hm, fr, by omega, g4, g6⟩
    · rintro (h0 | ⟨g1, hm, fr, g3, g4, g6⟩)
      · exact Or.inl h0
      · exact Or.inr ⟨g1, fr, by omega, g4, fun z => hm (z ▸ g4), g6⟩
  cases hb1 : bt F t <;> cases hb2 : (bt M t || bt (ort f n M) t)
  · rfl
  · rw [h4.mpr hb2] at hb1; cases hb1
  · rw [h4.mp hb1] at hb2; cases hb2
  · rfl
/-- as the model counts: no end before the sixteenth -/
noncomputable def fwM (f : Nat → Int32) (n to : Nat) : Nat → Nat → Int32 → Int32
  | 0, _, _ => -1
  | k + 1, i, M => @ite Int32 (bt M to = true) (Classical.propDecidable _) (nI i) (fwM f n to k (i + 1) (M ||| ort f n M))
theorem fwM_t {f : Nat → Int32} {n to k i : Nat} {M : Int32} (h : bt M to = true) : fwM f n to (k + 1) i M = nI i := if_pos h
theorem fwM_f {f : Nat → Int32} {n to k i : Nat} {M : Int32} (h : ¬ bt M to = true) : fwM f n to (k + 1) i M = fwM f n to k (i + 1) (M ||| ort f n M) := if_neg h
theorem fwM_end {f : Nat → Int32} {n to : Nat} {M : Int32} (h : ¬ bt M to = true) (h2 : M ||| ort f n M = M) : ∀ (k i : Nat), fwM f n to k i M = -1
  | 0, _ => rfl
  | k + 1, i => by rw [fwM_f h, h2]; exact fwM_end h h2 k (i + 1)
theorem fwM_F {f : Nat → Int32} {n to : Nat} : ∀ (k i : Nat) (M : Int32), fwM f n to k i M = fwF f n to k i M
  | 0, _, _ => rfl
  | k + 1, i, M => by
    by_cases h : bt M to = true
    · rw [fwM_t h, fwF_t h]
    · by_cases h2 : M ||| ort f n M = M
      · rw [fwM_end h h2, fwF_e h h2]
      · rw [fwM_f h, fwF_s h h2]
        exact fwM_F k (i + 1) _
