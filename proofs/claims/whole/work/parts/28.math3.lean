/-! MATH 3: rides -/
def stp (f : Nat → Int32) (ca x : Nat) : Prop := ¬ f (16 + x) = -1 ∧ f ((6 + ca) * 16 + x) = 1
noncomputable def dst (f : Nat → Int32) (n ca fr : Nat) (na : Int32) : Int32 := @ite Int32 (na = -1 ∨ ¬ stp f ca fr) (Classical.propDecidable _) (-1) (kth (fun x_ => x_ ≠ fr ∧ stp f ca x_ ∧ f ((3 + ca) * 16 + x_) = na) n 0 0)
theorem dst_n {f : Nat → Int32} {n ca fr : Nat} {na : Int32} (h : na = -1 ∨ ¬ stp f ca fr) : dst f n ca fr na = -1 := if_pos h
theorem dst_s {f : Nat → Int32} {n ca fr : Nat} {na : Int32} (h : ¬ na = -1) (h2 : stp f ca fr) : dst f n ca fr na = kth (fun x_ => x_ ≠ fr ∧ stp f ca x_ ∧ f ((3 + ca) * 16 + x_) = na) n 0 0 := if_neg (fun z => z.elim h (fun z2 => z2 h2))
def astp (f : Nat → Int32) (n ca fr to : Nat) : Prop := fr ≠ to ∧ stp f ca fr ∧ stp f ca to ∧ ¬ dst f n ca fr (f ((3 + ca) * 16 + to)) = nI to
noncomputable def ast1 (f : Nat → Int32) (n ca fr to : Nat) : Nat := ct (fun x_ => astp f n ca fr x_) to
noncomputable def ast (f : Nat → Int32) (n ca i : Nat) : Nat := fb_sm (fun fr => ast1 f n ca fr n) i
theorem ast_s (f : Nat → Int32) (n ca i : Nat) : ast f n ca (i + 1) = ast f n ca i + ast1 f n ca i n := rfl
theorem ast1_le (f : Nat → Int32) (n ca fr to : Nat) : ast1 f n ca fr to ≤ to := ct_le _ _
theorem ast_le (f : Nat → Int32) {n : Nat} (ca : Nat) (hn : n ≤ 16) : ∀ i, ast f n ca i ≤ i * 16
  | 0 => Nat.le_refl 0
  | i + 1 => by
    have h1 := ast_le f ca hn i
    have h2 := ast1_le f n ca i n
    rw [ast_s]
    omega
def lds (f : Nat → Int32) (n fr to : Nat) : Prop := ∃ ca, ca < 3 ∧ dst f n ca fr (f ((3 + ca) * 16 + to)) = nI to
theorem lds_no {f : Nat → Int32} {n fr to : Nat} (h0 : ¬ dst f n 0 fr (f (48 + to)) = nI to) (h1 : ¬ dst f n 1 fr (f (64 + to)) = nI to) (h2 : ¬ dst f n 2 fr (f (80 + to)) = nI to) : ¬ lds f n fr to := by
  intro ⟨ca, hc, h⟩
  rcases (show ca = 0 ∨ ca = 1 ∨ ca = 2 by omega) with rfl | rfl | rfl
  · exact h0 h
  · exact h1 h
  · exact h2 h
/-- the mask of some of the first numbers -/
noncomputable def msk (S : Nat → Prop) : Nat → Int32
  | 0 => 0
  | i + 1 => @ite Int32 (S i) (Classical.propDecidable _) (msk S i ||| bitv i) (msk S i)
theorem bt_msk {S : Nat → Prop} : ∀ {n : Nat}, n ≤ 32 → ∀ {t : Nat}, t < 32 → (bt (msk S n) t = true ↔ t < n ∧ S t)
  | 0, _, t, _ => by
    show bt 0 t = true ↔ _
    rw [b_0]
    simp
  | i + 1, hi, t, ht => by
    have h1 := bt_msk (S := S) (n := i) (by omega) ht
    by_cases h : S i
    · show bt (@ite Int32 (S i) (Classical.propDecidable _) (msk S i ||| bitv i) (msk S i)) t = true ↔ _
      rw [if_pos h, b_or, bt_bitv (by omega) ht, Bool.or_eq_true, h1, decide_eq_true_eq]
      constructor
      · rintro (⟨a, b⟩ | rfl)
        · exact ⟨by omega, b⟩
        · exact ⟨by omega, h⟩
      · rintro ⟨a, b⟩
        by_cases hti : t = i
        · exact Or.inr hti
        · exact Or.inl ⟨by omega, b⟩
    · show bt (@ite Int32 (S i) (Classical.propDecidable _) (msk S i ||| bitv i) (msk S i)) t = true ↔ _
      rw [if_neg h, h1]
      constructor
      · rintro ⟨a, b⟩
        exact ⟨by omega, b⟩
      · rintro ⟨a, b⟩
        refine ⟨?_, b⟩
        by_cases hti : t = i
        · exact absurd (hti ▸ b) h
        · omega
theorem msk_of {F : Int32} {S : Nat → Prop} (h : ∀ t, t < 32 → (bt F t = true ↔ S t)) : F = msk S 32 := by
  refine b_ext fun t ht => ?_
  have h1 := bt_msk (S := S) (n := 32) (Nat.le_refl _) ht
  have h2 := h t ht
  by_cases hs : S t
  · rw [h2.mpr hs, h1.mpr ⟨ht, hs⟩]
  · have e1 : bt F t = false := by
      cases hb : bt F t
      · rfl
      · exact absurd (h2.mp hb) hs
    have e2 : bt (msk S 32) t = false := by
      cases hb : bt (msk S 32) t
      · rfl
      · exact absurd (h1.mp hb).2 hs
    rw [e1, e2]
/-- where one ride more leads -/
def ortS (f : Nat → Int32) (n : Nat) (M : Int32) (t : Nat) : Prop := t < n ∧ ¬ bt M t = true ∧ ∃ fr, fr < n ∧ bt M fr = true ∧ lds f n fr t
noncomputable def ort (f : Nat → Int32) (n : Nat) (M : Int32) : Int32 := msk (ortS f n M) 32
/-- so far as two loops have come -/
def ortI (f : Nat → Int32) (n : Nat) (M : Int32) (a b : Nat) (F : Int32) : Prop := ∀ t, t < 32 → (bt F t = true ↔ t < n ∧ ¬ bt M t = true ∧ ∃ fr, (fr < a ∨ (fr = a ∧ t < b)) ∧ bt M fr = true ∧ lds f n fr t)
theorem ortI_0 {f : Nat → Int32} {n : Nat} {M : Int32} : ortI f n M 0 0 (nI 0) := by
  intro t ht
  have h0 : bt (nI 0) t = false := b_0 t
  rw [h0]
  constructor
  · intro h; cases h
  · rintro ⟨-, -, fr, h, -⟩
    omega
theorem ortI_row {f : Nat → Int32} {n : Nat} {M : Int32} {a b : Nat} {F : Int32} (h : ortI f n M a b F) (hb : n ≤ b) : ortI f n M (a + 1) 0 F := by
  intro t ht
  rw [h t ht]
  constructor
  · rintro ⟨h1, h2, fr, h3, h4⟩
    exact ⟨h1, h2, fr, by omega, h4⟩
  · rintro ⟨h1, h2, fr, h3, h4⟩
    refine ⟨h1, h2, fr, ?_, h4⟩
    by_cases hf : fr = a
    · exact Or.inr ⟨hf, by omega⟩
    · exact Or.inl (by omega)
theorem ortI_no {f : Nat → Int32} {n : Nat} {M : Int32} {a b : Nat} {F : Int32} (h : ortI f n M a b F) (hno : ¬ (bt M a = true ∧ ¬ bt M b = true ∧ lds f n a b)) : ortI f n M a (b + 1) F := by
  intro t ht
  rw [h t ht]
  constructor
  · rintro ⟨h1, h2, fr, h3, h4⟩
    exact ⟨h1, h2, fr, by omega, h4⟩
  · rintro ⟨h1, h2, fr, h3, h4, h5⟩
    refine ⟨h1, h2, fr, ?_, h4, h5⟩
    by_cases hf : fr = a
    · subst hf
      by_cases htb : t = b
      · subst htb
        exact absurd ⟨h4, h2, h5⟩ hno
      · exact Or.inr ⟨rfl, by omega⟩
    · exact Or.inl (by omega)
theorem ortI_yes {f : Nat → Int32} {n : Nat} {M : Int32} {a b : Nat} {F : Int32} (h : ortI f n M a b F) (hb : b < n) (hn : n ≤ 16) (h1 : bt M a = true) (h2 : ¬ bt M b = true) (h3 : lds f n a b) : ortI f n M a (b + 1) (F ||| bitv b) := by
  intro t ht
  rw [b_or, bt_bitv (by omega) ht, Bool.or_eq_true, h t ht, decide_eq_true_eq]
  constructor
  · rintro (⟨g1, g2, fr, g3, g4⟩ | rfl)
    · exact ⟨g1, g2, fr, by omega, g4⟩
    · exact ⟨hb, h2, a, by omega, h1, h3⟩
  · rintro ⟨g1, g2, fr, g3, g4, g5⟩
    by_cases htb : t = b
    · exact Or.inr htb
    · refine Or.inl ⟨g1, g2, fr, by omega, g4, g5⟩
theorem ortI_end {f : Nat → Int32} {n : Nat} {M : Int32} {a b : Nat} {F : Int32} (h : ortI f n M a b F) (ha : a = n) (hb : b = 0) : F = ort f n M := by
  refine msk_of (fun t ht => ?_)
  rw [h t ht]
  unfold ortS
  constructor
  · rintro ⟨h1, h2, fr, h3, h4⟩
    exact ⟨h1, h2, fr, by omega, h4⟩
  · rintro ⟨h1, h2, fr, h3, h4⟩
    exact ⟨h1, h2, fr, by omega, h4⟩
/-- the fewest rides, as they are sought -/
noncomputable def fwF (f : Nat → Int32) (n to : Nat) : Nat → Nat → Int32 → Int32
  | 0, _, _ => -1
  | k + 1, i, M => @ite Int32 (bt M to = true) (Classical.propDecidable _) (nI i) (@ite Int32 (M ||| ort f n M = M) (Classical.propDecidable _) (-1) (fwF f n to k (i + 1) (M ||| ort f n M)))
theorem fwF_t {f : Nat → Int32} {n to k i : Nat} {M : Int32} (h : bt M to = true) : fwF f n to (k + 1) i M = nI i := if_pos h
theorem fwF_e {f : Nat → Int32} {n to k i : Nat} {M : Int32} (h : ¬ bt M to = true) (h2 : M ||| ort f n M = M) : fwF f n to (k + 1) i M = -1 := by
  show @ite Int32 (bt M to = true) (Classical.propDecidable _) _ _ = _
  rw [if_neg h, if_pos h2]
theorem fwF_s {f : Nat → Int32} {n to k i : Nat} {M : Int32} (h : ¬ bt M to = true) (h2 : ¬ M ||| ort f n M = M) : fwF f n to (k + 1) i M = fwF f n to k (i + 1) (M ||| ort f n M) := by
  show @ite Int32 (bt M to = true) (Classical.propDecidable _) _ _ = _
  rw [if_neg h, if_neg h2]
theorem sk_n0 {M : Int32} {t : Nat} (ht : t < 32) (h : ¬ ((M.toUInt32 >>> ((nI t).toUInt32 &&& Int32.toUInt32 31)).toInt32 &&& nI 1) = 0) : bt M t = true := by
  cases hb : bt M t
  · exfalso
    apply h
    refine b_ext fun i _ => ?_
    rw [b_and, b_ushr t ht]
    by_cases hi : i = 0
    · subst hi
      rw [Nat.add_zero, hb, b_0]; rfl
    · have h2 : bt (nI 1) i = false := by
        show BitVec.getLsbD (nI 1).toBitVec i = false
        have e : (nI 1).toBitVec = 1#32 := rfl
        rw [e, BitVec.getLsbD_one]
        simp [hi]
      rw [h2, Bool.and_false, b_0]
  · rfl
theorem sk_0 {M : Int32} {t : Nat} (ht : t < 32) (h : ((M.toUInt32 >>> ((nI t).toUInt32 &&& Int32.toUInt32 31)).toInt32 &&& nI 1) = 0) : ¬ bt M t = true := by
  intro hb
  have h1 := (sk_u M ht).mpr hb
  have h2 : ((M.toUInt32 >>> ((nI t).toUInt32 &&& Int32.toUInt32 31)).toInt32 &&& 1) = 0 := h
  rw [h1] at h2
  exact absurd h2 (by decide)
