/-! MATH 4: what would be -/
noncomputable def wst (a b c : Nat) : Nat := if c > (if b > a then b else a) then 2 else if b > a then 1 else 0
theorem wst_ok {a b c r : Nat} (h : (r = 0 ∧ b ≤ a ∧ c ≤ a) ∨ (r = 1 ∧ a < b ∧ c ≤ b) ∨ (r = 2 ∧ a < c ∧ b < c)) : nI (wst a b c) = nI r := by
  unfold wst
  rcases h with ⟨rfl, h1, h2⟩ | ⟨rfl, h1, h2⟩ | ⟨rfl, h1, h2⟩
  · rw [if_neg (show ¬ b > a by omega), if_neg (by omega), if_neg (by omega)]
  · rw [if_pos (show b > a by omega), if_neg (by omega), if_pos (by omega)]
  · by_cases h : b > a
    · rw [if_pos h, if_pos (by omega)]
    · rw [if_neg h, if_pos (by omega)]
theorem wst_lt (a b c : Nat) : wst a b c < 3 := by
  unfold wst
  by_cases h : b > a
  · rw [if_pos h, if_pos h]
    split <;> omega
  · rw [if_neg h, if_neg h]
    split <;> omega
/-- wrong ones, were a storey's skipping the other way -/
noncomputable def tg (n g : Nat) (sk : Int32) (f : Nat → Int32) (q : Nat) : Nat := tw (rn (skp sk q (¬ bt sk q = true)) g 0 n f) n
theorem tw_le (f : Nat → Int32) {n : Nat} (h : n ≤ 16) : tw f n ≤ 64 := by
  have h2 := wr_le f 2 n
  have h3 := wr_le f 3 n
  have h4 := wr_le f 4 n
  have h5 := wr_le f 5 n
  unfold tw
  omega
theorem tg_le (n g : Nat) (sk : Int32) (f : Nat → Int32) (q : Nat) (h : n ≤ 16) : tg n g sk f q ≤ 64 := tw_le _ h
def lsF (w : Nat → Nat) (l0 : Nat) : Nat → Nat
  | 0 => l0
  | k + 1 => if w (k + 1) < lsF w l0 k then w (k + 1) else lsF w l0 k
def bsF (w : Nat → Nat) (l0 : Nat) : Nat → Int32
  | 0 => -1
  | k + 1 => if w (k + 1) < lsF w l0 k then nI (k + 1) else bsF w l0 k
theorem lsF_le {w : Nat → Nat} {l0 : Nat} (h : l0 ≤ 64) : ∀ k, lsF w l0 k ≤ 64
  | 0 => h
  | k + 1 => by
    have h1 := lsF_le (w := w) h k
    show (if w (k + 1) < lsF w l0 k then w (k + 1) else lsF w l0 k) ≤ 64
    split <;> omega
theorem lsF_t {w : Nat → Nat} {l0 q : Nat} (h1 : 1 ≤ q) (h : w q < lsF w l0 (q - 1)) : lsF w l0 (q + 1 - 1) = w q := by
  obtain ⟨k, rfl⟩ : ∃ k, q = k + 1 := ⟨q - 1, by omega⟩
  exact if_pos h
theorem lsF_f {w : Nat → Nat} {l0 q : Nat} (h1 : 1 ≤ q) (h : lsF w l0 (q - 1) ≤ w q) : lsF w l0 (q + 1 - 1) = lsF w l0 (q - 1) := by
  obtain ⟨k, rfl⟩ : ∃ k, q = k + 1 := ⟨q - 1, by omega⟩
  exact if_neg (Nat.not_lt.mpr h)
theorem bsF_t {w : Nat → Nat} {l0 q : Nat} (h1 : 1 ≤ q) (h : w q < lsF w l0 (q - 1)) : bsF w l0 (q + 1 - 1) = nI q := by
  obtain ⟨k, rfl⟩ : ∃ k, q = k + 1 := ⟨q - 1, by omega⟩
  exact if_pos h
theorem bsF_f {w : Nat → Nat} {l0 q : Nat} (h1 : 1 ≤ q) (h : lsF w l0 (q - 1) ≤ w q) : bsF w l0 (q + 1 - 1) = bsF w l0 (q - 1) := by
  obtain ⟨k, rfl⟩ : ∃ k, q = k + 1 := ⟨q - 1, by omega⟩
  exact if_neg (Nat.not_lt.mpr h)
/-- the first, or a later one -/
def it {α : Type} (q : Nat) (a b : α) : α := if q ≤ 1 then a else b
theorem it_s {α : Type} {q : Nat} {a b : α} (h : 1 ≤ q) : it (q + 1) a b = b := if_neg (by omega)
noncomputable def wo (f : Nat → Int32) (lv : Nat) : Nat := nb (¬ f (32 + lv) = f (16 + lv)) + nb (¬ f (48 + lv) = f (16 + lv)) + nb (¬ f (64 + lv) = f (16 + lv)) + nb (¬ f (80 + lv) = f (16 + lv))
theorem nb_ct {p : Nat → Prop} {i n : Nat} (h : i < n) : nb (p i) ≤ ct p n := by
  have h1 := ct_mono p (show i + 1 ≤ n by omega)
  by_cases hp : p i
  · rw [nb_t hp]
    rw [ct_t hp] at h1
    omega
  · rw [nb_f hp]; omega
theorem wo_le (f : Nat → Int32) {lv n : Nat} (h : lv < n) : wo f lv ≤ tw f n := by
  have h2 : nb (¬ f (32 + lv) = f (16 + lv)) ≤ wr f 2 n := nb_ct (p := fun x_ => ¬ f (2 * 16 + x_) = f (16 + x_)) h
  have h3 : nb (¬ f (48 + lv) = f (16 + lv)) ≤ wr f 3 n := nb_ct (p := fun x_ => ¬ f (3 * 16 + x_) = f (16 + x_)) h
  have h4 : nb (¬ f (64 + lv) = f (16 + lv)) ≤ wr f 4 n := nb_ct (p := fun x_ => ¬ f (4 * 16 + x_) = f (16 + x_)) h
  have h5 : nb (¬ f (80 + lv) = f (16 + lv)) ≤ wr f 5 n := nb_ct (p := fun x_ => ¬ f (5 * 16 + x_) = f (16 + x_)) h
  unfold wo tw
  omega
