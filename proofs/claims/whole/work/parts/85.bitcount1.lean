/-! BIT COUNT: what Integer.bitCount reckons is how many bits are set -/
def q4 (d : Nat) : Nat := d % 2 + d / 2 % 2 + d / 4 % 2 + d / 8 % 2
def R4 : Nat → Nat → Nat
  | 0, _ => 0
  | k + 1, x => q4 (x % 16) + 16 * R4 k (x / 16)
def C4 : Nat → Nat → Nat
  | 0, _ => 0
  | k + 1, x => q4 (x % 16) + C4 k (x / 16)
def M16 (c : Nat) : Nat → Nat
  | 0 => 0
  | k + 1 => c + 16 * M16 c k
theorem and_dig {x c m : Nat} (hc : c < 16) : x &&& (c + 16 * m) = (x % 16 &&& c) + 16 * (x / 16 &&& m) := by
  have e1 : (x &&& (c + 16 * m)) % 2 ^ 4 = (x % 2 ^ 4) &&& ((c + 16 * m) % 2 ^ 4) := Nat.and_mod_two_pow
  have e2 : (x &&& (c + 16 * m)) / 2 ^ 4 = (x / 2 ^ 4) &&& ((c + 16 * m) / 2 ^ 4) := Nat.and_div_two_pow
  rw [show (2 : Nat) ^ 4 = 16 from rfl, show (c + 16 * m) % 16 = c by omega] at e1
  rw [show (2 : Nat) ^ 4 = 16 from rfl, show (c + 16 * m) / 16 = m by omega] at e2
  rw [← e1, ← e2]
  omega
theorem q4_5 : ∀ t, t < 32 → (t % 16) - ((t / 2) % 16 &&& 5) = (t % 16) - ((t % 16) / 2 &&& 5) ∧ ((t / 2) % 16 &&& 5) ≤ t % 16 := by decide +kernel
def r5 (d : Nat) : Nat := d - (d / 2 &&& 5)
theorem r5_q : ∀ d, d < 16 → r5 d < 16 ∧ (r5 d % 16 &&& 3) + ((r5 d / 4) % 16 &&& 3) = q4 d ∧ q4 d ≤ 4 := by decide +kernel
def R5 : Nat → Nat → Nat
  | 0, _ => 0
  | k + 1, x => r5 (x % 16) + 16 * R5 k (x / 16)
theorem st1 : ∀ (k x : Nat), x < 16 ^ k → x - (x / 2 &&& M16 5 k) = R5 k x ∧ (x / 2 &&& M16 5 k) ≤ x
  | 0, x, h => by
    have : x = 0 := by rw [Nat.pow_zero] at h; omega
    subst this
    exact ⟨rfl, Nat.le_refl _⟩
  | k + 1, x, h => by
    have h1 : x / 16 < 16 ^ k := by rw [Nat.pow_succ] at h; omega
    obtain ⟨i1, i2⟩ := st1 k (x / 16) h1
    have e : x / 2 &&& M16 5 (k + 1) = (x / 2 % 16 &&& 5) + 16 * (x / 16 / 2 &&& M16 5 k) := by
      show x / 2 &&& (5 + 16 * M16 5 k) = _
      rw [and_dig (by decide), show x / 2 / 16 = x / 16 / 2 by omega]
    obtain ⟨j1, j2⟩ := q4_5 (x % 32) (by omega)
    rw [show x % 32 % 16 = x % 16 by omega, show x % 32 / 2 % 16 = x / 2 % 16 by omega] at j1 j2
    have e2 : R5 (k + 1) x = r5 (x % 16) + 16 * R5 k (x / 16) := rfl
    rw [e, e2, ← i1]
    unfold r5
    omega
theorem st2 : ∀ (k x : Nat), (R5 k x &&& M16 3 k) + (R5 k x / 4 &&& M16 3 k) = R4 k x
  | 0, x => by
    show (0 &&& 0) + (0 / 4 &&& 0) = 0
    decide
  | k + 1, x => by
    have ih := st2 k (x / 16)
    obtain ⟨h1, h2, -⟩ := r5_q (x % 16) (by omega)
    have e2 : R5 (k + 1) x = r5 (x % 16) + 16 * R5 k (x / 16) := rfl
    have em : M16 3 (k + 1) = 3 + 16 * M16 3 k := rfl
    have er : R4 (k + 1) x = q4 (x % 16) + 16 * R4 k (x / 16) := rfl
    rw [e2, em, er, and_dig (by decide), and_dig (by decide)]
    rw [show (r5 (x % 16) + 16 * R5 k (x / 16)) % 16 = r5 (x % 16) % 16 by omega, show (r5 (x % 16) + 16 * R5 k (x / 16)) / 16 = R5 k (x / 16) by omega]
    rw [show (r5 (x % 16) + 16 * R5 k (x / 16)) / 4 % 16 &&& 3 = (r5 (x % 16) / 4) % 16 &&& 3 from by
      have a1 : ∀ y : Nat, y &&& 3 = y % 4 := fun y => Nat.and_two_pow_sub_one_eq_mod y 2
      rw [a1, a1]; omega]
    rw [show (r5 (x % 16) + 16 * R5 k (x / 16)) / 4 / 16 = R5 k (x / 16) / 4 by omega]
    omega
