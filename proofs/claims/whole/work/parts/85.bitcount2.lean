/-! BIT COUNT 2 -/
theorem q4_le (d : Nat) : q4 d ≤ 4 := by unfold q4; omega
theorem mix_dig {a b c : Nat} (ha : a < 16) (r : Nat) (hc : c < 16) : (a + 16 * r) &&& (c + 16 * b) = (a &&& c) + 16 * (r &&& b) := by
  rw [and_dig hc, show (a + 16 * r) % 16 = a by omega, show (a + 16 * r) / 16 = r by omega]
theorem and_15 {a : Nat} (h : a < 16) : a &&& 15 = a := by
  rw [show (15 : Nat) = 2 ^ 4 - 1 from rfl, Nat.and_two_pow_sub_one_eq_mod]; omega
theorem st3 {a b c d e f g h : Nat} (ha : a ≤ 4) (hb : b ≤ 4) (hc : c ≤ 4) (hd : d ≤ 4) (he : e ≤ 4) (hf : f ≤ 4) (hg : g ≤ 4) (hh : h ≤ 4) :
    (a + b + 16 * (b + c + 16 * (c + d + 16 * (d + e + 16 * (e + f + 16 * (f + g + 16 * (g + h + 16 * h))))))) &&& 252645135 = a + b + 256 * (c + d + 256 * (e + f + 256 * (g + h))) := by
  rw [show (252645135 : Nat) = 15 + 16 * (0 + 16 * (15 + 16 * (0 + 16 * (15 + 16 * (0 + 16 * (15 + 16 * 0)))))) by decide +kernel]
  rw [mix_dig (by omega) _ (by decide), mix_dig (by omega) _ (by decide), mix_dig (by omega) _ (by decide), mix_dig (by omega) _ (by decide), mix_dig (by omega) _ (by decide), mix_dig (by omega) _ (by decide), mix_dig (by omega) _ (by decide)]
  rw [and_15 (by omega), and_15 (by omega), and_15 (by omega), and_15 (by omega), Nat.and_zero, Nat.and_zero, Nat.and_zero, Nat.and_zero]
  omega
