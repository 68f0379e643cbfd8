/-! BIT COUNT 3 -/
theorem fin2 {a b c d e f g h z : Nat} (ha : a ≤ 4) (hb : b ≤ 4) (hc : c ≤ 4) (hd : d ≤ 4) (he : e ≤ 4) (hf : f ≤ 4) (hg : g ≤ 4) (hh : h ≤ 4) (hz : z = a + b + 256 * (c + d + 256 * (e + f + 256 * (g + h)))) : bce (bcd (nI z)) &&& nI 63 = nI (a + (b + (c + (d + (e + (f + (g + (h + 0)))))))) := by
  have z1 : z / 256 = c + d + 256 * (e + f + 256 * (g + h)) := by omega
  have z2 : (z + z / 256) / 65536 = (e + f + 256 * (g + h)) + (g + h) := by omega
  have b1 : z < 2 ^ 32 := by omega
  have b2 : z + z / 256 < 2 ^ 32 := by omega
  have e4 : bcd (nI z) = nI (z + z / 256) := by
    unfold bcd
    rw [pk_ushrN b1 (nI 8) 8 (by decide +kernel), nI_add]
  have e5 : bce (nI (z + z / 256)) = nI (z + z / 256 + (z + z / 256) / 65536) := by
    unfold bce
    rw [pk_ushrN b2 (nI 16) 16 (by decide +kernel), nI_add]
  rw [e4, e5, fa_and]
  refine congrArg nI ?_
  rw [show (63 : Nat) = 2 ^ 6 - 1 by decide +kernel, Nat.and_two_pow_sub_one_eq_mod, z2, z1, show (2 : Nat) ^ 6 = 64 by decide +kernel]
  omega
theorem fin3 {a b c d e f g h z : Nat} (ha : a ≤ 4) (hb : b ≤ 4) (hc : c ≤ 4) (hd : d ≤ 4) (he : e ≤ 4) (hf : f ≤ 4) (hg : g ≤ 4) (hh : h ≤ 4) (hz : z = a + 16 * (b + 16 * (c + 16 * (d + 16 * (e + 16 * (f + 16 * (g + 16 * (h + 16 * 0)))))))) : bcc (nI z) = nI (a + b + 256 * (c + d + 256 * (e + f + 256 * (g + h)))) := by
  have b1 : z < 2 ^ 32 := by omega
  have z1 : z + z / 16 = a + b + 16 * (b + c + 16 * (c + d + 16 * (d + e + 16 * (e + f + 16 * (f + g + 16 * (g + h + 16 * h)))))) := by omega
  unfold bcc
  rw [pk_ushrN b1 (nI 4) 4 (by decide +kernel), nI_add, show (252645135 : Int32) = nI 252645135 from rfl, fa_and, show (2 : Nat) ^ 4 = 16 by decide +kernel, z1]
  exact congrArg nI (st3 ha hb hc hd he hf hg hh)
theorem R4_s (k x : Nat) : R4 (k + 1) x = q4 (x % 16) + 16 * R4 k (x / 16) := rfl
theorem R4_z (x : Nat) : R4 0 x = 0 := rfl
theorem C4_z (x : Nat) : C4 0 x = 0 := rfl
theorem C4_s (k x : Nat) : C4 (k + 1) x = q4 (x % 16) + C4 k (x / 16) := rfl
theorem fin4 (N : Nat) : bce (bcd (bcc (nI (R4 8 N)))) &&& nI 63 = nI (C4 8 N) := by
  rw [R4_s 7, R4_s 6, R4_s 5, R4_s 4, R4_s 3, R4_s 2, R4_s 1, R4_s 0, R4_z, C4_s 7, C4_s 6, C4_s 5, C4_s 4, C4_s 3, C4_s 2, C4_s 1, C4_s 0, C4_z]
  rw [fin3 (q4_le _) (q4_le _) (q4_le _) (q4_le _) (q4_le _) (q4_le _) (q4_le _) (q4_le _) rfl]
  exact fin2 (q4_le _) (q4_le _) (q4_le _) (q4_le _) (q4_le _) (q4_le _) (q4_le _) (q4_le _) rfl
theorem fin1 {N : Nat} (hN : N < 2 ^ 32) : bcb (bca (nI N)) = nI (R4 8 N) := by
  obtain ⟨i1, i2⟩ := st1 8 N (by rw [show (16 : Nat) ^ 8 = 2 ^ 32 by decide +kernel]; exact hN)
  have m5 : M16 5 8 = 1431655765 := by decide +kernel
  have m3 : M16 3 8 = 858993459 := by decide +kernel
  have j2 := st2 8 N
  rw [m5] at i1 i2
  rw [m3] at j2
  have e1 : bca (nI N) = nI (R5 8 N) := by
    unfold bca
    rw [pk_ushrN hN (nI 1) 1 (by decide +kernel), show (1431655765 : Int32) = nI 1431655765 from rfl, fa_and, show (2 : Nat) ^ 1 = 2 by decide +kernel, pk_sub i2, i1]
  have b1 : R5 8 N < 2 ^ 32 := by rw [← i1]; exact Nat.lt_of_le_of_lt (Nat.sub_le _ _) hN
  rw [e1]
  unfold bcb
  rw [pk_ushrN b1 (nI 2) 2 (by decide +kernel), show (858993459 : Int32) = nI 858993459 from rfl, fa_and, fa_and, nI_add, show (2 : Nat) ^ 2 = 4 by decide +kernel, j2]
theorem bcN {N : Nat} (hN : N < 2 ^ 32) : bcj (nI N) = nI (C4 8 N) := by
  unfold bcj
  rw [fin1 hN]
  exact fin4 N
