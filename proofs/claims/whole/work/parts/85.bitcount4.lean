/-! BIT COUNT 4 -/
theorem ct_add (p : Nat → Prop) (a : Nat) : ∀ m, ct p (a + m) = ct p a + ct (fun t => p (a + t)) m
  | 0 => rfl
  | m + 1 => by
    have ih := ct_add p a m
    by_cases h : p (a + m)
    · rw [show a + (m + 1) = (a + m) + 1 from rfl, ct_t h, ct_t (p := fun t => p (a + t)) h, ih]; omega
    · rw [show a + (m + 1) = (a + m) + 1 from rfl, ct_f h, ct_f (p := fun t => p (a + t)) h, ih]
theorem ct_b (p : Nat → Prop) (i v : Nat) (h : p i ↔ v % 2 = 1) : ct p (i + 1) = ct p i + v % 2 := by
  by_cases hp : p i
  · rw [ct_t hp, h.mp hp]
  · rw [ct_f hp]
    have : ¬ v % 2 = 1 := fun z => hp (h.mpr z)
    omega
theorem tb_i (N i : Nat) : (N.testBit i = true) ↔ N / 2 ^ i % 2 = 1 := by
  rw [Nat.testBit_eq_decide_div_mod_eq, decide_eq_true_eq]
theorem ct_4 (N : Nat) : ct (fun t => N.testBit t = true) 4 = q4 (N % 16) := by
  have h0 := ct_b (fun t => N.testBit t = true) 0 _ (tb_i N 0)
  have h1 := ct_b (fun t => N.testBit t = true) 1 _ (tb_i N 1)
  have h2 := ct_b (fun t => N.testBit t = true) 2 _ (tb_i N 2)
  have h3 := ct_b (fun t => N.testBit t = true) 3 _ (tb_i N 3)
  have hz : ct (fun t => N.testBit t = true) 0 = 0 := rfl
  rw [h3, h2, h1, h0, hz]
  unfold q4
  rw [show (2 : Nat) ^ 0 = 1 from rfl, show (2 : Nat) ^ 1 = 2 from rfl, show (2 : Nat) ^ 2 = 4 from rfl, show (2 : Nat) ^ 3 = 8 from rfl]
  omega
theorem ct_C4 : ∀ (k N : Nat), ct (fun t => N.testBit t = true) (4 * k) = C4 k N
  | 0, _ => rfl
  | k + 1, N => by
    have ih := ct_C4 k (N / 16)
    rw [show 4 * (k + 1) = 4 + 4 * k by omega, ct_add, ct_4]
    show _ = q4 (N % 16) + C4 k (N / 16)
    rw [← ih]
    refine congrArg (q4 (N % 16) + ·) (ct_c (fun t _ => ?_))
    rw [show N / 16 = N / 2 ^ 4 from rfl, Nat.testBit_div_two_pow, Nat.add_comm]
theorem bcj_ct (x : Int32) : bcj x = nI (ct (fun t => bt x t = true) 32) := by
  obtain ⟨N, hN, rfl⟩ := wb_of32 x
  rw [bcN hN, ← ct_C4 8 N]
  refine congrArg nI (ct_c (fun t ht => ?_))
  show _ ↔ BitVec.getLsbD (BitVec.ofNat 32 N) t = true
  rw [BitVec.getLsbD_ofNat, Bool.and_eq_true, decide_eq_true_eq]
  exact ⟨fun z => ⟨ht, z⟩, fun z => z.2⟩
/-- only storeys from 1 to 30 are skipped -/
def sOK (sk : Int32) : Prop := ¬ bt sk 0 = true ∧ ¬ bt sk 31 = true
theorem BCT_bcj {sk : Int32} (h : sOK sk) : nI (ct (fun x_ => 1 ≤ x_ ∧ bt sk x_ = true) 31) = bcj sk := by
  rw [bcj_ct]
  refine congrArg nI ?_
  rw [ct_f (p := fun t => bt sk t = true) (n := 31) h.2]
  refine ct_c (fun t _ => ⟨fun z => z.2, fun z => ⟨?_, z⟩⟩)
  rcases Nat.eq_zero_or_pos t with rfl | h1
  · exact absurd z h.1
  · exact h1
theorem sOK_0 : sOK 0 := ⟨by rw [b_0]; decide, by rw [b_0]; decide⟩
theorem sOK_skp {sk : Int32} {q : Nat} {P : Prop} (h : sOK sk) (hq : 1 ≤ q ∧ q ≤ 30) : sOK (skp sk q P) := by
  refine ⟨fun z => ?_, fun z => ?_⟩
  · rcases (bt_skp (by omega) (by decide)).mp z with y | y
    · omega
    · exact h.1 y.2
  · rcases (bt_skp (by omega) (by decide)).mp z with y | y
    · omega
    · exact h.2 y.2
theorem sOK_stS {cd : Nat → Nat} : ∀ (k i b v : Nat) (B : Int32), v ≤ 30 → sOK B → sOK (stS cd k i b v B)
  | 0, i, b, v, B, hv, h => by
    show sOK (if b < v then skp B v True else B)
    split
    · exact sOK_skp h (by omega)
    · exact h
  | k + 1, i, b, v, B, hv, h => by
    show sOK (if cd i = 44 then (if v ≤ b then B else stS cd k (i + 1) v 0 (skp B v True)) else if 48 ≤ cd i ∧ cd i ≤ 57 ∧ 1 ≤ 10 * v + cd i - 48 ∧ 10 * v + cd i - 48 ≤ 30 then stS cd k (i + 1) b (10 * v + cd i - 48) B else if v ≤ b then B else skp B v True)
    split
    · split
      · exact h
      · exact sOK_stS k (i + 1) v 0 _ (by omega) (sOK_skp h (by omega))
    · split
      · rename_i _ h4
        exact sOK_stS k (i + 1) b _ _ h4.2.2.2 h
      · split
        · exact h
        · exact sOK_skp h (by omega)
theorem sOK_mbt (cd : Nat → Nat) (sz : Nat) : sOK (mbt cd sz) := by
  unfold mbt
  split
  · exact sOK_0
  split
  · exact sOK_0
  · exact sOK_stS _ _ _ _ _ (by omega) sOK_0
