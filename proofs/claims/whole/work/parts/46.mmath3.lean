/-! MODEL MATH 3: the diary; when a change is made -/
theorem wna_ok {n lv k : Nat} (h : lv ≤ n) (h2 : k < 4) (h3 : n < 16) : wna n (lv : Int) (k : Int) = 0 := by
  unfold wna
  rw [if_neg (fun z_ => z_ ⟨by omega, by omega⟩), if_neg (fun z_ => z_ ⟨by omega, by omega⟩), if_neg (by omega)]
theorem wnr_ok {n g lv : Nat} (h : lv < n) (h2 : lv ≠ g) : wnr n g (lv : Int) = 0 := by
  unfold wnr
  rw [if_neg (fun z_ => z_ ⟨by omega, by omega⟩), if_neg (by omega)]
theorem wnk_ok {n g lv k : Nat} (h : lv < n) (h2 : k < 4) (h3 : ¬ (lv = g ∧ k ≠ 0)) : wnk n g (lv : Int) (k : Int) = 0 := by
  unfold wnk
  rw [if_neg (fun z_ => z_ ⟨by omega, by omega⟩), if_neg (fun z_ => z_ ⟨by omega, by omega⟩), if_neg (by omega)]
theorem wna_le (n : Nat) (x k : Int) : wna n x k ≤ 3 := by
  unfold wna; split; · omega
  split; · omega
  split <;> omega
theorem wnr_le (n g : Nat) (x : Int) : wnr n g x ≤ 3 := by
  unfold wnr; split; · omega
  split <;> omega
theorem wnk_le (n g : Nat) (x k : Int) : wnk n g x k ≤ 3 := by
  unfold wnk; split; · omega
  split; · omega
  split <;> omega
/-- the diary, moved down by one -/
def dsh (i : Nat) (d : Nat → Int32) : Nat → Int32 := fun j => if j < i then d (j + 131) else d j
theorem dsh_0 {d : Nat → Int32} : dsh 0 d = d := by
  funext j
  unfold dsh
  rw [if_neg (by omega)]
theorem dsh_s {i : Nat} {d : Nat → Int32} : upd (dsh i d) i (d (i + 131)) = dsh (i + 1) d := by
  funext j
  unfold dsh upd
  by_cases hj : j = i
  · subst hj
    rw [if_pos rfl, if_pos (by omega)]
  · rw [if_neg hj]
    dsimp only
    by_cases h2 : j < i
    · rw [if_pos h2, if_pos (by omega)]
    · rw [if_neg h2, if_neg (by omega)]
theorem dsh_r {i : Nat} {d : Nat → Int32} : dsh i d (i + 131) = d (i + 131) := by
  unfold dsh
  rw [if_neg (by omega)]
/-- the diary after one more row -/
def dput (ac : Nat) (d row : Nat → Int32) : Nat → Int32 := if ac = 14 then pur (dsh 1703 d) (131 * 13) row 131 else pur d (131 * ac) row 131
theorem dput_t {ac : Nat} {d row : Nat → Int32} (h : ac = 14) : dput ac d row = pur (dsh 1703 d) (131 * 13) row 131 := if_pos h
theorem dput_f {ac : Nat} {d row : Nat → Int32} (h : ¬ ac = 14) : dput ac d row = pur d (131 * ac) row 131 := if_neg h
theorem fz (row : Nat → Int32) : (fun j_ => row (0 + j_)) = row := by
  funext j
  rw [Nat.zero_add]
theorem pur_c {d row row' : Nat → Int32} {b i : Nat} (h : ∀ j, j < i → row j = row' j) : pur d b row i = pur d b row' i := by
  funext j
  unfold pur
  by_cases hj : b ≤ j ∧ j < b + i
  · rw [if_pos hj, if_pos hj, h _ (by omega)]
  · rw [if_neg hj, if_neg hj]
theorem pur_mr2 {d row m4 : Nat → Int32} {n4 : Nat} {g4 s4 : Int32} (h : ∀ j, j < 131 → row j = mr n4 g4 s4 m4 j) : pur d 0 row 131 = mr n4 g4 s4 (pur d 0 m4 131) := by
  rw [pur_c h, pur_mr]
theorem pur_mr3 {m row m4 : Nat → Int32} {n n4 : Nat} {gI sk g4 s4 : Int32} (h : ∀ j, j < 131 → row j = mr n4 g4 s4 m4 j) : pur (mr n gI sk m) 0 row 131 = mr n4 g4 s4 (pur m 0 m4 131) := by
  have e : pur (mr n gI sk m) 0 m4 131 = pur m 0 m4 131 := by
    funext j
    unfold pur
    by_cases hj : 0 ≤ j ∧ j < 0 + 131
    · rw [if_pos hj, if_pos hj]
    · rw [if_neg hj, if_neg hj]
      exact mr_j (by omega)
  rw [pur_mr2 h, e]
