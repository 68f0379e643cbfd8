/-! MODEL MATH 2: names laid in a row, wrong signs, rows copied -/
theorem nmA_at {sk : Int32} {k : Nat → Int32} {g a b x : Nat} {d : Nat → Int32} (h : a ≤ x) (h2 : x < b) : nmA sk k g a b d x = nm sk k g x := if_pos ⟨h, h2⟩
theorem soA_at {sk : Int32} {k : Nat → Int32} {g a b x : Nat} {d : Nat → Int32} (h : a ≤ x) (h2 : x < b) : soA sk k g a b d x = zI (sto sk k g x) := if_pos ⟨h, h2⟩
theorem nmA_cong {sk : Int32} {k k' : Nat → Int32} {g n : Nat} {d : Nat → Int32} (hg : g < n) (h : ∀ x, x < n → k x = k' x) : nmA sk k g 0 n d = nmA sk k' g 0 n d := by
  funext j
  by_cases hj : j < n
  · rw [nmA_at (Nat.zero_le _) hj, nmA_at (Nat.zero_le _) hj]
    exact nm_cong hg hj h
  · unfold nmA
    rw [if_neg (fun z_ => hj z_.2), if_neg (fun z_ => hj z_.2)]
theorem soA_cong {sk : Int32} {k k' : Nat → Int32} {g n : Nat} {d : Nat → Int32} (hg : g < n) (h : ∀ x, x < n → k x = k' x) : soA sk k g 0 n d = soA sk k' g 0 n d := by
  funext j
  by_cases hj : j < n
  · rw [soA_at (Nat.zero_le _) hj, soA_at (Nat.zero_le _) hj, sto_cong hg hj h]
  · unfold soA
    rw [if_neg (fun z_ => hj z_.2), if_neg (fun z_ => hj z_.2)]
/-- wrong signs of a row of signs or buttons -/
noncomputable def mwr (sk : Int32) (m : Nat → Int32) (g b n : Nat) : Nat := ct (fun x_ => ¬ m (b + x_) = nm sk (kdm m) g x_) n
theorem mwr_A {sk : Int32} {m : Nat → Int32} {g b n : Nat} {d : Nat → Int32} : ct (fun x_ => ¬ m (b + x_) = nmA sk (kdm m) g 0 n d x_) n = mwr sk m g b n :=
  ct_c (fun x hx => by rw [nmA_at (Nat.zero_le _) hx])
/-- names alike -/
noncomputable def mal (sk : Int32) (m : Nat → Int32) (g n : Nat) (na : Int32) : Nat := ct (fun x_ => ¬ na = -1 ∧ nm sk (kdm m) g x_ = na) n
theorem mal_A {sk na : Int32} {m : Nat → Int32} {g n : Nat} {d : Nat → Int32} : ct (fun x_ => ¬ na = -1 ∧ nmA sk (kdm m) g 0 n d x_ = na) n = mal sk m g n na :=
  ct_c (fun x hx => by rw [nmA_at (Nat.zero_le _) hx])
/-- an empty row -/
def zr (i : Nat) (f : Nat → Int32) : Nat → Int32 := fun j => if j < i then 0 else f j
theorem zr_0 {f : Nat → Int32} : zr 0 f = f := by
  funext j
  unfold zr
  rw [if_neg (by omega)]
theorem zr_s {i : Nat} {f : Nat → Int32} : upd (zr i f) i 0 = zr (i + 1) f := by
  funext j
  unfold zr upd
  by_cases hj : j = i
  · subst hj
    rw [if_pos rfl, if_pos (by omega)]
  · rw [if_neg hj]
    dsimp only
    by_cases h2 : j < i
    · rw [if_pos h2, if_pos (by omega)]
    · rw [if_neg h2, if_neg (by omega)]
theorem zr_mr {f : Nat → Int32} : zr 131 f = mr 0 (nI 0) 0 (zr 131 f) := by
  funext j
  unfold mr
  by_cases h0 : j = 0
  · subst h0; rw [if_pos rfl]; rfl
  · rw [if_neg h0]
    by_cases h1 : j = 1
    · subst h1; rw [if_pos rfl]; rfl
    · rw [if_neg h1]
      by_cases h2 : j = 2
      · subst h2; rw [if_pos rfl]; rfl
      · rw [if_neg h2]
theorem pur_at {d row : Nat → Int32} {b i j : Nat} (h : j < i) : pur d b row i (b + j) = row j := by
  unfold pur
  rw [if_pos (by omega), Nat.add_sub_cancel_left]
theorem pur_mr {d m : Nat → Int32} {n : Nat} {gI sk : Int32} : pur d 0 (mr n gI sk m) 131 = mr n gI sk (pur d 0 m 131) := by
  funext j
  unfold mr
  by_cases h0 : j = 0
  · subst h0; rw [if_pos rfl]; rfl
  · rw [if_neg h0]
    by_cases h1 : j = 1
    · subst h1; rw [if_pos rfl]; rfl
    · rw [if_neg h1]
      by_cases h2 : j = 2
      · subst h2; rw [if_pos rfl]; rfl
      · rw [if_neg h2]
        unfold pur
        by_cases h3 : 0 ≤ j ∧ j < 0 + 131
        · rw [if_pos h3, if_pos h3]
          dsimp only
          rw [if_neg (by omega), if_neg (by omega), if_neg (by omega)]
        · rw [if_neg h3, if_neg h3]
theorem pur_lt {d m : Nat → Int32} {i j : Nat} (h : j < i) : pur d 0 m i j = m j := by
  unfold pur
  rw [if_pos (by omega), Nat.sub_zero]
theorem kdm_u {m : Nat → Int32} {i n : Nat} {v : Int32} (h : 19 ≤ i) (hn : n ≤ 16) : ∀ x, x < n → kdm (upd m i v) x = kdm m x := by
  intro x hx
  unfold kdm upd
  rw [if_neg (by omega)]
/-- exchanged -/
def mxc (ca lv lm : Nat) (m : Nat → Int32) : Nat → Int32 := upd (upd m (35 + 16 * ca + lv) (m (35 + 16 * ca + lm))) (35 + 16 * ca + lm) (m (35 + 16 * ca + lv))
theorem mxc_k {m : Nat → Int32} {ca lv lm n : Nat} (hn : n ≤ 16) : ∀ x, x < n → kdm (mxc ca lv lm m) x = kdm m x := by
  intro x hx
  unfold mxc
  rw [kdm_u (by omega) hn x hx, kdm_u (by omega) hn x hx]
theorem mxc_l {m : Nat → Int32} {ca lv lm : Nat} : mxc ca lv lm m (35 + 16 * ca + lv) = m (35 + 16 * ca + lm) := by
  unfold mxc upd
  by_cases h : lv = lm
  · subst h; rw [if_pos rfl]
  · rw [if_neg (by omega), if_pos rfl]
theorem mxc_m {m : Nat → Int32} {ca lv lm : Nat} : mxc ca lv lm m (35 + 16 * ca + lm) = m (35 + 16 * ca + lv) := by
  unfold mxc upd
  rw [if_pos rfl]
/-- how many of the two are wrong afterwards -/
noncomputable def mxw (sk : Int32) (m : Nat → Int32) (g ca lv lm : Nat) : Nat := (@ite Nat (m (35 + 16 * ca + lm) = nm sk (kdm m) g lv) (Classical.propDecidable _) 0 1) + (@ite Nat (lv = lm ∨ m (35 + 16 * ca + lv) = nm sk (kdm m) g lm) (Classical.propDecidable _) 0 1)
theorem mxw_tt {sk : Int32} {m : Nat → Int32} {g ca lv lm : Nat} (h : m (35 + 16 * ca + lm) = nm sk (kdm m) g lv) (h2 : lv = lm ∨ m (35 + 16 * ca + lv) = nm sk (kdm m) g lm) : 0 + 0 = mxw sk m g ca lv lm := by
  unfold mxw; rw [if_pos h, if_pos h2]
theorem mxw_tf {sk : Int32} {m : Nat → Int32} {g ca lv lm : Nat} (h : m (35 + 16 * ca + lm) = nm sk (kdm m) g lv) (h2 : ¬ (lv = lm ∨ m (35 + 16 * ca + lv) = nm sk (kdm m) g lm)) : 0 + 1 = mxw sk m g ca lv lm := by
  unfold mxw; rw [if_pos h, if_neg h2]
theorem mxw_ft {sk : Int32} {m : Nat → Int32} {g ca lv lm : Nat} (h : ¬ m (35 + 16 * ca + lm) = nm sk (kdm m) g lv) (h2 : lv = lm ∨ m (35 + 16 * ca + lv) = nm sk (kdm m) g lm) : 1 + 0 = mxw sk m g ca lv lm := by
  unfold mxw; rw [if_neg h, if_pos h2]
theorem mxw_ff {sk : Int32} {m : Nat → Int32} {g ca lv lm : Nat} (h : ¬ m (35 + 16 * ca + lm) = nm sk (kdm m) g lv) (h2 : ¬ (lv = lm ∨ m (35 + 16 * ca + lv) = nm sk (kdm m) g lm)) : 1 + 1 = mxw sk m g ca lv lm := by
  unfold mxw; rw [if_neg h, if_neg h2]
