/-! MODEL MATH: what its changes do to a row -/
def shf (m : Nat → Int32) (fr to : Nat) : Nat → Int32 := fun j => if 3 ≤ j ∧ j < 131 ∧ (j - 3) % 16 = to then m (j - to + fr) else m j
theorem shf_ok {m : Nat → Int32} {fr to : Nat} (ht : to < 16) : upd (upd (upd (upd (upd (upd (upd (upd m (3 + to) (m (3 + fr))) (19 + to) (m (19 + fr))) (35 + to) (m (35 + fr))) (83 + to) (m (83 + fr))) (51 + to) (m (51 + fr))) (99 + to) (m (99 + fr))) (67 + to) (m (67 + fr))) (115 + to) (m (115 + fr)) = shf m fr to := by
  funext j
  unfold shf upd
  by_cases hc : 3 ≤ j ∧ j < 131 ∧ (j - 3) % 16 = to
  · rw [if_pos hc]
    have e : ∀ b : Nat, j = b + to → m (b + fr) = m (j - to + fr) := fun b h => by rw [h, Nat.add_sub_cancel]
    by_cases h1 : j = 115 + to
    · rw [if_pos h1, e _ h1]
    · rw [if_neg h1]
      by_cases h2 : j = 67 + to
      · rw [if_pos h2, e _ h2]
      · rw [if_neg h2]
        by_cases h3 : j = 99 + to
        · rw [if_pos h3, e _ h3]
        · rw [if_neg h3]
          by_cases h4 : j = 51 + to
          · rw [if_pos h4, e _ h4]
          · rw [if_neg h4]
            by_cases h5 : j = 83 + to
            · rw [if_pos h5, e _ h5]
            · rw [if_neg h5]
              by_cases h6 : j = 35 + to
              · rw [if_pos h6, e _ h6]
              · rw [if_neg h6]
                by_cases h7 : j = 19 + to
                · rw [if_pos h7, e _ h7]
                · rw [if_neg h7, if_pos (by omega), e 3 (by omega)]
  · rw [if_neg hc, if_neg (by omega), if_neg (by omega), if_neg (by omega), if_neg (by omega), if_neg (by omega), if_neg (by omega), if_neg (by omega), if_neg (by omega)]
/-- moved up by one above a level, so far as places above K go -/
def sm (lv n K : Nat) (m : Nat → Int32) : Nat → Int32 := fun j => if 3 ≤ j ∧ j < 131 ∧ lv < (j - 3) % 16 ∧ (j - 3) % 16 ≤ n ∧ K < (j - 3) % 16 then m (j - 1) else m j
theorem sm_0 {lv n : Nat} {m : Nat → Int32} : sm lv n n m = m := by
  funext j
  unfold sm
  rw [if_neg (by omega)]
theorem sm_step {lv n K : Nat} {m : Nat → Int32} (h : lv < K) (h2 : K ≤ n) (h3 : n < 16) : shf (sm lv n K m) (K - 1) K = sm lv n (K - 1) m := by
  funext j
  unfold shf sm
  by_cases hc : 3 ≤ j ∧ j < 131 ∧ (j - 3) % 16 = K
  · rw [if_pos hc, if_neg (by omega), if_pos (by omega), show j - K + (K - 1) = j - 1 by omega]
  · rw [if_neg hc]
    by_cases hd : 3 ≤ j ∧ j < 131 ∧ lv < (j - 3) % 16 ∧ (j - 3) % 16 ≤ n ∧ K < (j - 3) % 16
    · rw [if_pos hd, if_pos (by omega)]
    · rw [if_neg hd, if_neg (by omega)]
/-- moved down by one from a level on, so far as places below K go; n: the levels left -/
def dm (lv n K : Nat) (m : Nat → Int32) : Nat → Int32 := fun j => if 3 ≤ j ∧ j < 131 ∧ lv ≤ (j - 3) % 16 ∧ (j - 3) % 16 < n ∧ (j - 3) % 16 < K then m (j + 1) else m j
theorem dm_0 {lv n : Nat} {m : Nat → Int32} : dm lv n lv m = m := by
  funext j
  unfold dm
  rw [if_neg (by omega)]
theorem dm_step {lv n K : Nat} {m : Nat → Int32} (h : lv ≤ K) (h2 : K < n) (h3 : n < 16) : shf (dm lv n K m) (K + 1) K = dm lv n (K + 1) m := by
  funext j
  unfold shf dm
  by_cases hc : 3 ≤ j ∧ j < 131 ∧ (j - 3) % 16 = K
  · rw [if_pos hc, if_neg (by omega), if_pos (by omega), show j - K + (K + 1) = j + 1 by omega]
  · rw [if_neg hc]
    by_cases hd : 3 ≤ j ∧ j < 131 ∧ lv ≤ (j - 3) % 16 ∧ (j - 3) % 16 < n ∧ (j - 3) % 16 < K
    · rw [if_pos hd, if_pos (by omega)]
    · rw [if_neg hd, if_neg (by omega)]
/-- all that a new level has -/
def fum (lv : Nat) (k : Int32) (m : Nat → Int32) : Nat → Int32 := upd (upd (upd (upd (upd (upd (upd (upd m (3 + lv) k) (19 + lv) (-1)) (35 + lv) (-1)) (83 + lv) 1) (51 + lv) (-1)) (99 + lv) 1) (67 + lv) (-1)) (115 + lv) 1
/-- a row laid into a longer one -/
def pur (d : Nat → Int32) (b : Nat) (row : Nat → Int32) (i : Nat) : Nat → Int32 := fun j => if b ≤ j ∧ j < b + i then row (j - b) else d j
theorem pur_0 {d row : Nat → Int32} {b : Nat} : pur d b row 0 = d := by
  funext j
  unfold pur
  rw [if_neg (by omega)]
theorem pur_s {d row : Nat → Int32} {b i : Nat} {v : Int32} (h : v = row i) : upd (pur d b row i) (b + i) v = pur d b row (i + 1) := by
  funext j
  unfold pur upd
  by_cases hj : j = b + i
  · subst hj
    rw [if_pos rfl, if_pos (by omega), Nat.add_sub_cancel_left, h]
  · rw [if_neg hj]
    dsimp only
    by_cases h2 : b ≤ j ∧ j < b + i
    · rw [if_pos h2, if_pos (by omega)]
    · rw [if_neg h2, if_neg (by omega)]
/-- the names of levels, put into a row of 16 -/
noncomputable def nmA (sk : Int32) (k : Nat → Int32) (g a b : Nat) (d : Nat → Int32) : Nat → Int32 := fun j => if a ≤ j ∧ j < b then nm sk k g j else d j
noncomputable def soA (sk : Int32) (k : Nat → Int32) (g a b : Nat) (d : Nat → Int32) : Nat → Int32 := fun j => if a ≤ j ∧ j < b then zI (sto sk k g j) else d j
/-- the kinds of a row's levels -/
def kdm (m : Nat → Int32) : Nat → Int32 := fun x => m (3 + x)
/-- why a change is not made: 0, or which exception -/
def wna (n : Nat) (x k : Int) : Nat := if ¬ (0 ≤ x ∧ x ≤ (n : Int)) then 1 else if ¬ (0 ≤ k ∧ k < 4) then 2 else if n = 16 then 3 else 0
def wnr (n g : Nat) (x : Int) : Nat := if ¬ (0 ≤ x ∧ x < (n : Int)) then 1 else if x = (g : Int) then 2 else 0
def wnk (n g : Nat) (x k : Int) : Nat := if ¬ (0 ≤ x ∧ x < (n : Int)) then 1 else if ¬ (0 ≤ k ∧ k < 4) then 2 else if x = (g : Int) ∧ ¬ k = 0 then 3 else 0
noncomputable def wng (n : Nat) (m : Nat → Int32) (lv : Nat) : Nat := if n ≤ lv then 1 else @ite Nat (m (3 + lv) = 0) (Classical.propDecidable _) 0 2
theorem sto_dec {sk : Int32} {m : Nat → Int32} {g cur : Nat} (h : g < cur) (hk : ¬ m (3 + cur) = 0) : sto sk (kdm m) g (cur - 1) = sto sk (kdm m) g cur := by
  obtain ⟨d, rfl⟩ : ∃ d, cur = g + (d + 1) := ⟨cur - g - 1, by omega⟩
  rw [show g + (d + 1) - 1 = g + d by omega, sto_up, sto_up, up_n (by show ¬ m (3 + (g + 1 + d)) = 0; rw [show g + 1 + d = g + (d + 1) by omega]; exact hk)]
theorem sto_inc {sk : Int32} {m : Nat → Int32} {g cur : Nat} (h : cur < g) (hk : ¬ m (3 + cur) = 0) : sto sk (kdm m) g (cur + 1) = sto sk (kdm m) g cur := by
  have e : dn (kdm m) g (g - cur) = dn (kdm m) g (g - (cur + 1)) := by
    have h1 := dn_an (f := kdm m) (g := g) (a := cur + 1) (by omega) (by omega) (by show ¬ m (3 + (cur + 1 - 1)) = 0; rw [Nat.add_sub_cancel]; exact hk)
    rw [Nat.add_sub_cancel] at h1
    exact h1
  rw [sto_dn h, e]
  by_cases hc : cur + 1 = g
  · rw [hc, Nat.sub_self, sto_g]; rfl
  · rw [sto_dn (by omega)]
theorem sto_up1 {sk : Int32} {m : Nat → Int32} {g lv : Nat} (h : g < lv) (hk : ¬ m (3 + lv) = 0) : sto sk (kdm m) g (lv - 1) = sto sk (kdm m) g lv := sto_dec h hk
theorem sto_dn1 {sk : Int32} {m : Nat → Int32} {g lv : Nat} (h : lv < g) (hk : ¬ m (3 + lv) = 0) : sto sk (kdm m) g (lv + 1) = sto sk (kdm m) g lv := sto_inc h hk
theorem up_whole {sk : Int32} {m : Nat → Int32} {g i : Nat} (h : g < i) (hk : m (3 + i) = 0) : up sk (kdm m) g (i + 1 - 1 - g) = nx sk (up sk (kdm m) g (i - 1 - g) + 1) := by
  obtain ⟨d, rfl⟩ : ∃ d, i = g + 1 + d := ⟨i - g - 1, by omega⟩
  rw [show g + 1 + d + 1 - 1 - g = d + 1 by omega, show g + 1 + d - 1 - g = d by omega]
  exact up_0 hk
theorem up_other {sk : Int32} {m : Nat → Int32} {g i : Nat} (h : g < i) (hk : ¬ m (3 + i) = 0) : up sk (kdm m) g (i + 1 - 1 - g) = up sk (kdm m) g (i - 1 - g) := by
  obtain ⟨d, rfl⟩ : ∃ d, i = g + 1 + d := ⟨i - g - 1, by omega⟩
  rw [show g + 1 + d + 1 - 1 - g = d + 1 by omega, show g + 1 + d - 1 - g = d by omega]
  exact up_n hk
theorem sto_upi {sk : Int32} {k : Nat → Int32} {g i : Nat} (h : g < i) : sto sk k g i = (up sk k g (i + 1 - 1 - g) : Int) := by
  obtain ⟨d, rfl⟩ : ∃ d, i = g + d := ⟨i - g, by omega⟩
  rw [sto_up, show g + d + 1 - 1 - g = d by omega]
theorem nmA_up {sk : Int32} {k : Nat → Int32} {g a b : Nat} {d : Nat → Int32} (h : a ≤ b) : upd (nmA sk k g a b d) b (nm sk k g b) = nmA sk k g a (b + 1) d := by
  funext j
  unfold nmA upd
  by_cases hj : j = b
  · subst hj
    rw [if_pos rfl, if_pos (by omega)]
  · rw [if_neg hj]
    dsimp only
    by_cases h2 : a ≤ j ∧ j < b
    · rw [if_pos h2, if_pos (by omega)]
    · rw [if_neg h2, if_neg (by omega)]
theorem soA_up {sk : Int32} {k : Nat → Int32} {g a b : Nat} {d : Nat → Int32} (h : a ≤ b) : upd (soA sk k g a b d) b (zI (sto sk k g b)) = soA sk k g a (b + 1) d := by
  funext j
  unfold soA upd
  by_cases hj : j = b
  · subst hj
    rw [if_pos rfl, if_pos (by omega)]
  · rw [if_neg hj]
    dsimp only
    by_cases h2 : a ≤ j ∧ j < b
    · rw [if_pos h2, if_pos (by omega)]
    · rw [if_neg h2, if_neg (by omega)]
theorem nmA_dn {sk : Int32} {k : Nat → Int32} {g a b : Nat} {d : Nat → Int32} (h : 1 ≤ a) (h3 : a ≤ b) : upd (nmA sk k g a b d) (a - 1) (nm sk k g (a - 1)) = nmA sk k g (a - 1) b d := by
  funext j
  unfold nmA upd
  by_cases hj : j = a - 1
  · subst hj
    rw [if_pos rfl, if_pos (by omega)]
  · rw [if_neg hj]
    dsimp only
    by_cases h2 : a ≤ j ∧ j < b
    · rw [if_pos h2, if_pos (by omega)]
    · rw [if_neg h2, if_neg (by omega)]
theorem soA_dn {sk : Int32} {k : Nat → Int32} {g a b : Nat} {d : Nat → Int32} (h : 1 ≤ a) (h3 : a ≤ b) : upd (soA sk k g a b d) (a - 1) (zI (sto sk k g (a - 1))) = soA sk k g (a - 1) b d := by
  funext j
  unfold soA upd
  by_cases hj : j = a - 1
  · subst hj
    rw [if_pos rfl, if_pos (by omega)]
  · rw [if_neg hj]
    dsimp only
    by_cases h2 : a ≤ j ∧ j < b
    · rw [if_pos h2, if_pos (by omega)]
    · rw [if_neg h2, if_neg (by omega)]
theorem nmA_first {sk : Int32} {m : Nat → Int32} {g : Nat} {d : Nat → Int32} (h : m (3 + g) = 0) : upd d g 0 = nmA sk (kdm m) g g (g + 1) d := by
  funext j
  unfold nmA upd
  by_cases hj : j = g
  · subst hj
    rw [if_pos rfl, if_pos (by omega)]
    unfold nm
    rw [sto_g, show kdm m j = 0 from h, nmv_n (by decide)]; rfl
  · rw [if_neg hj, if_neg (by omega)]
theorem soA_first {sk : Int32} {k : Nat → Int32} {g : Nat} {d : Nat → Int32} : upd d g 0 = soA sk k g g (g + 1) d := by
  funext j
  unfold soA upd
  by_cases hj : j = g
  · subst hj
    rw [if_pos rfl, if_pos (by omega), sto_g]; rfl
  · rw [if_neg hj, if_neg (by omega)]
theorem zI_sub1 (a : Int) : zI a - nI 1 = zI (a - 1) := (Int32.ofInt_sub a 1).symm
