/-! MATH: names of levels, and what the changes of a house do to its rows -/
theorem bt1 (x : Int32) : (x &&& 1) = 1 ↔ bt x 0 = true := by
  constructor
  · intro h
    have h1 : bt (x &&& 1) 0 = true := by rw [h]; decide
    rw [b_and] at h1
    simp only [Bool.and_eq_true] at h1
    exact h1.1
  · intro h
    refine b_ext fun i _ => ?_
    rw [b_and]
    by_cases hi : i = 0
    · subst hi
      rw [h]; decide
    · have h2 : bt (1 : Int32) i = false := by
        show BitVec.getLsbD (1 : Int32).toBitVec i = false
        have e : (1 : Int32).toBitVec = 1#32 := rfl
        rw [e, BitVec.getLsbD_one]
        simp [hi]
      rw [h2, Bool.and_false]
theorem sk_u (sk : Int32) {t : Nat} (ht : t < 32) : ((sk.toUInt32 >>> ((nI t).toUInt32 &&& Int32.toUInt32 31)).toInt32 &&& 1) = 1 ↔ bt sk t = true := by
  rw [bt1, b_ushr t ht]; rfl
theorem sk_s (sk : Int32) {t : Nat} (ht : t < 32) : ((sk >>> (nI t &&& 31)) &&& 1) = 1 ↔ bt sk t = true := by
  rw [bt1, b_sshr t ht sk (by omega : 0 < 32), if_pos (by omega)]; rfl
def nxF (sk : Int32) : Nat → Nat → Nat
  | 0, t => t
  | k + 1, t => if t ≤ 30 ∧ bt sk t = true then nxF sk k (t + 1) else t
def nx (sk : Int32) (t : Nat) : Nat := nxF sk (31 - t) t
theorem nx_s {sk : Int32} {t : Nat} (h : t ≤ 30) (hb : bt sk t = true) : nx sk t = nx sk (t + 1) := by
  unfold nx
  rw [show 31 - t = (31 - (t + 1)) + 1 by omega]
  show (if t ≤ 30 ∧ bt sk t = true then nxF sk (31 - (t + 1)) (t + 1) else t) = _
  rw [if_pos ⟨h, hb⟩]
theorem nx_e {sk : Int32} {t : Nat} (h : ¬ (t ≤ 30 ∧ bt sk t = true)) : nx sk t = t := by
  unfold nx
  cases hk : 31 - t with
  | zero => rfl
  | succ k =>
    show (if t ≤ 30 ∧ bt sk t = true then nxF sk k (t + 1) else t) = _
    rw [if_neg h]
theorem nxF_le (sk : Int32) : ∀ (k t : Nat), nxF sk k t ≤ t + k
  | 0, t => Nat.le_refl t
  | k + 1, t => by
    show (if t ≤ 30 ∧ bt sk t = true then nxF sk k (t + 1) else t) ≤ _
    split
    · have := nxF_le sk k (t + 1); omega
    · omega
theorem nx_le (sk : Int32) {t : Nat} (h : t ≤ 31) : nx sk t ≤ 31 := by
  have := nxF_le sk (31 - t) t
  unfold nx
  omega
theorem nx_le2 (sk : Int32) {t b : Nat} (hb : 31 ≤ b) (h : t ≤ b) : nx sk t ≤ b := by
  have := nxF_le sk (31 - t) t
  unfold nx
  omega
noncomputable def up (sk : Int32) (k : Nat → Int32) (g : Nat) : Nat → Nat
  | 0 => 0
  | d + 1 => @ite Nat (k (g + 1 + d) = 0) (Classical.propDecidable _) (nx sk (up sk k g d + 1)) (up sk k g d)
theorem up_0 {sk : Int32} {k : Nat → Int32} {g d : Nat} (h : k (g + 1 + d) = 0) : up sk k g (d + 1) = nx sk (up sk k g d + 1) := if_pos h
theorem up_n {sk : Int32} {k : Nat → Int32} {g d : Nat} (h : ¬ k (g + 1 + d) = 0) : up sk k g (d + 1) = up sk k g d := if_neg h
theorem up_le (sk : Int32) (k : Nat → Int32) (g : Nat) : ∀ d, up sk k g d ≤ 30 + d
  | 0 => by show 0 ≤ _; omega
  | d + 1 => by
    have h := up_le sk k g d
    by_cases hk : k (g + 1 + d) = 0
    · rw [up_0 hk]
      exact nx_le2 sk (by omega) (by omega)
    · rw [up_n hk]; omega
noncomputable def dn (k : Nat → Int32) (g : Nat) : Nat → Nat
  | 0 => 0
  | d + 1 => @ite Nat (k (g - 1 - d) = 0) (Classical.propDecidable _) (dn k g d + 1) (dn k g d)
theorem dn_0 {k : Nat → Int32} {g d : Nat} (h : k (g - 1 - d) = 0) : dn k g (d + 1) = dn k g d + 1 := if_pos h
theorem dn_n {k : Nat → Int32} {g d : Nat} (h : ¬ k (g - 1 - d) = 0) : dn k g (d + 1) = dn k g d := if_neg h
theorem dn_le (k : Nat → Int32) (g : Nat) : ∀ d, dn k g d ≤ d
  | 0 => Nat.le_refl 0
  | d + 1 => by
    have h := dn_le k g d
    by_cases hk : k (g - 1 - d) = 0
    · rw [dn_0 hk]; omega
    · rw [dn_n hk]; omega
/-- the storey that a level's name is made of -/
noncomputable def sto (sk : Int32) (k : Nat → Int32) (g lv : Nat) : Int := if g ≤ lv then (up sk k g (lv - g) : Int) else -(dn k g (g - lv) : Int)
theorem sto_g (sk : Int32) (k : Nat → Int32) (g : Nat) : sto sk k g g = 0 := by
  unfold sto
  rw [if_pos (Nat.le_refl g), Nat.sub_self]; rfl
theorem sto_up {sk : Int32} {k : Nat → Int32} {g i : Nat} : sto sk k g (g + i) = (up sk k g i : Int) := by
  unfold sto
  rw [if_pos (Nat.le_add_right g i), Nat.add_sub_cancel_left]
theorem sto_dn {sk : Int32} {k : Nat → Int32} {g lv : Nat} (h : lv < g) : sto sk k g lv = -(dn k g (g - lv) : Int) := by
  unfold sto
  rw [if_neg (by omega)]
theorem sto_rng (sk : Int32) (k : Nat → Int32) {g lv n : Nat} (hg : g < n) (hl : lv < n) (hn : n ≤ 16) : -15 ≤ sto sk k g lv ∧ sto sk k g lv ≤ 46 := by
  unfold sto
  split
  · have := up_le sk k g (lv - g); omega
  · have := dn_le k g (g - lv); omega
/-- a name out of a storey and a kind -/
noncomputable def nmv (z : Int) (k : Int32) : Int32 := @ite Int32 (k = 3) (Classical.propDecidable _) (-1) (zI (4 * z) + k)
theorem nmv_3 {z : Int} {k : Int32} (h : k = 3) : nmv z k = -1 := if_pos h
theorem nmv_n {z : Int} {k : Int32} (h : ¬ k = 3) : nmv z k = zI (4 * z) + k := if_neg h
noncomputable def nm (sk : Int32) (k : Nat → Int32) (g lv : Nat) : Int32 := nmv (sto sk k g lv) (k lv)
/-- the names of the levels from a to b are put into the row of names -/
noncomputable def rn (sk : Int32) (g a b : Nat) (f : Nat → Int32) : Nat → Int32 := fun j => if 16 + a ≤ j ∧ j < 16 + b then nm sk f g (j - 16) else f j
theorem rn_k {sk : Int32} {g a b : Nat} {f : Nat → Int32} {lv : Nat} (h : lv < 16) : rn sk g a b f lv = f lv := if_neg (by omega)
theorem rn_first {sk : Int32} {g : Nat} {f : Nat → Int32} (h : f g = 0) : upd f (16 + g) 0 = rn sk g g (g + 1) f := by
  funext j
  unfold rn upd
  by_cases hj : j = 16 + g
  · subst hj
    rw [if_pos rfl, if_pos (by omega), Nat.add_sub_cancel_left]
    unfold nm
    rw [sto_g, h, nmv_n (by decide)]; rfl
  · rw [if_neg hj, if_neg (by omega)]
/-- a name out of a storey and a kind, as it is reckoned -/
noncomputable def nmr (w k : Int32) : Int32 := @ite Int32 (k = 3) (Classical.propDecidable _) (-1) (4 * w + k)
theorem nmr_3 {w k : Int32} (h : k = 3) : nmr w k = -1 := if_pos h
theorem nmr_n {w k : Int32} (h : ¬ k = 3) : nmr w k = 4 * w + k := if_neg h
theorem nmr_z (z : Int) (k : Int32) : nmr (zI z) k = nmv z k := by
  by_cases h : k = 3
  · rw [nmr_3 h, nmv_3 h]
  · rw [nmr_n h, nmv_n h]
    exact congrArg (· + k) (Int32.ofInt_mul 4 z).symm
theorem rn_next {sk : Int32} {g d : Nat} {f : Nat → Int32} {w : Int32} (hb : g + 1 + d < 16) (hw : w = nI (up sk f g (d + 1))) : upd (rn sk g g (g + 1 + d) f) (16 + (g + 1 + d)) (nmr w (rn sk g g (g + 1 + d) f (g + 1 + d))) = rn sk g g (g + 1 + d + 1) f := by
  subst hw
  rw [rn_k hb, ← zI_n, nmr_z]
  funext j
  unfold rn upd
  by_cases hj : j = 16 + (g + 1 + d)
  · subst hj
    rw [if_pos rfl, if_pos (by omega), Nat.add_sub_cancel_left]
    unfold nm
    rw [show g + 1 + d = g + (d + 1) by omega, sto_up]
  · rw [if_neg hj]
    dsimp only
    by_cases h2 : 16 + g ≤ j ∧ j < 16 + (g + 1 + d)
    · rw [if_pos h2, if_pos (by omega)]
    · rw [if_neg h2, if_neg (by omega)]
theorem dn_a0 {f : Nat → Int32} {g a : Nat} (h : 1 ≤ a) (h2 : a ≤ g) (hk : f (a - 1) = 0) : dn f g (g - (a - 1)) = dn f g (g - a) + 1 := by
  rw [show g - (a - 1) = (g - a) + 1 by omega]
  exact dn_0 (by rw [show g - 1 - (g - a) = a - 1 by omega]; exact hk)
theorem dn_an {f : Nat → Int32} {g a : Nat} (h : 1 ≤ a) (h2 : a ≤ g) (hk : ¬ f (a - 1) = 0) : dn f g (g - (a - 1)) = dn f g (g - a) := by
  rw [show g - (a - 1) = (g - a) + 1 by omega]
  exact dn_n (by rw [show g - 1 - (g - a) = a - 1 by omega]; exact hk)
theorem rn_down {sk : Int32} {g a b : Nat} {f : Nat → Int32} {w : Int32} (h : 1 ≤ a) (h2 : a ≤ g) (hg : g < 16) (hb : g < b) (hw : w = zI (-(dn f g (g - (a - 1)) : Int))) : upd (rn sk g a b f) (16 + (a - 1)) (nmr w (rn sk g a b f (a - 1))) = rn sk g (a - 1) b f := by
  subst hw
  rw [rn_k (by omega), nmr_z]
  funext j
  unfold rn upd
  by_cases hj : j = 16 + (a - 1)
  · subst hj
    rw [if_pos rfl, if_pos (by omega), Nat.add_sub_cancel_left]
    unfold nm
    rw [sto_dn (by omega)]
  · rw [if_neg hj]
    dsimp only
    by_cases h2 : 16 + a ≤ j ∧ j < 16 + b
    · rw [if_pos h2, if_pos (by omega)]
    · rw [if_neg h2, if_neg (by omega)]
/-- all that a new level has -/
def fur (lv : Nat) (k : Int32) (f : Nat → Int32) : Nat → Int32 := upd (upd (upd (upd (upd (upd (upd (upd f lv k) (32 + lv) (-1)) (48 + lv) (-1)) (96 + lv) 1) (64 + lv) (-1)) (112 + lv) 1) (80 + lv) (-1)) (128 + lv) 1
/-- rows moved up by one above a level, so far as rows and places go -/
def sh (lv n ro to : Nat) (f : Nat → Int32) : Nat → Int32 := fun j => if j < 144 ∧ lv < j % 16 ∧ j % 16 ≤ n ∧ (j / 16 < ro ∨ (j / 16 = ro ∧ to < j % 16)) then f (j - 1) else f j
theorem sh_0 {lv n : Nat} {f : Nat → Int32} : sh lv n 0 n f = f := by
  funext j
  unfold sh
  rw [if_neg (by omega)]
theorem sh_read {lv n ro to : Nat} {f : Nat → Int32} (h : 1 ≤ to) (h2 : to ≤ n) (h3 : n < 16) : sh lv n ro to f (ro * 16 + (to - 1)) = f (ro * 16 + (to - 1)) := by
  unfold sh
  rw [if_neg (by omega)]
theorem sh_step {lv n ro to : Nat} {f : Nat → Int32} (hr : ro < 9) (h : lv < to) (h2 : to ≤ n) (h3 : n < 16) : upd (sh lv n ro to f) (ro * 16 + to) (f (ro * 16 + (to - 1))) = sh lv n ro (to - 1) f := by
  funext j
  unfold sh upd
  by_cases hj : j = ro * 16 + to
  · subst hj
    rw [if_pos rfl, if_pos (by omega), show ro * 16 + to - 1 = ro * 16 + (to - 1) by omega]
  · rw [if_neg hj]
    dsimp only
    by_cases hc : j < 144 ∧ lv < j % 16 ∧ j % 16 ≤ n ∧ (j / 16 < ro ∨ (j / 16 = ro ∧ to < j % 16))
    · rw [if_pos hc, if_pos (by omega)]
    · rw [if_neg hc, if_neg (by omega)]
theorem sh_row {lv n ro to : Nat} {f : Nat → Int32} (h : to ≤ lv) (h3 : n < 16) : sh lv n ro to f = sh lv n (ro + 1) n f := by
  funext j
  unfold sh
  by_cases hc : j < 144 ∧ lv < j % 16 ∧ j % 16 ≤ n ∧ (j / 16 < ro ∨ (j / 16 = ro ∧ to < j % 16))
  · rw [if_pos hc, if_pos (by omega)]
  · rw [if_neg hc, if_neg (by omega)]
/-- rows moved down by one from a level on; n: the levels left -/
def sd (lv n ro to : Nat) (f : Nat → Int32) : Nat → Int32 := fun j => if j < 144 ∧ lv ≤ j % 16 ∧ j % 16 < n ∧ (j / 16 < ro ∨ (j / 16 = ro ∧ j % 16 < to)) then f (j + 1) else f j
theorem sd_0 {lv n : Nat} {f : Nat → Int32} : sd lv n 0 lv f = f := by
  funext j
  unfold sd
  rw [if_neg (by omega)]
theorem sd_read {lv n ro to : Nat} {f : Nat → Int32} (h2 : to < n) (h3 : n < 16) : sd lv n ro to f (ro * 16 + (to + 1)) = f (ro * 16 + (to + 1)) := by
  unfold sd
  rw [if_neg (by omega)]
theorem sd_step {lv n ro to : Nat} {f : Nat → Int32} (hr : ro < 9) (h : lv ≤ to) (h2 : to < n) (h3 : n < 16) : upd (sd lv n ro to f) (ro * 16 + to) (f (ro * 16 + (to + 1))) = sd lv n ro (to + 1) f := by
  funext j
  unfold sd upd
  by_cases hj : j = ro * 16 + to
  · subst hj
    rw [if_pos rfl, if_pos (by omega), show ro * 16 + to + 1 = ro * 16 + (to + 1) by omega]
  · rw [if_neg hj]
    dsimp only
    by_cases hc : j < 144 ∧ lv ≤ j % 16 ∧ j % 16 < n ∧ (j / 16 < ro ∨ (j / 16 = ro ∧ j % 16 < to))
    · rw [if_pos hc, if_pos (by omega)]
    · rw [if_neg hc, if_neg (by omega)]
theorem sd_row {lv n ro to : Nat} {f : Nat → Int32} (h : n ≤ to) (h3 : n < 16) : sd lv n ro to f = sd lv n (ro + 1) lv f := by
  funext j
  unfold sd
  by_cases hc : j < 144 ∧ lv ≤ j % 16 ∧ j % 16 < n ∧ (j / 16 < ro ∨ (j / 16 = ro ∧ j % 16 < to))
  · rw [if_pos hc, if_pos (by omega)]
  · rw [if_neg hc, if_neg (by omega)]
/-- the wrong ones of a row; of all -/
noncomputable def wr (f : Nat → Int32) (ro n : Nat) : Nat := ct (fun x_ => ¬ f (ro * 16 + x_) = f (16 + x_)) n
theorem wr_le (f : Nat → Int32) (ro n : Nat) : wr f ro n ≤ n := ct_le _ n
noncomputable def tw (f : Nat → Int32) (n : Nat) : Nat := wr f 2 n + wr f 3 n + wr f 4 n + wr f 5 n
/-- levels that have a level's name -/
noncomputable def lk (f : Nat → Int32) (n lv : Nat) : Nat := @ite Nat (f (16 + lv) = -1) (Classical.propDecidable _) 0 (ct (fun x_ => f (16 + x_) = f (16 + lv)) n)
theorem lk_0 {f : Nat → Int32} {n lv : Nat} (h : f (16 + lv) = -1) : lk f n lv = 0 := if_pos h
theorem lk_n {f : Nat → Int32} {n lv : Nat} (h : ¬ f (16 + lv) = -1) : lk f n lv = ct (fun x_ => f (16 + x_) = f (16 + lv)) n := if_neg h
theorem lk_le (f : Nat → Int32) (n lv : Nat) : lk f n lv ≤ n := by
  by_cases h : f (16 + lv) = -1
  · rw [lk_0 h]; omega
  · rw [lk_n h]; exact ct_le _ n
/-- the k-th of those, from a place on -/
noncomputable def kth (q : Nat → Prop) : Nat → Nat → Nat → Int32
  | 0, _, _ => -1
  | r + 1, i, k => @ite Int32 (q i) (Classical.propDecidable _) (if k = 0 then nI i else kth q r (i + 1) (k - 1)) (kth q r (i + 1) k)
theorem kth_0 {q : Nat → Prop} {r i : Nat} (h : q i) : kth q (r + 1) i 0 = nI i := by
  show @ite Int32 (q i) (Classical.propDecidable _) _ _ = _
  rw [if_pos h, if_pos rfl]
theorem kth_s {q : Nat → Prop} {r i k : Nat} (h : q i) (hk : k ≠ 0) : kth q (r + 1) i k = kth q r (i + 1) (k - 1) := by
  show @ite Int32 (q i) (Classical.propDecidable _) _ _ = _
  rw [if_pos h, if_neg hk]
theorem kth_n {q : Nat → Prop} {r i k : Nat} (h : ¬ q i) : kth q (r + 1) i k = kth q r (i + 1) k := by
  show @ite Int32 (q i) (Classical.propDecidable _) _ _ = _
  rw [if_neg h]
theorem kth_c {q q' : Nat → Prop} : ∀ (r i k : Nat), (∀ j, i ≤ j → j < i + r → (q j ↔ q' j)) → kth q r i k = kth q' r i k
  | 0, _, _, _ => rfl
  | r + 1, i, k, h => by
    have h1 : ∀ k, kth q r (i + 1) k = kth q' r (i + 1) k := fun k => kth_c r (i + 1) k (fun j h1 h2 => h j (by omega) (by omega))
    by_cases hq : q i
    · have hq' := (h i (Nat.le_refl i) (by omega)).mp hq
      by_cases hk : k = 0
      · subst hk
        rw [kth_0 hq, kth_0 hq']
      · rw [kth_s hq hk, kth_s hq' hk, h1]
    · have hq' : ¬ q' i := fun z => hq ((h i (Nat.le_refl i) (by omega)).mpr z)
      rw [kth_n hq, kth_n hq', h1]
