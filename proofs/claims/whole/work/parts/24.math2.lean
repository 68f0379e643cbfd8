/-! MATH 2: what the changes of a house make of it -/
def bitv (q : Nat) : Int32 := nI 1 <<< (nI q &&& 31)
theorem bt_bitv {q : Nat} (hq : q < 32) {t : Nat} (ht : t < 32) : bt (bitv q) t = decide (t = q) := by
  unfold bitv
  rw [b_shl q hq (nI 1) ht]
  have h1 : ∀ i, bt (nI 1) i = decide (i = 0) := by
    intro i
    show BitVec.getLsbD (nI 1).toBitVec i = _
    have e : (nI 1).toBitVec = 1#32 := rfl
    rw [e, BitVec.getLsbD_one]
    simp
  rw [h1]
  by_cases h : t = q
  · subst h; simp
  · by_cases h2 : q ≤ t
    · have h3 : ¬ t - q = 0 := by omega
      simp [h, h2, h3]
    · simp [h, h2]
noncomputable def skp (sk : Int32) (q : Nat) (P : Prop) : Int32 := @ite Int32 P (Classical.propDecidable P) (sk ||| bitv q) (sk &&& (bitv q ^^^ (-1)))
theorem skp_t {sk : Int32} {q : Nat} {P : Prop} (h : P) : skp sk q P = sk ||| bitv q := if_pos h
theorem skp_f {sk : Int32} {q : Nat} {P : Prop} (h : ¬ P) : skp sk q P = sk &&& (bitv q ^^^ (-1)) := if_neg h
theorem bt_skp {sk : Int32} {q : Nat} {P : Prop} (hq : q < 32) {t : Nat} (ht : t < 32) : bt (skp sk q P) t = true ↔ (t = q ∧ P) ∨ (t ≠ q ∧ bt sk t = true) := by
  by_cases h : P
  · rw [skp_t h, b_or, bt_bitv hq ht]
    by_cases h2 : t = q <;> simp [h, h2]
  · rw [skp_f h, b_and, b_xor, bt_bitv hq ht, b_m1 t ht]
    by_cases h2 : t = q <;> simp [h, h2]
def insG (lv g : Nat) : Nat := if lv ≤ g then g + 1 else g
theorem insG_t {lv g : Nat} (h : lv ≤ g) : insG lv g = g + 1 := if_pos h
theorem insG_f {lv g : Nat} (h : ¬ lv ≤ g) : insG lv g = g := if_neg h
def delG (lv g : Nat) : Nat := if lv < g then g - 1 else g
theorem delG_t {lv g : Nat} (h : lv < g) : delG lv g = g - 1 := if_pos h
theorem delG_f {lv g : Nat} (h : ¬ lv < g) : delG lv g = g := if_neg h
theorem fur_k {lv : Nat} {k : Int32} {f : Nat → Int32} {x : Nat} (hx : x < 16) (hl : lv < 16) : fur lv k f x = if x = lv then k else f x := by
  unfold fur upd
  by_cases h : x = lv
  · subst h
    simp only [if_neg (show ¬ x = 128 + x by omega), if_neg (show ¬ x = 80 + x by omega), if_neg (show ¬ x = 112 + x by omega), if_neg (show ¬ x = 64 + x by omega), if_neg (show ¬ x = 96 + x by omega), if_neg (show ¬ x = 48 + x by omega), if_neg (show ¬ x = 32 + x by omega), if_true]
  · rw [if_neg (by omega), if_neg (by omega), if_neg (by omega), if_neg (by omega), if_neg (by omega), if_neg (by omega), if_neg (by omega), if_neg h]
theorem sh_k {lv n : Nat} {f : Nat → Int32} {x : Nat} (hx : x < 16) : sh lv n 9 n f x = if lv < x ∧ x ≤ n then f (x - 1) else f x := by
  unfold sh
  by_cases h : lv < x ∧ x ≤ n
  · rw [if_pos h, if_pos (by omega)]
  · rw [if_neg h, if_neg (by omega)]
theorem ins_g {lv n g : Nat} {k : Int32} {f : Nat → Int32} (hg : g < n) (hn : n < 16) (hl : lv ≤ n) (h : f g = 0) : fur lv k (sh lv n 9 n f) (insG lv g) = 0 := by
  unfold insG
  by_cases h2 : lv ≤ g
  · rw [if_pos h2, fur_k (by omega) (by omega), if_neg (by omega), sh_k (by omega), if_pos (by omega)]
    exact h
  · rw [if_neg h2, fur_k (by omega) (by omega), if_neg (by omega), sh_k (by omega), if_neg (by omega)]
    exact h
theorem sd_k {lv n : Nat} {f : Nat → Int32} {x : Nat} (hx : x < 16) : sd lv n 9 lv f x = if lv ≤ x ∧ x < n then f (x + 1) else f x := by
  unfold sd
  by_cases h : lv ≤ x ∧ x < n
  · rw [if_pos h, if_pos (by omega)]
  · rw [if_neg h, if_neg (by omega)]
theorem del_g {lv n g : Nat} {f : Nat → Int32} (hg : g < n) (hn : n ≤ 16) (hl : lv < n) (hne : lv ≠ g) (h : f g = 0) : sd lv (n - 1) 9 lv f (delG lv g) = 0 := by
  unfold delG
  by_cases h2 : lv < g
  · rw [if_pos h2, sd_k (by omega), if_pos (by omega), show g - 1 + 1 = g by omega]
    exact h
  · rw [if_neg h2, sd_k (by omega), if_neg (by omega)]
    exact h
/-- the greatest of some, from 0; the least -/
noncomputable def mxs (p : Nat → Prop) (z : Nat → Int) : Nat → Int
  | 0 => 0
  | i + 1 => @ite Int (p i) (Classical.propDecidable _) (max (mxs p z i) (z i)) (mxs p z i)
theorem mxs_t {p : Nat → Prop} {z : Nat → Int} {i : Nat} (h : p i) : mxs p z (i + 1) = max (mxs p z i) (z i) := if_pos h
theorem mxs_f {p : Nat → Prop} {z : Nat → Int} {i : Nat} (h : ¬ p i) : mxs p z (i + 1) = mxs p z i := if_neg h
noncomputable def mns (p : Nat → Prop) (z : Nat → Int) : Nat → Int
  | 0 => 0
  | i + 1 => @ite Int (p i) (Classical.propDecidable _) (min (mns p z i) (z i)) (mns p z i)
theorem mns_t {p : Nat → Prop} {z : Nat → Int} {i : Nat} (h : p i) : mns p z (i + 1) = min (mns p z i) (z i) := if_pos h
theorem mns_f {p : Nat → Prop} {z : Nat → Int} {i : Nat} (h : ¬ p i) : mns p z (i + 1) = mns p z i := if_neg h
theorem mxs_rng {p : Nat → Prop} {z : Nat → Int} {b : Int} (hb : 0 ≤ b) : ∀ {n : Nat}, (∀ i, i < n → p i → z i ≤ b) → 0 ≤ mxs p z n ∧ mxs p z n ≤ b
  | 0, _ => ⟨Int.le_refl 0, hb⟩
  | n + 1, h => by
    have h1 := mxs_rng (n := n) hb (fun i hi => h i (Nat.lt_succ_of_lt hi))
    by_cases hp : p n
    · rw [mxs_t hp]
      have := h n (Nat.lt_succ_self n) hp
      omega
    · rw [mxs_f hp]; exact h1
theorem mns_rng {p : Nat → Prop} {z : Nat → Int} {b : Int} (hb : b ≤ 0) : ∀ {n : Nat}, (∀ i, i < n → p i → b ≤ z i) → b ≤ mns p z n ∧ mns p z n ≤ 0
  | 0, _ => ⟨hb, Int.le_refl 0⟩
  | n + 1, h => by
    have h1 := mns_rng (n := n) hb (fun i hi => h i (Nat.lt_succ_of_lt hi))
    by_cases hp : p n
    · rw [mns_t hp]
      have := h n (Nat.lt_succ_self n) hp
      omega
    · rw [mns_f hp]; exact h1
theorem zI_max {a b : Int} (ha : -2147483648 ≤ a ∧ a < 2147483648) (hb : -2147483648 ≤ b ∧ b < 2147483648) : (if zI a < zI b then zI b else zI a) = zI (max a b) := by
  by_cases h : a < b
  · rw [if_pos (Int32.lt_iff_toInt_lt.mpr (by rw [zI_toInt ha, zI_toInt hb]; exact h)), show max a b = b by omega]
  · rw [if_neg (fun z => h (by have := Int32.lt_iff_toInt_lt.mp z; rw [zI_toInt ha, zI_toInt hb] at this; exact this)), show max a b = a by omega]
theorem zI_min {a b : Int} (ha : -2147483648 ≤ a ∧ a < 2147483648) (hb : -2147483648 ≤ b ∧ b < 2147483648) : (if zI b < zI a then zI b else zI a) = zI (min a b) := by
  by_cases h : b < a
  · rw [if_pos (Int32.lt_iff_toInt_lt.mpr (by rw [zI_toInt ha, zI_toInt hb]; exact h)), show min a b = b by omega]
  · rw [if_neg (fun z => h (by have := Int32.lt_iff_toInt_lt.mp z; rw [zI_toInt ha, zI_toInt hb] at this; exact this)), show min a b = a by omega]
/-- division by 4, as Math.floorDiv does it, over the names that there can be -/
def fd_ok (k : Nat) : Bool :=
  let x : Int32 := zI ((k : Int) - 64)
  let r : Int32 := zI (((k : Int) - 64) / 4)
  (decide ((x ^^^ nI 4).toInt < 0) || decide (x / nI 4 = r)) && (decide (0 ≤ (x ^^^ nI 4).toInt) || (if x / nI 4 * nI 4 = x then decide (x / nI 4 = r) else decide (x / nI 4 - nI 1 = r)))
theorem fd_all : ∀ k, k < 256 → fd_ok k = true := by decide +kernel
theorem zI_self (x : Int32) : zI x.toInt = x := fb_asI x
theorem fd_of {x : Int32} (h : -64 ≤ x.toInt ∧ x.toInt < 192) : ((x ^^^ nI 4).toInt < 0 ∨ x / nI 4 = zI (x.toInt / 4)) ∧ (0 ≤ (x ^^^ nI 4).toInt ∨ (if x / nI 4 * nI 4 = x then x / nI 4 = zI (x.toInt / 4) else x / nI 4 - nI 1 = zI (x.toInt / 4))) := by
  obtain ⟨k, hk⟩ : ∃ k : Nat, (k : Int) - 64 = x.toInt := ⟨(x.toInt + 64).toNat, by omega⟩
  have h1 := fd_all k (by omega)
  unfold fd_ok at h1
  rw [hk, zI_self] at h1
  simp only [Bool.and_eq_true, Bool.or_eq_true, decide_eq_true_eq] at h1
  refine ⟨h1.1, ?_⟩
  rcases h1.2 with h2 | h2
  · exact Or.inl h2
  · right
    by_cases h3 : x / nI 4 * nI 4 = x
    · rw [if_pos h3] at h2 ⊢
      exact of_decide_eq_true h2
    · rw [if_neg h3] at h2 ⊢
      exact of_decide_eq_true h2
/-- names hold: the row of names is what the kinds ask for; the kinds are 0 to 3 -/
def Nmd (n g : Nat) (sk : Int32) (f : Nat → Int32) : Prop := ∀ x, x < n → f (16 + x) = nm sk f g x
def Kds (n : Nat) (f : Nat → Int32) : Prop := ∀ x, x < n → f x = 0 ∨ f x = 1 ∨ f x = 2 ∨ f x = 3
theorem nm_int {n g : Nat} {sk : Int32} {f : Nat → Int32} (hn : n ≤ 16) (hg : g < n) (hk : Kds n f) {x : Nat} (hx : x < n) : (f x = 3 ∧ nm sk f g x = -1) ∨ (¬ f x = 3 ∧ (nm sk f g x).toInt = 4 * sto sk f g x + (f x).toInt ∧ 0 ≤ (f x).toInt ∧ (f x).toInt ≤ 2 ∧ ¬ nm sk f g x = -1) := by
  have hr := sto_rng sk f hg hx hn
  by_cases h3 : f x = 3
  · left
    exact ⟨h3, nmv_3 h3⟩
  · right
    have hv : 0 ≤ (f x).toInt ∧ (f x).toInt ≤ 2 := by
      rcases hk x hx with h | h | h | h
      · rw [h]; decide
      · rw [h]; decide
      · rw [h]; decide
      · exact absurd h h3
    have hi : (nm sk f g x).toInt = 4 * sto sk f g x + (f x).toInt := by
      unfold nm
      rw [nmv_n h3, fb_addI (by rw [zI_toInt (by omega)]; omega) (by rw [zI_toInt (by omega)]; omega), zI_toInt (by omega)]
    refine ⟨h3, hi, hv.1, hv.2, fun z => ?_⟩
    rw [z, m1_toInt] at hi
    omega
theorem nm_div {n g : Nat} {sk : Int32} {f : Nat → Int32} (hn : n ≤ 16) (hg : g < n) (hk : Kds n f) {x : Nat} (hx : x < n) (h : ¬ nm sk f g x = -1) : (nm sk f g x).toInt / 4 = sto sk f g x ∧ -64 ≤ (nm sk f g x).toInt ∧ (nm sk f g x).toInt < 192 := by
  have hr := sto_rng sk f hg hx hn
  rcases nm_int (sk := sk) hn hg hk hx with ⟨-, h1⟩ | ⟨-, h1, h2, h3, -⟩
  · exact absurd h1 h
  · omega
theorem rn_nm {sk : Int32} {g n : Nat} {f : Nat → Int32} (hn : n ≤ 16) {x : Nat} (hx : x < n) : rn sk g 0 n f (16 + x) = nm sk f g x := by
  unfold rn
  rw [if_pos (by omega), Nat.add_sub_cancel_left]
theorem up_cong {sk : Int32} {k k' : Nat → Int32} {g : Nat} : ∀ {d : Nat}, (∀ x, g < x → x ≤ g + d → k x = k' x) → up sk k g d = up sk k' g d
  | 0, _ => rfl
  | d + 1, h => by
    have h1 := up_cong (d := d) (sk := sk) (fun x a b => h x a (by omega))
    have h2 := h (g + 1 + d) (by omega) (by omega)
    by_cases hk : k (g + 1 + d) = 0
    · rw [up_0 hk, up_0 (by rw [← h2]; exact hk), h1]
    · rw [up_n hk, up_n (by rw [← h2]; exact hk), h1]
theorem dn_cong {k k' : Nat → Int32} {g : Nat} : ∀ {d : Nat}, d ≤ g → (∀ x, g - d ≤ x → x < g → k x = k' x) → dn k g d = dn k' g d
  | 0, _, _ => rfl
  | d + 1, hd, h => by
    have h1 := dn_cong (d := d) (by omega) (fun x a b => h x (by omega) b)
    have h2 := h (g - 1 - d) (by omega) (by omega)
    by_cases hk : k (g - 1 - d) = 0
    · rw [dn_0 hk, dn_0 (by rw [← h2]; exact hk), h1]
    · rw [dn_n hk, dn_n (by rw [← h2]; exact hk), h1]
theorem sto_cong {sk : Int32} {k k' : Nat → Int32} {g n lv : Nat} (hg : g < n) (hl : lv < n) (h : ∀ x, x < n → k x = k' x) : sto sk k g lv = sto sk k' g lv := by
  unfold sto
  by_cases h2 : g ≤ lv
  · rw [if_pos h2, if_pos h2, up_cong (fun x a b => h x (by omega))]
  · rw [if_neg h2, if_neg h2, dn_cong (by omega) (fun x a b => h x (by omega))]
theorem nm_cong {sk : Int32} {k k' : Nat → Int32} {g n lv : Nat} (hg : g < n) (hl : lv < n) (h : ∀ x, x < n → k x = k' x) : nm sk k g lv = nm sk k' g lv := by
  unfold nm
  rw [sto_cong hg hl h, h lv hl]
theorem rn_Nmd {sk : Int32} {g n : Nat} {f : Nat → Int32} (hn : n ≤ 16) (hg : g < n) : Nmd n g sk (rn sk g 0 n f) := by
  intro x hx
  rw [rn_nm hn hx]
  exact nm_cong hg hx (fun y hy => (rn_k (by omega)).symm)
/-- Integer.bitCount, as it is reckoned -/
def bca (x : Int32) : Int32 := x - ((x.toUInt32 >>> ((nI 1).toUInt32 &&& Int32.toUInt32 31)).toInt32 &&& 1431655765)
def bcb (x : Int32) : Int32 := (x &&& 858993459) + ((x.toUInt32 >>> ((nI 2).toUInt32 &&& Int32.toUInt32 31)).toInt32 &&& 858993459)
def bcc (x : Int32) : Int32 := (x + (x.toUInt32 >>> ((nI 4).toUInt32 &&& Int32.toUInt32 31)).toInt32) &&& 252645135
def bcd (x : Int32) : Int32 := x + (x.toUInt32 >>> ((nI 8).toUInt32 &&& Int32.toUInt32 31)).toInt32
def bce (x : Int32) : Int32 := x + (x.toUInt32 >>> ((nI 16).toUInt32 &&& Int32.toUInt32 31)).toInt32
def bcj (x : Int32) : Int32 := bce (bcd (bcc (bcb (bca x)))) &&& nI 63
theorem arrV_cong {c : ClassId} {n : Nat} {f1 f2 : Nat → Int32} (h : ∀ j, j < n → f1 j = f2 j) : vp_cell c (n, .inl f1) = vp_cell c (n, .inl f2) := by
  rw [vp_cell_i, vp_cell_i]
  unfold arrV
  congr 1
  congr 1
  funext j
  exact congrArg Value.int (h j.val j.isLt)
theorem VP.arr {G : GG} {ws : va_W} {H : Heap} {k a : Nat} {c : ClassId} {n : Nat} {f1 f2 : Nat → Int32} (hP : VP G ws H) (hk : ws[k]? = some (a, .inl (c, n, .inl f1))) (h : ∀ j, j < n → f1 j = f2 j) : VP G (ws.set k (a, .inl (c, n, .inl f2))) H := by
  have hl := (List.getElem?_eq_some_iff.mp hk).1
  intro k' q hq
  by_cases hkk : k' = k
  · subst hkk
    rw [List.getElem?_set_self hl] at hq
    cases hq
    have h1 := hP k' _ hk
    show H[a]? = some (vp_cell c (n, .inl f2))
    rw [← arrV_cong h]
    exact h1
  · rw [List.getElem?_set_ne (Ne.symm hkk)] at hq
    exact hP k' q hq
theorem VD.arr {A : Nat → Prop} {ws : va_W} {k a : Nat} {e0 e : va_E} (hD : va_D A ws) (hk : ws[k]? = some (a, e0)) : va_D A (ws.set k (a, e)) := hD.set hk
theorem cpy_all {f g : Nat → Int32} {j : Nat} (h : j < 144) : va_cpy f g (nI 0).toNatClampNeg (nI 0).toNatClampNeg (nI 144).toNatClampNeg j = f j := by
  have e0 : (nI 0).toNatClampNeg = 0 := nI_clamp (by omega)
  have e1 : (nI 144).toNatClampNeg = 144 := nI_clamp (by omega)
  rw [e0, e1]
  unfold va_cpy
  rw [if_pos (by omega)]
  congr 1
  omega
def ccar (f : Nat → Int32) (ca i : Nat) : Nat → Int32 := fun j => if (3 + ca) * 16 ≤ j ∧ j < (3 + ca) * 16 + i then f (16 + (j - (3 + ca) * 16)) else f j
theorem ccar_0 {f : Nat → Int32} {ca : Nat} : ccar f ca 0 = f := by
  funext j
  unfold ccar
  rw [if_neg (by omega)]
theorem ccar_n {f : Nat → Int32} {ca i x : Nat} (h : x < 16) : ccar f ca i (16 + x) = f (16 + x) := by
  unfold ccar
  rw [if_neg (by omega)]
theorem ccar_s {f : Nat → Int32} {ca i : Nat} (h : i < 16) : upd (ccar f ca i) ((3 + ca) * 16 + i) (f (16 + i)) = ccar f ca (i + 1) := by
  funext j
  unfold ccar upd
  by_cases hj : j = (3 + ca) * 16 + i
  · subst hj
    rw [if_pos rfl, if_pos (by omega), Nat.add_sub_cancel_left]
  · rw [if_neg hj]
    dsimp only
    by_cases h2 : (3 + ca) * 16 ≤ j ∧ j < (3 + ca) * 16 + i
    · rw [if_pos h2, if_pos (by omega)]
    · rw [if_neg h2, if_neg (by omega)]
def swp (f : Nat → Int32) (a b : Nat) : Nat → Int32 := upd (upd f a (f b)) b (f a)
theorem chg_f {f : Nat → Int32} {g lv k : Nat} (h : f g = 0) (ok : ¬ (lv = g ∧ k ≠ 0)) : upd f lv (nI k) g = 0 := by
  unfold upd
  by_cases hz : g = lv
  · rw [if_pos hz, show k = 0 by omega]; rfl
  · rw [if_neg hz]; exact h
