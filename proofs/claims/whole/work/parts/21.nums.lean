/-! NUMS: booleans as ints, counts, branches in whole numbers, rows in naturals -/
noncomputable def zb (P : Prop) : Int32 := @ite Int32 P (Classical.propDecidable P) 1 0
theorem zb_t {P : Prop} (h : P) : zb P = 1 := @if_pos P (Classical.propDecidable P) h Int32 1 0
theorem zb_f {P : Prop} (h : ¬ P) : zb P = 0 := @if_neg P (Classical.propDecidable P) h Int32 1 0
theorem zb_0 {P : Prop} : zb P = 0 ↔ ¬ P := ⟨fun h q => by rw [zb_t q] at h; exact absurd h (by decide), zb_f⟩
theorem zb_1 {P : Prop} : zb P = 1 ↔ P := ⟨fun h => Classical.byContradiction fun q => by rw [zb_f q] at h; exact absurd h (by decide), zb_t⟩
theorem zb_c {P Q : Prop} (h : P ↔ Q) : zb P = zb Q := by rw [propext h]
theorem zb_nar {P : Prop} : narrow .boolean (.int (zb P)) = .int (zb P) := by
  by_cases h : P
  · rw [zb_t h]; rfl
  · rw [zb_f h]; rfl
theorem zb_vnar {P : Prop} : vp_nar .boolean (zb P) = zb P := by
  by_cases h : P
  · rw [zb_t h]; rfl
  · rw [zb_f h]; rfl
theorem zb_ne {P : Prop} : ¬ zb P = 0 ↔ P := ⟨fun h => Classical.byContradiction fun q => h (zb_f q), fun h q => by rw [zb_t h] at q; exact absurd q (by decide)⟩
noncomputable def ct (p : Nat → Prop) : Nat → Nat
  | 0 => 0
  | n + 1 => ct p n + @ite Nat (p n) (Classical.propDecidable (p n)) 1 0
theorem ct_t {p : Nat → Prop} {n : Nat} (h : p n) : ct p (n + 1) = ct p n + 1 := by
  show ct p n + @ite Nat (p n) (Classical.propDecidable (p n)) 1 0 = _
  rw [if_pos h]
theorem ct_f {p : Nat → Prop} {n : Nat} (h : ¬ p n) : ct p (n + 1) = ct p n := by
  show ct p n + @ite Nat (p n) (Classical.propDecidable (p n)) 1 0 = _
  rw [if_neg h]; rfl
theorem ct_le (p : Nat → Prop) : ∀ n, ct p n ≤ n
  | 0 => Nat.le_refl 0
  | n + 1 => by
    have h := ct_le p n
    by_cases hp : p n
    · rw [ct_t hp]; omega
    · rw [ct_f hp]; omega
theorem ct_c {p q : Nat → Prop} : ∀ {n : Nat}, (∀ k, k < n → (p k ↔ q k)) → ct p n = ct q n
  | 0, _ => rfl
  | n + 1, h => by
    have h1 := ct_c (n := n) (fun k hk => h k (Nat.lt_succ_of_lt hk))
    by_cases hp : p n
    · rw [ct_t hp, ct_t ((h n (Nat.lt_succ_self n)).mp hp), h1]
    · rw [ct_f hp, ct_f (fun z => hp ((h n (Nat.lt_succ_self n)).mpr z)), h1]
theorem ct_mono (p : Nat → Prop) {i n : Nat} (h : i ≤ n) : ct p i ≤ ct p n := by
  induction h with
  | refl => exact Nat.le_refl _
  | step _ ih =>
    rename_i k _
    by_cases hp : p k
    · rw [ct_t hp]; omega
    · rw [ct_f hp]; omega
noncomputable def nb (P : Prop) : Nat := @ite Nat P (Classical.propDecidable P) 1 0
theorem nb_t {P : Prop} (h : P) : nb P = 1 := @if_pos P (Classical.propDecidable P) h Nat 1 0
theorem nb_f {P : Prop} (h : ¬ P) : nb P = 0 := @if_neg P (Classical.propDecidable P) h Nat 1 0
theorem nb_c {P Q : Prop} (h : P ↔ Q) : nb P = nb Q := by rw [propext h]
def zI (z : Int) : Int32 := Int32.ofInt z
theorem zI_n (n : Nat) : zI (n : Int) = nI n := Int32.ofInt_eq_ofNat
theorem zI_toInt {z : Int} (h : -2147483648 ≤ z ∧ z < 2147483648) : (zI z).toInt = z := fb_ofI h.1 h.2
theorem nI_i {n : Nat} (h : n < 2147483648) : (nI n).toInt = (n : Int) := nI_toInt h
theorem toI_r (x : Int32) : x.toInt = x.toInt := rfl
theorem nI_ii {a b : Nat} (ha : a < 2147483648) (hb : b < 2147483648) : nI a = nI b ↔ a = b := nI_eq ha hb
theorem inc_n (t k : Nat) : nI t + Int32.ofInt (k : Int) = nI (t + k) := by
  have h : Int32.ofInt (k : Int) = nI k := zI_n k
  rw [h, nI_add]
theorem dec_n {t : Nat} (h : 1 ≤ t) : nI t + Int32.ofInt (-1) = nI (t - 1) := by
  obtain ⟨k, rfl⟩ : ∃ k, t = k + 1 := ⟨t - 1, by omega⟩
  exact pk_m1 k
theorem m1_toInt : (-1 : Int32).toInt = -1 := rfl
theorem nI_m1 {n : Nat} (h : n < 2147483648) : nI n ≠ -1 := fun q => by
  have h1 := congrArg Int32.toInt q
  rw [nI_i h, m1_toInt] at h1
  omega
theorem incZ (a : Int) (k : Int) (b : Int) (h : a + k = b) : zI a + Int32.ofInt k = zI b := by rw [← h]; exact (Int32.ofInt_add a k).symm
theorem decZ (a : Int) (k : Int) (b : Int) (h : a + k = b) : zI a + Int32.ofInt k = zI b := incZ a k b h
theorem nI_subZ (a b : Nat) : nI a - nI b = zI ((a : Int) - (b : Int)) := by rw [← zI_n, ← zI_n]; exact (Int32.ofInt_sub _ _).symm
theorem zI_nat {z : Int} {k : Nat} (h : z = k) : zI z = nI k := by rw [h]; exact zI_n k
section NUMS
variable {p : Program} {l : Launch} {e : Env} {R : Room} {s : State} {m : MethodId} {args : Array Value} {below : List Frame} {meth : Method} {c : Code} {H : Heap} {locs : List Loc} {cells slots : Nat} {Q : State → Prop}
variable {cc : ByteArray} {pc : Nat} {ls : Array Slot} {rest : List Value} {G : GG} {A : Nat → Prop} {ws : va_W} {H0 : Heap}

theorem bi_lt (hx : p.tables.exec = Jvm.exec) (hb : c.code = cc) {x y : Int32} {a b : Int} {off : Int} {tgt : Nat} (hdg : decode cc pc = .ok (.if_icmp .lt off, 3)) (ht : (pc : Int) + off = (tgt : Int)) (ea : x.toInt = a) (eb : y.toInt = b) (kt : a < b → W p l e R s m args below meth c H locs cells slots Q (F0 m tgt ls rest)) (kf : b ≤ a → W p l e R s m args below meth c H locs cells slots Q (F0 m (pc + 3) ls rest)) : W p l e R s m args below meth c H locs cells slots Q (F0 m pc ls (.int y :: .int x :: rest)) :=
  lv_icmp_lt hx hb hdg ht (fun h => kt (by rw [← ea, ← eb]; exact Int32.lt_iff_toInt_lt.mp h)) (fun h => kf (by rw [← ea, ← eb]; exact Int.not_lt.mp (fun z => h (Int32.lt_iff_toInt_lt.mpr z))))
theorem b0_lt (hx : p.tables.exec = Jvm.exec) (hb : c.code = cc) {x : Int32} {a : Int} {off : Int} {tgt : Nat} (hdg : decode cc pc = .ok (.ifCond .lt off, 3)) (ht : (pc : Int) + off = (tgt : Int)) (ea : x.toInt = a) (kt : a < 0 → W p l e R s m args below meth c H locs cells slots Q (F0 m tgt ls rest)) (kf : 0 ≤ a → W p l e R s m args below meth c H locs cells slots Q (F0 m (pc + 3) ls rest)) : W p l e R s m args below meth c H locs cells slots Q (F0 m pc ls (.int x :: rest)) :=
  lv_if_lt hx hb hdg ht (fun h => kt (by rw [← ea]; exact Int32.lt_iff_toInt_lt.mp h)) (fun h => kf (by rw [← ea]; exact Int.not_lt.mp (fun z => h (Int32.lt_iff_toInt_lt.mpr z))))
theorem bi_ge (hx : p.tables.exec = Jvm.exec) (hb : c.code = cc) {x y : Int32} {a b : Int} {off : Int} {tgt : Nat} (hdg : decode cc pc = .ok (.if_icmp .ge off, 3)) (ht : (pc : Int) + off = (tgt : Int)) (ea : x.toInt = a) (eb : y.toInt = b) (kt : b ≤ a → W p l e R s m args below meth c H locs cells slots Q (F0 m tgt ls rest)) (kf : a < b → W p l e R s m args below meth c H locs cells slots Q (F0 m (pc + 3) ls rest)) : W p l e R s m args below meth c H locs cells slots Q (F0 m pc ls (.int y :: .int x :: rest)) :=
  lv_icmp_ge hx hb hdg ht (fun h => kt (by rw [← ea, ← eb]; exact Int32.le_iff_toInt_le.mp h)) (fun h => kf (by rw [← ea, ← eb]; exact Int.not_le.mp (fun z => h (Int32.le_iff_toInt_le.mpr z))))
theorem b0_ge (hx : p.tables.exec = Jvm.exec) (hb : c.code = cc) {x : Int32} {a : Int} {off : Int} {tgt : Nat} (hdg : decode cc pc = .ok (.ifCond .ge off, 3)) (ht : (pc : Int) + off = (tgt : Int)) (ea : x.toInt = a) (kt : 0 ≤ a → W p l e R s m args below meth c H locs cells slots Q (F0 m tgt ls rest)) (kf : a < 0 → W p l e R s m args below meth c H locs cells slots Q (F0 m (pc + 3) ls rest)) : W p l e R s m args below meth c H locs cells slots Q (F0 m pc ls (.int x :: rest)) :=
  lv_if_ge hx hb hdg ht (fun h => kt (by rw [← ea]; exact Int32.le_iff_toInt_le.mp h)) (fun h => kf (by rw [← ea]; exact Int.not_le.mp (fun z => h (Int32.le_iff_toInt_le.mpr z))))
theorem bi_gt (hx : p.tables.exec = Jvm.exec) (hb : c.code = cc) {x y : Int32} {a b : Int} {off : Int} {tgt : Nat} (hdg : decode cc pc = .ok (.if_icmp .gt off, 3)) (ht : (pc : Int) + off = (tgt : Int)) (ea : x.toInt = a) (eb : y.toInt = b) (kt : b < a → W p l e R s m args below meth c H locs cells slots Q (F0 m tgt ls rest)) (kf : a ≤ b → W p l e R s m args below meth c H locs cells slots Q (F0 m (pc + 3) ls rest)) : W p l e R s m args below meth c H locs cells slots Q (F0 m pc ls (.int y :: .int x :: rest)) :=
  lv_icmp_gt hx hb hdg ht (fun h => kt (by rw [← ea, ← eb]; exact Int32.lt_iff_toInt_lt.mp h)) (fun h => kf (by rw [← ea, ← eb]; exact Int.not_lt.mp (fun z => h (Int32.lt_iff_toInt_lt.mpr z))))
theorem b0_gt (hx : p.tables.exec = Jvm.exec) (hb : c.code = cc) {x : Int32} {a : Int} {off : Int} {tgt : Nat} (hdg : decode cc pc = .ok (.ifCond .gt off, 3)) (ht : (pc : Int) + off = (tgt : Int)) (ea : x.toInt = a) (kt : 0 < a → W p l e R s m args below meth c H locs cells slots Q (F0 m tgt ls rest)) (kf : a ≤ 0 → W p l e R s m args below meth c H locs cells slots Q (F0 m (pc + 3) ls rest)) : W p l e R s m args below meth c H locs cells slots Q (F0 m pc ls (.int x :: rest)) :=
  lv_if_gt hx hb hdg ht (fun h => kt (by rw [← ea]; exact Int32.lt_iff_toInt_lt.mp h)) (fun h => kf (by rw [← ea]; exact Int.not_lt.mp (fun z => h (Int32.lt_iff_toInt_lt.mpr z))))
theorem bi_le (hx : p.tables.exec = Jvm.exec) (hb : c.code = cc) {x y : Int32} {a b : Int} {off : Int} {tgt : Nat} (hdg : decode cc pc = .ok (.if_icmp .le off, 3)) (ht : (pc : Int) + off = (tgt : Int)) (ea : x.toInt = a) (eb : y.toInt = b) (kt : a ≤ b → W p l e R s m args below meth c H locs cells slots Q (F0 m tgt ls rest)) (kf : b < a → W p l e R s m args below meth c H locs cells slots Q (F0 m (pc + 3) ls rest)) : W p l e R s m args below meth c H locs cells slots Q (F0 m pc ls (.int y :: .int x :: rest)) :=
  lv_icmp_le hx hb hdg ht (fun h => kt (by rw [← ea, ← eb]; exact Int32.le_iff_toInt_le.mp h)) (fun h => kf (by rw [← ea, ← eb]; exact Int.not_le.mp (fun z => h (Int32.le_iff_toInt_le.mpr z))))
theorem b0_le (hx : p.tables.exec = Jvm.exec) (hb : c.code = cc) {x : Int32} {a : Int} {off : Int} {tgt : Nat} (hdg : decode cc pc = .ok (.ifCond .le off, 3)) (ht : (pc : Int) + off = (tgt : Int)) (ea : x.toInt = a) (kt : a ≤ 0 → W p l e R s m args below meth c H locs cells slots Q (F0 m tgt ls rest)) (kf : 0 < a → W p l e R s m args below meth c H locs cells slots Q (F0 m (pc + 3) ls rest)) : W p l e R s m args below meth c H locs cells slots Q (F0 m pc ls (.int x :: rest)) :=
  lv_if_le hx hb hdg ht (fun h => kt (by rw [← ea]; exact Int32.le_iff_toInt_le.mp h)) (fun h => kf (by rw [← ea]; exact Int.not_le.mp (fun z => h (Int32.le_iff_toInt_le.mpr z))))
theorem bi_eq (hx : p.tables.exec = Jvm.exec) (hb : c.code = cc) {x y : Int32} {a b : Int} {off : Int} {tgt : Nat} (hdg : decode cc pc = .ok (.if_icmp .eq off, 3)) (ht : (pc : Int) + off = (tgt : Int)) (ea : x.toInt = a) (eb : y.toInt = b) (kt : a = b → W p l e R s m args below meth c H locs cells slots Q (F0 m tgt ls rest)) (kf : a ≠ b → W p l e R s m args below meth c H locs cells slots Q (F0 m (pc + 3) ls rest)) : W p l e R s m args below meth c H locs cells slots Q (F0 m pc ls (.int y :: .int x :: rest)) :=
  lv_icmp_eq hx hb hdg ht (fun h => kt (by rw [← ea, ← eb]; exact congrArg Int32.toInt h)) (fun h => kf (by rw [← ea, ← eb]; exact fun z => h (Int32.toInt_inj.mp z)))
theorem b0_eq (hx : p.tables.exec = Jvm.exec) (hb : c.code = cc) {x : Int32} {a : Int} {off : Int} {tgt : Nat} (hdg : decode cc pc = .ok (.ifCond .eq off, 3)) (ht : (pc : Int) + off = (tgt : Int)) (ea : x.toInt = a) (kt : a = 0 → W p l e R s m args below meth c H locs cells slots Q (F0 m tgt ls rest)) (kf : a ≠ 0 → W p l e R s m args below meth c H locs cells slots Q (F0 m (pc + 3) ls rest)) : W p l e R s m args below meth c H locs cells slots Q (F0 m pc ls (.int x :: rest)) :=
  lv_if_eq hx hb hdg ht (fun h => kt (by rw [← ea]; exact congrArg Int32.toInt h)) (fun h => kf (by rw [← ea]; exact fun z => h (Int32.toInt_inj.mp z)))
theorem bi_ne (hx : p.tables.exec = Jvm.exec) (hb : c.code = cc) {x y : Int32} {a b : Int} {off : Int} {tgt : Nat} (hdg : decode cc pc = .ok (.if_icmp .ne off, 3)) (ht : (pc : Int) + off = (tgt : Int)) (ea : x.toInt = a) (eb : y.toInt = b) (kt : a ≠ b → W p l e R s m args below meth c H locs cells slots Q (F0 m tgt ls rest)) (kf : a = b → W p l e R s m args below meth c H locs cells slots Q (F0 m (pc + 3) ls rest)) : W p l e R s m args below meth c H locs cells slots Q (F0 m pc ls (.int y :: .int x :: rest)) :=
  lv_icmp_ne hx hb hdg ht (fun h => kt (by rw [← ea, ← eb]; exact fun z => h (Int32.toInt_inj.mp z))) (fun h => kf (by rw [← ea, ← eb]; exact congrArg Int32.toInt h))
theorem b0_ne (hx : p.tables.exec = Jvm.exec) (hb : c.code = cc) {x : Int32} {a : Int} {off : Int} {tgt : Nat} (hdg : decode cc pc = .ok (.ifCond .ne off, 3)) (ht : (pc : Int) + off = (tgt : Int)) (ea : x.toInt = a) (kt : a ≠ 0 → W p l e R s m args below meth c H locs cells slots Q (F0 m tgt ls rest)) (kf : a = 0 → W p l e R s m args below meth c H locs cells slots Q (F0 m (pc + 3) ls rest)) : W p l e R s m args below meth c H locs cells slots Q (F0 m pc ls (.int x :: rest)) :=
  lv_if_ne hx hb hdg ht (fun h => kt (by rw [← ea]; exact fun z => h (Int32.toInt_inj.mp z))) (fun h => kf (by rw [← ea]; exact congrArg Int32.toInt h))
theorem bb_eq (hx : p.tables.exec = Jvm.exec) (hb : c.code = cc) {P : Prop} {off : Int} {tgt : Nat} (hdg : decode cc pc = .ok (.ifCond .eq off, 3)) (ht : (pc : Int) + off = (tgt : Int)) (kt : ¬ P → W p l e R s m args below meth c H locs cells slots Q (F0 m tgt ls rest)) (kf : P → W p l e R s m args below meth c H locs cells slots Q (F0 m (pc + 3) ls rest)) : W p l e R s m args below meth c H locs cells slots Q (F0 m pc ls (.int (zb P) :: rest)) :=
  lv_if_eq hx hb hdg ht (fun h => kt (zb_0.mp h)) (fun h => kf (zb_ne.mp h))
theorem bb_ne (hx : p.tables.exec = Jvm.exec) (hb : c.code = cc) {P : Prop} {off : Int} {tgt : Nat} (hdg : decode cc pc = .ok (.ifCond .ne off, 3)) (ht : (pc : Int) + off = (tgt : Int)) (kt : P → W p l e R s m args below meth c H locs cells slots Q (F0 m tgt ls rest)) (kf : ¬ P → W p l e R s m args below meth c H locs cells slots Q (F0 m (pc + 3) ls rest)) : W p l e R s m args below meth c H locs cells slots Q (F0 m pc ls (.int (zb P) :: rest)) :=
  lv_if_ne hx hb hdg ht (fun h => kt (zb_ne.mp h)) (fun h => kf (zb_0.mp h))
theorem nv_iadd (hx : p.tables.exec = Jvm.exec) (hb : c.code = cc) {a b : Nat} (hdg : decode cc pc = .ok (.iadd, 1)) (k : W p l e R s m args below meth c H locs cells slots Q (F0 m (pc + 1) ls (.int (nI (a + b)) :: rest))) : W p l e R s m args below meth c H locs cells slots Q (F0 m pc ls (.int (nI b) :: .int (nI a) :: rest)) :=
  lv_iadd hx hb hdg (by rw [nI_add]; exact k)
theorem nv_imul (hx : p.tables.exec = Jvm.exec) (hb : c.code = cc) {a b : Nat} (hdg : decode cc pc = .ok (.imul, 1)) (k : W p l e R s m args below meth c H locs cells slots Q (F0 m (pc + 1) ls (.int (nI (a * b)) :: rest))) : W p l e R s m args below meth c H locs cells slots Q (F0 m pc ls (.int (nI b) :: .int (nI a) :: rest)) :=
  lv_imul hx hb hdg (by rw [pk_mul]; exact k)
theorem nv_isub (hx : p.tables.exec = Jvm.exec) (hb : c.code = cc) {a b : Nat} (h : b ≤ a) (hdg : decode cc pc = .ok (.isub, 1)) (k : W p l e R s m args below meth c H locs cells slots Q (F0 m (pc + 1) ls (.int (nI (a - b)) :: rest))) : W p l e R s m args below meth c H locs cells slots Q (F0 m pc ls (.int (nI b) :: .int (nI a) :: rest)) :=
  lv_isub hx hb hdg (by rw [pk_sub h]; exact k)
theorem nv_idiv (hx : p.tables.exec = Jvm.exec) (hb : c.code = cc) {a b : Nat} (h : a < 2 ^ 31 ∧ 0 < b ∧ b < 2 ^ 31) (hdg : decode cc pc = .ok (.idiv, 1)) (k : W p l e R s m args below meth c H locs cells slots Q (F0 m (pc + 1) ls (.int (nI (a / b)) :: rest))) : W p l e R s m args below meth c H locs cells slots Q (F0 m pc ls (.int (nI b) :: .int (nI a) :: rest)) :=
  lv_idiv hx hb hdg (fun z => nI_ne0 h.2.1 h.2.2 z) (by rw [pk_div h.1 h.2.1 h.2.2]; exact k)
theorem nv_irem (hx : p.tables.exec = Jvm.exec) (hb : c.code = cc) {a b : Nat} (h : a < 2 ^ 31 ∧ 0 < b ∧ b < 2 ^ 31) (hdg : decode cc pc = .ok (.irem, 1)) (k : W p l e R s m args below meth c H locs cells slots Q (F0 m (pc + 1) ls (.int (nI (a % b)) :: rest))) : W p l e R s m args below meth c H locs cells slots Q (F0 m pc ls (.int (nI b) :: .int (nI a) :: rest)) :=
  lv_irem hx hb hdg (fun z => nI_ne0 h.2.1 h.2.2 z) (by rw [pk_rem h.1 h.2.1 h.2.2]; exact k)
theorem nv_iadd0 (hx : p.tables.exec = Jvm.exec) (hb : c.code = cc) {b : Nat} (hdg : decode cc pc = .ok (.iadd, 1)) (k : W p l e R s m args below meth c H locs cells slots Q (F0 m (pc + 1) ls (.int (nI b) :: rest))) : W p l e R s m args below meth c H locs cells slots Q (F0 m pc ls (.int (nI b) :: .int (nI 0) :: rest)) :=
  lv_iadd hx hb hdg (by rw [nI_add, Nat.zero_add]; exact k)
theorem zv_iadd {x y : Int32} {a b : Int} (ex : zI a = x) (ey : zI b = y) (hx : p.tables.exec = Jvm.exec) (hb : c.code = cc) (hdg : decode cc pc = .ok (.iadd, 1)) (k : W p l e R s m args below meth c H locs cells slots Q (F0 m (pc + 1) ls (.int (zI (a + b)) :: rest))) : W p l e R s m args below meth c H locs cells slots Q (F0 m pc ls (.int y :: .int x :: rest)) := by
  subst ex
  subst ey
  refine lv_iadd hx hb hdg ?_
  rw [show zI a + zI b = zI (a + b) from (Int32.ofInt_add a b).symm]
  exact k
theorem zv_isub {x y : Int32} {a b : Int} (ex : zI a = x) (ey : zI b = y) (hx : p.tables.exec = Jvm.exec) (hb : c.code = cc) (hdg : decode cc pc = .ok (.isub, 1)) (k : W p l e R s m args below meth c H locs cells slots Q (F0 m (pc + 1) ls (.int (zI (a - b)) :: rest))) : W p l e R s m args below meth c H locs cells slots Q (F0 m pc ls (.int y :: .int x :: rest)) := by
  subst ex
  subst ey
  refine lv_isub hx hb hdg ?_
  rw [show zI a - zI b = zI (a - b) from (Int32.ofInt_sub a b).symm]
  exact k
theorem zv_imul {x y : Int32} {a b : Int} (ex : zI a = x) (ey : zI b = y) (hx : p.tables.exec = Jvm.exec) (hb : c.code = cc) (hdg : decode cc pc = .ok (.imul, 1)) (k : W p l e R s m args below meth c H locs cells slots Q (F0 m (pc + 1) ls (.int (zI (a * b)) :: rest))) : W p l e R s m args below meth c H locs cells slots Q (F0 m pc ls (.int y :: .int x :: rest)) := by
  subst ex
  subst ey
  refine lv_imul hx hb hdg ?_
  rw [show zI a * zI b = zI (a * b) from (Int32.ofInt_mul a b).symm]
  exact k
theorem nv_iald (hx : p.tables.exec = Jvm.exec) (hb : c.code = cc) {a : Nat} (hK : VK G s) (hP : VP G ws H) (q0 : Nat) {n : Nat} {f : Nat → Int32} (ha : ws[q0]? = some (a, .inl (G.2 0, n, .inl f))) {k : Nat} (hk : k < n) (hn : n < 2 ^ 31) (hdg : decode cc pc = .ok (.iaload, 1)) (kk : W p l e R s m args below meth c H locs cells slots Q (F0 m (pc + 1) ls (.int (f k) :: rest))) : W p l e R s m args below meth c H locs cells slots Q (F0 m pc ls (.int (nI k) :: .ref a :: rest)) :=
  va_iald hx hb hK.1 hP q0 0 ha rfl (vp_in_nI hk hn) hdg (by rw [nI_clamp (Nat.lt_trans hk hn)]; exact kk)
theorem nv_iast (hx : p.tables.exec = Jvm.exec) (hb : c.code = cc) {a : Nat} (hK : VK G s) (hP : VP G ws H) (hD : va_D A ws) (hS : va_S A H0 H locs) (q0 : Nat) {n : Nat} {f : Nat → Int32} (ha : ws[q0]? = some (a, .inl (G.2 0, n, .inl f))) {k : Nat} {x v : Int32} (hv : x = v) (hk : k < n) (hn : n < 2 ^ 31) (hdg : decode cc pc = .ok (.iastore, 1)) {w3 : va_W} (hw : ws.set q0 (a, .inl (G.2 0, n, .inl (upd f k v))) = w3) (kk : ∀ (H1 : Heap) (locs1 : List Loc), VP G w3 H1 → va_D A w3 → va_S A H0 H1 locs1 → W p l e R s m args below meth c H1 locs1 cells slots Q (F0 m (pc + 1) ls rest)) : W p l e R s m args below meth c H locs cells slots Q (F0 m pc ls (.int x :: .int (nI k) :: .ref a :: rest)) := by
  subst hw
  subst hv
  refine va_iast hx hb hK.1 hP hD hS q0 0 ha rfl (vp_in_nI hk hn) hdg ?_
  rw [nI_clamp (Nat.lt_trans hk hn)]
  exact kk
theorem nv_cald (hx : p.tables.exec = Jvm.exec) (hb : c.code = cc) {a : Nat} (hK : VK G s) (hP : VP G ws H) (q0 : Nat) {n : Nat} {f : Nat → Int32} (ha : ws[q0]? = some (a, .inl (G.2 1, n, .inl f))) {k : Nat} (hk : k < n) (hn : n < 2 ^ 31) (hdg : decode cc pc = .ok (.caload, 1)) (kk : W p l e R s m args below meth c H locs cells slots Q (F0 m (pc + 1) ls (.int (f k) :: rest))) : W p l e R s m args below meth c H locs cells slots Q (F0 m pc ls (.int (nI k) :: .ref a :: rest)) :=
  va_cald hx hb hK.1 hP q0 1 ha rfl (vp_in_nI hk hn) hdg (by rw [nI_clamp (Nat.lt_trans hk hn)]; exact kk)
theorem nv_cast (hx : p.tables.exec = Jvm.exec) (hb : c.code = cc) {a : Nat} (hK : VK G s) (hP : VP G ws H) (hD : va_D A ws) (hS : va_S A H0 H locs) (q0 : Nat) {n : Nat} {f : Nat → Int32} (ha : ws[q0]? = some (a, .inl (G.2 1, n, .inl f))) {k : Nat} {x v : Int32} (hv : (vp_nar .char x) = v) (hk : k < n) (hn : n < 2 ^ 31) (hdg : decode cc pc = .ok (.castore, 1)) {w3 : va_W} (hw : ws.set q0 (a, .inl (G.2 1, n, .inl (upd f k v))) = w3) (kk : ∀ (H1 : Heap) (locs1 : List Loc), VP G w3 H1 → va_D A w3 → va_S A H0 H1 locs1 → W p l e R s m args below meth c H1 locs1 cells slots Q (F0 m (pc + 1) ls rest)) : W p l e R s m args below meth c H locs cells slots Q (F0 m pc ls (.int x :: .int (nI k) :: .ref a :: rest)) := by
  subst hw
  subst hv
  refine va_cast hx hb hK.1 hP hD hS q0 1 ha rfl (vp_in_nI hk hn) hdg ?_
  rw [nI_clamp (Nat.lt_trans hk hn)]
  exact kk
theorem nv_zald (hx : p.tables.exec = Jvm.exec) (hb : c.code = cc) {a : Nat} (hK : VK G s) (hP : VP G ws H) (q0 : Nat) {n : Nat} {f : Nat → Int32} (ha : ws[q0]? = some (a, .inl (G.2 2, n, .inl f))) {k : Nat} (hk : k < n) (hn : n < 2 ^ 31) (hdg : decode cc pc = .ok (.baload, 1)) (kk : W p l e R s m args below meth c H locs cells slots Q (F0 m (pc + 1) ls (.int (f k) :: rest))) : W p l e R s m args below meth c H locs cells slots Q (F0 m pc ls (.int (nI k) :: .ref a :: rest)) :=
  va_zald hx hb hK.1 hP q0 2 ha rfl (vp_in_nI hk hn) hdg (by rw [nI_clamp (Nat.lt_trans hk hn)]; exact kk)
theorem nv_zast (hx : p.tables.exec = Jvm.exec) (hb : c.code = cc) {a : Nat} (hK : VK G s) (hP : VP G ws H) (hD : va_D A ws) (hS : va_S A H0 H locs) (q0 : Nat) {n : Nat} {f : Nat → Int32} (ha : ws[q0]? = some (a, .inl (G.2 2, n, .inl f))) {k : Nat} {x v : Int32} (hv : (vp_nar .boolean x) = v) (hk : k < n) (hn : n < 2 ^ 31) (hdg : decode cc pc = .ok (.bastore, 1)) {w3 : va_W} (hw : ws.set q0 (a, .inl (G.2 2, n, .inl (upd f k v))) = w3) (kk : ∀ (H1 : Heap) (locs1 : List Loc), VP G w3 H1 → va_D A w3 → va_S A H0 H1 locs1 → W p l e R s m args below meth c H1 locs1 cells slots Q (F0 m (pc + 1) ls rest)) : W p l e R s m args below meth c H locs cells slots Q (F0 m pc ls (.int x :: .int (nI k) :: .ref a :: rest)) := by
  subst hw
  subst hv
  refine va_zast hx hb hK.1 hP hD hS q0 2 ha rfl (vp_in_nI hk hn) hdg ?_
  rw [nI_clamp (Nat.lt_trans hk hn)]
  exact kk
end NUMS
