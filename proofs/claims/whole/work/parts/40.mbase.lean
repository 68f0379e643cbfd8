/-! MODEL BASE: its rows of 131; longs compared -/
/-- a row: how many levels, which is the ground, the skipped storeys; the rest -/
def mr (n : Nat) (gI sk : Int32) (m : Nat → Int32) : Nat → Int32 := fun j => if j = 0 then nI n else if j = 1 then gI else if j = 2 then sk else m j
theorem mr_0 {n : Nat} {gI sk : Int32} {m : Nat → Int32} : mr n gI sk m 0 = nI n := rfl
theorem mr_1 {n : Nat} {gI sk : Int32} {m : Nat → Int32} : mr n gI sk m 1 = gI := rfl
theorem mr_2 {n : Nat} {gI sk : Int32} {m : Nat → Int32} : mr n gI sk m 2 = sk := rfl
theorem mr_j {n : Nat} {gI sk : Int32} {m : Nat → Int32} {j : Nat} (h : 3 ≤ j) : mr n gI sk m j = m j := by
  unfold mr
  rw [if_neg (by omega), if_neg (by omega), if_neg (by omega)]
theorem mr_u0 {n n2 : Nat} {gI sk : Int32} {m : Nat → Int32} : upd (mr n gI sk m) 0 (nI n2) = mr n2 gI sk m := by
  funext j
  unfold upd mr
  by_cases h : j = 0
  · subst h; rfl
  · rw [if_neg h, if_neg h, if_neg h]
theorem mr_u1 {n : Nat} {gI g2 sk : Int32} {m : Nat → Int32} : upd (mr n gI sk m) 1 g2 = mr n g2 sk m := by
  funext j
  unfold upd mr
  by_cases h : j = 1
  · subst h; rfl
  · rw [if_neg h, if_neg h, if_neg h]
theorem mr_u2 {n : Nat} {gI sk s2 : Int32} {m : Nat → Int32} : upd (mr n gI sk m) 2 s2 = mr n gI s2 m := by
  funext j
  unfold upd mr
  by_cases h : j = 2
  · subst h; rfl
  · rw [if_neg h, if_neg h, if_neg h]
theorem mr_uj {n : Nat} {gI sk v : Int32} {m : Nat → Int32} {i : Nat} (h : 3 ≤ i) : upd (mr n gI sk m) i v = mr n gI sk (upd m i v) := by
  funext j
  unfold upd mr
  by_cases hj : j = i
  · subst hj
    rw [if_pos rfl, if_neg (by omega), if_neg (by omega), if_neg (by omega)]
    dsimp only
    rw [if_pos rfl]
  · rw [if_neg hj]
    dsimp only
    rw [if_neg hj]
theorem mr_eta (r : Nat → Int32) {n : Nat} (h : r 0 = nI n) : mr n (r 1) (r 2) r = r := by
  funext j
  unfold mr
  by_cases h0 : j = 0
  · subst h0; rw [if_pos rfl, h]
  · rw [if_neg h0]
    by_cases h1 : j = 1
    · subst h1; rw [if_pos rfl]
    · rw [if_neg h1]
      by_cases h2 : j = 2
      · subst h2; rw [if_pos rfl]
      · rw [if_neg h2]
theorem lg_toInt (x y : Int64) : (lg_cmp x y).toInt = if y.toInt < x.toInt then 1 else if x.toInt = y.toInt then 0 else -1 := by
  unfold lg_cmp
  by_cases h1 : y < x
  · rw [if_pos h1, if_pos (Int64.lt_iff_toInt_lt.mp h1)]; rfl
  · rw [if_neg h1, if_neg (fun z => h1 (Int64.lt_iff_toInt_lt.mpr z))]
    by_cases h2 : x = y
    · rw [if_pos h2, if_pos (congrArg Int64.toInt h2)]; rfl
    · rw [if_neg h2, if_neg (fun z => h2 (Int64.toInt_inj.mp z))]; rfl
theorem i2l_toInt (x : Int32) : x.toInt64.toInt = x.toInt := Int32.toInt_toInt64 x
section MBASE
variable {p : Program} {l : Launch} {e : Env} {R : Room} {s : State} {m : MethodId} {args : Array Value} {below : List Frame} {meth : Method} {c : Code} {H : Heap} {locs : List Loc} {cells slots : Nat} {Q : State → Prop}
variable {cc : ByteArray} {pc : Nat} {ls : Array Slot} {rest : List Value} {x y : Int64} {off : Int} {tgt : Nat}
theorem bl_lt (hx : p.tables.exec = Jvm.exec) (hb : c.code = cc) (hdg : decode cc pc = .ok (.ifCond .lt off, 3)) (ht : (pc : Int) + off = (tgt : Int)) (kt : x.toInt < y.toInt → W p l e R s m args below meth c H locs cells slots Q (F0 m tgt ls rest)) (kf : y.toInt ≤ x.toInt → W p l e R s m args below meth c H locs cells slots Q (F0 m (pc + 3) ls rest)) : W p l e R s m args below meth c H locs cells slots Q (F0 m pc ls (.int (lg_cmp x y) :: rest)) :=
  b0_lt hx hb hdg ht (lg_toInt x y) (fun h => kt (by split at h <;> first | omega | (split at h <;> omega))) (fun h => kf (by split at h <;> first | omega | (split at h <;> omega)))
theorem bl_ge (hx : p.tables.exec = Jvm.exec) (hb : c.code = cc) (hdg : decode cc pc = .ok (.ifCond .ge off, 3)) (ht : (pc : Int) + off = (tgt : Int)) (kt : y.toInt ≤ x.toInt → W p l e R s m args below meth c H locs cells slots Q (F0 m tgt ls rest)) (kf : x.toInt < y.toInt → W p l e R s m args below meth c H locs cells slots Q (F0 m (pc + 3) ls rest)) : W p l e R s m args below meth c H locs cells slots Q (F0 m pc ls (.int (lg_cmp x y) :: rest)) :=
  b0_ge hx hb hdg ht (lg_toInt x y) (fun h => kt (by split at h <;> first | omega | (split at h <;> omega))) (fun h => kf (by split at h <;> first | omega | (split at h <;> omega)))
theorem bl_gt (hx : p.tables.exec = Jvm.exec) (hb : c.code = cc) (hdg : decode cc pc = .ok (.ifCond .gt off, 3)) (ht : (pc : Int) + off = (tgt : Int)) (kt : y.toInt < x.toInt → W p l e R s m args below meth c H locs cells slots Q (F0 m tgt ls rest)) (kf : x.toInt ≤ y.toInt → W p l e R s m args below meth c H locs cells slots Q (F0 m (pc + 3) ls rest)) : W p l e R s m args below meth c H locs cells slots Q (F0 m pc ls (.int (lg_cmp x y) :: rest)) :=
  b0_gt hx hb hdg ht (lg_toInt x y) (fun h => kt (by split at h <;> first | omega | (split at h <;> omega))) (fun h => kf (by split at h <;> first | omega | (split at h <;> omega)))
theorem bl_eq (hx : p.tables.exec = Jvm.exec) (hb : c.code = cc) (hdg : decode cc pc = .ok (.ifCond .eq off, 3)) (ht : (pc : Int) + off = (tgt : Int)) (kt : x.toInt = y.toInt → W p l e R s m args below meth c H locs cells slots Q (F0 m tgt ls rest)) (kf : x.toInt ≠ y.toInt → W p l e R s m args below meth c H locs cells slots Q (F0 m (pc + 3) ls rest)) : W p l e R s m args below meth c H locs cells slots Q (F0 m pc ls (.int (lg_cmp x y) :: rest)) :=
  b0_eq hx hb hdg ht (lg_toInt x y) (fun h => kt (by split at h <;> first | omega | (split at h <;> omega))) (fun h => kf (by split at h <;> first | omega | (split at h <;> omega)))
theorem bl_ne (hx : p.tables.exec = Jvm.exec) (hb : c.code = cc) (hdg : decode cc pc = .ok (.ifCond .ne off, 3)) (ht : (pc : Int) + off = (tgt : Int)) (kt : x.toInt ≠ y.toInt → W p l e R s m args below meth c H locs cells slots Q (F0 m tgt ls rest)) (kf : x.toInt = y.toInt → W p l e R s m args below meth c H locs cells slots Q (F0 m (pc + 3) ls rest)) : W p l e R s m args below meth c H locs cells slots Q (F0 m pc ls (.int (lg_cmp x y) :: rest)) :=
  b0_ne hx hb hdg ht (lg_toInt x y) (fun h => kt (by split at h <;> first | omega | (split at h <;> omega))) (fun h => kf (by split at h <;> first | omega | (split at h <;> omega)))
end MBASE
theorem addm1 {n : Nat} (h : 1 ≤ n) : nI n + (-1) = nI (n - 1) := by
  obtain ⟨k, rfl⟩ : ∃ k, n = k + 1 := ⟨n - 1, by omega⟩
  exact pk_m1 k
theorem subm1 (n : Nat) : nI n - (-1) = nI (n + 1) := by
  rw [Int32.sub_eq_add_neg]
  exact nI_add n 1
theorem negm1 : -(-1 : Int32) = nI 1 := rfl
theorem neg1 : -(nI 1) = (-1 : Int32) := rfl
