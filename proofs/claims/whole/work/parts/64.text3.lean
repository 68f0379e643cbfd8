/-! TEXT 3: storeys behind the letters -/
def steF (cd : Nat → Nat) (sz : Nat) : Nat → Nat → Nat → Nat → Int32
  | 0, _, b, v => if b < v then -1 else nI sz
  | k + 1, i, b, v => if cd i = 44 then (if v ≤ b then nI i else steF cd sz k (i + 1) v 0) else if 48 ≤ cd i ∧ cd i ≤ 57 ∧ 1 ≤ 10 * v + cd i - 48 ∧ 10 * v + cd i - 48 ≤ 30 then steF cd sz k (i + 1) b (10 * v + cd i - 48) else nI i
theorem steF_e1 {cd : Nat → Nat} {sz i b v : Nat} (h : b < v) : steF cd sz 0 i b v = -1 := if_pos h
theorem steF_e2 {cd : Nat → Nat} {sz i b v : Nat} (h : ¬ b < v) : steF cd sz 0 i b v = nI sz := if_neg h
theorem steF_c1 {cd : Nat → Nat} {sz k i b v : Nat} (h : cd i = 44) (h2 : v ≤ b) : steF cd sz (k + 1) i b v = nI i := by
  show (if _ then _ else _) = _
  rw [if_pos h, if_pos h2]
theorem steF_c2 {cd : Nat → Nat} {sz k i b v : Nat} (h : cd i = 44) (h2 : ¬ v ≤ b) : steF cd sz (k + 1) i b v = steF cd sz k (i + 1) v 0 := by
  show (if _ then _ else _) = _
  rw [if_pos h, if_neg h2]
theorem steF_d {cd : Nat → Nat} {sz k i b v : Nat} (h : ¬ cd i = 44) (h2 : 48 ≤ cd i ∧ cd i ≤ 57 ∧ 1 ≤ 10 * v + cd i - 48 ∧ 10 * v + cd i - 48 ≤ 30) : steF cd sz (k + 1) i b v = steF cd sz k (i + 1) b (10 * v + cd i - 48) := by
  show (if _ then _ else _) = _
  rw [if_neg h, if_pos h2]
theorem steF_n {cd : Nat → Nat} {sz k i b v : Nat} (h : ¬ cd i = 44) (h2 : ¬ (48 ≤ cd i ∧ cd i ≤ 57 ∧ 1 ≤ 10 * v + cd i - 48 ∧ 10 * v + cd i - 48 ≤ 30)) : steF cd sz (k + 1) i b v = nI i := by
  show (if _ then _ else _) = _
  rw [if_neg h, if_neg h2]
/-- where the ground is told -/
noncomputable def gnd (cd : Nat → Nat) (sz : Nat) : Int32 := kth (fun x_ => cd x_ = 71) (ltr cd sz) 0 0
noncomputable def ferr (cd : Nat → Nat) (sz : Nat) : Int32 := if ltr cd sz = sz then (if gnd cd sz = -1 then nI sz else -1) else if gnd cd sz = -1 ∨ ¬ cd (ltr cd sz) = 47 then nI (ltr cd sz) else steF cd sz (sz - (ltr cd sz + 1)) (ltr cd sz + 1) 0 0
theorem ferr_1 {cd : Nat → Nat} {sz : Nat} (h : ltr cd sz = sz) (h2 : gnd cd sz = -1) : ferr cd sz = nI sz := by
  unfold ferr; rw [if_pos h, if_pos h2]
theorem ferr_2 {cd : Nat → Nat} {sz : Nat} (h : ltr cd sz = sz) (h2 : ¬ gnd cd sz = -1) : ferr cd sz = -1 := by
  unfold ferr; rw [if_pos h, if_neg h2]
theorem ferr_3 {cd : Nat → Nat} {sz : Nat} (h : ¬ ltr cd sz = sz) (h2 : gnd cd sz = -1 ∨ ¬ cd (ltr cd sz) = 47) : ferr cd sz = nI (ltr cd sz) := by
  unfold ferr; rw [if_neg h, if_pos h2]
theorem ferr_4 {cd : Nat → Nat} {sz : Nat} (h : ¬ ltr cd sz = sz) (h2 : ¬ gnd cd sz = -1) (h3 : cd (ltr cd sz) = 47) : ferr cd sz = steF cd sz (sz - (ltr cd sz + 1)) (ltr cd sz + 1) 0 0 := by
  unfold ferr; rw [if_neg h, if_neg (fun z => z.elim h2 (fun y => y h3))]
