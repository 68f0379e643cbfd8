/-! THE TIE 3 -/
theorem tw_R {n g : Nat} {sk : Int32} {f m : Nat → Int32} (h : MRel n sk g f m) : mwr sk m g 19 n + mwr sk m g (35 + 16 * 0) n + mwr sk m g (35 + 16 * 1) n + mwr sk m g (35 + 16 * 2) n = tw f n := by
  rw [mwr_R h, mwr_Rb h (by decide), mwr_Rb h (by decide), mwr_Rb h (by decide)]
  rfl
theorem nmA_i {sk : Int32} {k : Nat → Int32} {g n : Nat} {d : Nat → Int32} : nmA sk k g 0 n (nmA sk k g 0 n d) = nmA sk k g 0 n d := by
  funext j
  by_cases hj : j < n
  · rw [nmA_at (Nat.zero_le _) hj, nmA_at (Nat.zero_le _) hj]
  · unfold nmA
    rw [if_neg (fun z_ => hj z_.2)]
theorem soA_i {sk : Int32} {k : Nat → Int32} {g n : Nat} {d : Nat → Int32} : soA sk k g 0 n (soA sk k g 0 n d) = soA sk k g 0 n d := by
  funext j
  by_cases hj : j < n
  · rw [soA_at (Nat.zero_le _) hj, soA_at (Nat.zero_le _) hj]
  · unfold soA
    rw [if_neg (fun z_ => hj z_.2)]
theorem MRel.so {n g : Nat} {sk : Int32} {f m d : Nat → Int32} (h : MRel n sk g f m) (hg : g < n) {x : Nat} (hx : x < n) : soA sk (kdm m) g 0 n d x = zI (sto sk f g x) := by
  rw [soA_at (Nat.zero_le _) hx, sto_cong hg hx (fun y hy => (show kdm m y = f y from h.1 y hy))]
