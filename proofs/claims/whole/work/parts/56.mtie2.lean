/-! THE TIE 5: houses on trial -/
theorem pur_it {q n : Nat} {gI s : Int32} {t m : Nat → Int32} : pur (it q t (mr n gI s (pur t 0 m 131))) 0 m 131 = pur t 0 m 131 := by
  unfold it
  split
  · rfl
  · funext j
    unfold pur
    by_cases hj : 0 ≤ j ∧ j < 0 + 131
    · rw [if_pos hj, if_pos hj]
    · rw [if_neg hj, if_neg hj, mr_j (by omega), if_neg hj]
theorem nmA_o {sk sk' : Int32} {k k' : Nat → Int32} {g g' n : Nat} {d : Nat → Int32} : nmA sk k g 0 n (nmA sk' k' g' 0 n d) = nmA sk k g 0 n d := by
  funext j
  by_cases hj : j < n
  · rw [nmA_at (Nat.zero_le _) hj, nmA_at (Nat.zero_le _) hj]
  · unfold nmA
    rw [if_neg (fun z_ => hj z_.2), if_neg (fun z_ => hj z_.2), if_neg (fun z_ => hj z_.2)]
theorem soA_o {sk sk' : Int32} {k k' : Nat → Int32} {g g' n : Nat} {d : Nat → Int32} : soA sk k g 0 n (soA sk' k' g' 0 n d) = soA sk k g 0 n d := by
  funext j
  by_cases hj : j < n
  · rw [soA_at (Nat.zero_le _) hj, soA_at (Nat.zero_le _) hj]
  · unfold soA
    rw [if_neg (fun z_ => hj z_.2), if_neg (fun z_ => hj z_.2), if_neg (fun z_ => hj z_.2)]
theorem nmA_it {q : Nat} {sk s1 s2 : Int32} {k k1 k2 : Nat → Int32} {g g1 g2 n : Nat} {d : Nat → Int32} : nmA sk k g 0 n (it q (nmA s1 k1 g1 0 n d) (nmA s2 k2 g2 0 n d)) = nmA sk k g 0 n d := by
  unfold it
  split <;> exact nmA_o
theorem soA_it {q : Nat} {sk s1 s2 : Int32} {k k1 k2 : Nat → Int32} {g g1 g2 n : Nat} {d : Nat → Int32} : soA sk k g 0 n (it q (soA s1 k1 g1 0 n d) (soA s2 k2 g2 0 n d)) = soA sk k g 0 n d := by
  unfold it
  split <;> exact soA_o
theorem MRel_tg {n g q : Nat} {sk s2 : Int32} {f m t : Nat → Int32} (h : MRel n sk g f m) (hn : n ≤ 16) (hg : g < n) : MRel n s2 g (rn s2 g 0 n f) (pur t 0 m 131) :=
  (MRk_rn (MRk_copy h.rk hn) hn hn).rel hg (rn_Nmd hn hg)
theorem insG_lt {lv g n : Nat} (hg : g < n) : insG lv g < n + 1 := by
  unfold insG
  split <;> omega
theorem MRel_ins {n g lv : Nat} {sk k : Int32} {f m : Nat → Int32} (h : MRk n f m) (hn : n < 16) (hg : g < n) (hl : lv ≤ n) : MRel (n + 1) sk (insG lv g) (rn sk (insG lv g) 0 (n + 1) (fur lv k (sh lv n 9 n f))) (fum lv k (sm lv n lv m)) :=
  (MRk_rn (MRk_ins h hn hl) (by omega) (by omega)).rel (insG_lt hg) (rn_Nmd (by omega) (insG_lt hg))
theorem fum_g {n g lv : Nat} {k : Int32} {f m : Nat → Int32} (h : MRk n f m) (hn : n < 16) (hg : g < n) (hl : lv ≤ n) (h0 : f g = 0) : fum lv k (sm lv n lv m) (3 + insG lv g) = 0 := by
  have e := MRk_ins (k := k) h hn hl 0 (insG lv g) (by decide) (by decide) (insG_lt hg)
  rw [Nat.zero_mul, Nat.zero_add] at e
  exact e.trans (ins_g hg hn hl h0)
theorem rn_out {sk : Int32} {g a b j : Nat} {f : Nat → Int32} (hb : b ≤ 16) (h : 32 ≤ j) : rn sk g a b f j = f j := by
  unfold rn
  rw [if_neg (by omega)]
theorem wo_ins {n lv g2 : Nat} {sk k : Int32} {F : Nat → Int32} (hn : n < 16) (hl : lv ≤ n) : wo (rn sk g2 0 (n + 1) (fur lv k F)) lv = nb (¬ rn sk g2 0 (n + 1) (fur lv k F) (16 + lv) = -1) * 4 := by
  have e : ∀ ro, ro < 9 → 2 ≤ ro → ro < 6 → rn sk g2 0 (n + 1) (fur lv k F) (ro * 16 + lv) = -1 := by
    intro ro h1 h2 h3
    rw [rn_out (by omega) (by omega), fur_at h1 (by omega) (by omega) (by omega), if_pos rfl, if_neg (by omega), if_pos h3]
  have e2 := e 2 (by decide) (by decide) (by decide)
  have e3 := e 3 (by decide) (by decide) (by decide)
  have e4 := e 4 (by decide) (by decide) (by decide)
  have e5 := e 5 (by decide) (by decide) (by decide)
  unfold wo
  rw [show rn sk g2 0 (n + 1) (fur lv k F) (32 + lv) = -1 from e2, show rn sk g2 0 (n + 1) (fur lv k F) (48 + lv) = -1 from e3, show rn sk g2 0 (n + 1) (fur lv k F) (64 + lv) = -1 from e4, show rn sk g2 0 (n + 1) (fur lv k F) (80 + lv) = -1 from e5]
  rw [nb_c (show (¬ (-1 : Int32) = rn sk g2 0 (n + 1) (fur lv k F) (16 + lv)) ↔ ¬ rn sk g2 0 (n + 1) (fur lv k F) (16 + lv) = -1 from ⟨fun z y => z y.symm, fun z y => z y.symm⟩)]
  omega
