/-! THE TIE 4: rows of the model and of a house under changes -/
def mix (ro : Nat) : Nat := if ro = 0 then 3 else 16 * ro - 13
theorem mix_0 : mix 0 = 3 := rfl
theorem mix_s {ro : Nat} (h : ro ≠ 0) : mix ro = 16 * ro - 13 := if_neg h
def MRk (n : Nat) (f m : Nat → Int32) : Prop := ∀ ro x, ro < 9 → ro ≠ 1 → x < n → m (mix ro + x) = f (ro * 16 + x)
theorem MRel.rk {n g : Nat} {sk : Int32} {f m : Nat → Int32} (h : MRel n sk g f m) : MRk n f m := by
  intro ro x hr h1 hx
  rcases (show ro = 0 ∨ ro = 2 ∨ ro = 3 ∨ ro = 4 ∨ ro = 5 ∨ ro = 6 ∨ ro = 7 ∨ ro = 8 by omega) with rfl | rfl | rfl | rfl | rfl | rfl | rfl | rfl
  · exact (h.1 x hx).trans (by rw [Nat.zero_mul, Nat.zero_add])
  · exact h.2.2.1 x hx
  · exact h.2.2.2.1 0 (by decide) x hx
  · exact h.2.2.2.1 1 (by decide) x hx
  · exact h.2.2.2.1 2 (by decide) x hx
  · exact h.2.2.2.2 0 (by decide) x hx
  · exact h.2.2.2.2 1 (by decide) x hx
  · exact h.2.2.2.2 2 (by decide) x hx
theorem MRk.rel {n g : Nat} {sk : Int32} {f m : Nat → Int32} (h : MRk n f m) (hg : g < n) (hN : Nmd n g sk f) : MRel n sk g f m := by
  have hk : ∀ x, x < n → kdm m x = f x := fun x hx => (h 0 x (by decide) (by decide) hx).trans (by rw [Nat.zero_mul, Nat.zero_add])
  refine ⟨fun x hx => hk x hx, fun x hx => (nm_cong hg hx hk).trans (hN x hx).symm, fun x hx => h 2 x (by decide) (by decide) hx, fun ca hc x hx => ?_, fun ca hc x hx => ?_⟩
  · have e := h (3 + ca) x (by omega) (by omega) hx
    rw [mix_s (by omega), show 16 * (3 + ca) - 13 + x = 35 + 16 * ca + x by omega] at e
    exact e
  · have e := h (6 + ca) x (by omega) (by omega) hx
    rw [mix_s (by omega), show 16 * (6 + ca) - 13 + x = 83 + 16 * ca + x by omega] at e
    exact e
theorem mix_3 (ro : Nat) : 3 ≤ mix ro := by
  unfold mix
  split <;> omega
theorem mix_131 {ro x : Nat} (h : ro < 9) (hx : x < 16) : mix ro + x < 131 := by
  unfold mix
  split <;> omega
theorem mix_m {ro x : Nat} (h1 : ro ≠ 1) (hx : x < 16) : (mix ro + x - 3) % 16 = x := by
  unfold mix
  split <;> omega
theorem MRk_rn {n g a b : Nat} {sk : Int32} {f m : Nat → Int32} (h : MRk n f m) (hn : n ≤ 16) (hb : b ≤ 16) : MRk n (rn sk g a b f) m := by
  intro ro x hr h1 hx
  unfold rn
  rw [if_neg (by omega)]
  exact h ro x hr h1 hx
theorem MRk_copy {n : Nat} {f m d : Nat → Int32} (h : MRk n f m) (hn : n ≤ 16) : MRk n f (pur d 0 m 131) := by
  intro ro x hr h1 hx
  rw [pur_lt (mix_131 hr (by omega))]
  exact h ro x hr h1 hx
theorem MRk_u {n ro lv : Nat} {f m : Nat → Int32} {v : Int32} (h : MRk n f m) (hn : n ≤ 16) (hr : ro < 9) (h1 : ro ≠ 1) (hl : lv < 16) : MRk n (upd f (ro * 16 + lv) v) (upd m (mix ro + lv) v) := by
  intro r2 x hr2 h12 hx
  unfold upd
  by_cases hc : r2 * 16 + x = ro * 16 + lv
  · have e1 : r2 = ro := by omega
    have e2 : x = lv := by omega
    subst e1; subst e2
    rw [if_pos rfl, if_pos rfl]
  · have e : ¬ mix r2 + x = mix ro + lv := by
      unfold mix
      split <;> split <;> omega
    rw [if_neg hc, if_neg e]
    exact h r2 x hr2 h12 hx
theorem fur_at {lv : Nat} {k : Int32} {F : Nat → Int32} {ro x : Nat} (hr : ro < 9) (h1 : ro ≠ 1) (hx : x < 16) (hl : lv < 16) : fur lv k F (ro * 16 + x) = if x = lv then (if ro = 0 then k else if ro < 6 then -1 else 1) else F (ro * 16 + x) := by
  rcases (show ro = 0 ∨ ro = 2 ∨ ro = 3 ∨ ro = 4 ∨ ro = 5 ∨ ro = 6 ∨ ro = 7 ∨ ro = 8 by omega) with rfl | rfl | rfl | rfl | rfl | rfl | rfl | rfl
  all_goals simp only [fur, upd, if_true, if_false]
  all_goals (repeat' split)
  all_goals first | rfl | (exfalso; omega) | (exfalso; simp_all; done) | (simp_all; done) | trace_state
theorem fum_at {lv : Nat} {k : Int32} {F : Nat → Int32} {ro x : Nat} (hr : ro < 9) (h1 : ro ≠ 1) (hx : x < 16) (hl : lv < 16) : fum lv k F (mix ro + x) = if x = lv then (if ro = 0 then k else if ro < 6 then -1 else 1) else F (mix ro + x) := by
  rcases (show ro = 0 ∨ ro = 2 ∨ ro = 3 ∨ ro = 4 ∨ ro = 5 ∨ ro = 6 ∨ ro = 7 ∨ ro = 8 by omega) with rfl | rfl | rfl | rfl | rfl | rfl | rfl | rfl
  all_goals simp only [fum, upd, show mix 0 = 3 from rfl, show mix 2 = 19 from rfl, show mix 3 = 35 from rfl, show mix 4 = 51 from rfl, show mix 5 = 67 from rfl, show mix 6 = 83 from rfl, show mix 7 = 99 from rfl, show mix 8 = 115 from rfl, if_true, if_false]
  all_goals (repeat' split)
  all_goals first | rfl | (exfalso; omega) | (exfalso; simp_all; done) | (simp_all; done) | trace_state
theorem MRk_ins {n lv : Nat} {k : Int32} {f m : Nat → Int32} (h : MRk n f m) (hn : n < 16) (hl : lv ≤ n) : MRk (n + 1) (fur lv k (sh lv n 9 n f)) (fum lv k (sm lv n lv m)) := by
  intro ro x hr h1 hx
  rw [fur_at hr h1 (by omega) (by omega), fum_at hr h1 (by omega) (by omega)]
  by_cases hc : x = lv
  · rw [if_pos hc, if_pos hc]
  · rw [if_neg hc, if_neg hc]
    have e3 := mix_3 ro
    have e131 := mix_131 hr (show x < 16 by omega)
    have em := mix_m h1 (show x < 16 by omega)
    unfold sm sh
    by_cases hd : lv < x
    · rw [if_pos (by omega), if_pos (by omega), show mix ro + x - 1 = mix ro + (x - 1) by omega, show ro * 16 + x - 1 = ro * 16 + (x - 1) by omega]
      exact h ro (x - 1) hr h1 (by omega)
    · rw [if_neg (by omega), if_neg (by omega)]
      exact h ro x hr h1 (by omega)
theorem MRk_del {n lv : Nat} {f m : Nat → Int32} (h : MRk n f m) (hn : n ≤ 16) (hl : lv < n) : MRk (n - 1) (sd lv (n - 1) 9 lv f) (dm lv (n - 1) (n - 1) m) := by
  intro ro x hr h1 hx
  have e3 := mix_3 ro
  have e131 := mix_131 hr (show x < 16 by omega)
  have em := mix_m h1 (show x < 16 by omega)
  unfold sd dm
  by_cases hd : lv ≤ x
  · rw [if_pos (by omega), if_pos (by omega), show mix ro + x + 1 = mix ro + (x + 1) by omega, show ro * 16 + x + 1 = ro * 16 + (x + 1) by omega]
    exact h ro (x + 1) hr h1 (by omega)
  · rw [if_neg (by omega), if_neg (by omega)]
    exact h ro x hr h1 (by omega)
theorem MRk_car {n g ca : Nat} {sk : Int32} {f m : Nat → Int32} (h : MRel n sk g f m) (hn : n ≤ 16) (hc : ca < 3) : MRk n (ccar f ca n) (pur m (35 + 16 * ca) (nm sk (kdm m) g) n) := by
  intro ro x hr h1 hx
  unfold ccar pur
  by_cases he : ro = 3 + ca
  · subst he
    rw [mix_s (by omega), if_pos (by omega), if_pos (by omega), show 16 * (3 + ca) - 13 + x - (35 + 16 * ca) = x by omega, show 16 + ((3 + ca) * 16 + x - (3 + ca) * 16) = 16 + x by omega]
    exact h.2.1 x hx
  · have e : ¬ (35 + 16 * ca ≤ mix ro + x ∧ mix ro + x < 35 + 16 * ca + n) := by
      unfold mix
      split <;> omega
    rw [if_neg e, if_neg (by omega)]
    exact h.rk ro x hr h1 hx
