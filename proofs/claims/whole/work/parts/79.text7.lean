/-! TEXT 7: a house as a text, laid into cells -/
theorem st_cm {cd : Nat → Nat} {sz k i b v : Nat} {B F : Int32} (hi : i < 1000) (h : cd i = 44) (h1 : steF cd sz (k + 1) i b v = -1) (h2 : F = stS cd (k + 1) i b v B) : b < v ∧ steF cd sz k (i + 1) v 0 = -1 ∧ F = stS cd k (i + 1) v 0 (skp B v True) := by
  by_cases hv : v ≤ b
  · rw [steF_c1 h hv] at h1
    exact absurd h1 (nI_m1 (by omega))
  · rw [steF_c2 h hv] at h1
    refine ⟨by omega, h1, h2.trans ?_⟩
    show (if _ then _ else _) = _
    rw [if_pos h, if_neg hv]
theorem st_dg {cd : Nat → Nat} {sz k i b v : Nat} {B F : Int32} (hi : i < 1000) (h : ¬ cd i = 44) (h1 : steF cd sz (k + 1) i b v = -1) (h2 : F = stS cd (k + 1) i b v B) : (48 ≤ cd i ∧ cd i ≤ 57 ∧ 1 ≤ 10 * v + cd i - 48 ∧ 10 * v + cd i - 48 ≤ 30) ∧ steF cd sz k (i + 1) b (10 * v + cd i - 48) = -1 ∧ F = stS cd k (i + 1) b (10 * v + cd i - 48) B := by
  by_cases hv : 48 ≤ cd i ∧ cd i ≤ 57 ∧ 1 ≤ 10 * v + cd i - 48 ∧ 10 * v + cd i - 48 ≤ 30
  · rw [steF_d h hv] at h1
    exact ⟨hv, h1, h2.trans (stS_d h hv)⟩
  · rw [steF_n h hv] at h1
    exact absurd h1 (nI_m1 (by omega))
theorem st_fin {cd : Nat → Nat} {sz i b v : Nat} {B F : Int32} (hs : sz < 1000) (h1 : steF cd sz 0 i b v = -1) (h2 : F = stS cd 0 i b v B) : b < v ∧ F = skp B v True := by
  by_cases hv : b < v
  · refine ⟨hv, h2.trans ?_⟩
    show (if _ then _ else _) = _
    rw [if_pos hv]
  · rw [steF_e2 hv] at h1
    exact absurd h1 (nI_m1 (by omega))
theorem house_gr {cd : Nat → Nat} {sz : Nat} (hs : sz ≤ 60) (hok : ferr cd sz = -1) : ¬ gnd cd sz = -1 := by
  have hl := ltr_le cd sz
  intro z
  by_cases h : ltr cd sz = sz
  · rw [ferr_1 h z] at hok
    exact nI_m1 (by omega) hok
  · rw [ferr_3 h (Or.inl z)] at hok
    exact nI_m1 (by omega) hok
theorem house_rl {cd : Nat → Nat} {sz : Nat} (hs : sz ≤ 60) (hcd : ∀ j, cd j < 256) (hok : ferr cd sz = -1) : ¬ rlg cd sz (ltr cd sz) = -1 := by
  have hl := ltr_le cd sz
  intro z
  have h1 := (mer_1 z).1
  rw [mer_ferr hs hcd, hok] at h1
  exact nI_m1 (by omega) h1.symm
theorem house_G {cd : Nat → Nat} {sz : Nat} (hs : sz ≤ 60) (hcd : ∀ j, cd j < 256) (hok : ferr cd sz = -1) : ∃ G, G < ltr cd sz ∧ cd G = 71 ∧ gnd cd sz = nI G ∧ rlg cd sz (ltr cd sz) = nI G := by
  have hr := house_rl hs hcd hok
  have hk : ¬ (ltr cd sz < 16 ∧ ¬ kdr (atv cd sz (ltr cd sz)) = -1) := fun z => hr (if_pos z)
  have e : rlg cd sz (ltr cd sz) = gnd cd sz := (show rlg cd sz (ltr cd sz) = gdI cd (ltr cd sz) from if_neg hk).trans (gdI_gnd hs)
  rcases kth_ex (q := fun x_ => cd x_ = 71) (ltr cd sz) 0 with z | ⟨b, g1, g2, g3, g4⟩
  · exact absurd (show gnd cd sz = -1 from z) (house_gr hs hok)
  · exact ⟨b, by omega, g3, g4, e.trans g4⟩
theorem st_init {cd : Nat → Nat} {sz : Nat} (hs : sz ≤ 60) (hcd : ∀ j, cd j < 256) (hok : ferr cd sz = -1) : (ltr cd sz + 1 ≤ sz ∧ steF cd sz (sz - (ltr cd sz + 1)) (ltr cd sz + 1) 0 0 = -1 ∧ mbt cd sz = stS cd (sz - (ltr cd sz + 1)) (ltr cd sz + 1) 0 0 (nI 0)) ∨ (sz < ltr cd sz + 1 ∧ 0 = 0 ∧ nI 0 = 0 ∧ mbt cd sz = 0) := by
  have hl := ltr_le cd sz
  have hr := house_rl hs hcd hok
  by_cases h : ltr cd sz = sz
  · refine Or.inr ⟨by omega, rfl, rfl, ?_⟩
    refine (mer_2 hr (fun z => ?_)).2
    have := (atv_lt (by decide) z).1
    omega
  · by_cases h2 : gnd cd sz = -1 ∨ ¬ cd (ltr cd sz) = 47
    · rw [ferr_3 h h2] at hok
      exact absurd hok (nI_m1 (by omega))
    · have hc : cd (ltr cd sz) = 47 := Classical.byContradiction (fun z => h2 (Or.inr z))
      refine Or.inl ⟨by omega, ?_, ?_⟩
      · rw [← ferr_4 h (fun z => h2 (Or.inl z)) hc]
        exact hok
      · refine (mer_3 hr ?_).2
        rw [show atv cd sz (ltr cd sz) = nI (cd (ltr cd sz)) from if_pos (by omega), hc]
theorem ltr_16 (cd : Nat → Nat) (sz : Nat) : ltr cd sz ≤ 16 := by
  by_cases h : ltr cd sz ≤ 16
  · exact h
  · have := (ltrF_ok (cd := cd) sz 0 16 (by omega) (by unfold ltr at h; omega)).1
    omega
theorem ltr_kdr {cd : Nat → Nat} {sz j : Nat} (h : j < ltr cd sz) : ¬ kdr (nI (cd j)) = -1 := by
  rcases (ltrF_ok (cd := cd) sz 0 j (Nat.zero_le _) h).2 with z | ⟨z | z | z | z, -⟩
  · rw [z.1]; decide
  all_goals (rw [z]; decide)
/-- the cells that a text's letters furnish -/
def fuf (cd : Nat → Nat) (f : Nat → Int32) : Nat → Nat → Int32
  | 0 => f
  | i + 1 => fur i (kdr (nI (cd i))) (fuf cd f i)
theorem fuf_k {cd : Nat → Nat} {f : Nat → Int32} : ∀ {i x : Nat}, i ≤ 16 → x < i → fuf cd f i x = kdr (nI (cd x))
  | 0, x, _, h => absurd h (Nat.not_lt_zero x)
  | i + 1, x, hi, h => by
    have e := fur_at (lv := i) (k := kdr (nI (cd i))) (F := fuf cd f i) (ro := 0) (x := x) (by decide) (by decide) (by omega) (by omega)
    rw [Nat.zero_mul, Nat.zero_add] at e
    refine (show fuf cd f (i + 1) x = fur i (kdr (nI (cd i))) (fuf cd f i) x from rfl).trans (e.trans ?_)
    by_cases hx : x = i
    · subst hx; rw [if_pos rfl, if_pos rfl]
    · rw [if_neg hx]
      exact fuf_k (by omega) (by omega)
theorem fuf_g {cd : Nat → Nat} {f : Nat → Int32} {i G : Nat} (hi : i ≤ 16) (h : G < i) (hG : cd G = 71) : fuf cd f i G = 0 := by
  rw [fuf_k hi h, hG]; decide
theorem MRk_lay {cd : Nat → Nat} {f m : Nat → Int32} : ∀ {i : Nat}, i ≤ 16 → MRk i (fuf cd f i) (lvf cd m i)
  | 0, _ => fun ro x _ _ hx => absurd hx (Nat.not_lt_zero x)
  | i + 1, hi => by
    have ih := MRk_lay (cd := cd) (f := f) (m := m) (i := i) (by omega)
    intro ro x hr h1 hx
    show fum i (kdr (nI (cd i))) (lvf cd m i) (mix ro + x) = fur i (kdr (nI (cd i))) (fuf cd f i) (ro * 16 + x)
    rw [fur_at hr h1 (by omega) (by omega), fum_at hr h1 (by omega) (by omega)]
    by_cases hc : x = i
    · rw [if_pos hc, if_pos hc]
    · rw [if_neg hc, if_neg hc]
      exact ih ro x hr h1 (by omega)
theorem MRel_load {cd : Nat → Nat} {sz G : Nat} {sk : Int32} {f m d : Nat → Int32} (hG : G < ltr cd sz) : MRel (ltr cd sz) sk G (rn sk G 0 (ltr cd sz) (fuf cd f (ltr cd sz))) (pur d 0 (lvf cd m (ltr cd sz)) 131) :=
  (MRk_rn (MRk_copy (MRk_lay (ltr_16 cd sz)) (ltr_16 cd sz)) (ltr_16 cd sz) (ltr_16 cd sz)).rel hG (rn_Nmd (ltr_16 cd sz) hG)
