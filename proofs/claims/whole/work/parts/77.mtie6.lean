/-! THE TIE 9: wrong ones after an exchange -/
theorem ite_nb {A : Prop} : @ite Nat A (Classical.propDecidable _) 0 1 = nb (¬ A) := by
  by_cases h : A
  · rw [if_pos h, nb_f (fun z => z h)]
  · rw [if_neg h, nb_t h]
theorem mxw_R {n g ca lv lm : Nat} {sk : Int32} {f m : Nat → Int32} (h : MRel n sk g f m) (hn : n ≤ 16) (hc : ca < 3) (hl : lv < n) (hm : lm < n) : mxw sk m g ca lv lm = exw (swp f ((3 + ca) * 16 + lv) ((3 + ca) * 16 + lm)) ca lv lm := by
  have s16 : ∀ x, x < 16 → swp f ((3 + ca) * 16 + lv) ((3 + ca) * 16 + lm) (16 + x) = f (16 + x) := by
    intro x hx
    unfold swp upd
    rw [if_neg (by omega), if_neg (by omega)]
  have sl : swp f ((3 + ca) * 16 + lv) ((3 + ca) * 16 + lm) ((3 + ca) * 16 + lv) = f ((3 + ca) * 16 + lm) := by
    unfold swp upd
    by_cases q : lv = lm
    · subst q; rw [if_pos rfl]
    · rw [if_neg (by omega), if_pos rfl]
  have sm' : swp f ((3 + ca) * 16 + lv) ((3 + ca) * 16 + lm) ((3 + ca) * 16 + lm) = f ((3 + ca) * 16 + lv) := by
    unfold swp upd
    rw [if_pos rfl]
  unfold mxw exw
  rw [sl, sm', s16 lv (by omega), s16 lm (by omega), h.2.2.2.1 ca hc lm hm, h.2.2.2.1 ca hc lv hl, h.2.1 lv hl, h.2.1 lm hm, ite_nb, ite_nb]
  rw [nb_c (show (¬ (lv = lm ∨ f ((3 + ca) * 16 + lv) = f (16 + lm))) ↔ (¬ lm = lv ∧ ¬ f ((3 + ca) * 16 + lv) = f (16 + lm)) from ⟨fun z => ⟨fun y => z (Or.inl y.symm), fun y => z (Or.inr y)⟩, fun z y => y.elim (fun x => z.1 x.symm) z.2⟩)]
