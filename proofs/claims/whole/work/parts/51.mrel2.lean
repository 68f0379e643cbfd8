/-! THE TIE 2: counts of the model in the class's words -/
theorem mwr_R {n g : Nat} {sk : Int32} {f m : Nat → Int32} (h : MRel n sk g f m) : mwr sk m g 19 n = wr f 2 n :=
  ct_c (fun x hx => by rw [h.2.2.1 x hx, h.2.1 x hx])
theorem mwr_Rb {n g ca : Nat} {sk : Int32} {f m : Nat → Int32} (h : MRel n sk g f m) (hc : ca < 3) : mwr sk m g (35 + 16 * ca) n = wr f (3 + ca) n :=
  ct_c (fun x hx => by rw [h.2.2.2.1 ca hc x hx, h.2.1 x hx])
theorem lk_A {n g lv : Nat} {sk : Int32} {f m d : Nat → Int32} (h : MRel n sk g f m) : ct (fun x_ => ¬ f (16 + lv) = -1 ∧ nmA sk (kdm m) g 0 n d x_ = f (16 + lv)) n = lk f n lv := by
  rw [ct_c (q := fun x_ => ¬ f (16 + lv) = -1 ∧ f (16 + x_) = f (16 + lv)) (fun x hx => by rw [h.nf hx])]
  unfold lk
  by_cases hc : f (16 + lv) = -1
  · rw [if_pos hc]
    have e : ∀ i, ct (fun x_ => ¬ f (16 + lv) = -1 ∧ f (16 + x_) = f (16 + lv)) i = 0 := by
      intro i
      induction i with
      | zero => rfl
      | succ i ih => rw [ct_f (fun z => z.1 hc), ih]
    exact e n
  · rw [if_neg hc]
    exact ct_c (fun x hx => ⟨fun z => z.2, fun z => ⟨hc, z⟩⟩)
