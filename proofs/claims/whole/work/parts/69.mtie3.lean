/-! THE TIE 6: every change keeps it -/
theorem Nmd_u {n g j : Nat} {sk v : Int32} {f : Nat → Int32} (h : Nmd n g sk f) (hn : n ≤ 16) (hg : g < n) (hj : 32 ≤ j) : Nmd n g sk (upd f j v) := by
  intro x hx
  rw [show upd f j v (16 + x) = f (16 + x) from if_neg (by omega), h x hx]
  exact nm_cong hg hx (fun y hy => (show upd f j v y = f y from if_neg (by omega)).symm)
theorem MRel.nmd {n g : Nat} {sk : Int32} {f m : Nat → Int32} (h : MRel n sk g f m) (hg : g < n) : Nmd n g sk f := by
  intro x hx
  rw [← h.2.1 x hx]
  exact nm_cong hg hx (fun y hy => h.1 y hy)
theorem delG_lt {lv g n : Nat} (hg : g < n) (hl : lv < n) (hne : lv ≠ g) : delG lv g < n - 1 := by
  unfold delG
  split <;> omega
theorem MRel_del {n g lv : Nat} {sk : Int32} {f m : Nat → Int32} (h : MRel n sk g f m) (hn : n ≤ 16) (hg : g < n) (hl : lv < n) (hne : lv ≠ g) : MRel (n - 1) sk (delG lv g) (rn sk (delG lv g) 0 (n - 1) (sd lv (n - 1) 9 lv f)) (dm lv (n - 1) (n - 1) m) :=
  (MRk_rn (MRk_del h.rk hn hl) (by omega) (by omega)).rel (delG_lt hg hl hne) (rn_Nmd (by omega) (delG_lt hg hl hne))
theorem MRel_kind {n g lv : Nat} {sk k : Int32} {f m : Nat → Int32} (h : MRel n sk g f m) (hn : n ≤ 16) (hg : g < n) (hl : lv < n) : MRel n sk g (rn sk g 0 n (upd f lv k)) (upd m (3 + lv) k) := by
  have e := MRk_u (ro := 0) (v := k) h.rk hn (by decide) (by decide) (show lv < 16 by omega)
  rw [Nat.zero_mul, Nat.zero_add, mix_0] at e
  exact (MRk_rn e hn hn).rel hg (rn_Nmd hn hg)
theorem MRel_ground {n g g2 : Nat} {sk s2 : Int32} {f m : Nat → Int32} (h : MRel n sk g f m) (hn : n ≤ 16) (hg : g2 < n) : MRel n s2 g2 (rn s2 g2 0 n f) m :=
  (MRk_rn h.rk hn hn).rel hg (rn_Nmd hn hg)
theorem MRel_u {n g ro lv : Nat} {sk v : Int32} {f m : Nat → Int32} (h : MRel n sk g f m) (hn : n ≤ 16) (hg : g < n) (hr : ro < 9) (h2 : 2 ≤ ro) (hl : lv < n) : MRel n sk g (upd f (ro * 16 + lv) v) (upd m (16 * ro - 13 + lv) v) := by
  have e := MRk_u (ro := ro) (v := v) h.rk hn hr (by omega) (show lv < 16 by omega)
  rw [mix_s (by omega)] at e
  exact e.rel hg (Nmd_u (h.nmd hg) hn hg (by omega))
theorem MRel_serve {n g ca lv : Nat} {sk v : Int32} {f m : Nat → Int32} (h : MRel n sk g f m) (hn : n ≤ 16) (hg : g < n) (hc : ca < 3) (hl : lv < n) : MRel n sk g (upd f ((6 + ca) * 16 + lv) v) (upd m (83 + 16 * ca + lv) v) := by
  have e := MRel_u (ro := 6 + ca) (v := v) h hn hg (by omega) (by omega) hl
  rw [show 16 * (6 + ca) - 13 + lv = 83 + 16 * ca + lv by omega] at e
  exact e
theorem MRel_sign {n g lv : Nat} {sk : Int32} {f m : Nat → Int32} (h : MRel n sk g f m) (hn : n ≤ 16) (hg : g < n) (hl : lv < n) : MRel n sk g (upd f (32 + lv) (f (16 + lv))) (upd m (19 + lv) (nm sk (kdm m) g lv)) := by
  have e := MRel_u (ro := 2) (v := f (16 + lv)) h hn hg (by decide) (by decide) hl
  rw [h.2.1 lv hl]
  exact e
theorem MRel_button {n g ca lv : Nat} {sk v : Int32} {f m : Nat → Int32} (h : MRel n sk g f m) (hn : n ≤ 16) (hg : g < n) (hc : ca < 3) (hl : lv < n) : MRel n sk g (upd f ((3 + ca) * 16 + lv) v) (upd m (35 + 16 * ca + lv) v) := by
  have e := MRel_u (ro := 3 + ca) (v := v) h hn hg (by omega) (by omega) hl
  rw [show 16 * (3 + ca) - 13 + lv = 35 + 16 * ca + lv by omega] at e
  exact e
theorem MRel_car {n g ca : Nat} {sk : Int32} {f m : Nat → Int32} (h : MRel n sk g f m) (hn : n ≤ 16) (hg : g < n) (hc : ca < 3) : MRel n sk g (ccar f ca n) (pur m (35 + 16 * ca) (nm sk (kdm m) g) n) := by
  refine (MRk_car h hn hc).rel hg (fun x hx => ?_)
  rw [ccar_n (by omega), (h.nmd hg) x hx]
  exact nm_cong hg hx (fun y hy => (show ccar f ca n y = f y from if_neg (by omega)).symm)
