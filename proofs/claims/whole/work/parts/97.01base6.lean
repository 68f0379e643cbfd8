/-! BASE 6: the law's calls of its wrappers -/
section BASE6
variable {p : Program} {l : Launch} {e : Env} {R : Room} {s : State} {m : MethodId} {args : Array Value} {below : List Frame} {meth : Method} {c : Code} {H : Heap} {locs : List Loc} {cells slots : Nat} {Q : State → Prop}
variable {cc : ByteArray} {pc : Nat} {ls : Array Slot} {rest st0 : List Value} {G : GG} {A : Nat → Prop} {ws wc w2 w3 : va_W} {H0 : Heap}
variable {Ts wsy : List Cond} {nL maxL index n : Nat} {own : String} {y : MethodName} {bytes : ByteArray} {ret : Option FieldType} {rm : Room} {As : List Value} {hh : List (Nat × Nat × Nat × Nat)}
theorem cLS {o : Option Value} {st1 : List Value} (S : CallFix p m c cc nL s args Ts own) (hM : Met l y wsy rm (va_Pc As (PBX G wc)) (QW G o w2 (vA wc)) 0 0 (vA wc)) (cw : vx_CSW R s args own index y bytes maxL ret hh wsy rm 0 0 n) (hp : PreS s H (va_Pc As (PBX G wc)) As)
    (hn : As.length = n) (hsize : ls.size = nL) (hst : st0 = As.reverse ++ rest) (hW : 2 * (F0 m pc ls st0).monitorRoom + (rest.map fun v => v.category).sum ≤ 8) (hdg : decode cc pc = .ok (.invokestatic index, 3)) (hcs : cells ≤ R.cells ∧ slots ≤ R.slots)
    (hP : VP G ws H) (hD : va_D A ws) (hS : va_S A H0 H locs) (is : List Nat) (hnd : va_nd is = true) (his : is.map (fun i => ws[i]?) = wc.map some) (ha : w2.map Prod.fst = wc.map Prod.fst) (hw3 : w_put ws is w2 = w3) (hst1 : o.toList ++ rest = st1)
    (kk : ∀ (H1 : Heap) (locs1 : List Loc), VP G w3 H1 → va_D A w3 → va_S A H0 H1 locs1 → W p l e R s m args below meth c H1 locs1 cells slots Q (F0 m (pc + 3) ls st1)) : W p l e R s m args below meth c H locs cells slots Q (F0 m pc ls st0) :=
  cW_go (vx_runSW S hM cw hp rfl hn hsize hst hW hdg hcs) hP hD hS is hnd his ha hw3 hst1 kk
theorem cES {r : Int32} (S : CallFix p m c cc nL s args Ts own) (hM : Met l y wsy rm (va_Pc As (PBX G wc)) (QE (some (.int r))) 1 6 (fun _ => False)) (cw : vx_CSW R s args own index y bytes maxL ret hh wsy rm 1 6 n) (hp : PreS s H (va_Pc As (PBX G wc)) As)
    (hn : As.length = n) (hsize : ls.size = nL) (hst : st0 = As.reverse ++ rest) (hW : 2 * (F0 m pc ls st0).monitorRoom + (rest.map fun v => v.category).sum ≤ 8) (hdg : decode cc pc = .ok (.invokestatic index, 3)) (hcs : cells + 1 ≤ R.cells ∧ slots + 6 ≤ R.slots)
    (hP : VP G ws H) (hS : va_S A H0 H locs)
    (kk : ∀ (H1 : Heap), VP G ws H1 → va_S A H0 H1 locs → W p l e R s m args below meth c H1 locs (cells + 1) (slots + 6) Q (F0 m (pc + 3) ls (.int r :: rest))) : W p l e R s m args below meth c H locs cells slots Q (F0 m pc ls st0) := by
  intro T hT X
  obtain ⟨v, st₀, t, T', L, h0, X', hL, e1, -, ⟨hv, hz, hk⟩, st⟩ := vx_runSW S hM cw hp rfl hn hsize hst hW hdg hcs T hT X
  cases hv
  rw [h0] at hz hk
  have hk2 : ∀ q : Nat, q < H.size → T'.heap[q]? = H[q]? := fun q h => by rw [e1]; exact hk q h
  have hP1 : VP G ws T'.heap := va_P.kept hP (fun k x hx => hk2 x.1 ((hP k x hx).lt))
  have hS1 : va_S A H0 T'.heap locs := ⟨Nat.le_trans hS.1 (by rw [e1]; exact hz), fun q h1 h2 => (hk2 q (Nat.lt_of_lt_of_le h1 hS.1)).trans (hS.2.1 q h1 h2), hS.2.2⟩
  obtain ⟨t2, a1, b1⟩ := kk T'.heap hP1 hS1 T' rfl (Stand.forget X' (fun q h => (hL q h).elim))
  exact ⟨t2, st t2 a1, b1⟩
end BASE6
/-! THE INVARIANT of the law's loop -/
/-- a row of some array of the model holds a house -/
def RowIs (u : HS) (d : Nat → Int32) (b : Nat) : Prop := hOK u ∧ sOK u.2.2.1 ∧ ∃ m4 : Nat → Int32, MRu u m4 ∧ ∀ j, j < 131 → d (b + j) = mr u.1 (nI u.2.1) u.2.2.1 m4 j
def HistOK (cnt nx : Nat) (K : Nat → HS) (df : Nat → Int32) : Prop := ∀ i, i < cnt → RowIs (K ((nx + 14 - cnt + i) % 14)) df (131 * i)
theorem RowIs_c {u : HS} {d d' : Nat → Int32} {b b' : Nat} (h : RowIs u d b) (e : ∀ j, j < 131 → d' (b' + j) = d (b + j)) : RowIs u d' b' :=
  ⟨h.1, h.2.1, h.2.2.elim (fun m4 z => ⟨m4, z.1, fun j hj => (e j hj).trans (z.2 j hj)⟩)⟩
theorem hist_0 {nx : Nat} {K : Nat → HS} {df : Nat → Int32} : HistOK 0 nx K df := fun i h => absurd h (Nat.not_lt_zero i)
theorem hist_rem {cnt nx n g : Nat} {sk : Int32} {f mm df : Nat → Int32} {K : Nat → HS} (h : HistOK cnt nx K df) (hc : cnt ≤ 14) (hx : nx < 14) (hu : hOK (n, g, sk, f)) (hs : sOK sk) (hR : MRu (n, g, sk, f) mm) : HistOK (min (cnt + 1) 14) ((nx + 1) % 14) (upK K nx (n, g, sk, f)) (dput cnt df (mr n (nI g) sk mm)) := by
  intro i hi
  by_cases hc14 : cnt = 14
  · subst hc14
    rw [show min (14 + 1) 14 = 14 from rfl] at hi ⊢
    rw [dput_t rfl]
    by_cases hi13 : i = 13
    · subst hi13
      rw [show ((nx + 1) % 14 + 14 - 14 + 13) % 14 = nx by omega, show upK K nx (n, g, sk, f) nx = (n, g, sk, f) from if_pos rfl]
      exact ⟨hu, hs, mm, hR, fun j hj => pur_at hj⟩
    · have e := h (i + 1) (by omega)
      rw [show (nx + 14 - 14 + (i + 1)) % 14 = (nx + 1 + i) % 14 by omega] at e
      rw [show ((nx + 1) % 14 + 14 - 14 + i) % 14 = (nx + 1 + i) % 14 by omega, show upK K nx (n, g, sk, f) ((nx + 1 + i) % 14) = K ((nx + 1 + i) % 14) from if_neg (by omega)]
      refine RowIs_c e (fun j hj => ?_)
      unfold pur
      rw [if_neg (by omega)]
      unfold dsh
      rw [if_pos (by omega), show 131 * i + j + 131 = 131 * (i + 1) + j by omega]
  · rw [dput_f hc14]
    rw [show min (cnt + 1) 14 = cnt + 1 by omega] at hi ⊢
    rw [show ((nx + 1) % 14 + 14 - (cnt + 1) + i) % 14 = (nx + 14 - cnt + i) % 14 by omega]
    by_cases hic : i = cnt
    · subst hic
      rw [show (nx + 14 - i + i) % 14 = nx by omega, show upK K nx (n, g, sk, f) nx = (n, g, sk, f) from if_pos rfl]
      exact ⟨hu, hs, mm, hR, fun j hj => pur_at hj⟩
    · rw [show upK K nx (n, g, sk, f) ((nx + 14 - cnt + i) % 14) = K ((nx + 14 - cnt + i) % 14) from if_neg (by omega)]
      refine RowIs_c (h i (by omega)) (fun j hj => ?_)
      unfold pur
      rw [if_neg (by omega)]
theorem hist_undo {cnt nx : Nat} {df : Nat → Int32} {K : Nat → HS} (h : HistOK cnt nx K df) (hc : cnt ≤ 14) (h1 : 1 ≤ cnt) (hx : nx < 14) : HistOK (cnt - 1) ((nx + 13) % 14) K df := by
  intro i hi
  rw [show ((nx + 13) % 14 + 14 - (cnt - 1) + i) % 14 = (nx + 14 - cnt + i) % 14 by omega]
  exact h i (by omega)
theorem hist_top {cnt nx : Nat} {df : Nat → Int32} {K : Nat → HS} (h : HistOK cnt nx K df) (hc : cnt ≤ 14) (h1 : 1 ≤ cnt) (hx : nx < 14) : RowIs (K ((nx + 13) % 14)) df (131 * (cnt - 1)) := by
  have e := h (cnt - 1) (by omega)
  rw [show (nx + 14 - cnt + (cnt - 1)) % 14 = (nx + 13) % 14 by omega] at e
  exact e
/-- a save slot, in both -/
def SavOK (sv ik : Int32) (S : HS) (kf : Nat → Int32) (b : Nat) : Prop := sv = ik ∧ (¬ sv = 0 → RowIs S kf b)
theorem sav_0 {S : HS} {kf : Nat → Int32} {b : Nat} : SavOK (nI 0) (nI 0) S kf b := ⟨rfl, fun h => absurd rfl h⟩
theorem sav_o {sv ik : Int32} {S : HS} {kf kf' : Nat → Int32} {b : Nat} (h : SavOK sv ik S kf b) (e : ∀ j, j < 131 → kf' (b + j) = kf (b + j)) : SavOK sv ik S kf' b := ⟨h.1, fun z => RowIs_c (h.2 z) e⟩
def LI (n g : Nat) (sk : Int32) (f : Nat → Int32) (cnt nx : Nat) (K : Nat → HS) (S0 S1 : HS) (svf : Nat → Int32) (cd : Nat → Nat) (sz : Nat) (mm df kf ikf : Nat → Int32) : Prop :=
  hOK (n, g, sk, f) ∧ sOK sk ∧ MRu (n, g, sk, f) mm ∧ sz ≤ 60 ∧ (∀ j_, cd j_ < 256) ∧ cnt ≤ 14 ∧ nx < 14 ∧ HistOK cnt nx K df ∧ SavOK (svf 0) (ikf 0) S0 kf 0 ∧ SavOK (svf 1) (ikf 1) S1 kf 131
