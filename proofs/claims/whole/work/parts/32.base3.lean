/-! BASE 3: rows of references, of longs; the states for undo -/
section BASE3
variable {p : Program} {l : Launch} {e : Env} {R : Room} {s : State} {m : MethodId} {args : Array Value} {below : List Frame} {meth : Method} {c : Code} {H : Heap} {locs : List Loc} {cells slots : Nat} {Q : State → Prop}
variable {cc : ByteArray} {pc : Nat} {ls : Array Slot} {rest : List Value} {G : GG} {A : Nat → Prop} {ws : va_W} {H0 : Heap}
theorem nv_aald (hx : p.tables.exec = Jvm.exec) (hb : c.code = cc) {a q : Nat} (hK : VK G s) (hP : VP G ws H) (q0 : Nat) {n : Nat} {f : Nat → Option Nat} (ha : ws[q0]? = some (a, .inl (G.2 3, n, .inr (.inr (.inr (.inr f)))))) {k : Nat} (hv : f k = some q) (hk : k < n) (hn : n < 2 ^ 31) (hdg : decode cc pc = .ok (.aaload, 1)) (kk : W p l e R s m args below meth c H locs cells slots Q (F0 m (pc + 1) ls (.ref q :: rest))) : W p l e R s m args below meth c H locs cells slots Q (F0 m pc ls (.int (nI k) :: .ref a :: rest)) :=
  va_aldq (C := "FloorPanels$House") hx hb hK.1 hP q0 3 ha rfl (vp_in_nI hk hn) hdg (by rw [nI_clamp (Nat.lt_trans hk hn), hv]; exact kk)
theorem nv_last (hx : p.tables.exec = Jvm.exec) (hb : c.code = cc) {a : Nat} (hK : VK G s) (hP : VP G ws H) (hD : va_D A ws) (hS : va_S A H0 H locs) (q0 : Nat) {n : Nat} {f : Nat → Int64} (ha : ws[q0]? = some (a, .inl (G.2 4, n, .inr (.inl f)))) {k : Nat} {x : Int64} (hk : k < n) (hn : n < 2 ^ 31) (hdg : decode cc pc = .ok (.lastore, 1)) {w3 : va_W} (hw : ws.set q0 (a, .inl (G.2 4, n, .inr (.inl (vp_updL f k x)))) = w3) (kk : ∀ (H1 : Heap) (locs1 : List Loc), VP G w3 H1 → va_D A w3 → va_S A H0 H1 locs1 → W p l e R s m args below meth c H1 locs1 cells slots Q (F0 m (pc + 1) ls rest)) : W p l e R s m args below meth c H locs cells slots Q (F0 m pc ls (.long x :: .int (nI k) :: .ref a :: rest)) := by
  subst hw
  refine va_last hx hb hK.1 hP hD hS q0 4 ha rfl (vp_in_nI hk hn) hdg ?_
  rw [nI_clamp (Nat.lt_trans hk hn)]
  exact kk
theorem nv_lald (hx : p.tables.exec = Jvm.exec) (hb : c.code = cc) {a : Nat} (hK : VK G s) (hP : VP G ws H) (q0 : Nat) {n : Nat} {f : Nat → Int64} (ha : ws[q0]? = some (a, .inl (G.2 4, n, .inr (.inl f)))) {k : Nat} {v : Int64} (hv : f k = v) (hk : k < n) (hn : n < 2 ^ 31) (hdg : decode cc pc = .ok (.laload, 1)) (kk : W p l e R s m args below meth c H locs cells slots Q (F0 m (pc + 1) ls (.long v :: rest))) : W p l e R s m args below meth c H locs cells slots Q (F0 m pc ls (.int (nI k) :: .ref a :: rest)) :=
  va_lald hx hb hK.1 hP q0 4 ha rfl (vp_in_nI hk hn) hdg (by rw [nI_clamp (Nat.lt_trans hk hn), hv]; exact kk)
end BASE3
abbrev HS : Type := Nat × Nat × Int32 × (Nat → Int32)
def upK (K : Nat → HS) (i : Nat) (u : HS) : Nat → HS := fun j => if j = i then u else K j
theorem nI_min {a b : Nat} (ha : a < 2147483648) (hb : b < 2147483648) : (if nI b < nI a then nI b else nI a) = nI (min a b) := by
  by_cases h : b < a
  · rw [if_pos ((nI_ltI hb ha).mpr h), show min a b = b by omega]
  · rw [if_neg (fun z => h ((nI_ltI hb ha).mp z)), show min a b = a by omega]
/-- wrong ones of two buttons behind their exchange -/
noncomputable def exw (f : Nat → Int32) (ca lv l2 : Nat) : Nat := nb (¬ f ((3 + ca) * 16 + lv) = f (16 + lv)) + nb (¬ l2 = lv ∧ ¬ f ((3 + ca) * 16 + l2) = f (16 + l2))
