/-! BASE 4: contracts whose worlds are told up to some rows; the ties of a command, a turn -/
def QX {α : Type} (G : GG) (o : Option Value) (w2 : α → va_W) (P : α → Prop) (A : Nat → Prop) : Array Value → State → Outcome → State → Prop := fun _ st oc t => oc = .returned o ∧ (∃ x, P x ∧ VP G (w2 x) t.heap) ∧ va_F A st t
section BASE4
variable {p : Program} {l : Launch} {e : Env} {R : Room} {s : State} {m : MethodId} {args : Array Value} {below : List Frame} {meth : Method} {c : Code} {H : Heap} {locs : List Loc} {cells slots : Nat} {Q : State → Prop}
variable {cc : ByteArray} {pc : Nat} {ls : Array Slot} {rest st0 : List Value} {G : GG} {A : Nat → Prop} {ws wc : va_W} {H0 : Heap}
variable {Ts wsy : List Cond} {nL maxL index n : Nat} {own C : String} {y : MethodName} {bytes : ByteArray} {ret : Option FieldType} {rm : Room} {b : Addr} {As : List Value}
variable {α : Type} {w2 w3 : α → va_W} {P : α → Prop}
theorem cY_go {o : Option Value} {a : Array Value} {st1 : List Value} (hr : va_Run p l e R s m args below meth c H locs cells slots 0 0 (F0 m pc ls st0) rest (QX G o w2 P (vA wc) a) (vA wc)) (hP : VP G ws H) (hD : va_D A ws) (hS : va_S A H0 H locs) (is : List Nat) (hnd : va_nd is = true) (his : is.map (fun i => ws[i]?) = wc.map some) (ha : ∀ x, (w2 x).map Prod.fst = wc.map Prod.fst) (hw3 : ∀ x, w_put ws is (w2 x) = w3 x) (hst1 : o.toList ++ rest = st1)
    (kk : ∀ (x : α) (H1 : Heap) (locs1 : List Loc), P x → VP G (w3 x) H1 → va_D A (w3 x) → va_S A H0 H1 locs1 → W p l e R s m args below meth c H1 locs1 cells slots Q (F0 m (pc + 3) ls st1)) : W p l e R s m args below meth c H locs cells slots Q (F0 m pc ls st0) := by
  subst hst1
  have hAw : ∀ q, vA wc q → A q := by
    intro q ⟨k, e, h⟩
    have h1 : (is.map (fun i => ws[i]?))[k]? = some (some (q, e)) := by rw [his, List.getElem?_map, h]; rfl
    rw [List.getElem?_map] at h1
    cases hi : is[k]? with
    | none => rw [hi] at h1; cases h1
    | some i => rw [hi] at h1; exact hD.2 i (q, e) (Option.some.inj h1)
  intro T hT X
  obtain ⟨v, st₀, t, T', L, h0, X', hL, e1, -, ⟨hv, ⟨x, hPx, hP2⟩, hz, hk⟩, st⟩ := hr T hT X
  cases hv
  rw [h0] at hz hk
  have hkk : ∀ q : Nat, q < H.size → ¬ vA wc q → T'.heap[q]? = H[q]? := fun q h1 h2 => by rw [e1]; exact hk q h1 h2
  obtain ⟨hP3, hD3⟩ := w_put_ok hP hD is hnd his (ha x) hkk (by rw [e1]; exact hP2)
  rw [hw3 x] at hP3 hD3
  obtain ⟨t2, a1, b1⟩ := kk x T'.heap (locs ++ L) hPx hP3 hD3 ⟨Nat.le_trans hS.1 (by rw [e1]; exact hz), fun q h1 h2 => by rw [hkk q (Nat.lt_of_lt_of_le h1 hS.1) (fun z => h2 (hAw q z))]; exact hS.2.1 q h1 h2, fun q hq => by
      rcases List.mem_append.mp hq with h | h
      · exact hS.2.2 q h
      · exact hAw _ (hL q h)⟩ T' rfl X'
  exact ⟨t2, st t2 a1, b1⟩
theorem cYV {o : Option Value} {st1 : List Value} (S : CallFix p m c cc nL s args Ts own) (hM : Met l y wsy rm (va_Pc (.ref b :: As) (PB G wc)) (QX G o w2 P (vA wc)) 0 0 (vA wc)) (cw : CallW R s args own C index y bytes maxL ret wsy rm 0 0 n) (hp : PreV s H C b (va_Pc (.ref b :: As) (PB G wc)) As)
    (hn : As.length = n) (hsize : ls.size = nL) (hst : st0 = As.reverse ++ .ref b :: rest) (hW : 2 * (F0 m pc ls st0).monitorRoom + (rest.map fun v => v.category).sum ≤ 8) (hdg : decode cc pc = .ok (.invokevirtual index, 3)) (hcs : cells ≤ R.cells ∧ slots ≤ R.slots)
    (hP : VP G ws H) (hD : va_D A ws) (hS : va_S A H0 H locs) (is : List Nat) (hnd : va_nd is = true) (his : is.map (fun i => ws[i]?) = wc.map some) (ha : ∀ x, (w2 x).map Prod.fst = wc.map Prod.fst) (hw3 : ∀ x, w_put ws is (w2 x) = w3 x) (hst1 : o.toList ++ rest = st1)
    (kk : ∀ (x : α) (H1 : Heap) (locs1 : List Loc), P x → VP G (w3 x) H1 → va_D A (w3 x) → va_S A H0 H1 locs1 → W p l e R s m args below meth c H1 locs1 cells slots Q (F0 m (pc + 3) ls st1)) : W p l e R s m args below meth c H locs cells slots Q (F0 m pc ls st0) :=
  cY_go (va_runV S hM cw hp rfl hn hsize hst hW hdg hcs) hP hD hS is hnd his ha hw3 hst1 kk
theorem Y_i {v r : Int32} (x : α) (hp : P x) (hx : p.tables.exec = Jvm.exec) (hb : c.code = cc) (hr : meth.sig.returnType = some .int) (hlk : meth.locks = false) (hdg : decode cc pc = .ok (.ireturn, 1)) (hP : VP G ws H) (hS : va_S A s.heap H locs) (hv : v = r) (hw : ws = w2 x) : W p l e R s m args below meth c H locs 0 0 (MQ below (QX G (some (.int r)) w2 P A) args s 0 0 A) (F0 m pc ls [.int v]) := by
  subst hv
  rw [hw] at hP
  exact W.iret hx hb hr (fun t ht _ => ⟨rfl, ⟨x, hp, by rw [ht]; exact hP⟩, hS.F ht⟩) hS.2.2 hdg hlk
theorem Y_z {v r : Int32} {ty : FieldType} (x : α) (hp : P x) (hx : p.tables.exec = Jvm.exec) (hb : c.code = cc) (hr : meth.sig.returnType = some ty) (hlk : meth.locks = false) (hdg : decode cc pc = .ok (.ireturn, 1)) (hP : VP G ws H) (hS : va_S A s.heap H locs) (hv : v = r) (hw : ws = w2 x) (hn : narrow ty (.int r) = .int r) : W p l e R s m args below meth c H locs 0 0 (MQ below (QX G (some (.int r)) w2 P A) args s 0 0 A) (F0 m pc ls [.int v]) := by
  subst hv
  rw [hw] at hP
  exact W.zret hx hb hr hn (fun t ht _ => ⟨rfl, ⟨x, hp, by rw [ht]; exact hP⟩, hS.F ht⟩) hS.2.2 hdg hlk
theorem Y_v (x : α) (hp : P x) (hx : p.tables.exec = Jvm.exec) (hb : c.code = cc) (hr : meth.sig.returnType = none) (hlk : meth.locks = false) (hdg : decode cc pc = .ok (.return_, 1)) (hP : VP G ws H) (hS : va_S A s.heap H locs) (hw : ws = w2 x) : W p l e R s m args below meth c H locs 0 0 (MQ below (QX G none w2 P A) args s 0 0 A) (F0 m pc ls []) := by
  rw [hw] at hP
  exact W.vret hx hb hr (fun t ht _ => ⟨rfl, ⟨x, hp, by rw [ht]; exact hP⟩, hS.F ht⟩) hS.2.2 hdg hlk
end BASE4
/-- a row of the model that holds a house -/
def MRu (u : HS) (m : Nat → Int32) : Prop := MRel u.1 u.2.2.1 u.2.1 u.2.2.2 m
theorem mu_k {u : HS} {m : Nat → Int32} (h : MRu u m) (hu : hOK u) : m (3 + u.2.1) = 0 := (h.1 _ hu.2.2.1).trans hu.2.2.2.1
theorem mu_Add {lv k : Nat} {u : HS} {m : Nat → Int32} (h : MRu u m) (hu : hOK u) (hl : lv ≤ u.1) (hn : u.1 < 16) : MRu (oAdd lv k u) (fum lv (nI k) (sm lv u.1 lv m)) := MRel_ins h.rk hn hu.2.2.1 hl
theorem mu_Del {lv : Nat} {u : HS} {m : Nat → Int32} (h : MRu u m) (hu : hOK u) (hl : lv < u.1) (hne : lv ≠ u.2.1) : MRu (oDel lv u) (dm lv (u.1 - 1) (u.1 - 1) m) := MRel_del h hu.2.1 hu.2.2.1 hl hne
theorem mu_Knd {lv k : Nat} {u : HS} {m : Nat → Int32} (h : MRu u m) (hu : hOK u) (hl : lv < u.1) : MRu (oKnd lv k u) (upd m (3 + lv) (nI k)) := MRel_kind h hu.2.1 hu.2.2.1 hl
theorem mu_Gnd {lv : Nat} {u : HS} {m : Nat → Int32} (h : MRu u m) (hu : hOK u) (hl : lv < u.1) : MRu (oGnd lv u) m := MRel_ground h hu.2.1 hl
theorem mu_Skp {q : Nat} {P : Prop} {u : HS} {m : Nat → Int32} (h : MRu u m) (hu : hOK u) : MRu (oSkp q P u) m := MRel_ground h hu.2.1 hu.2.2.1
theorem mu_Srv {ca lv : Nat} {P : Prop} {u : HS} {m : Nat → Int32} (h : MRu u m) (hu : hOK u) (hc : ca < 3) (hl : lv < u.1) : MRu (oSrv ca lv P u) (upd m (83 + 16 * ca + lv) (zb P)) := MRel_serve h hu.2.1 hu.2.2.1 hc hl
theorem mu_Sgn {lv : Nat} {u : HS} {m : Nat → Int32} (h : MRu u m) (hu : hOK u) (hl : lv < u.1) : MRu (oSgn lv u) (upd m (19 + lv) (nm u.2.2.1 (kdm m) u.2.1 lv)) := MRel_sign h hu.2.1 hu.2.2.1 hl
theorem mu_Btn {ca lv : Nat} {u : HS} {m : Nat → Int32} (h : MRu u m) (hu : hOK u) (hc : ca < 3) (hl : lv < u.1) : MRu (oBtn ca lv u) (upd m (35 + 16 * ca + lv) (nm u.2.2.1 (kdm m) u.2.1 lv)) := by
  rw [show nm u.2.2.1 (kdm m) u.2.1 lv = u.2.2.2 (16 + lv) from h.2.1 lv hl]
  exact MRel_button h hu.2.1 hu.2.2.1 hc hl
theorem mu_Car {ca : Nat} {u : HS} {m : Nat → Int32} (h : MRu u m) (hu : hOK u) (hc : ca < 3) : MRu (oCar ca u) (pur m (35 + 16 * ca) (nm u.2.2.1 (kdm m) u.2.1) u.1) := MRel_car h hu.2.1 hu.2.2.1 hc
theorem mu_Swp {ca lv l2 : Nat} {u : HS} {m : Nat → Int32} (h : MRu u m) (hu : hOK u) (hc : ca < 3) (hl : lv < u.1) (hm : l2 < u.1) : MRu (oSwp ca lv l2 u) (mxc ca lv l2 m) := MRel_swap h hu.2.1 hu.2.2.1 hc hl hm
theorem mu_cp {u : HS} {m d : Nat → Int32} (h : MRu u m) (hu : hOK u) : MRu u (pur d 0 m 131) := (MRk_copy h.rk hu.2.1).rel hu.2.2.1 hu.2.2.2.2.1
theorem wna_no {n lv k : Nat} (h : ¬ (lv ≤ n ∧ k < 4 ∧ n < 16)) (hn : n ≤ 16) : 0 < wna n (lv : Int) (k : Int) := by
  unfold wna
  by_cases h1 : lv ≤ n
  · rw [if_neg (fun z => z ⟨by omega, by omega⟩)]
    by_cases h2 : k < 4
    · rw [if_neg (fun z => z ⟨by omega, by omega⟩), if_pos (by omega)]; omega
    · rw [if_pos (fun z => by omega)]; omega
  · rw [if_pos (fun z => by omega)]; omega
theorem wnr_no {n g lv : Nat} (h : ¬ (lv < n ∧ lv ≠ g)) : 0 < wnr n g (lv : Int) := by
  unfold wnr
  by_cases h1 : lv < n
  · rw [if_neg (fun z => z ⟨by omega, by omega⟩), if_pos (by omega)]; omega
  · rw [if_pos (fun z => by omega)]; omega
theorem wnk_no {n g lv k : Nat} (h : ¬ (lv < n ∧ k < 4 ∧ ¬ (lv = g ∧ k ≠ 0))) : 0 < wnk n g (lv : Int) (k : Int) := by
  unfold wnk
  by_cases h1 : lv < n
  · rw [if_neg (fun z => z ⟨by omega, by omega⟩)]
    by_cases h2 : k < 4
    · rw [if_neg (fun z => z ⟨by omega, by omega⟩), if_pos (by omega)]; omega
    · rw [if_pos (fun z => by omega)]; omega
  · rw [if_pos (fun z => by omega)]; omega
theorem wng_no {n lv : Nat} {m : Nat → Int32} (h : ¬ (lv < n ∧ m (3 + lv) = 0)) : 0 < wng n m lv := by
  unfold wng
  by_cases h1 : lv < n
  · rw [if_neg (by omega), if_neg (fun z => h ⟨h1, z⟩)]; omega
  · rw [if_pos (by omega)]; omega
theorem wng_ok {n lv : Nat} {m : Nat → Int32} (h : lv < n) (h2 : m (3 + lv) = 0) : wng n m lv = 0 := by
  unfold wng
  rw [if_neg (by omega), if_pos h2]
theorem wng_le (n lv : Nat) (m : Nat → Int32) : wng n m lv ≤ 2 := by
  unfold wng
  by_cases h1 : n ≤ lv
  · rw [if_pos h1]; omega
  · rw [if_neg h1]
    by_cases h2 : m (3 + lv) = 0
    · rw [if_pos h2]; omega
    · rw [if_neg h2]; omega
theorem kd_0 {u : HS} {m : Nat → Int32} (h : MRu u m) (hu : hOK u) {x : Nat} (hx : x < u.1) : 0 ≤ (m (3 + x)).toInt := by
  rw [h.1 x hx]
  rcases hu.2.2.2.2.2 x hx with e | e | e | e <;> (rw [e]; decide)
