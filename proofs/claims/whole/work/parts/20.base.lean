/-! BASE: worlds, contracts that read or write, calls of them, branches in whole numbers -/
abbrev GG : Type := va_G × (Nat → ClassId)
abbrev tyA (cs : Nat → ClassId) : List (ClassId × FieldType) := [(cs 0, .int), (cs 1, .char), (cs 2, .boolean), (cs 3, .object "FloorPanels$House"), (cs 4, .long)]
def NFw : List Cond := [.methodLinkNest RX6 9 yX2_init RX6, .methodLinkNest RX2 42 yX6_canBeSkipped RX6, .methodLinkNest RX1 62 yX6_canBeSkipped RX6, .methodLinkNest RX1 97 yX6_isKind RX6, .methodLinkNest RX1 114 yX6_isCar RX6, .methodLinkNest RX4 47 yX6_isCar RX6]
def NF (U : State) : Prop := ∀ w ∈ NFw, va_Nw w U
theorem NF.warm {s U : State} (hW : s.WarmedH U.vm) (h : NF s) : NF U := by
  intro w hw
  have h0 := h w hw
  simp only [NFw, List.mem_cons, List.not_mem_nil, or_false] at hw
  rcases hw with rfl | rfl | rfl | rfl | rfl | rfl <;> exact va_Nw.warmM hW h0
theorem NF.same {u U : State} (hv : u.vm = U.vm) (h : NF u) : NF U := by
  intro w hw
  have h0 := h w hw
  simp only [NFw, List.mem_cons, List.not_mem_nil, or_false] at hw
  rcases hw with rfl | rfl | rfl | rfl | rfl | rfl <;> exact va_Nw.same rfl hv h0
def VK (G : GG) (U : State) : Prop := va_K G.1 vwCl (tyA G.2) U ∧ NF U
abbrev VP (G : GG) (ws : va_W) (H : Heap) : Prop := va_P G.1 vwCl ws H
theorem VK.warm {G : GG} {s U : State} (hW : s.WarmedH U.vm) (h : VK G s) : VK G U := ⟨va_K.moved hW.alike h.1, h.2.warm hW⟩
theorem VK.call {G : GG} {U : State} {g : JFrame} {mk : MethodId} {a : Array Value} (h : VK G U) : VK G (U.calling g mk a) := ⟨va_K.moved (u := U) (U := U.calling g mk a) (Vm.Alike.refl U.vm) h.1, NF.same (u := U) rfl h.2⟩
def PB (G : GG) (ws : va_W) : State → Prop := fun U => VP G ws U.heap ∧ VK G U ∧ va_D (fun _ => True) ws
theorem PB.blind (av : List Value) (G : GG) (ws : va_W) : FrameBlind (va_Pc av (PB G ws)) := fun _ _ _ _ q => ⟨q.1, q.2.1, q.2.2.1.call, q.2.2.2⟩
def QR (o : Option Value) : Array Value → State → Outcome → State → Prop := fun _ st oc t => oc = .returned o ∧ t.heap = st.heap
def vA (ws : va_W) : Nat → Prop := fun q => ∃ (k : Nat) (e : va_E), ws[k]? = some (q, e)
def QW (G : GG) (o : Option Value) (w2 : va_W) (A : Nat → Prop) : Array Value → State → Outcome → State → Prop := fun _ st oc t => oc = .returned o ∧ VP G w2 t.heap ∧ va_F A st t
theorem vA.in {ws : va_W} {k : Nat} {q : Nat × va_E} (h : ws[k]? = some q) : vA ws q.1 := ⟨k, q.2, h⟩
theorem preS_of {s : State} {H : Heap} {G : GG} {A : Nat → Prop} {ws wc : va_W} {As : List Value} (hK : VK G s) (hP : VP G ws H) (hD : va_D A ws) (is : List Nat) (hnd : va_nd is = true) (his : is.map (fun i => ws[i]?) = wc.map some) : PreS s H (va_Pc As (PB G wc)) As := by
  have hs : is.filterMap (fun i => ws[i]?) = wc := by
    have h1 : ∀ (l : List Nat) (w : va_W), l.map (fun i => ws[i]?) = w.map some → l.filterMap (fun i => ws[i]?) = w := by
      intro l
      induction l with
      | nil => intro w h; cases w with
        | nil => rfl
        | cons a b => simp at h
      | cons x t ih => intro w h; cases w with
        | nil => simp at h
        | cons a b =>
          simp only [List.map_cons, List.cons.injEq] at h
          rw [List.filterMap_cons, h.1, ih b h.2]
    exact h1 is wc his
  have hPc : VP G wc H := va_P.sub hP is hs
  have hDc : va_D A wc := va_D.sub hD is hnd his
  exact ⟨PB.blind _ G wc, fun U hU hW => ⟨rfl, by rw [hU]; exact hPc, hK.warm hW, hDc.weaken (fun _ _ _ _ => trivial)⟩⟩
theorem preV_of {s : State} {H : Heap} {G : GG} {A : Nat → Prop} {ws wc : va_W} {As : List Value} {C : String} {b : Addr} {q : vw_C} {ci q0 : Nat} {fs : List Value} (hK : VK G s) (hP : VP G ws H) (hD : va_D A ws) (is : List Nat) (hnd : va_nd is = true) (his : is.map (fun i => ws[i]?) = wc.map some) (hc : vwCl[ci]? = some q) (hq : q.1 = C) (he : ws[q0]? = some (b, .inr (ci, fs))) : PreV s H C b (va_Pc (.ref b :: As) (PB G wc)) As := by
  have h := preS_of (As := .ref b :: As) hK hP hD is hnd his
  refine ⟨h.1, ?_, h.2⟩
  have h1 := va_recv hK.1 hP hc he
  rw [← hq]
  exact h1
section BASE
variable {p : Program} {l : Launch} {e : Env} {R : Room} {s : State} {m : MethodId} {args : Array Value} {below : List Frame} {meth : Method} {c : Code} {H : Heap} {locs : List Loc} {cells slots : Nat} {Q : State → Prop}
variable {cc : ByteArray} {pc : Nat} {ls : Array Slot} {rest st0 : List Value} {G : GG} {A : Nat → Prop} {ws wc w2 : va_W} {H0 : Heap}
theorem Met.go {y : MethodName} {wsy ws' : List Cond} {rm : Room} {maxL : Nat} {ret : Option FieldType} {av : List Value} {Qc : Array Value → State → Outcome → State → Prop} {mc ms : Nat} {free : Addr → Prop}
    (hy : plainName y.cls = true) (hw : wsy = Cond.code y cc maxL ret :: ws') (hn : (lg_sl av).length ≤ maxL)
    (body : ∀ (p : Program) (e : Env) (s : State) (m : MethodId) (below : List Frame) (meth : Method) (c : Code) (ls : Array Slot), p.tables.exec = Jvm.exec → c.code = cc → meth.sig.returnType = ret → c.maxLocals = maxL → s.vm.findClass y.cls = some m.cls → (∀ w ∈ wsy, w.before av.toArray s = true) → meth.locks = false → VP G wc s.heap → VK G s → va_D (vA wc) wc → va_S (vA wc) s.heap s.heap [] → lv_has ls maxL (lv_args 0 av) →
      W p l e rm s m av.toArray below meth c s.heap [] 0 0 (MQ below Qc av.toArray s mc ms free) (F0 m 0 ls [])) : Met l y wsy rm (va_Pc av (PB G wc)) Qc mc ms free := by
  refine Met.ofW (cc := cc) (maxL := maxL) (ret := ret) hy hw ?_
  intro p e s m args below meth c s₁ B hml hv
  obtain ⟨rfl, hP, hK, hD⟩ := hv
  have hl := lv_entry av hn
  rw [lg_entry_eq]
  exact body p e s m below meth c _ B.exec B.bytes B.returns hml (findClass_of_methodNamed B.named) (atoms_spec (ws := wsy) B.pre) B.notSynchronized hP hK (hD.weaken (fun _ _ hk _ => vA.in hk)) va_S.rf hl
theorem Met.ofWF {y : MethodName} {ws ws' : List Cond} {rm : Room} {Pc : Array Value → State → Prop} {Qc : Array Value → State → Outcome → State → Prop} {mc ms : Nat} {free : Addr → Prop} {maxL : Nat} {ret : Option FieldType}
    (hy : plainFor y = true) (hw : ws = Cond.code y cc maxL ret :: ws')
    (body : ∀ p e s m args below meth c s₁, BodyLoose p l y (headSpec ws rm) cc maxL ret e s m args below meth c s₁ → c.maxLocals = maxL → Pc args s →
      W p l e (headSpec ws rm).room s m args below meth c s.heap [] 0 0 (MQ below Qc args s mc ms free) (entryFrame m args maxL)) : Met l y ws rm Pc Qc mc ms free := by
  refine MetFree.of_bodySF (code := cc) (maxLocals := maxL) (ret := ret) hy ?_ ?_
  · intro args s m h hn
    obtain ⟨meth, c, h1, h2, h3, h4, h5, h6, -, -⟩ := Cond.code_spec hn (atoms_spec (ws := ws) h _ (by rw [hw]; exact List.mem_cons_self))
    exact ⟨meth, c, h1, h2, h3, h4, h5, h6⟩
  · intro p e s m args below meth c s₁ B hml hP _
    have hh0 : s₁.heap = s.heap := by rw [B.state]; rfl
    obtain ⟨t, a1, o, b1, b2, b3⟩ := body p e s m args below meth c s₁ B hml hP s₁ hh0 (Stand.of_body B)
    exact ⟨t, o, a1, b1, b2, ⟨b3.1, b3.2⟩⟩
theorem Met.goF {y : MethodName} {wsy ws' : List Cond} {rm : Room} {maxL : Nat} {ret : Option FieldType} {av : List Value} {Qc : Array Value → State → Outcome → State → Prop} {mc ms : Nat} {free : Addr → Prop}
    (hy : plainFor y = true) (hw : wsy = Cond.code y cc maxL ret :: ws') (hn : (lg_sl av).length ≤ maxL)
    (body : ∀ (p : Program) (e : Env) (s : State) (m : MethodId) (below : List Frame) (meth : Method) (c : Code) (ls : Array Slot), p.tables.exec = Jvm.exec → c.code = cc → meth.sig.returnType = ret → c.maxLocals = maxL → s.vm.findClass y.cls = some m.cls → (∀ w ∈ wsy, w.before av.toArray s = true) → meth.locks = false → VP G wc s.heap → VK G s → va_D (vA wc) wc → va_S (vA wc) s.heap s.heap [] → lv_has ls maxL (lv_args 0 av) →
      W p l e rm s m av.toArray below meth c s.heap [] 0 0 (MQ below Qc av.toArray s mc ms free) (F0 m 0 ls [])) : Met l y wsy rm (va_Pc av (PB G wc)) Qc mc ms free := by
  refine Met.ofWF (cc := cc) (maxL := maxL) (ret := ret) hy hw ?_
  intro p e s m args below meth c s₁ B hml hv
  obtain ⟨rfl, hP, hK, hD⟩ := hv
  have hl := lv_entry av hn
  rw [lg_entry_eq]
  exact body p e s m below meth c _ B.exec B.bytes B.returns hml (findClass_of_methodNamed B.named) (atoms_spec (ws := wsy) B.pre) B.notSynchronized hP hK (hD.weaken (fun _ _ hk _ => vA.in hk)) va_S.rf hl
theorem R_i {v r : Int32} {free : Addr → Prop} (hx : p.tables.exec = Jvm.exec) (hb : c.code = cc) (hr : meth.sig.returnType = some .int) (hlk : meth.locks = false) (hdg : decode cc pc = .ok (.ireturn, 1)) (hv : v = r) : W p l e R s m args below meth c s.heap [] 0 0 (MQ below (QR (some (.int r))) args s 0 0 free) (F0 m pc ls [.int v]) := by
  subst hv
  exact W.iret hx hb hr (fun t ht _ => ⟨rfl, ht⟩) (fun q h => by cases h) hdg hlk
theorem R_z {v r : Int32} {ty : FieldType} {free : Addr → Prop} (hx : p.tables.exec = Jvm.exec) (hb : c.code = cc) (hr : meth.sig.returnType = some ty) (hlk : meth.locks = false) (hdg : decode cc pc = .ok (.ireturn, 1)) (hv : v = r) (hn : narrow ty (.int r) = .int r) : W p l e R s m args below meth c s.heap [] 0 0 (MQ below (QR (some (.int r))) args s 0 0 free) (F0 m pc ls [.int v]) := by
  subst hv
  exact W.zret hx hb hr hn (fun t ht _ => ⟨rfl, ht⟩) (fun q h => by cases h) hdg hlk
theorem R_l {v r : Int64} {free : Addr → Prop} (hx : p.tables.exec = Jvm.exec) (hb : c.code = cc) (hr : meth.sig.returnType = some .long) (hlk : meth.locks = false) (hdg : decode cc pc = .ok (.lreturn, 1)) (hv : v = r) : W p l e R s m args below meth c s.heap [] 0 0 (MQ below (QR (some (.long r))) args s 0 0 free) (F0 m pc ls [.long v]) := by
  subst hv
  exact W.lret hx hb hr (fun t ht _ => ⟨rfl, ht⟩) (fun q h => by cases h) hdg hlk
theorem R_v {free : Addr → Prop} (hx : p.tables.exec = Jvm.exec) (hb : c.code = cc) (hr : meth.sig.returnType = none) (hlk : meth.locks = false) (hdg : decode cc pc = .ok (.return_, 1)) : W p l e R s m args below meth c s.heap [] 0 0 (MQ below (QR none) args s 0 0 free) (F0 m pc ls []) :=
  W.vret hx hb hr (fun t ht _ => ⟨rfl, ht⟩) (fun q h => by cases h) hdg hlk
theorem W_i {v r : Int32} (hx : p.tables.exec = Jvm.exec) (hb : c.code = cc) (hr : meth.sig.returnType = some .int) (hlk : meth.locks = false) (hdg : decode cc pc = .ok (.ireturn, 1)) (hP : VP G ws H) (hS : va_S A s.heap H locs) (hv : v = r) (hw : ws = w2) : W p l e R s m args below meth c H locs 0 0 (MQ below (QW G (some (.int r)) w2 A) args s 0 0 A) (F0 m pc ls [.int v]) := by
  subst hv
  subst hw
  exact W.iret hx hb hr (fun t ht _ => ⟨rfl, by rw [ht]; exact hP, hS.F ht⟩) hS.2.2 hdg hlk
theorem W_z {v r : Int32} {ty : FieldType} (hx : p.tables.exec = Jvm.exec) (hb : c.code = cc) (hr : meth.sig.returnType = some ty) (hlk : meth.locks = false) (hdg : decode cc pc = .ok (.ireturn, 1)) (hP : VP G ws H) (hS : va_S A s.heap H locs) (hv : v = r) (hw : ws = w2) (hn : narrow ty (.int r) = .int r) : W p l e R s m args below meth c H locs 0 0 (MQ below (QW G (some (.int r)) w2 A) args s 0 0 A) (F0 m pc ls [.int v]) := by
  subst hv
  subst hw
  exact W.zret hx hb hr hn (fun t ht _ => ⟨rfl, by rw [ht]; exact hP, hS.F ht⟩) hS.2.2 hdg hlk
theorem W_v (hx : p.tables.exec = Jvm.exec) (hb : c.code = cc) (hr : meth.sig.returnType = none) (hlk : meth.locks = false) (hdg : decode cc pc = .ok (.return_, 1)) (hP : VP G ws H) (hS : va_S A s.heap H locs) (hw : ws = w2) : W p l e R s m args below meth c H locs 0 0 (MQ below (QW G none w2 A) args s 0 0 A) (F0 m pc ls []) := by
  subst hw
  exact W.vret hx hb hr (fun t ht _ => ⟨rfl, by rw [ht]; exact hP, hS.F ht⟩) hS.2.2 hdg hlk
/-! calls of methods that read -/
theorem cR_go {o : Option Value} {a : Array Value} {free : Addr → Prop} (hfree : ∀ q, ¬ free q) (hr : CallRun p l e R s m args below meth c H locs cells slots 0 0 (F0 m pc ls st0) rest (QR o a) free) (kk : W p l e R s m args below meth c H locs cells slots Q (F0 m (pc + 3) ls (o.toList ++ rest))) : W p l e R s m args below meth c H locs cells slots Q (F0 m pc ls st0) := by
  intro T hT X
  obtain ⟨v, st₀, t, T', L, h0, X', hL, e1, ⟨hv, hh⟩, st⟩ := hr T hT X
  cases hv
  obtain ⟨t2, a1, b1⟩ := kk T' (by rw [e1, hh, h0]) (Stand.forget X' (fun q h => (hfree _ (hL q h)).elim))
  exact ⟨t2, st t2 a1, b1⟩
theorem cR_goN {o : Option Value} {a : Array Value} {free : Addr → Prop} (hfree : ∀ q, ¬ free q) (hr : va_Run p l e R s m args below meth c H locs cells slots 0 0 (F0 m pc ls st0) rest (QR o a) free) (kk : W p l e R s m args below meth c H locs cells slots Q (F0 m (pc + 3) ls (o.toList ++ rest))) : W p l e R s m args below meth c H locs cells slots Q (F0 m pc ls st0) := by
  intro T hT X
  obtain ⟨v, st₀, t, T', L, h0, X', hL, e1, -, ⟨hv, hh⟩, st⟩ := hr T hT X
  cases hv
  obtain ⟨t2, a1, b1⟩ := kk T' (by rw [e1, hh, h0]) (Stand.forget X' (fun q h => (hfree _ (hL q h)).elim))
  exact ⟨t2, st t2 a1, b1⟩
theorem noF : ∀ q : Addr, ¬ (fun _ : Addr => False) q := fun _ h => h
variable {Ts wsy : List Cond} {nL maxL index n : Nat} {own C : String} {y : MethodName} {bytes : ByteArray} {ret : Option FieldType} {rm : Room} {b : Addr} {As : List Value}
theorem cRV {v : Value} (S : CallFix p m c cc nL s args Ts own) (hM : Met l y wsy rm (va_Pc (.ref b :: As) (PB G wc)) (QR (some v)) 0 0 (fun _ => False)) (cw : CallW R s args own C index y bytes maxL ret wsy rm 0 0 n) (hp : PreV s H C b (va_Pc (.ref b :: As) (PB G wc)) As)
    (hn : As.length = n) (hsize : ls.size = nL) (hst : st0 = As.reverse ++ .ref b :: rest) (hW : 2 * (F0 m pc ls st0).monitorRoom + (rest.map fun v => v.category).sum ≤ 8) (hdg : decode cc pc = .ok (.invokevirtual index, 3)) (hcs : cells ≤ R.cells ∧ slots ≤ R.slots)
    (kk : W p l e R s m args below meth c H locs cells slots Q (F0 m (pc + 3) ls (v :: rest))) : W p l e R s m args below meth c H locs cells slots Q (F0 m pc ls st0) :=
  cR_go noF (W.runV S hM cw hp rfl hn hsize hst hW hdg hcs) kk
theorem cRVv (S : CallFix p m c cc nL s args Ts own) (hM : Met l y wsy rm (va_Pc (.ref b :: As) (PB G wc)) (QR none) 0 0 (fun _ => False)) (cw : CallW R s args own C index y bytes maxL ret wsy rm 0 0 n) (hp : PreV s H C b (va_Pc (.ref b :: As) (PB G wc)) As)
    (hn : As.length = n) (hsize : ls.size = nL) (hst : st0 = As.reverse ++ .ref b :: rest) (hW : 2 * (F0 m pc ls st0).monitorRoom + (rest.map fun v => v.category).sum ≤ 8) (hdg : decode cc pc = .ok (.invokevirtual index, 3)) (hcs : cells ≤ R.cells ∧ slots ≤ R.slots)
    (kk : W p l e R s m args below meth c H locs cells slots Q (F0 m (pc + 3) ls rest)) : W p l e R s m args below meth c H locs cells slots Q (F0 m pc ls st0) :=
  cR_go noF (W.runV S hM cw hp rfl hn hsize hst hW hdg hcs) kk
theorem cRS {v : Value} (S : CallFix p m c cc nL s args Ts own) (hM : Met l y wsy rm (va_Pc As (PB G wc)) (QR (some v)) 0 0 (fun _ => False)) (cw : CallB R s args own index y bytes maxL ret wsy rm 0 0 n ∧ (Cond.static y).before args s = true) (hp : PreS s H (va_Pc As (PB G wc)) As)
    (hn : As.length = n) (hsize : ls.size = nL) (hst : st0 = As.reverse ++ rest) (hW : 2 * (F0 m pc ls st0).monitorRoom + (rest.map fun v => v.category).sum ≤ 8) (hdg : decode cc pc = .ok (.invokestatic index, 3)) (hcs : cells ≤ R.cells ∧ slots ≤ R.slots)
    (kk : W p l e R s m args below meth c H locs cells slots Q (F0 m (pc + 3) ls (v :: rest))) : W p l e R s m args below meth c H locs cells slots Q (F0 m pc ls st0) :=
  cR_go noF (W.runS S hM cw hp rfl hn hsize hst hW hdg hcs) kk
theorem cRSN {v : Value} {host : String} (S : CallFix p m c cc nL s args Ts own) (hM : Met l y wsy rm (va_Pc As (PB G wc)) (QR (some v)) 0 0 (fun _ => False)) (cw : va_CN R s args own index y host bytes maxL ret wsy rm 0 0 n ∧ (Cond.static y).before args s = true ∧ True) (hp : PreS s H (va_Pc As (PB G wc)) As)
    (hn : As.length = n) (hsize : ls.size = nL) (hst : st0 = As.reverse ++ rest) (hW : 2 * (F0 m pc ls st0).monitorRoom + (rest.map fun v => v.category).sum ≤ 8) (hdg : decode cc pc = .ok (.invokestatic index, 3)) (hcs : cells ≤ R.cells ∧ slots ≤ R.slots)
    (kk : W p l e R s m args below meth c H locs cells slots Q (F0 m (pc + 3) ls (v :: rest))) : W p l e R s m args below meth c H locs cells slots Q (F0 m pc ls st0) :=
  cR_goN noF (va_runSN S hM cw hp rfl hn hsize hst hW hdg hcs) kk
end BASE
/-! what a call that writes leaves: the callee's cells, at their places among the caller's -/
def w_put : va_W → List Nat → va_W → va_W
  | ws, i :: is, q :: qs => w_put (ws.set i q) is qs
  | ws, _, _ => ws
theorem w_put_len : ∀ (is : List Nat) (ws w : va_W), (w_put ws is w).length = ws.length
  | [], ws, w => by cases w <;> rfl
  | i :: is, ws, [] => rfl
  | i :: is, ws, q :: qs => by
    show (w_put (ws.set i q) is qs).length = _
    rw [w_put_len is (ws.set i q) qs, List.length_set]
theorem w_put_out : ∀ (is : List Nat) (ws w : va_W) (k : Nat), k ∉ is → (w_put ws is w)[k]? = ws[k]?
  | [], ws, w, k, _ => by cases w <;> rfl
  | i :: is, ws, [], k, _ => rfl
  | i :: is, ws, q :: qs, k, h => by
    show (w_put (ws.set i q) is qs)[k]? = _
    rw [w_put_out is (ws.set i q) qs k (fun z => h (List.mem_cons_of_mem _ z)), List.getElem?_set_ne (fun z => h (by rw [z]; exact List.mem_cons_self))]
theorem w_put_in : ∀ (is : List Nat) (ws w : va_W) (k : Nat), k ∈ is → va_nd is = true → is.length = w.length → k < ws.length → ∃ (j : Nat), is[j]? = some k ∧ (w_put ws is w)[k]? = w[j]?
  | [], ws, w, k, h, _, _, _ => absurd h List.not_mem_nil
  | i :: is, ws, [], k, _, _, hl, _ => by simp at hl
  | i :: is, ws, q :: qs, k, h, hn, hl, hk => by
    simp only [va_nd, Bool.and_eq_true, decide_eq_true_eq] at hn
    by_cases hi : k ∈ is
    · obtain ⟨j, h1, h2⟩ := w_put_in is (ws.set i q) qs k hi hn.2 (by simpa using hl) (by rw [List.length_set]; exact hk)
      exact ⟨j + 1, by rw [List.getElem?_cons_succ]; exact h1, by rw [List.getElem?_cons_succ]; exact h2⟩
    · have hki : k = i := by
        rcases List.mem_cons.mp h with h1 | h1
        · exact h1
        · exact absurd h1 hi
      subst hki
      refine ⟨0, rfl, ?_⟩
      show (w_put (ws.set k q) is qs)[k]? = _
      rw [w_put_out is _ qs k hi, List.getElem?_set_self hk]
      rfl
theorem w_put_ok {A : Nat → Prop} {G : GG} {ws wc w2 : va_W} {H H1 : Heap} (hP : VP G ws H) (hD : va_D A ws) (is : List Nat) (hn : va_nd is = true) (his : is.map (fun i => ws[i]?) = wc.map some) (ha : w2.map Prod.fst = wc.map Prod.fst) (hk : ∀ q : Nat, q < H.size → ¬ vA wc q → H1[q]? = H[q]?) (hP2 : VP G w2 H1) : VP G (w_put ws is w2) H1 ∧ va_D A (w_put ws is w2) := by
  have hlw : w2.length = wc.length := by
    have := congrArg List.length ha
    simpa using this
  have hli : is.length = w2.length := by
    have := congrArg List.length his
    simp only [List.length_map] at this
    omega
  have key : ∀ (j k : Nat), is[j]? = some k → ∃ (q q2 : Nat × va_E), ws[k]? = some q ∧ wc[j]? = some q ∧ w2[j]? = some q2 ∧ q2.1 = q.1 := by
    intro j k hj
    have h1 : (is.map (fun i => ws[i]?))[j]? = some (ws[k]?) := by rw [List.getElem?_map, hj]; rfl
    rw [his, List.getElem?_map] at h1
    cases hw : wc[j]? with
    | none => rw [hw] at h1; cases h1
    | some q =>
      rw [hw] at h1
      have hq : ws[k]? = some q := (Option.some.inj h1).symm
      have hj2 : j < w2.length := by rw [hlw]; exact (List.getElem?_eq_some_iff.mp hw).1
      refine ⟨q, w2[j], hq, rfl, List.getElem?_eq_getElem hj2, ?_⟩
      have e1 : (w2.map Prod.fst)[j]? = some (w2[j]).1 := by rw [List.getElem?_map, List.getElem?_eq_getElem hj2]; rfl
      rw [ha, List.getElem?_map, hw] at e1
      exact (Option.some.inj e1).symm
  have at' : ∀ (k : Nat) (q : Nat × va_E), (w_put ws is w2)[k]? = some q → (k ∉ is ∧ ws[k]? = some q) ∨ (∃ (j : Nat) (q0 : Nat × va_E), is[j]? = some k ∧ w2[j]? = some q ∧ ws[k]? = some q0 ∧ wc[j]? = some q0 ∧ q.1 = q0.1) := by
    intro k q hq
    by_cases hi : k ∈ is
    · have hkl : k < ws.length := by
        have := (List.getElem?_eq_some_iff.mp hq).1
        rw [w_put_len] at this
        exact this
      obtain ⟨j, h1, h2⟩ := w_put_in is ws w2 k hi hn hli hkl
      obtain ⟨q0, q2, a1, a2, a3, a4⟩ := key j k h1
      rw [h2, a3] at hq
      cases hq
      exact Or.inr ⟨j, q0, h1, a3, a1, a2, a4⟩
    · rw [w_put_out is ws w2 k hi] at hq
      exact Or.inl ⟨hi, hq⟩
  refine ⟨fun k q hq => ?_, fun i j x y hi hj hxy => ?_, fun k q hq => ?_⟩
  · rcases at' k q hq with ⟨hi, h1⟩ | ⟨j, q0, h1, h2, -, -, -⟩
    · refine (hP k q h1).kept (hk q.1 ((hP k q h1).lt) (fun hv => ?_))
      obtain ⟨j, e, hv⟩ := hv
      have hj : j < is.length := by rw [hli, hlw]; exact (List.getElem?_eq_some_iff.mp hv).1
      obtain ⟨q0, q2, a1, a2, -, -⟩ := key j is[j] (List.getElem?_eq_getElem hj)
      rw [hv] at a2
      have e0 : q0.1 = q.1 := by rw [← Option.some.inj a2]
      have := hD.1 k is[j] q q0 h1 a1 e0.symm
      exact hi (by rw [this]; exact List.getElem_mem hj)
    · exact hP2 j q h2
  · have g1 : ∃ x0 : Nat × va_E, ws[i]? = some x0 ∧ x.1 = x0.1 := by
      rcases at' i x hi with ⟨-, h1⟩ | ⟨_, q0, -, -, h3, -, h5⟩
      · exact ⟨x, h1, rfl⟩
      · exact ⟨q0, h3, h5⟩
    have g2 : ∃ x0 : Nat × va_E, ws[j]? = some x0 ∧ y.1 = x0.1 := by
      rcases at' j y hj with ⟨-, h1⟩ | ⟨_, q0, -, -, h3, -, h5⟩
      · exact ⟨y, h1, rfl⟩
      · exact ⟨q0, h3, h5⟩
    obtain ⟨x0, a1, a2⟩ := g1
    obtain ⟨y0, b1, b2⟩ := g2
    exact hD.1 i j x0 y0 a1 b1 (by rw [← a2, ← b2, hxy])
  · rcases at' k q hq with ⟨-, h1⟩ | ⟨_, q0, -, -, h3, -, h5⟩
    · exact hD.2 k q h1
    · rw [h5]; exact hD.2 k q0 h3
section BASE2
variable {p : Program} {l : Launch} {e : Env} {R : Room} {s : State} {m : MethodId} {args : Array Value} {below : List Frame} {meth : Method} {c : Code} {H : Heap} {locs : List Loc} {cells slots : Nat} {Q : State → Prop}
variable {cc : ByteArray} {pc : Nat} {ls : Array Slot} {rest st0 : List Value} {G : GG} {A : Nat → Prop} {ws wc w2 w3 : va_W} {H0 : Heap}
variable {Ts wsy : List Cond} {nL maxL index n : Nat} {own C : String} {y : MethodName} {bytes : ByteArray} {ret : Option FieldType} {rm : Room} {b : Addr} {As : List Value}
theorem cW_go {o : Option Value} {a : Array Value} {st1 : List Value} (hr : va_Run p l e R s m args below meth c H locs cells slots 0 0 (F0 m pc ls st0) rest (QW G o w2 (vA wc) a) (vA wc)) (hP : VP G ws H) (hD : va_D A ws) (hS : va_S A H0 H locs) (is : List Nat) (hnd : va_nd is = true) (his : is.map (fun i => ws[i]?) = wc.map some) (ha : w2.map Prod.fst = wc.map Prod.fst) (hw3 : w_put ws is w2 = w3) (hst1 : o.toList ++ rest = st1)
    (kk : ∀ (H1 : Heap) (locs1 : List Loc), VP G w3 H1 → va_D A w3 → va_S A H0 H1 locs1 → W p l e R s m args below meth c H1 locs1 cells slots Q (F0 m (pc + 3) ls st1)) : W p l e R s m args below meth c H locs cells slots Q (F0 m pc ls st0) := by
  subst hw3
  subst hst1
  have hAw : ∀ q, vA wc q → A q := by
    intro q ⟨k, e, h⟩
    have h1 : (is.map (fun i => ws[i]?))[k]? = some (some (q, e)) := by rw [his, List.getElem?_map, h]; rfl
    rw [List.getElem?_map] at h1
    cases hi : is[k]? with
    | none => rw [hi] at h1; cases h1
    | some i => rw [hi] at h1; exact hD.2 i (q, e) (Option.some.inj h1)
  intro T hT X
  obtain ⟨v, st₀, t, T', L, h0, X', hL, e1, -, ⟨hv, hP2, hz, hk⟩, st⟩ := hr T hT X
  cases hv
  rw [h0] at hz hk
  have hkk : ∀ q : Nat, q < H.size → ¬ vA wc q → T'.heap[q]? = H[q]? := fun q h1 h2 => by rw [e1]; exact hk q h1 h2
  obtain ⟨hP3, hD3⟩ := w_put_ok hP hD is hnd his ha hkk (by rw [e1]; exact hP2)
  obtain ⟨t2, a1, b1⟩ := kk T'.heap (locs ++ L) hP3 hD3 ⟨Nat.le_trans hS.1 (by rw [e1]; exact hz), fun q h1 h2 => by rw [hkk q (Nat.lt_of_lt_of_le h1 hS.1) (fun z => h2 (hAw q z))]; exact hS.2.1 q h1 h2, fun q hq => by
      rcases List.mem_append.mp hq with h | h
      · exact hS.2.2 q h
      · exact hAw _ (hL q h)⟩ T' rfl X'
  exact ⟨t2, st t2 a1, b1⟩
theorem cWV {o : Option Value} {st1 : List Value} (S : CallFix p m c cc nL s args Ts own) (hM : Met l y wsy rm (va_Pc (.ref b :: As) (PB G wc)) (QW G o w2 (vA wc)) 0 0 (vA wc)) (cw : CallW R s args own C index y bytes maxL ret wsy rm 0 0 n) (hp : PreV s H C b (va_Pc (.ref b :: As) (PB G wc)) As)
    (hn : As.length = n) (hsize : ls.size = nL) (hst : st0 = As.reverse ++ .ref b :: rest) (hW : 2 * (F0 m pc ls st0).monitorRoom + (rest.map fun v => v.category).sum ≤ 8) (hdg : decode cc pc = .ok (.invokevirtual index, 3)) (hcs : cells ≤ R.cells ∧ slots ≤ R.slots)
    (hP : VP G ws H) (hD : va_D A ws) (hS : va_S A H0 H locs) (is : List Nat) (hnd : va_nd is = true) (his : is.map (fun i => ws[i]?) = wc.map some) (ha : w2.map Prod.fst = wc.map Prod.fst) (hw3 : w_put ws is w2 = w3) (hst1 : o.toList ++ rest = st1)
    (kk : ∀ (H1 : Heap) (locs1 : List Loc), VP G w3 H1 → va_D A w3 → va_S A H0 H1 locs1 → W p l e R s m args below meth c H1 locs1 cells slots Q (F0 m (pc + 3) ls st1)) : W p l e R s m args below meth c H locs cells slots Q (F0 m pc ls st0) :=
  cW_go (va_runV S hM cw hp rfl hn hsize hst hW hdg hcs) hP hD hS is hnd his ha hw3 hst1 kk
theorem cWS {o : Option Value} {st1 : List Value} (S : CallFix p m c cc nL s args Ts own) (hM : Met l y wsy rm (va_Pc As (PB G wc)) (QW G o w2 (vA wc)) 0 0 (vA wc)) (cw : CallB R s args own index y bytes maxL ret wsy rm 0 0 n ∧ (Cond.static y).before args s = true) (hp : PreS s H (va_Pc As (PB G wc)) As)
    (hn : As.length = n) (hsize : ls.size = nL) (hst : st0 = As.reverse ++ rest) (hW : 2 * (F0 m pc ls st0).monitorRoom + (rest.map fun v => v.category).sum ≤ 8) (hdg : decode cc pc = .ok (.invokestatic index, 3)) (hcs : cells ≤ R.cells ∧ slots ≤ R.slots)
    (hP : VP G ws H) (hD : va_D A ws) (hS : va_S A H0 H locs) (is : List Nat) (hnd : va_nd is = true) (his : is.map (fun i => ws[i]?) = wc.map some) (ha : w2.map Prod.fst = wc.map Prod.fst) (hw3 : w_put ws is w2 = w3) (hst1 : o.toList ++ rest = st1)
    (kk : ∀ (H1 : Heap) (locs1 : List Loc), VP G w3 H1 → va_D A w3 → va_S A H0 H1 locs1 → W p l e R s m args below meth c H1 locs1 cells slots Q (F0 m (pc + 3) ls st1)) : W p l e R s m args below meth c H locs cells slots Q (F0 m pc ls st0) :=
  cW_go (va_runS S hM cw hp rfl hn hsize hst hW hdg hcs) hP hD hS is hnd his ha hw3 hst1 kk
end BASE2
