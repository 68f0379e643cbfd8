/-! THROWS: methods that throw and change nothing; callers that pass it on, or catch it -/
abbrev xIAE : String := "java/lang/IllegalArgumentException"
abbrev xISE : String := "java/lang/IllegalStateException"
abbrev xIOB : String := "java/lang/IndexOutOfBoundsException"
abbrev xNMS : List String := ["java/lang/RuntimeException", "java/lang/Exception"]
def XW : List Cond := [.castable xIAE xIAE, .castable xISE xISE, .castable xIOB xIOB, .declares (Bundle.initS "java/lang/RuntimeException"), .declares (Bundle.initS "java/lang/Exception"), .declares (Bundle.initS Bundle.tN)]
def SLs : List (Nat × String) := [(107, "no such number of the house"), (130, "no such number of a level"), (146, "no such number of a button"), (154, "k is negative"), (170, "the ground stays"), (178, "the ground stays whole"), (183, "only a whole level can be the ground"), (218, "no state is remembered"), (254, "a script has 1 to 3 commands"), (260, "a command has four digits"), (266, "1 to 80 turns are simulated"), (277, "nothing is saved there"), (284, "no such level"), (290, "no such car"), (292, "no such save slot"), (297, "no such kind"), (302, "no such storey to skip"), (304, "no place for a level"), (307, "the house is full"), (43, "no such character"), (54, "the text is full"), (71, "the text is not a house")]
def EXF (U : State) : Prop := (∀ w ∈ XW, va_Nw w U) ∧ (va_Nc xIAE xIOB U ∧ va_Nc xISE xIOB U ∧ va_Nc xISE xIAE U) ∧ ∀ q ∈ SLs, ∃ sa : Nat, vk_R RX6 q.1 q.2 sa U
def ZF (U : State) (H : Heap) : Prop := vx_Zq Bundle.tN "UNASSIGNED_STACK" Bundle.steD (fun _ => False) U H ∧ vx_Zq Bundle.tN "SUPPRESSED_SENTINEL" Bundle.listD (fun _ => False) U H
theorem EXF.warm {s U : State} (hW : s.WarmedH U.vm) (h : EXF s) : EXF U := by
  refine ⟨fun w hw => ?_, ⟨h.2.1.1.moved hW.alike, h.2.1.2.1.moved hW.alike, h.2.1.2.2.moved hW.alike⟩, fun q hq => ?_⟩
  · have h0 := h.1 w hw
    simp only [XW, List.mem_cons, List.not_mem_nil, or_false] at hw
    rcases hw with rfl | rfl | rfl | rfl | rfl | rfl <;> first | exact va_Nw.warmC hW h0 | exact va_Nw.warmD hW h0
  · obtain ⟨sa, h1⟩ := h.2.2 q hq
    exact ⟨sa, h1.warm hW⟩
theorem EXF.call {U : State} {g : JFrame} {mk : MethodId} {a : Array Value} (h : EXF U) : EXF (U.calling g mk a) := by
  refine ⟨fun w hw => ?_, ⟨va_Nc.moved (U := U.calling g mk a) (Vm.Alike.refl U.vm) h.2.1.1, va_Nc.moved (U := U.calling g mk a) (Vm.Alike.refl U.vm) h.2.1.2.1, va_Nc.moved (U := U.calling g mk a) (Vm.Alike.refl U.vm) h.2.1.2.2⟩, fun q hq => ?_⟩
  · have h0 := h.1 w hw
    simp only [XW, List.mem_cons, List.not_mem_nil, or_false] at hw
    rcases hw with rfl | rfl | rfl | rfl | rfl | rfl <;> exact va_Nw.same (u := U) rfl rfl h0
  · obtain ⟨sa, h1⟩ := h.2.2 q hq
    exact ⟨sa, vk_R.same (u := U) rfl h1⟩
theorem ZF.moved {u U : State} {H : Heap} (hvm : u.vm.Alike U.vm) (h : ZF u H) : ZF U H := ⟨h.1.moved hvm, h.2.moved hvm⟩
def PBX (G : GG) (ws : va_W) : State → Prop := fun U => PB G ws U ∧ EXF U ∧ ZF U U.heap
theorem PBX.blind (av : List Value) (G : GG) (ws : va_W) : FrameBlind (va_Pc av (PBX G ws)) := fun a U g mk q => ⟨q.1, (PB.blind av G ws a U g mk ⟨q.1, q.2.1⟩).2, q.2.2.1.call, ZF.moved (u := U) (U := U.calling g mk a) (Vm.Alike.refl U.vm) q.2.2.2⟩
theorem preSX_of {s : State} {H : Heap} {G : GG} {wc : va_W} {As : List Value} (h : PreS s H (va_Pc As (PB G wc)) As) (hE : EXF s) (hZ : ZF s H) : PreS s H (va_Pc As (PBX G wc)) As :=
  ⟨PBX.blind _ G wc, fun U hU hW => ⟨(h.2 U hU hW).1, (h.2 U hU hW).2, hE.warm hW, by rw [hU]; exact hZ.moved hW.alike⟩⟩
theorem preVX_of {s : State} {H : Heap} {G : GG} {wc : va_W} {As : List Value} {C : String} {b : Addr} (h : PreV s H C b (va_Pc (.ref b :: As) (PB G wc)) As) (hE : EXF s) (hZ : ZF s H) : PreV s H C b (va_Pc (.ref b :: As) (PBX G wc)) As :=
  ⟨PBX.blind _ G wc, h.2.1, fun U hU hW => ⟨(h.2.2 U hU hW).1, (h.2.2 U hU hW).2, hE.warm hW, by rw [hU]; exact hZ.moved hW.alike⟩⟩
def XT (cls : String) : String → State → State → Prop := fun E s t => E = cls ∧ s.heap.size ≤ t.heap.size ∧ ∀ q : Nat, q < s.heap.size → t.heap[q]? = s.heap[q]?
def NQ : Array Value → State → Outcome → State → Prop := fun _ _ _ _ => False
def QE (o : Option Value) : Array Value → State → Outcome → State → Prop := fun _ st oc t => oc = .returned o ∧ st.heap.size ≤ t.heap.size ∧ ∀ q : Nat, q < st.heap.size → t.heap[q]? = st.heap[q]?
theorem xa_IAE : ∀ w ∈ (vx_atS RX6 45 xIAE xNMS).filter (fun w => !goodWord w), w ∈ XW := by decide +kernel
theorem xa_ISE : ∀ w ∈ (vx_atS RX6 56 xISE xNMS).filter (fun w => !goodWord w), w ∈ XW := by decide +kernel
theorem xa_IOB : ∀ w ∈ (vx_atS RX6 286 xIOB xNMS).filter (fun w => !goodWord w), w ∈ XW := by decide +kernel
theorem xg_IAE : ∀ w ∈ Cond.classLink RX6 41 xIAE :: Cond.initialized xIAE :: vx_atS RX6 45 xIAE xNMS, vx_ot w = true := by decide +kernel
theorem xg_ISE : ∀ w ∈ Cond.classLink RX6 52 xISE :: Cond.initialized xISE :: vx_atS RX6 56 xISE xNMS, vx_ot w = true := by decide +kernel
theorem xg_IOB : ∀ w ∈ Cond.classLink RX6 282 xIOB :: Cond.initialized xIOB :: vx_atS RX6 286 xIOB xNMS, vx_ot w = true := by decide +kernel
theorem xf_IAE : Bundle.fit xIAE = true := by decide +kernel
theorem xf_ISE : Bundle.fit xISE = true := by decide +kernel
theorem xf_IOB : Bundle.fit xIOB = true := by decide +kernel
theorem xf_NMS : ∀ n ∈ xNMS, Bundle.fit n = true := by decide +kernel
section XBASE
variable {p : Program} {l : Launch} {e : Env} {R : Room} {s : State} {m : MethodId} {args : Array Value} {below : List Frame} {meth : Method} {c : Code} {H : Heap} {locs : List Loc} {cells slots : Nat} {Q : State → Prop}
variable {cc : ByteArray} {pc : Nat} {ls : Array Slot} {rest st0 : List Value} {G : GG} {A : Nat → Prop} {ws wc w2 : va_W} {H0 : Heap} {cls : String}
variable {Ts wsy ws' : List Cond} {nL maxL index n : Nat} {own C : String} {y : MethodName} {bytes : ByteArray} {ret : Option FieldType} {rm : Room} {b : Addr} {As av : List Value}
theorem Met.goX (hy : plainName y.cls = true) (hw : wsy = Cond.code y cc maxL ret :: ws') (hn : (lg_sl av).length ≤ maxL)
    (body : ∀ (p : Program) (e : Env) (s : State) (m : MethodId) (below : List Frame) (meth : Method) (c : Code) (ls : Array Slot), p.tables.exec = Jvm.exec → c.code = cc → meth.sig.returnType = ret → c.maxLocals = maxL → s.vm.findClass y.cls = some m.cls → (∀ w ∈ wsy, w.before av.toArray s = true) → meth.locks = false → (∀ x ∈ c.exceptionTable.toList, False) → VP G wc s.heap → VK G s → va_D (vA wc) wc → EXF s → ZF s s.heap → lv_has ls maxL (lv_args 0 av) →
      W p l e rm s m av.toArray below meth c s.heap [] 0 0 (vx_MQ below NQ (XT cls) av.toArray s 1 6 (fun _ => False)) (F0 m 0 ls [])) : vx_Met l y wsy rm (va_Pc av (PBX G wc)) NQ (XT cls) 1 6 (fun _ => False) := by
  refine vx_ofW (cc := cc) (maxL := maxL) (ret := ret) hy hw ?_
  intro p e s m args below meth c s₁ B hml hnt hv
  obtain ⟨rfl, ⟨hP, hK, hD⟩, hE, hZ⟩ := hv
  have hl := lv_entry av hn
  rw [lg_entry_eq]
  exact body p e s m below meth c _ B.exec B.bytes B.returns hml (findClass_of_methodNamed B.named) (atoms_spec (ws := wsy) B.pre) B.notSynchronized hnt hP hK (hD.weaken (fun _ _ hk _ => vA.in hk)) hE hZ hl
theorem Met.goE {hh : List (Nat × Nat × Nat × Nat)} {Qc : Array Value → State → Outcome → State → Prop} {mc ms : Nat} {free : Addr → Prop} (hy : plainName y.cls = true) (hw : wsy = Cond.codeWith y cc maxL ret hh :: ws') (hn : (lg_sl av).length ≤ maxL)
    (body : ∀ (p : Program) (e : Env) (s : State) (m : MethodId) (below : List Frame) (meth : Method) (c : Code) (ls : Array Slot), p.tables.exec = Jvm.exec → c.code = cc → meth.sig.returnType = ret → c.maxLocals = maxL → s.vm.findClass y.cls = some m.cls → (∀ w ∈ wsy, w.before av.toArray s = true) → meth.locks = false → c.exceptionTable.toList = tableOf hh → VP G wc s.heap → VK G s → va_D (vA wc) wc → va_S (vA wc) s.heap s.heap [] → EXF s → ZF s s.heap → lv_has ls maxL (lv_args 0 av) →
      W p l e rm s m av.toArray below meth c s.heap [] 0 0 (MQ below Qc av.toArray s mc ms free) (F0 m 0 ls [])) : Met l y wsy rm (va_Pc av (PBX G wc)) Qc mc ms free := by
  refine va_MetW (cc := cc) (maxL := maxL) (ret := ret) (hh := hh) hy hw ?_
  intro p e s m args below meth c s₁ B hml hv
  obtain ⟨rfl, ⟨hP, hK, hD⟩, hE, hZ⟩ := hv
  have hl := lv_entry av hn
  rw [lg_entry_eq]
  exact body p e s m below meth c _ B.exec B.bytes B.returns hml (findClass_of_methodNamed B.named) (atoms_spec (ws := wsy) B.pre) B.notSynchronized (vx_table (x := y) B (atoms_spec (ws := wsy) B.pre _ (by rw [hw]; exact List.mem_cons_self))) hP hK (hD.weaken (fun _ _ hk _ => vA.in hk)) va_S.rf hE hZ hl
theorem X_throw {text : String} {ik is ic : Nat} (hx : p.tables.exec = Jvm.exec) (hb : c.code = cc) (hst : l.stackTraces = false) (hown : s.vm.findClass RX6 = some m.cls) (hcls : Bundle.fit cls = true)
    (hk : (Cond.classLink RX6 ik cls).before args s = true) (hini : (Cond.initialized cls).before args s = true) (hstr : ∃ sa : Nat, vk_R RX6 is text sa s) (hgw : ∀ w ∈ (vx_atS RX6 ic cls xNMS).filter goodWord, w.before args s = true) (hxa : ∀ w ∈ (vx_atS RX6 ic cls xNMS).filter (fun w => !goodWord w), w ∈ XW)
    (hgood : ∀ w ∈ Cond.classLink RX6 ik cls :: Cond.initialized cls :: vx_atS RX6 ic cls xNMS, vx_ot w = true) (hE : EXF s) (hZ : ZF s s.heap) (hsize : ls.size = c.maxLocals)
    (d0 : decode cc pc = .ok (.new ik, 3)) (d3 : decode cc (pc + 3) = .ok (.dup, 1)) (d4 : decode cc (pc + 4) = .ok (.ldc is, 2)) (d6 : decode cc (pc + 6) = .ok (.invokespecial ic, 3)) (d9 : decode cc (pc + 9) = .ok (.athrow, 1))
    (hnt : ∀ x ∈ c.exceptionTable.toList, False) (hfr : 5 < R.frames) (hlo : (rest.map fun v => v.category).sum + 82 ≤ R.locals) (hce : 1 ≤ R.cells) (hsl : 6 ≤ R.slots) (hlk : meth.locks = false) :
    W p l e R s m args below meth c s.heap [] 0 0 (vx_MQ below NQ (XT cls) args s 1 6 (fun _ => False)) (F0 m pc ls rest) := by
  obtain ⟨sa, hstr⟩ := hstr
  refine vx_throwS (A := fun _ => False) hx hb hst hown hcls xf_NMS hk hini hstr (vx_hat hgw hxa (fun w hw => ?_)) hgood hZ.1 hZ.2 va_S.rf hsize d0 d3 d4 d6 d9 (fun x hx' => (hnt x hx').elim) hfr hlo (by omega) (by omega) hlk (fun t _ h1 h2 => ⟨rfl, h1, h2⟩) (fun _ h => by cases h) (Nat.le_refl _) (Nat.le_refl _)
  have h0 := hE.1 w hw
  simp only [XW, List.mem_cons, List.not_mem_nil, or_false] at hw
  rcases hw with rfl | rfl | rfl | rfl | rfl | rfl <;> exact va_Nw.use rfl h0
theorem X_throwW {text : String} {ik is ic : Nat} (hx : p.tables.exec = Jvm.exec) (hb : c.code = cc) (hst : l.stackTraces = false) (hown : s.vm.findClass RX6 = some m.cls) (hcls : Bundle.fit cls = true)
    (hk : (Cond.classLink RX6 ik cls).before args s = true) (hini : (Cond.initialized cls).before args s = true) (hstr : ∃ sa : Nat, vk_R RX6 is text sa s) (hgw : ∀ w ∈ (vx_atS RX6 ic cls xNMS).filter goodWord, w.before args s = true) (hxa : ∀ w ∈ (vx_atS RX6 ic cls xNMS).filter (fun w => !goodWord w), w ∈ XW)
    (hgood : ∀ w ∈ Cond.classLink RX6 ik cls :: Cond.initialized cls :: vx_atS RX6 ic cls xNMS, vx_ot w = true) (hE : EXF s) (hZ : ZF s s.heap) (hsize : ls.size = c.maxLocals)
    (d0 : decode cc pc = .ok (.new ik, 3)) (d3 : decode cc (pc + 3) = .ok (.dup, 1)) (d4 : decode cc (pc + 4) = .ok (.ldc_w is, 3)) (d7 : decode cc (pc + 7) = .ok (.invokespecial ic, 3)) (d10 : decode cc (pc + 10) = .ok (.athrow, 1))
    (hnt : ∀ x ∈ c.exceptionTable.toList, False) (hfr : 5 < R.frames) (hlo : (rest.map fun v => v.category).sum + 82 ≤ R.locals) (hce : 1 ≤ R.cells) (hsl : 6 ≤ R.slots) (hlk : meth.locks = false) :
    W p l e R s m args below meth c s.heap [] 0 0 (vx_MQ below NQ (XT cls) args s 1 6 (fun _ => False)) (F0 m pc ls rest) := by
  obtain ⟨sa, hstr⟩ := hstr
  refine vx_throwSW (A := fun _ => False) hx hb hst hown hcls xf_NMS hk hini hstr (vx_hat hgw hxa (fun w hw => ?_)) hgood hZ.1 hZ.2 va_S.rf hsize d0 d3 d4 d7 d10 (fun x hx' => (hnt x hx').elim) hfr hlo (by omega) (by omega) hlk (fun t _ h1 h2 => ⟨rfl, h1, h2⟩) (fun _ h => by cases h) (Nat.le_refl _) (Nat.le_refl _)
  have h0 := hE.1 w hw
  simp only [XW, List.mem_cons, List.not_mem_nil, or_false] at hw
  rcases hw with rfl | rfl | rfl | rfl | rfl | rfl <;> exact va_Nw.use rfl h0
/-- a call that throws, in a method that passes it on -/
theorem cXV (S : CallFix p m c cc nL s args Ts own) (hM : vx_Met l y wsy rm (va_Pc (.ref b :: As) (PBX G wc)) NQ (XT cls) 1 6 (fun _ => False)) (cw : CallW R s args own C index y bytes maxL ret wsy rm 1 6 n) (hp : PreV s s.heap C b (va_Pc (.ref b :: As) (PBX G wc)) As)
    (hn : As.length = n) (hsize : ls.size = nL) (hst : st0 = As.reverse ++ .ref b :: rest) (hW : 2 * (F0 m pc ls st0).monitorRoom + (rest.map fun v => v.category).sum ≤ 8) (hdg : decode cc pc = .ok (.invokevirtual index, 3)) (hcs : 1 ≤ R.cells ∧ 6 ≤ R.slots) (hnt : ∀ x ∈ c.exceptionTable.toList, False) (hlk : meth.locks = false) :
    W p l e R s m args below meth c s.heap [] 0 0 (vx_MQ below NQ (XT cls) args s 1 6 (fun _ => False)) (F0 m pc ls st0) := by
  intro T hT X
  rcases vx_runV S hM cw hp rfl hn hsize hst hW hdg ⟨by omega, by omega⟩ T hT X with ⟨v, st₀, t, T', L, h0, X', hL, e1, e2, hq, st⟩ | ⟨q, st₀, t, T', L, E, ce, h0, X', hL, e1, e2, ⟨hE, hz, hk⟩, hce, hcv, hcl, st⟩
  · exact hq.elim
  · rw [h0] at hz hk
    have X'' : Stand p l e R s m args below meth c T' [] 1 6 := Stand.forget X' (fun z hz' => (hL z hz').elim)
    obtain ⟨t2, a1, b1⟩ := vx_out (mc := 1) (ms := 6) (XC := XT cls) (Qc := NQ) (free := fun _ => False) (rest := rest) (fun x hx' => (hnt x hx').elim) hlk (H := T'.heap) (by rw [e1]; exact hce) hcv hcl (fun t' ht' _ => ⟨hE, by rw [ht', e1]; exact hz, fun q' h' => by rw [ht', e1]; exact hk q' h'⟩) (fun _ h => by cases h) (Nat.le_refl _) (Nat.le_refl _) T' rfl X''
    exact ⟨t2, Steps.trans st a1, b1⟩
/-- a call that throws, in a method that catches it -/
theorem cXVc {name : String} (S : CallFix p m c cc nL s args Ts own) (hM : vx_Met l y wsy rm (va_Pc (.ref b :: As) (PBX G wc)) NQ (XT cls) 1 6 (fun _ => False)) (cw : CallW R s args own C index y bytes maxL ret wsy rm 1 6 n) (hp : PreV s s.heap C b (va_Pc (.ref b :: As) (PBX G wc)) As)
    (hn : As.length = n) (hsize : ls.size = nL) (hst : st0 = As.reverse ++ .ref b :: rest) (hW : 2 * (F0 m pc ls st0).monitorRoom + (rest.map fun v => v.category).sum ≤ 8) (hdg : decode cc pc = .ok (.invokevirtual index, 3)) (hcs : 1 ≤ R.cells ∧ 6 ≤ R.slots)
    (pre : List ExceptionTableEntry) (x : ExceptionTableEntry) (suf : List ExceptionTableEntry) (hsplit : c.exceptionTable.toList = pre ++ x :: suf)
    (hpass : ∀ z ∈ pre, covers z pc = false ∨ (z.catchType ≠ 0 ∧ ∃ nm : String, (Cond.classLink own z.catchType nm).before args s = true ∧ va_Nc cls nm s)) (hxc : covers x pc = true) (h0 : x.catchType ≠ 0)
    (hlink : (Cond.classLink own x.catchType name).before args s = true) (hcast : (Cond.castable cls name).before args s = true)
    (kk : ∀ (H1 : Heap) (q : Addr), s.heap.size ≤ H1.size → (∀ q' : Nat, q' < s.heap.size → H1[q']? = s.heap[q']?) → W p l e R s m args below meth c H1 [] 1 6 Q (F0 m x.handlerPc ls [.ref q])) : W p l e R s m args below meth c s.heap [] 0 0 Q (F0 m pc ls st0) := by
  intro T hT X
  have hown : s.vm.findClass own = some m.cls := S.2.2.2.1
  rcases vx_runV S hM cw hp rfl hn hsize hst hW hdg ⟨by omega, by omega⟩ T hT X with ⟨v, st₀, t, T', L, h0', X', hL, e1, e2, hq, st⟩ | ⟨q, st₀, t, T', L, E, ce, h0', X', hL, e1, e2, ⟨hE, hz, hk⟩, hce, hcv, hcl, st⟩
  · exact hq.elim
  · rw [h0'] at hz hk
    subst hE
    have X'' : Stand p l e R s m args below meth c T' [] 1 6 := Stand.forget X' (fun z hz' => (hL z hz').elim)
    obtain ⟨t2, a1, b1⟩ := vx_catch (rest := rest) hown pre x suf hsplit hpass hxc h0 hlink hcast (H := T'.heap) (by rw [e1]; exact hce) hcv hcl (kk T'.heap q (by rw [e1]; exact hz) (fun q' h' => by rw [e1]; exact hk q' h')) T' rfl X''
    exact ⟨t2, Steps.trans st a1, b1⟩
theorem E_i {v r : Int32} {free : Addr → Prop} {cells slots : Nat} (hx : p.tables.exec = Jvm.exec) (hb : c.code = cc) (hr : meth.sig.returnType = some .int) (hlk : meth.locks = false) (hdg : decode cc pc = .ok (.ireturn, 1)) (h1 : s.heap.size ≤ H.size) (h2 : ∀ q : Nat, q < s.heap.size → H[q]? = s.heap[q]?) (hv : v = r) : W p l e R s m args below meth c H [] cells slots (MQ below (QE (some (.int r))) args s cells slots free) (F0 m pc ls [.int v]) := by
  subst hv
  exact W.iret hx hb hr (fun t ht _ => ⟨rfl, by rw [ht]; exact h1, fun q hq => by rw [ht]; exact h2 q hq⟩) (fun q h => by cases h) hdg hlk
end XBASE
