/-! BASE 5: constructors: cells that are made; the law's frames -/
def PC (G : GG) (ws : va_W) (sz : Nat) : State → Prop := fun U => U.heap.size = sz ∧ VP G ws U.heap ∧ VK G U ∧ va_D (fun _ => True) ws ∧ va_AO "FloorPanels$House" U
theorem PC.blind (av : List Value) (G : GG) (ws : va_W) (sz : Nat) : FrameBlind (va_Pc av (PC G ws sz)) := fun a U g mk q => ⟨q.1, q.2.1, q.2.2.1, q.2.2.2.1.call, q.2.2.2.2.1, va_AO.moved (u := U) (U := U.calling g mk a) (Vm.Alike.refl U.vm) q.2.2.2.2.2⟩
def QC {α : Type} (G : GG) (P : α → Prop) (w2 : α → va_W) (A : Nat → Prop) : Array Value → State → Outcome → State → Prop := va_Qv P (fun u t => VP G (w2 u) t.heap ∧ va_D A (w2 u)) A
theorem ra_eq {U : State} {c1 c2 : ClassId} {ty : FieldType} (h1 : va_RA U c1 ty) (h2 : va_RA U c2 ty) : c1 = c2 := by
  cases ty
  all_goals first
    | exact Option.some.inj (h1.symm.trans h2)
    | (obtain ⟨_, _, _, _, _, e1⟩ := h1; obtain ⟨_, _, _, _, _, e2⟩ := h2; exact Option.some.inj (e1.symm.trans e2))
section BASE5
variable {p : Program} {l : Launch} {e : Env} {R : Room} {s : State} {m : MethodId} {args : Array Value} {below : List Frame} {meth : Method} {c : Code} {H : Heap} {locs : List Loc} {cells slots : Nat} {Q : State → Prop}
variable {cc : ByteArray} {pc : Nat} {ls : Array Slot} {rest st0 : List Value} {G : GG} {A : Nat → Prop} {ws wc wr : va_W} {H0 : Heap}
variable {Ts wsy ws' : List Cond} {nL maxL index n mc ms : Nat} {own C : String} {y : MethodName} {bytes : ByteArray} {ret : Option FieldType} {rm : Room} {b : Addr} {As av : List Value}
variable {α : Type} {w2 : α → va_W} {P : α → Prop}
theorem Met.goC {sz : Nat} {Qc : Array Value → State → Outcome → State → Prop} {free : Addr → Prop}
    (hy : plainName y.cls = true) (hw : wsy = Cond.code y cc maxL ret :: ws') (hn : (lg_sl av).length ≤ maxL)
    (body : ∀ (p : Program) (e : Env) (s : State) (m : MethodId) (below : List Frame) (meth : Method) (c : Code) (ls : Array Slot), p.tables.exec = Jvm.exec → c.code = cc → meth.sig.returnType = ret → c.maxLocals = maxL → s.vm.findClass y.cls = some m.cls → (∀ w ∈ wsy, w.before av.toArray s = true) → meth.locks = false → s.heap.size = sz → meth.name = y.name → VP G wc s.heap → VK G s → va_D (va_A wc s.heap.size) wc → va_S (va_A wc s.heap.size) s.heap s.heap [] → (∀ q : Nat, s.heap.size ≤ q → va_A wc s.heap.size q) → va_AO "FloorPanels$House" s → lv_has ls maxL (lv_args 0 av) →
      W p l e rm s m av.toArray below meth c s.heap [] 0 0 (MQ below Qc av.toArray s mc ms free) (F0 m 0 ls [])) : Met l y wsy rm (va_Pc av (PC G wc sz)) Qc mc ms free := by
  refine Met.ofW (cc := cc) (maxL := maxL) (ret := ret) hy hw ?_
  intro p e s m args below meth c s₁ B hml hv
  obtain ⟨rfl, hsz, hP, hK, hD, hAO⟩ := hv
  have hl := lv_entry av hn
  rw [lg_entry_eq]
  exact body p e s m below meth c _ B.exec B.bytes B.returns hml (findClass_of_methodNamed B.named) (atoms_spec (ws := wsy) B.pre) B.notSynchronized hsz (name_of_methodNamed B.named B.method).1 hP hK hD.self va_S.rf (fun q h => Or.inr h) hAO hl
theorem C_v {sz : Nat} (u : α) (hp : P u) (hx : p.tables.exec = Jvm.exec) (hb : c.code = cc) (hr : meth.sig.returnType = none) (hlk : meth.locks = false) (hdg : decode cc pc = .ok (.return_, 1)) (hsz : s.heap.size = sz) (hP : VP G ws H) (hD : va_D (va_A wc s.heap.size) ws) (hS : va_S (va_A wc s.heap.size) s.heap H locs) (hw : ws = w2 u) : W p l e R s m args below meth c H locs mc ms (MQ below (QC G P w2 (va_A wc sz)) args s mc ms (va_A wc sz)) (F0 m pc ls []) := by
  subst hsz
  rw [hw] at hP hD
  exact W.vret hx hb hr (fun t ht _ => ⟨⟨u, rfl, hp, by rw [ht]; exact hP, hD⟩, hS.F ht⟩) hS.2.2 hdg hlk
theorem preC_of {As : List Value} (hK : VK G s) (hAO : va_AO "FloorPanels$House" s) (hP : VP G ws H) (hD : va_D A ws) (is : List Nat) (hnd : va_nd is = true) (his : is.map (fun i => ws[i]?) = wc.map some) : PreS s H (va_Pc As (PC G wc H.size)) As := by
  have h0 := preS_of (G := G) (As := As) hK hP hD is hnd his
  refine ⟨PC.blind _ G wc _, fun U hU hW => ?_⟩
  obtain ⟨g1, g2, g3, g4⟩ := h0.2 U hU hW
  exact ⟨g1, by rw [hU], g2, g3, g4, va_AO.moved hW.alike hAO⟩
theorem cCI (S : CallFix p m c cc nL s args Ts own) (hM : Met l y wsy rm (va_Pc (.ref b :: As) (PC G wc H.size)) (QC G P w2 (va_A wc H.size)) mc ms (va_A wc H.size)) (cw : CallB R s args own index y bytes maxL none wsy rm mc ms n ∧ y.name = "<init>" ∧ (Cond.instanceMethod y).before args s = true)
    (hn : As.length = n) (hsize : ls.size = nL) (hst : st0 = As.reverse ++ .ref b :: rest) (hW : 2 * (F0 m pc ls st0).monitorRoom + (rest.map fun v => v.category).sum ≤ 8) (hdg : decode cc pc = .ok (.invokespecial index, 3)) (hf : cells + mc ≤ R.cells ∧ slots + ms ≤ R.slots)
    (hK : VK G s) (hAO : va_AO "FloorPanels$House" s) (hP : VP G ws H) (hD : va_D A ws) (hS : va_S A H0 H locs) (hA : ∀ q : Nat, H0.size ≤ q → A q) (is : List Nat) (hnd : va_nd is = true) (his : is.map (fun i => ws[i]?) = wc.map some) (ir : List Nat) (hir : ir.map (fun i => ws[i]?) = wr.map some) (hnr : va_nd ir = true) (hdis : ∀ i ∈ ir, i ∉ is)
    (kk : ∀ (u : α) (H1 : Heap) (locs1 : List Loc), P u → VP G (wr ++ w2 u) H1 → va_D A (wr ++ w2 u) → va_S A H0 H1 locs1 → W p l e R s m args below meth c H1 locs1 (cells + mc) (slots + ms) Q (F0 m (pc + 3) ls rest)) : W p l e R s m args below meth c H locs cells slots Q (F0 m pc ls st0) := by
  have hFc := va_free (wc := wc) hD hS hA is his
  refine va_callv (va_runI S hM cw (preC_of hK hAO hP hD is hnd his) rfl hn hsize hst hW hdg hf) hS (fun q _ h => hFc q h) hFc (fun u t H1 locs1 ht hvm hp hB hz hk hS1 => ?_)
  rw [ht] at hB
  obtain ⟨hP1, hD1⟩ := va_join hP hD is ir his hir hnr hdis hk hFc hB.1 hB.2
  exact kk u H1 locs1 hp hP1 hD1 hS1
theorem cCIN {host : String} (S : CallFix p m c cc nL s args Ts own) (hM : Met l y wsy rm (va_Pc (.ref b :: As) (PC G wc H.size)) (QC G P w2 (va_A wc H.size)) mc ms (va_A wc H.size)) (cw : va_CN R s args own index y host bytes maxL none wsy rm mc ms n ∧ y.name = "<init>" ∧ (Cond.instanceMethod y).before args s = true)
    (hn : As.length = n) (hsize : ls.size = nL) (hst : st0 = As.reverse ++ .ref b :: rest) (hW : 2 * (F0 m pc ls st0).monitorRoom + (rest.map fun v => v.category).sum ≤ 8) (hdg : decode cc pc = .ok (.invokespecial index, 3)) (hf : cells + mc ≤ R.cells ∧ slots + ms ≤ R.slots)
    (hK : VK G s) (hAO : va_AO "FloorPanels$House" s) (hP : VP G ws H) (hD : va_D A ws) (hS : va_S A H0 H locs) (hA : ∀ q : Nat, H0.size ≤ q → A q) (is : List Nat) (hnd : va_nd is = true) (his : is.map (fun i => ws[i]?) = wc.map some) (ir : List Nat) (hir : ir.map (fun i => ws[i]?) = wr.map some) (hnr : va_nd ir = true) (hdis : ∀ i ∈ ir, i ∉ is)
    (kk : ∀ (u : α) (H1 : Heap) (locs1 : List Loc), P u → VP G (wr ++ w2 u) H1 → va_D A (wr ++ w2 u) → va_S A H0 H1 locs1 → W p l e R s m args below meth c H1 locs1 (cells + mc) (slots + ms) Q (F0 m (pc + 3) ls rest)) : W p l e R s m args below meth c H locs cells slots Q (F0 m pc ls st0) := by
  have hFc := va_free (wc := wc) hD hS hA is his
  refine va_callv (va_runIN S hM cw (preC_of hK hAO hP hD is hnd his) rfl hn hsize hst hW hdg hf) hS (fun q _ h => hFc q h) hFc (fun u t H1 locs1 ht hvm hp hB hz hk hS1 => ?_)
  rw [ht] at hB
  obtain ⟨hP1, hD1⟩ := va_join hP hD is ir his hir hnr hdis hk hFc hB.1 hB.2
  exact kk u H1 locs1 hp hP1 hD1 hS1
/-- an array of the k-th class of arrays -/
theorem nv_newa (hx : p.tables.exec = Jvm.exec) (hb : c.code = cc) {atype : ArrayType} (harr : (Cond.arrayClass (newarray.typeOf atype)).before args s = true) {ty : FieldType} (hty : newarray.typeOf atype = ty) (k : Nat) (hk : (tyA G.2)[k]? = some (G.2 k, ty)) (hK : VK G s) (hP : VP G ws H) (hD : va_D A ws) (hS : va_S A H0 H locs) (hA : ∀ q : Nat, H0.size ≤ q → A q)
    {N' : Nat} {a0 : vp_A} (ha : ∀ cA : ClassId, vp_cell cA a0 = arrV cA N' (fun _ => defaultValue ty)) (hbytes : N' * componentBytes ty ≤ 536870912) (hN2 : N' < 2 ^ 31) (hcells : cells + 1 ≤ R.cells) (hslots : slots + N' ≤ R.slots) (hdg : decode cc pc = .ok (.newarray atype, 2))
    (kk : ∀ (q : Nat) (H1 : Heap), VP G (ws ++ [(q, .inl (G.2 k, a0))]) H1 → va_D A (ws ++ [(q, .inl (G.2 k, a0))]) → va_S A H0 H1 locs →
      W p l e R s m args below meth c H1 locs (cells + 1) (slots + N') Q (F0 m (pc + 2) ls (.ref q :: rest))) : W p l e R s m args below meth c H locs cells slots Q (F0 m pc ls (.int (nI N') :: rest)) := by
  refine va_newa hx hb harr hty hK.1 hP hD hS hA ha (fun z => ?_) (nI_clamp hN2) hbytes hcells hslots hdg (fun q cA H1 hK1 hP1 hD1 hS1 => ?_)
  · have := Int32.lt_iff_toInt_lt.mp z
    rw [nI_i (by omega), show (0 : Int32).toInt = 0 from rfl] at this
    omega
  · have e1 := (hK1.2 (tyA G.2).length (cA, ty) (by rw [List.getElem?_append_right (Nat.le_refl _), Nat.sub_self]; rfl)).2
    have e2 := (hK.1.2 k _ hk).2
    have e3 : cA = G.2 k := ra_eq e1 e2
    subst e3
    exact kk q H1 hP1 hD1 hS1
theorem nv_newq (hx : p.tables.exec = Jvm.exec) (hb : c.code = cc) (hown : s.vm.findClass own = some m.cls) (hcl : (Cond.classLink own index "FloorPanels$House").before args s = true) (hAO : va_AO "FloorPanels$House" s) (hK : VK G s) (hP : VP G ws H) (hD : va_D A ws) (hS : va_S A H0 H locs) (hA : ∀ q : Nat, H0.size ≤ q → A q)
    {N' : Nat} (hN2 : N' < 2 ^ 27) (hcells : cells + 1 ≤ R.cells) (hslots : slots + N' ≤ R.slots) (hdg : decode cc pc = .ok (.anewarray index, 3))
    (kk : ∀ (q : Nat) (H1 : Heap), VP G (ws ++ [(q, .inl (G.2 3, N', .inr (.inr (.inr (.inr (fun _ => none))))))]) H1 → va_D A (ws ++ [(q, .inl (G.2 3, N', .inr (.inr (.inr (.inr (fun _ => none))))))]) → va_S A H0 H1 locs →
      W p l e R s m args below meth c H1 locs (cells + 1) (slots + N') Q (F0 m (pc + 3) ls (.ref q :: rest))) : W p l e R s m args below meth c H locs cells slots Q (F0 m pc ls (.int (nI N') :: rest)) := by
  refine va_newq hx hb hown hcl hAO hK.1 hP hD hS hA (fun z => ?_) (nI_clamp (by omega)) (by omega) hcells hslots hdg (fun q cA H1 hK1 hP1 hD1 hS1 => ?_)
  · have := Int32.lt_iff_toInt_lt.mp z
    rw [nI_i (by omega), show (0 : Int32).toInt = 0 from rfl] at this
    omega
  · have e1 := (hK1.2 (tyA G.2).length (cA, .object "FloorPanels$House") (by rw [List.getElem?_append_right (Nat.le_refl _), Nat.sub_self]; rfl)).2
    have e2 := (hK.1.2 3 (G.2 3, .object "FloorPanels$House") rfl).2
    have e3 : cA = G.2 3 := ra_eq e1 e2
    subst e3
    exact kk q H1 hP1 hD1 hS1
theorem nv_astq (hx : p.tables.exec = Jvm.exec) (hb : c.code = cc) (hK : VK G s) (hP : VP G ws H) (hD : va_D A ws) (hS : va_S A H0 H locs) (q0 qk : Nat) {a v : Nat} {n : Nat} {vs : List Value} {f : Nat → Option Nat} (ha : ws[q0]? = some (a, .inl (G.2 3, n, .inr (.inr (.inr (.inr f)))))) (hv : ws[qk]? = some (v, .inr (1, vs))) {k : Nat} (hk : k < n) (hn : n < 2 ^ 31) (hdg : decode cc pc = .ok (.aastore, 1))
    {w3 : va_W} (hw : ws.set q0 (a, .inl (G.2 3, n, .inr (.inr (.inr (.inr (va_up f k (some v))))))) = w3) (kk : ∀ (H1 : Heap) (locs1 : List Loc), VP G w3 H1 → va_D A w3 → va_S A H0 H1 locs1 → W p l e R s m args below meth c H1 locs1 cells slots Q (F0 m (pc + 1) ls rest)) : W p l e R s m args below meth c H locs cells slots Q (F0 m pc ls (.ref v :: .int (nI k) :: .ref a :: rest)) := by
  subst hw
  refine va_astq hx hb hK.1 hP hD hS q0 3 qk 1 ha rfl hv rfl (vp_in_nI hk hn) hdg ?_
  rw [nI_clamp (Nat.lt_trans hk hn)]
  exact kk
end BASE5
theorem az_i (cA : ClassId) (n : Nat) : vp_cell cA (n, .inl (fun _ => 0)) = arrV cA n (fun _ => defaultValue .int) := by rw [vp_cell_i]; rfl
theorem az_c (cA : ClassId) (n : Nat) : vp_cell cA (n, .inl (fun _ => 0)) = arrV cA n (fun _ => defaultValue .char) := by rw [vp_cell_i]; rfl
theorem az_z (cA : ClassId) (n : Nat) : vp_cell cA (n, .inl (fun _ => 0)) = arrV cA n (fun _ => defaultValue .boolean) := by rw [vp_cell_i]; rfl
theorem az_l (cA : ClassId) (n : Nat) : vp_cell cA (n, .inr (.inl (fun _ => 0))) = arrV cA n (fun _ => defaultValue .long) := by rw [vp_cell_l]; rfl
