/-! THE START -/
theorem ak_of {s : State} {args : Array Value} {ty : FieldType} (h : (Cond.arrayClass ty).before args s = true) : ∃ cA : ClassId, ArrOfT s cA ty ∧ s.vm.findClass ("[" ++ ty.toString) = some cA := by
  obtain ⟨cA, k, comp, h1, h2, h3⟩ := Cond.arrayClass_spec h
  exact ⟨cA, fun n z => ⟨(fun k h => by cases h), k, h2, comp, h3⟩, h1⟩
theorem ao_of {s : State} {C : String} (h : va_AO C s) : ∃ cA : ClassId, ArrOfT s cA (.object C) ∧ va_RA s cA (.object C) := by
  obtain ⟨comp, cA, k, h1, h2, h3, h4, h5⟩ := Cond.arrayOver_spec h
  exact ⟨cA, fun n z => ⟨(fun k h => by cases h), k, h3, comp, h4⟩, k, comp, h3, h4, h1, h5⟩
theorem vk_start {s : State} {b : Nat} (hts : ∀ w ∈ lw_tbl, w.before #[Value.ref b] s = true) : va_AO "FloorPanels$House" s ∧ ∃ G : GG, VK G s := by
  have hAO : va_AO "FloorPanels$House" s := va_AO.of (hts (.arrayOver (.object "FloorPanels$House")) (by decide +kernel))
  refine ⟨hAO, ?_⟩
  obtain ⟨c0, i0, k0⟩ := u_known (C := RX0) (T := TX0) (N := 3) (n := 3) hts inX0 (hts (.instantiable RX0 3) (by decide +kernel))
  obtain ⟨c1, i1, k1⟩ := u_known (C := RX1) (T := TX1) (N := 4) (n := 4) hts inX1 (hts (.instantiable RX1 4) (by decide +kernel))
  obtain ⟨c2, i2, k2⟩ := u_known (C := RX2) (T := TX2) (N := 2) (n := 2) hts inX2 (hts (.instantiable RX2 2) (by decide +kernel))
  obtain ⟨c6, i6, k6⟩ := u_known (C := RX6) (T := TX6) (N := 6) (n := 6) hts inX6 (hts (.instantiable RX6 6) (by decide +kernel))
  obtain ⟨c7, i7, k7⟩ := u_known (C := RX7) (T := TX7) (N := 11) (n := 11) hts inX7 (hts (.instantiable RX7 11) (by decide +kernel))
  obtain ⟨ai, bi, ci⟩ := ak_of (hts (.arrayClass .int) (by decide +kernel))
  obtain ⟨ac, bc, cc⟩ := ak_of (hts (.arrayClass .char) (by decide +kernel))
  obtain ⟨az, bz, cz⟩ := ak_of (hts (.arrayClass .boolean) (by decide +kernel))
  obtain ⟨ah, bh, ch⟩ := ao_of hAO
  obtain ⟨al, bl, cl⟩ := ak_of (hts (.arrayClass .long) (by decide +kernel))
  refine ⟨((fun k => if k = 0 then c0 else if k = 1 then c1 else if k = 2 then c2 else if k = 3 then c6 else c7, fun k => if k = 0 then i0 else if k = 1 then i1 else if k = 2 then i2 else if k = 3 then i6 else i7), fun k => if k = 0 then ai else if k = 1 then ac else if k = 2 then az else if k = 3 then ah else al), ⟨fun k q hq => ?_, fun k q hq => ?_⟩, ?_⟩
  · match k, hq with
    | 0, hq => cases hq; exact k0
    | 1, hq => cases hq; exact k1
    | 2, hq => cases hq; exact k2
    | 3, hq => cases hq; exact k6
    | 4, hq => cases hq; exact k7
    | k + 5, hq => simp [vwCl] at hq
  · match k, hq with
    | 0, hq => cases hq; exact ⟨bi, ci⟩
    | 1, hq => cases hq; exact ⟨bc, cc⟩
    | 2, hq => cases hq; exact ⟨bz, cz⟩
    | 3, hq => cases hq; exact ⟨bh, ch⟩
    | 4, hq => cases hq; exact ⟨bl, cl⟩
    | k + 5, hq => simp [tyA] at hq
  · intro w hw
    have hin : ∀ w ∈ NFw, w ∈ lw_tbl ∧ w.onTables = true := by decide +kernel
    exact va_Nw.of (hin w hw).2 (hts w (hin w hw).1)
theorem str_of {s : State} {args : Array Value} {own tx : String} {k : Nat} (h1 : (Cond.stringRef own k tx).before args s = true) (h2 : (Cond.exactly (.string own k) "java/lang/String").before args s = true) : ∃ sa : Nat, vk_R own k tx sa s := by
  obtain ⟨a, _, _, _, q1, _⟩ := Cond.exactly_spec (args := args) (first := s) (o := none) (s := s) (idx := []) (t := .string own k) (cls := "java/lang/String") h2
  exact ⟨a, vk_R.of h1 q1⟩
theorem exf_start {s : State} {b : Nat} (hts : ∀ w ∈ lw_tbl, w.before #[Value.ref b] s = true) (hgv : (Jvm.Cond.and given_1 narrow_1).before #[Value.ref b] s = true) : EXF s := by
  have hfl := flat_of_before _ hgv
  refine ⟨fun w hw => ?_, ⟨?_, ?_, ?_⟩, fun q hq => ?_⟩
  · have hin : ∀ w ∈ XW, w ∈ lw_tbl ∧ w.onTables = true := by decide +kernel
    exact va_Nw.of (hin w hw).2 (hts w (hin w hw).1)
  · exact va_Nc.of (hfl (.not (.castable xIAE xIOB)) (by decide +kernel))
  · exact va_Nc.of (hfl (.not (.castable xISE xIOB)) (by decide +kernel))
  · exact va_Nc.of (hfl (.not (.castable xISE xIAE)) (by decide +kernel))
  · have h1 : ∀ q ∈ SLs, Cond.stringRef RX6 q.1 q.2 ∈ lw_tbl := by decide +kernel
    have h2 : ∀ q ∈ SLs, Cond.exactly (.string RX6 q.1) "java/lang/String" ∈ flatC (Jvm.Cond.and given_1 narrow_1) := by decide +kernel
    exact str_of (hts _ (h1 q hq)) (hfl _ (h2 q hq))
theorem zf_start {s : State} {b : Nat} (hts : ∀ w ∈ lw_tbl, w.before #[Value.ref b] s = true) (hgv : (Jvm.Cond.and given_1 narrow_1).before #[Value.ref b] s = true) : ∀ (H : Heap) (locs : List Loc), va_S (fun q : Nat => s.heap.size ≤ q) s.heap H locs → ZF s H := by
  have hfl := flat_of_before _ hgv
  intro H locs hS
  refine ⟨((vx_Zqof (A := fun q : Nat => s.heap.size ≤ q) (hts (.laysStatic Bundle.tN "UNASSIGNED_STACK" Bundle.steD) (by decide +kernel)) (hts (.initialized Bundle.tN) (by decide +kernel)) (hfl (.isRef (.static Bundle.tN "UNASSIGNED_STACK" Bundle.steD)) (by decide +kernel)) (fun a h => Nat.not_le.mpr h)).kept hS.2.1).narrow (fun q h => h.elim), ((vx_Zqof (A := fun q : Nat => s.heap.size ≤ q) (hts (.laysStatic Bundle.tN "SUPPRESSED_SENTINEL" Bundle.listD) (by decide +kernel)) (hts (.initialized Bundle.tN) (by decide +kernel)) (hfl (.isRef (.static Bundle.tN "SUPPRESSED_SENTINEL" Bundle.listD)) (by decide +kernel)) (fun a h => Nat.not_le.mpr h)).kept hS.2.1).narrow (fun q h => h.elim)⟩
theorem ok_start : hOK (1, 0, nI 0, rn (nI 0) 0 0 1 (fur 0 (nI 0) (fun _ => 0))) := ok_mk (by decide) (by decide) (by decide) rfl (fun x hx => by
  rw [show x = 0 by omega]; exact Or.inl rfl)
theorem mu_start : MRu (1, 0, nI 0, rn (nI 0) 0 0 1 (fur 0 (nI 0) (fun _ => 0))) (fum 0 (nI 0) (zr 131 (fun _ => 0))) := by
  refine (MRk_rn (n := 1) (f := fur 0 (nI 0) (fun _ => 0)) (m := fum 0 (nI 0) (zr 131 (fun _ => 0))) (fun ro x hr h1 hx => ?_) (by decide) (by decide)).rel (by decide) (rn_Nmd (by decide) (by decide))
  obtain rfl : x = 0 := by omega
  rw [fur_at hr h1 (by decide) (by decide), fum_at hr h1 (by decide) (by decide)]
  exact (if_pos rfl).trans (if_pos rfl).symm
theorem LI_start : LI 1 0 (nI 0) (rn (nI 0) 0 0 1 (fur 0 (nI 0) (fun _ => 0))) 0 0 (fun _ => (1, 0, nI 0, rn (nI 0) 0 0 1 (fur 0 (nI 0) (fun _ => 0)))) (1, 0, nI 0, rn (nI 0) 0 0 1 (fur 0 (nI 0) (fun _ => 0))) (1, 0, nI 0, rn (nI 0) 0 0 1 (fur 0 (nI 0) (fun _ => 0))) (fun _ => 0) (fun _ => 0) 0 (fum 0 (nI 0) (zr 131 (fun _ => 0))) (fun _ => 0) (fun _ => 0) (fun _ => 0) :=
  ⟨ok_start, sOK_0, mu_start, Nat.zero_le _, fun _ => (by decide : 0 < 256), Nat.zero_le _, by decide, hist_0, sav_0, sav_0⟩
