theorem in_c_X2_storeys_X2 : ∀ w ∈ wsX20, w ∈ wsX2_storeys := by decide +kernel
set_option maxHeartbeats 4000000 in
set_option maxRecDepth 100000 in
theorem c_X2_storeys (l : Launch) (G : GG) (tx : Nat) (ch : Nat) (sz : Nat) (cd : Nat → Nat) (h_sz : sz ≤ 60) (h_cd : ∀ j_, cd j_ < 256) (h_ok : ferr cd sz = -1) : Met l yX2_storeys wsX2_storeys ({ frames := 3, cells := 0, slots := 0, locals := 65 } : Room) (va_Pc [.ref tx] (PB G [(tx, .inr (2, [.ref ch, .int (nI sz)])), (ch, .inl (G.2 1, 60, .inl (cdI cd)))])) (QR (some (.int (mbt cd sz)))) 0 0 (fun _ => False) := by
  refine Met.go (cc := cX2_storeys) (maxL := 4) (ret := (some .int)) (by decide) rfl (Nat.le_of_ble_eq_true rfl) ?_
  intro p e s m below meth c ls hx hb hr hml hown hts hlk hP hK hD hS hl
  have hown : s.vm.findClass RX2 = some m.cls := hown
  have hl : lv_has ls 4 [(0, .ref tx)] := hl
  refine lv_iconst (v := nI 0) hx hb dX2_storeys_0 (by decide) ?_
  refine lv_istore_n (lv' := [(1, .int (nI 0)), (0, .ref tx)]) hx hb dX2_storeys_1 rfl hl (by decide) rfl (fun ls hl => ?_)
  refine lv_iconst (v := nI 0) hx hb dX2_storeys_2 (by decide) ?_
  refine lv_istore_n (lv' := [(2, .int (nI 0)), (1, .int (nI 0)), (0, .ref tx)]) hx hb dX2_storeys_3 rfl hl (by decide) rfl (fun ls hl => ?_)
  refine lv_aload_n hx hb dX2_storeys_4 rfl (lv_at hl 2 rfl) ?_
  refine cRV (As := []) (rest := []) (v := .int (nI (ltr cd sz))) ⟨hx, hb, hml, hown, hts⟩ (c_X2_letters l G tx ch sz cd (by first | omega | assumption) (by first | omega | assumption)) (cwV 0 hts gX2_storeys_X2_letters rfl rfl rfl (by decide +kernel) ⟨Nat.le_of_ble_eq_true rfl, Nat.le_of_ble_eq_true rfl⟩) (preV_of hK hP hD [0, 1] (by decide) rfl (ci := 2) (q0 := 0) rfl rfl rfl) rfl hl.1 rfl (lv_room (Nat.le_of_ble_eq_true rfl)) dX2_storeys_5 ⟨Nat.zero_le _, Nat.zero_le _⟩ ?_
  have h_lt := ltr_le cd sz
  refine lv_iconst (v := nI 1) hx hb dX2_storeys_8 (by decide) ?_
  refine nv_iadd hx hb dX2_storeys_9 ?_
  refine lv_istore_n (lv' := [(3, .int (nI ((ltr cd sz) + 1))), (2, .int (nI 0)), (1, .int (nI 0)), (0, .ref tx)]) hx hb dX2_storeys_10 rfl hl (by decide) rfl (fun ls hl => ?_)
  have loop_11 : ∀ (k_ : Nat) (i : Nat) (b : Nat) (v : Nat) (B : Int32) (h_i : i ≤ sz + 1) (h_v : v ≤ 30) (h_I : (i ≤ sz ∧ steF cd sz (sz - i) i b v = -1 ∧ mbt cd sz = stS cd (sz - i) i b v B) ∨ (sz < i ∧ v = 0 ∧ B = 0 ∧ mbt cd sz = 0)) (_ : sz + 1 - i < k_) (ls : Array Slot), lv_has ls 4 [(3, .int (nI i)), (2, .int (nI v)), (1, .int B), (0, .ref tx)] → W p l e ({ frames := 3, cells := 0, slots := 0, locals := 65 } : Room) s m ([.ref tx] : List Value).toArray below meth c s.heap [] 0 0 (MQ below (QR (some (.int (mbt cd sz)))) ([.ref tx] : List Value).toArray s 0 0 (fun _ => False)) (F0 m 11 ls []) := by
    intro k_
    induction k_ with
    | zero => intro i b v B h_i h_v h_I hk_; exact absurd hk_ (Nat.not_lt_zero _)
    | succ k_ ih_11 =>
      intro i b v B h_i h_v h_I hk_ ls hl
      refine lv_iload_n hx hb dX2_storeys_11 rfl (lv_at hl 0 rfl) ?_
      refine lv_aload_n hx hb dX2_storeys_12 rfl (lv_at hl 3 rfl) ?_
      refine va_get (D := G.1) (ci := 2) (v := .int (nI sz)) (C := RX2) (T := TX2) (N := 2) hx hb hts in_c_X2_storeys_X2 hown hK.1 hP 0 rfl rfl 1 (by decide) (hts (.fieldLink RX2 15 "FloorPanels$HouseText" "length" "I") (by decide +kernel)) (fun _ h9 => h9) rfl dX2_storeys_13 ?_
      refine bi_ge (tgt := 60) hx hb dX2_storeys_16 (by decide) (nI_i (by omega)) (nI_i (by omega)) (fun c_16 => ?_) (fun c_16 => ?_)
      ·
        refine lv_iload_n hx hb dX2_storeys_60 rfl (lv_at hl 1 rfl) ?_
        refine b0_ne (tgt := 68) hx hb dX2_storeys_61 (by decide) (nI_i (by omega)) (fun c_61 => ?_) (fun c_61 => ?_)
        ·
          refine lv_iload_n hx hb dX2_storeys_68 rfl (lv_at hl 2 rfl) ?_
          refine lv_iconst (v := nI 1) hx hb dX2_storeys_69 (by decide) ?_
          refine lv_iload_n hx hb dX2_storeys_70 rfl (lv_at hl 1 rfl) ?_
          refine lv_ishl hx hb dX2_storeys_71 ?_
          rw [show (nI 1) <<< ((nI v) &&& 31) = (bitv v) from rfl]
          refine lv_ior hx hb dX2_storeys_72 ?_
          rw [show B ||| (bitv v) = (skp B v True) from (skp_t trivial).symm]
          exact R_i hx hb hr hlk dX2_storeys_73 (by obtain ⟨h_a, h_s1, h_s2⟩ := h_I.resolve_right (fun z_ => by omega); rw [show sz - i = 0 by omega] at h_s1 h_s2; exact (st_fin (by omega) h_s1 h_s2).2.symm)
        ·
          refine lv_iload_n hx hb dX2_storeys_64 rfl (lv_at hl 2 rfl) ?_
          refine lv_goto (tgt := 73) hx hb dX2_storeys_65 (by decide) ?_
          exact R_i hx hb hr hlk dX2_storeys_73 (h_I.elim (fun z_ => by have y1_ := z_.2.1; have y2_ := z_.2.2; rw [show sz - i = 0 by omega] at y1_ y2_; have y3_ := (st_fin (by omega) y1_ y2_).1; exfalso; omega) (fun z_ => z_.2.2.1.trans z_.2.2.2.symm))
      ·
        obtain ⟨-, h_s1, h_s2⟩ := h_I.resolve_right (fun z_ => by omega)
        rw [show sz - i = sz - (i + 1) + 1 by omega] at h_s1 h_s2
        have h_c := h_cd i
        refine lv_aload_n hx hb dX2_storeys_19 rfl (lv_at hl 3 rfl) ?_
        refine lv_iload_n hx hb dX2_storeys_20 rfl (lv_at hl 0 rfl) ?_
        refine cRV (As := [.int (nI i)]) (rest := []) (v := .int (nI (cd i))) ⟨hx, hb, hml, hown, hts⟩ (c_X2_character l G tx ch sz cd i (by first | omega | assumption) (by first | omega | assumption) (by first | omega | assumption)) (cwV 1 hts gX2_storeys_X2_character rfl rfl rfl (by decide +kernel) ⟨Nat.le_of_ble_eq_true rfl, Nat.le_of_ble_eq_true rfl⟩) (preV_of hK hP hD [0, 1] (by decide) rfl (ci := 2) (q0 := 0) rfl rfl rfl) rfl hl.1 rfl (lv_room (Nat.le_of_ble_eq_true rfl)) dX2_storeys_21 ⟨Nat.zero_le _, Nat.zero_le _⟩ ?_
        refine lv_bipush (v := nI 44) hx hb dX2_storeys_24 (by decide) ?_
        refine bi_ne (tgt := 40) hx hb dX2_storeys_26 (by decide) (nI_i (by omega)) (nI_i (by omega)) (fun c_26 => ?_) (fun c_26 => ?_)
        ·
          obtain ⟨h_dg, h_t1, h_t2⟩ := st_dg (by omega) (show ¬ cd i = 44 by omega) h_s1 h_s2
          refine lv_bipush (v := nI 10) hx hb dX2_storeys_40 (by decide) ?_
          refine lv_iload_n hx hb dX2_storeys_42 rfl (lv_at hl 1 rfl) ?_
          refine nv_imul hx hb dX2_storeys_43 ?_
          refine lv_aload_n hx hb dX2_storeys_44 rfl (lv_at hl 3 rfl) ?_
          refine lv_iload_n hx hb dX2_storeys_45 rfl (lv_at hl 0 rfl) ?_
          refine cRV (As := [.int (nI i)]) (rest := [.int (nI (10 * v))]) (v := .int (nI (cd i))) ⟨hx, hb, hml, hown, hts⟩ (c_X2_character l G tx ch sz cd i (by first | omega | assumption) (by first | omega | assumption) (by first | omega | assumption)) (cwV 1 hts gX2_storeys_X2_character rfl rfl rfl (by decide +kernel) ⟨Nat.le_of_ble_eq_true rfl, Nat.le_of_ble_eq_true rfl⟩) (preV_of hK hP hD [0, 1] (by decide) rfl (ci := 2) (q0 := 0) rfl rfl rfl) rfl hl.1 rfl (lv_room (Nat.le_of_ble_eq_true rfl)) dX2_storeys_46 ⟨Nat.zero_le _, Nat.zero_le _⟩ ?_
          refine nv_iadd hx hb dX2_storeys_49 ?_
          refine lv_bipush (v := nI 48) hx hb dX2_storeys_50 (by decide) ?_
          refine nv_isub hx hb (by omega) dX2_storeys_52 ?_
          refine lv_istore_n (lv' := [(2, .int (nI (((10 * v) + (cd i)) - 48))), (3, .int (nI i)), (1, .int B), (0, .ref tx)]) hx hb dX2_storeys_53 rfl hl (by decide) rfl (fun ls hl => ?_)
          refine lv_iinc (v := nI (i + 1)) (lv' := [(3, .int (nI (i + 1))), (2, .int (nI (((10 * v) + (cd i)) - 48))), (1, .int B), (0, .ref tx)]) hx hb dX2_storeys_54 hl (k := 1) rfl (inc_n _ 1) (by decide) rfl (fun ls hl => ?_)
          refine lv_goto (tgt := 11) hx hb dX2_storeys_57 (by decide) ?_
          exact ih_11 (i + 1) b (((10 * v) + (cd i)) - 48) B (by first | omega | assumption) (by first | omega | assumption) (Or.inl ⟨by omega, by assumption, by assumption⟩) (by omega) ls (lv_sub hl [0, 1, 2, 3] (by rfl))
        ·
          obtain ⟨h_bv, h_t1, h_t2⟩ := st_cm (by omega) (show cd i = 44 by omega) h_s1 h_s2
          refine lv_iload_n hx hb dX2_storeys_29 rfl (lv_at hl 2 rfl) ?_
          refine lv_iconst (v := nI 1) hx hb dX2_storeys_30 (by decide) ?_
          refine lv_iload_n hx hb dX2_storeys_31 rfl (lv_at hl 1 rfl) ?_
          refine lv_ishl hx hb dX2_storeys_32 ?_
          rw [show (nI 1) <<< ((nI v) &&& 31) = (bitv v) from rfl]
          refine lv_ior hx hb dX2_storeys_33 ?_
          rw [show B ||| (bitv v) = (skp B v True) from (skp_t trivial).symm]
          refine lv_istore_n (lv' := [(1, .int (skp B v True)), (3, .int (nI i)), (2, .int (nI v)), (0, .ref tx)]) hx hb dX2_storeys_34 rfl hl (by decide) rfl (fun ls hl => ?_)
          refine lv_iconst (v := nI 0) hx hb dX2_storeys_35 (by decide) ?_
          refine lv_istore_n (lv' := [(2, .int (nI 0)), (1, .int (skp B v True)), (3, .int (nI i)), (0, .ref tx)]) hx hb dX2_storeys_36 rfl hl (by decide) rfl (fun ls hl => ?_)
          refine lv_goto (tgt := 54) hx hb dX2_storeys_37 (by decide) ?_
          refine lv_iinc (v := nI (i + 1)) (lv' := [(3, .int (nI (i + 1))), (2, .int (nI 0)), (1, .int (skp B v True)), (0, .ref tx)]) hx hb dX2_storeys_54 hl (k := 2) rfl (inc_n _ 1) (by decide) rfl (fun ls hl => ?_)
          refine lv_goto (tgt := 11) hx hb dX2_storeys_57 (by decide) ?_
          exact ih_11 (i + 1) v 0 (skp B v True) (by first | omega | assumption) (by first | omega | assumption) (Or.inl ⟨by omega, by assumption, by assumption⟩) (by omega) ls (lv_sub hl [0, 1, 2, 3] (by rfl))
  exact loop_11 (sz + 1 - (ltr cd sz + 1) + 1) (ltr cd sz + 1) 0 0 (nI 0) (by first | omega | assumption) (by first | omega | assumption) (st_init h_sz h_cd h_ok) (Nat.lt_succ_self _)  ls (lv_sub hl [0, 1, 2, 3] (by rfl))

theorem in_c_X1_rebuild_X1 : ∀ w ∈ wsX10, w ∈ wsX1_rebuild := by decide +kernel
set_option maxHeartbeats 4000000 in
set_option maxRecDepth 100000 in
theorem c_X1_rebuild (l : Launch) (G : GG) (h : Nat) (hc : Nat) (n : Nat) (g : Nat) (sk : Int32) (f : Nat → Int32) (tx : Nat) (ch : Nat) (sz : Nat) (cd : Nat → Nat) (g1 : Nat) (h_sz : sz ≤ 60) (h_cd : ∀ j_, cd j_ < 256) (h_ok : ferr cd sz = -1) (h_G : gnd cd sz = nI g1) (h_GL : g1 < ltr cd sz) (h_Gc : cd g1 = 71) : Met l yX1_rebuild wsX1_rebuild ({ frames := 4, cells := 0, slots := 0, locals := 88 } : Room) (va_Pc [.ref h, .ref tx] (PB G [(h, .inr (1, [.ref hc, .int (nI n), .int (nI g), .int sk])), (hc, .inl (G.2 0, 144, .inl f)), (tx, .inr (2, [.ref ch, .int (nI sz)])), (ch, .inl (G.2 1, 60, .inl (cdI cd)))])) (QW G (none) [(h, .inr (1, [.ref hc, .int (nI (ltr cd sz)), .int (nI g1), .int (mbt cd sz)])), (hc, .inl (G.2 0, 144, .inl (rn (mbt cd sz) g1 0 (ltr cd sz) (fuf cd f (ltr cd sz))))), (tx, .inr (2, [.ref ch, .int (nI sz)])), (ch, .inl (G.2 1, 60, .inl (cdI cd)))] (vA [(h, .inr (1, [.ref hc, .int (nI n), .int (nI g), .int sk])), (hc, .inl (G.2 0, 144, .inl f)), (tx, .inr (2, [.ref ch, .int (nI sz)])), (ch, .inl (G.2 1, 60, .inl (cdI cd)))])) 0 0 (vA [(h, .inr (1, [.ref hc, .int (nI n), .int (nI g), .int sk])), (hc, .inl (G.2 0, 144, .inl f)), (tx, .inr (2, [.ref ch, .int (nI sz)])), (ch, .inl (G.2 1, 60, .inl (cdI cd)))]) := by
  refine Met.go (cc := cX1_rebuild) (maxL := 3) (ret := none) (by decide) rfl (Nat.le_of_ble_eq_true rfl) ?_
  intro p e s m below meth c ls hx hb hr hml hown hts hlk hP hK hD hS hl
  have hown : s.vm.findClass RX1 = some m.cls := hown
  have hl : lv_has ls 3 [(0, .ref h), (1, .ref tx)] := hl
  have h_lt := ltr_le cd sz
  have h_16 := ltr_16 cd sz
  refine lv_aload_n hx hb dX1_rebuild_0 rfl (lv_at hl 0 rfl) ?_
  refine lv_aload_n hx hb dX1_rebuild_1 rfl (lv_at hl 1 rfl) ?_
  refine cRV (As := []) (rest := [.ref h]) (v := .int (nI (ltr cd sz))) ⟨hx, hb, hml, hown, hts⟩ (c_X2_letters l G tx ch sz cd (by first | omega | assumption) (by first | omega | assumption)) (cwV 0 hts gX1_rebuild_X2_letters rfl rfl rfl (by decide +kernel) ⟨Nat.le_of_ble_eq_true rfl, Nat.le_of_ble_eq_true rfl⟩) (preV_of hK hP hD [2, 3] (by decide) rfl (ci := 2) (q0 := 2) rfl rfl rfl) rfl hl.1 rfl (lv_room (Nat.le_of_ble_eq_true rfl)) dX1_rebuild_2 ⟨Nat.zero_le _, Nat.zero_le _⟩ ?_
  refine va_put (D := G.1) (ci := 1) (v := .int (nI (ltr cd sz))) (ty := .int) (C := RX1) (T := TX1) (N := 4) hx hb hts in_c_X1_rebuild_X1 tyX1 tyX1_ok nmX1 hown hK.1 hP hD hS 0 rfl rfl 1 (by decide) (hts (.fieldLink RX1 15 "FloorPanels$House" "levels" "I") (by decide +kernel)) (fun _ h9 => h9) rfl (by decide +kernel) rfl rfl (Nat.le_of_ble_eq_true rfl) dX1_rebuild_5 (fun H locs hP hD hS => ?_)
  have hP : VP G [(h, .inr (1, [.ref hc, .int (nI (ltr cd sz)), .int (nI g), .int sk])), (hc, .inl (G.2 0, 144, .inl f)), (tx, .inr (2, [.ref ch, .int (nI sz)])), (ch, .inl (G.2 1, 60, .inl (cdI cd)))] H := hP
  have hD : va_D _ [(h, .inr (1, [.ref hc, .int (nI (ltr cd sz)), .int (nI g), .int sk])), (hc, .inl (G.2 0, 144, .inl f)), (tx, .inr (2, [.ref ch, .int (nI sz)])), (ch, .inl (G.2 1, 60, .inl (cdI cd)))] := hD
  refine lv_aload_n hx hb dX1_rebuild_8 rfl (lv_at hl 0 rfl) ?_
  refine lv_aload_n hx hb dX1_rebuild_9 rfl (lv_at hl 1 rfl) ?_
  refine cRV (As := []) (rest := [.ref h]) (v := .int (kth (fun x_ => cd x_ = 71) (ltr cd sz) 0 0)) ⟨hx, hb, hml, hown, hts⟩ (c_X2_groundLetter l G tx ch sz cd (by first | omega | assumption) (by first | omega | assumption)) (cwV 0 hts gX1_rebuild_X2_groundLetter rfl rfl rfl (by decide +kernel) ⟨Nat.le_of_ble_eq_true rfl, Nat.le_of_ble_eq_true rfl⟩) (preV_of hK hP hD [2, 3] (by decide) rfl (ci := 2) (q0 := 2) rfl rfl rfl) rfl hl.1 rfl (lv_room (Nat.le_of_ble_eq_true rfl)) dX1_rebuild_10 ⟨Nat.zero_le _, Nat.zero_le _⟩ ?_
  rw [show ((kth (fun x_ => cd x_ = 71) (ltr cd sz) 0 0)) = nI g1 from h_G]
  refine va_put (D := G.1) (ci := 1) (v := .int (nI g1)) (ty := .int) (C := RX1) (T := TX1) (N := 4) hx hb hts in_c_X1_rebuild_X1 tyX1 tyX1_ok nmX1 hown hK.1 hP hD hS 0 rfl rfl 2 (by decide) (hts (.fieldLink RX1 32 "FloorPanels$House" "groundLevel" "I") (by decide +kernel)) (fun _ h9 => h9) rfl (by decide +kernel) rfl rfl (Nat.le_of_ble_eq_true rfl) dX1_rebuild_13 (fun H locs hP hD hS => ?_)
  have hP : VP G [(h, .inr (1, [.ref hc, .int (nI (ltr cd sz)), .int (nI g1), .int sk])), (hc, .inl (G.2 0, 144, .inl f)), (tx, .inr (2, [.ref ch, .int (nI sz)])), (ch, .inl (G.2 1, 60, .inl (cdI cd)))] H := hP
  have hD : va_D _ [(h, .inr (1, [.ref hc, .int (nI (ltr cd sz)), .int (nI g1), .int sk])), (hc, .inl (G.2 0, 144, .inl f)), (tx, .inr (2, [.ref ch, .int (nI sz)])), (ch, .inl (G.2 1, 60, .inl (cdI cd)))] := hD
  refine lv_aload_n hx hb dX1_rebuild_16 rfl (lv_at hl 0 rfl) ?_
  refine lv_aload_n hx hb dX1_rebuild_17 rfl (lv_at hl 1 rfl) ?_
  refine cRV (As := []) (rest := [.ref h]) (v := .int (mbt cd sz)) ⟨hx, hb, hml, hown, hts⟩ (c_X2_storeys l G tx ch sz cd (by first | omega | assumption) (by first | omega | assumption) (by first | omega | assumption)) (cwV 0 hts gX1_rebuild_X2_storeys rfl rfl rfl (by decide +kernel) ⟨Nat.le_of_ble_eq_true rfl, Nat.le_of_ble_eq_true rfl⟩) (preV_of hK hP hD [2, 3] (by decide) rfl (ci := 2) (q0 := 2) rfl rfl rfl) rfl hl.1 rfl (lv_room (Nat.le_of_ble_eq_true rfl)) dX1_rebuild_18 ⟨Nat.zero_le _, Nat.zero_le _⟩ ?_
  refine va_put (D := G.1) (ci := 1) (v := .int (mbt cd sz)) (ty := .int) (C := RX1) (T := TX1) (N := 4) hx hb hts in_c_X1_rebuild_X1 tyX1 tyX1_ok nmX1 hown hK.1 hP hD hS 0 rfl rfl 3 (by decide) (hts (.fieldLink RX1 35 "FloorPanels$House" "skipped" "I") (by decide +kernel)) (fun _ h9 => h9) rfl (by decide +kernel) rfl rfl (Nat.le_of_ble_eq_true rfl) dX1_rebuild_21 (fun H locs hP hD hS => ?_)
  have hP : VP G [(h, .inr (1, [.ref hc, .int (nI (ltr cd sz)), .int (nI g1), .int (mbt cd sz)])), (hc, .inl (G.2 0, 144, .inl f)), (tx, .inr (2, [.ref ch, .int (nI sz)])), (ch, .inl (G.2 1, 60, .inl (cdI cd)))] H := hP
  have hD : va_D _ [(h, .inr (1, [.ref hc, .int (nI (ltr cd sz)), .int (nI g1), .int (mbt cd sz)])), (hc, .inl (G.2 0, 144, .inl f)), (tx, .inr (2, [.ref ch, .int (nI sz)])), (ch, .inl (G.2 1, 60, .inl (cdI cd)))] := hD
  refine lv_iconst (v := nI 0) hx hb dX1_rebuild_24 (by decide) ?_
  refine lv_istore_n (lv' := [(2, .int (nI 0)), (0, .ref h), (1, .ref tx)]) hx hb dX1_rebuild_25 rfl hl (by decide) rfl (fun ls hl => ?_)
  have loop_26 : ∀ (k_ : Nat) (i : Nat) (h_i : i ≤ ltr cd sz) (_ : ltr cd sz - i < k_) (H : Heap) (locs : List Loc) (_ : VP G [(h, .inr (1, [.ref hc, .int (nI (ltr cd sz)), .int (nI g1), .int (mbt cd sz)])), (hc, .inl (G.2 0, 144, .inl (fuf cd f i))), (tx, .inr (2, [.ref ch, .int (nI sz)])), (ch, .inl (G.2 1, 60, .inl (cdI cd)))] H) (_ : va_D (vA [(h, .inr (1, [.ref hc, .int (nI n), .int (nI g), .int sk])), (hc, .inl (G.2 0, 144, .inl f)), (tx, .inr (2, [.ref ch, .int (nI sz)])), (ch, .inl (G.2 1, 60, .inl (cdI cd)))]) [(h, .inr (1, [.ref hc, .int (nI (ltr cd sz)), .int (nI g1), .int (mbt cd sz)])), (hc, .inl (G.2 0, 144, .inl (fuf cd f i))), (tx, .inr (2, [.ref ch, .int (nI sz)])), (ch, .inl (G.2 1, 60, .inl (cdI cd)))]) (_ : va_S (vA [(h, .inr (1, [.ref hc, .int (nI n), .int (nI g), .int sk])), (hc, .inl (G.2 0, 144, .inl f)), (tx, .inr (2, [.ref ch, .int (nI sz)])), (ch, .inl (G.2 1, 60, .inl (cdI cd)))]) s.heap H locs) (ls : Array Slot), lv_has ls 3 [(2, .int (nI i)), (0, .ref h), (1, .ref tx)] → W p l e ({ frames := 4, cells := 0, slots := 0, locals := 88 } : Room) s m ([.ref h, .ref tx] : List Value).toArray below meth c H locs 0 0 (MQ below (QW G (none) [(h, .inr (1, [.ref hc, .int (nI (ltr cd sz)), .int (nI g1), .int (mbt cd sz)])), (hc, .inl (G.2 0, 144, .inl (rn (mbt cd sz) g1 0 (ltr cd sz) (fuf cd f (ltr cd sz))))), (tx, .inr (2, [.ref ch, .int (nI sz)])), (ch, .inl (G.2 1, 60, .inl (cdI cd)))] (vA [(h, .inr (1, [.ref hc, .int (nI n), .int (nI g), .int sk])), (hc, .inl (G.2 0, 144, .inl f)), (tx, .inr (2, [.ref ch, .int (nI sz)])), (ch, .inl (G.2 1, 60, .inl (cdI cd)))])) ([.ref h, .ref tx] : List Value).toArray s 0 0 (vA [(h, .inr (1, [.ref hc, .int (nI n), .int (nI g), .int sk])), (hc, .inl (G.2 0, 144, .inl f)), (tx, .inr (2, [.ref ch, .int (nI sz)])), (ch, .inl (G.2 1, 60, .inl (cdI cd)))])) (F0 m 26 ls []) := by
    intro k_
    induction k_ with
    | zero => intro i h_i hk_; exact absurd hk_ (Nat.not_lt_zero _)
    | succ k_ ih_26 =>
      intro i h_i hk_ H locs hP hD hS ls hl
      refine lv_iload_n hx hb dX1_rebuild_26 rfl (lv_at hl 0 rfl) ?_
      refine lv_aload_n hx hb dX1_rebuild_27 rfl (lv_at hl 1 rfl) ?_
      refine va_get (D := G.1) (ci := 1) (v := .int (nI (ltr cd sz))) (C := RX1) (T := TX1) (N := 4) hx hb hts in_c_X1_rebuild_X1 hown hK.1 hP 0 rfl rfl 1 (by decide) (hts (.fieldLink RX1 15 "FloorPanels$House" "levels" "I") (by decide +kernel)) (fun _ h9 => h9) rfl dX1_rebuild_28 ?_
      refine bi_ge (tgt := 50) hx hb dX1_rebuild_31 (by decide) (nI_i (by omega)) (nI_i (by omega)) (fun c_31 => ?_) (fun c_31 => ?_)
      ·
        rw [show i = ltr cd sz by omega] at hP hD
        have hP : VP G [(h, .inr (1, [.ref hc, .int (nI (ltr cd sz)), .int (nI g1), .int (mbt cd sz)])), (hc, .inl (G.2 0, 144, .inl (fuf cd f (ltr cd sz)))), (tx, .inr (2, [.ref ch, .int (nI sz)])), (ch, .inl (G.2 1, 60, .inl (cdI cd)))] H := hP
        have hD : va_D _ [(h, .inr (1, [.ref hc, .int (nI (ltr cd sz)), .int (nI g1), .int (mbt cd sz)])), (hc, .inl (G.2 0, 144, .inl (fuf cd f (ltr cd sz)))), (tx, .inr (2, [.ref ch, .int (nI sz)])), (ch, .inl (G.2 1, 60, .inl (cdI cd)))] := hD
        refine lv_aload_n hx hb dX1_rebuild_50 rfl (lv_at hl 1 rfl) ?_
        refine cWV (As := []) (rest := []) (st1 := []) (w3 := [(h, .inr (1, [.ref hc, .int (nI (ltr cd sz)), .int (nI g1), .int (mbt cd sz)])), (hc, .inl (G.2 0, 144, .inl (rn (mbt cd sz) g1 0 (ltr cd sz) (fuf cd f (ltr cd sz))))), (tx, .inr (2, [.ref ch, .int (nI sz)])), (ch, .inl (G.2 1, 60, .inl (cdI cd)))]) ⟨hx, hb, hml, hown, hts⟩ (c_X1_renumber l G h hc (ltr cd sz) g1 (mbt cd sz) (fuf cd f (ltr cd sz)) (by first | omega | assumption) (by first | omega | assumption) (fuf_g h_16 h_GL h_Gc)) (cwV 0 hts gX1_rebuild_X1_renumber rfl rfl rfl (by decide +kernel) ⟨Nat.le_of_ble_eq_true rfl, Nat.le_of_ble_eq_true rfl⟩) (preV_of hK hP hD [0, 1] (by decide) rfl (ci := 1) (q0 := 0) rfl rfl rfl) rfl hl.1 rfl (lv_room (Nat.le_of_ble_eq_true rfl)) dX1_rebuild_51 ⟨Nat.zero_le _, Nat.zero_le _⟩ hP hD hS [0, 1] (by decide) rfl rfl (rfl) rfl (fun H locs hP hD hS => ?_)
        exact W_v hx hb hr hlk dX1_rebuild_54 hP hS (rfl)
      ·
        refine lv_aload_n hx hb dX1_rebuild_34 rfl (lv_at hl 1 rfl) ?_
        refine lv_iload_n hx hb dX1_rebuild_35 rfl (lv_at hl 0 rfl) ?_
        refine lv_aload_n hx hb dX1_rebuild_36 rfl (lv_at hl 2 rfl) ?_
        refine lv_iload_n hx hb dX1_rebuild_37 rfl (lv_at hl 0 rfl) ?_
        refine cRV (As := [.int (nI i)]) (rest := [.int (nI i), .ref h]) (v := .int (kdr (nI (cd i)))) ⟨hx, hb, hml, hown, hts⟩ (c_X2_kindTold l G tx ch sz cd i (by first | omega | assumption) (by first | omega | assumption) (by first | omega | assumption) (ltr_kdr (sz := sz) (by omega))) (cwV 1 hts gX1_rebuild_X2_kindTold rfl rfl rfl (by decide +kernel) ⟨Nat.le_of_ble_eq_true rfl, Nat.le_of_ble_eq_true rfl⟩) (preV_of hK hP hD [2, 3] (by decide) rfl (ci := 2) (q0 := 2) rfl rfl rfl) rfl hl.1 rfl (lv_room (Nat.le_of_ble_eq_true rfl)) dX1_rebuild_38 ⟨Nat.zero_le _, Nat.zero_le _⟩ ?_
        refine cWV (As := [.int (nI i), .int (kdr (nI (cd i)))]) (rest := []) (st1 := []) (w3 := [(h, .inr (1, [.ref hc, .int (nI (ltr cd sz)), .int (nI g1), .int (mbt cd sz)])), (hc, .inl (G.2 0, 144, .inl (fur i (kdr (nI (cd i))) (fuf cd f i)))), (tx, .inr (2, [.ref ch, .int (nI sz)])), (ch, .inl (G.2 1, 60, .inl (cdI cd)))]) ⟨hx, hb, hml, hown, hts⟩ (c_X1_furnish l G h hc (ltr cd sz) g1 (mbt cd sz) (fuf cd f i) i (kdr (nI (cd i))) (by first | omega | assumption)) (cwV 2 hts gX1_rebuild_X1_furnish rfl rfl rfl (by decide +kernel) ⟨Nat.le_of_ble_eq_true rfl, Nat.le_of_ble_eq_true rfl⟩) (preV_of hK hP hD [0, 1] (by decide) rfl (ci := 1) (q0 := 0) rfl rfl rfl) rfl hl.1 rfl (lv_room (Nat.le_of_ble_eq_true rfl)) dX1_rebuild_41 ⟨Nat.zero_le _, Nat.zero_le _⟩ hP hD hS [0, 1] (by decide) rfl rfl (rfl) rfl (fun H locs hP hD hS => ?_)
        refine lv_iinc (v := nI (i + 1)) (lv' := [(2, .int (nI (i + 1))), (0, .ref h), (1, .ref tx)]) hx hb dX1_rebuild_44 hl (k := 0) rfl (inc_n _ 1) (by decide) rfl (fun ls hl => ?_)
        refine lv_goto (tgt := 26) hx hb dX1_rebuild_47 (by decide) ?_
        exact ih_26 (i + 1) (by first | omega | assumption) (by omega) _ _ hP hD hS ls (lv_sub hl [0, 1, 2] (by rfl))
  exact loop_26 (ltr cd sz - 0 + 1) 0 (by first | omega | assumption) (Nat.lt_succ_self _) _ _ hP hD hS ls (lv_sub hl [0, 1, 2] (by rfl))

theorem in_c_X6_load_X6 : ∀ w ∈ wsX60, w ∈ wsX6_load := by decide +kernel
set_option maxHeartbeats 4000000 in
set_option maxRecDepth 100000 in
theorem c_X6_load (l : Launch) (G : GG) (x : Nat) (tx : Nat) (tr : Nat) (hi : Nat) (sl : Nat) (sv : Nat) (h : Nat) (hc : Nat) (n : Nat) (g : Nat) (sk : Int32) (f : Nat → Int32) (ch : Nat) (sz : Nat) (cd : Nat → Nat) (ka : Nat) (cnt : Nat) (nx : Nat) (kr : Nat → Option Nat) (svf : Nat → Int32) (g1 : Nat) (h_sz : sz ≤ 60) (h_cd : ∀ j_, cd j_ < 256) (h_ok : ferr cd sz = -1) (h_G : gnd cd sz = nI g1) (h_GL : g1 < ltr cd sz) (h_Gc : cd g1 = 71) : Met l yX6_load wsX6_load ({ frames := 5, cells := 0, slots := 0, locals := 110 } : Room) (va_Pc [.ref x] (PB G [(x, .inr (3, [.ref tx, .ref h, .ref tr, .ref hi, .ref sl, .ref sv])), (h, .inr (1, [.ref hc, .int (nI n), .int (nI g), .int sk])), (hc, .inl (G.2 0, 144, .inl f)), (tx, .inr (2, [.ref ch, .int (nI sz)])), (ch, .inl (G.2 1, 60, .inl (cdI cd))), (hi, .inr (0, [.ref ka, .int (nI cnt), .int (nI nx)])), (ka, .inl (G.2 3, 14, .inr (.inr (.inr (.inr kr))))), (sv, .inl (G.2 2, 2, .inl svf))])) (QW G (some (.int (nI (ltr cd sz)))) [(x, .inr (3, [.ref tx, .ref h, .ref tr, .ref hi, .ref sl, .ref sv])), (h, .inr (1, [.ref hc, .int (nI (ltr cd sz)), .int (nI g1), .int (mbt cd sz)])), (hc, .inl (G.2 0, 144, .inl (rn (mbt cd sz) g1 0 (ltr cd sz) (fuf cd f (ltr cd sz))))), (tx, .inr (2, [.ref ch, .int (nI sz)])), (ch, .inl (G.2 1, 60, .inl (cdI cd))), (hi, .inr (0, [.ref ka, .int (nI 0), .int (nI nx)])), (ka, .inl (G.2 3, 14, .inr (.inr (.inr (.inr kr))))), (sv, .inl (G.2 2, 2, .inl (upd (upd svf 0 (nI 0)) 1 (nI 0))))] (vA [(x, .inr (3, [.ref tx, .ref h, .ref tr, .ref hi, .ref sl, .ref sv])), (h, .inr (1, [.ref hc, .int (nI n), .int (nI g), .int sk])), (hc, .inl (G.2 0, 144, .inl f)), (tx, .inr (2, [.ref ch, .int (nI sz)])), (ch, .inl (G.2 1, 60, .inl (cdI cd))), (hi, .inr (0, [.ref ka, .int (nI cnt), .int (nI nx)])), (ka, .inl (G.2 3, 14, .inr (.inr (.inr (.inr kr))))), (sv, .inl (G.2 2, 2, .inl svf))])) 0 0 (vA [(x, .inr (3, [.ref tx, .ref h, .ref tr, .ref hi, .ref sl, .ref sv])), (h, .inr (1, [.ref hc, .int (nI n), .int (nI g), .int sk])), (hc, .inl (G.2 0, 144, .inl f)), (tx, .inr (2, [.ref ch, .int (nI sz)])), (ch, .inl (G.2 1, 60, .inl (cdI cd))), (hi, .inr (0, [.ref ka, .int (nI cnt), .int (nI nx)])), (ka, .inl (G.2 3, 14, .inr (.inr (.inr (.inr kr))))), (sv, .inl (G.2 2, 2, .inl svf))]) := by
  refine Met.go (cc := cX6_load) (maxL := 2) (ret := (some .int)) (by decide) rfl (Nat.le_of_ble_eq_true rfl) ?_
  intro p e s m below meth c ls hx hb hr hml hown hts hlk hP hK hD hS hl
  have hown : s.vm.findClass RX6 = some m.cls := hown
  have hl : lv_has ls 2 [(0, .ref x)] := hl
  refine lv_aload_n hx hb dX6_load_0 rfl (lv_at hl 0 rfl) ?_
  refine va_get (D := G.1) (ci := 3) (v := .ref tx) (C := RX6) (T := TX6) (N := 6) hx hb hts in_c_X6_load_X6 hown hK.1 hP 0 rfl rfl 0 (by decide) (hts (.fieldLink RX6 10 "FloorPanels" "text" "LFloorPanels$HouseText;") (by decide +kernel)) (fun _ h9 => h9) rfl dX6_load_1 ?_
  refine cRV (As := []) (rest := []) (v := .int (ferr cd sz)) ⟨hx, hb, hml, hown, hts⟩ (c_X2_firstError l G tx ch sz cd (by first | omega | assumption) (by first | omega | assumption)) (cwV 0 hts gX6_load_X2_firstError rfl rfl rfl (by decide +kernel) ⟨Nat.le_of_ble_eq_true rfl, Nat.le_of_ble_eq_true rfl⟩) (preV_of hK hP hD [3, 4] (by decide) rfl (ci := 2) (q0 := 3) rfl rfl rfl) rfl hl.1 rfl (lv_room (Nat.le_of_ble_eq_true rfl)) dX6_load_4 ⟨Nat.zero_le _, Nat.zero_le _⟩ ?_
  refine lv_iconst (v := (-1)) hx hb dX6_load_7 (by decide) ?_
  refine lv_icmp_eq (tgt := 21) hx hb dX6_load_8 (by decide) (fun c_8 => ?_) (fun c_8 => False.elim (by exact c_8 h_ok))
  refine lv_aload_n hx hb dX6_load_21 rfl (lv_at hl 0 rfl) ?_
  refine va_get (D := G.1) (ci := 3) (v := .ref h) (C := RX6) (T := TX6) (N := 6) hx hb hts in_c_X6_load_X6 hown hK.1 hP 0 rfl rfl 1 (by decide) (hts (.fieldLink RX6 19 "FloorPanels" "house" "LFloorPanels$House;") (by decide +kernel)) (fun _ h9 => h9) rfl dX6_load_22 ?_
  refine lv_aload_n hx hb dX6_load_25 rfl (lv_at hl 0 rfl) ?_
  refine va_get (D := G.1) (ci := 3) (v := .ref tx) (C := RX6) (T := TX6) (N := 6) hx hb hts in_c_X6_load_X6 hown hK.1 hP 0 rfl rfl 0 (by decide) (hts (.fieldLink RX6 10 "FloorPanels" "text" "LFloorPanels$HouseText;") (by decide +kernel)) (fun _ h9 => h9) rfl dX6_load_26 ?_
  refine cWV (As := [.ref tx]) (rest := []) (st1 := []) (w3 := [(x, .inr (3, [.ref tx, .ref h, .ref tr, .ref hi, .ref sl, .ref sv])), (h, .inr (1, [.ref hc, .int (nI (ltr cd sz)), .int (nI g1), .int (mbt cd sz)])), (hc, .inl (G.2 0, 144, .inl (rn (mbt cd sz) g1 0 (ltr cd sz) (fuf cd f (ltr cd sz))))), (tx, .inr (2, [.ref ch, .int (nI sz)])), (ch, .inl (G.2 1, 60, .inl (cdI cd))), (hi, .inr (0, [.ref ka, .int (nI cnt), .int (nI nx)])), (ka, .inl (G.2 3, 14, .inr (.inr (.inr (.inr kr))))), (sv, .inl (G.2 2, 2, .inl svf))]) ⟨hx, hb, hml, hown, hts⟩ (c_X1_rebuild l G h hc n g sk f tx ch sz cd g1 (by first | omega | assumption) (by first | omega | assumption) (by first | omega | assumption) (by first | omega | assumption) (by first | omega | assumption) (by first | omega | assumption)) (cwV 1 hts gX6_load_X1_rebuild rfl rfl rfl (by decide +kernel) ⟨Nat.le_of_ble_eq_true rfl, Nat.le_of_ble_eq_true rfl⟩) (preV_of hK hP hD [1, 2, 3, 4] (by decide) rfl (ci := 1) (q0 := 1) rfl rfl rfl) rfl hl.1 rfl (lv_room (Nat.le_of_ble_eq_true rfl)) dX6_load_29 ⟨Nat.zero_le _, Nat.zero_le _⟩ hP hD hS [1, 2, 3, 4] (by decide) rfl rfl (rfl) rfl (fun H locs hP hD hS => ?_)
  refine lv_aload_n hx hb dX6_load_32 rfl (lv_at hl 0 rfl) ?_
  refine va_get (D := G.1) (ci := 3) (v := .ref hi) (C := RX6) (T := TX6) (N := 6) hx hb hts in_c_X6_load_X6 hown hK.1 hP 0 rfl rfl 3 (by decide) (hts (.fieldLink RX6 29 "FloorPanels" "history" "LFloorPanels$History;") (by decide +kernel)) (fun _ h9 => h9) rfl dX6_load_33 ?_
  refine cWV (As := []) (rest := []) (st1 := []) (w3 := [(x, .inr (3, [.ref tx, .ref h, .ref tr, .ref hi, .ref sl, .ref sv])), (h, .inr (1, [.ref hc, .int (nI (ltr cd sz)), .int (nI g1), .int (mbt cd sz)])), (hc, .inl (G.2 0, 144, .inl (rn (mbt cd sz) g1 0 (ltr cd sz) (fuf cd f (ltr cd sz))))), (tx, .inr (2, [.ref ch, .int (nI sz)])), (ch, .inl (G.2 1, 60, .inl (cdI cd))), (hi, .inr (0, [.ref ka, .int (nI 0), .int (nI nx)])), (ka, .inl (G.2 3, 14, .inr (.inr (.inr (.inr kr))))), (sv, .inl (G.2 2, 2, .inl svf))]) ⟨hx, hb, hml, hown, hts⟩ (c_X0_forget l G hi ka cnt nx kr ) (cwV 0 hts gX6_load_X0_forget rfl rfl rfl (by decide +kernel) ⟨Nat.le_of_ble_eq_true rfl, Nat.le_of_ble_eq_true rfl⟩) (preV_of hK hP hD [5, 6] (by decide) rfl (ci := 0) (q0 := 5) rfl rfl rfl) rfl hl.1 rfl (lv_room (Nat.le_of_ble_eq_true rfl)) dX6_load_36 ⟨Nat.zero_le _, Nat.zero_le _⟩ hP hD hS [5, 6] (by decide) rfl rfl (rfl) rfl (fun H locs hP hD hS => ?_)
  refine lv_iconst (v := nI 0) hx hb dX6_load_39 (by decide) ?_
  refine lv_istore_n (lv' := [(1, .int (nI 0)), (0, .ref x)]) hx hb dX6_load_40 rfl hl (by decide) rfl (fun ls hl => ?_)
  refine lv_iload_n hx hb dX6_load_41 rfl (lv_at hl 0 rfl) ?_
  refine lv_aload_n hx hb dX6_load_42 rfl (lv_at hl 1 rfl) ?_
  refine va_get (D := G.1) (ci := 3) (v := .ref sv) (C := RX6) (T := TX6) (N := 6) hx hb hts in_c_X6_load_X6 hown hK.1 hP 0 rfl rfl 5 (by decide) (hts (.fieldLink RX6 37 "FloorPanels" "saved" "[Z") (by decide +kernel)) (fun _ h9 => h9) rfl dX6_load_43 ?_
  refine va_alen (D := G.1) (v := nI 2) (ty := .boolean) hx hb hK.1 hP 7 2 rfl rfl rfl dX6_load_46 ?_
  refine bi_ge (tgt := 63) hx hb dX6_load_47 (by decide) (nI_i (by omega)) (nI_i (by omega)) (fun c_47 => False.elim (by omega)) (fun c_47 => ?_)
  refine lv_aload_n hx hb dX6_load_50 rfl (lv_at hl 1 rfl) ?_
  refine va_get (D := G.1) (ci := 3) (v := .ref sv) (C := RX6) (T := TX6) (N := 6) hx hb hts in_c_X6_load_X6 hown hK.1 hP 0 rfl rfl 5 (by decide) (hts (.fieldLink RX6 37 "FloorPanels" "saved" "[Z") (by decide +kernel)) (fun _ h9 => h9) rfl dX6_load_51 ?_
  refine lv_iload_n hx hb dX6_load_54 rfl (lv_at hl 0 rfl) ?_
  refine lv_iconst (v := nI 0) hx hb dX6_load_55 (by decide) ?_
  refine nv_zast hx hb hK hP hD hS 7 rfl (v := nI 0) rfl (by omega) (by decide) dX6_load_56 (w3 := [(x, .inr (3, [.ref tx, .ref h, .ref tr, .ref hi, .ref sl, .ref sv])), (h, .inr (1, [.ref hc, .int (nI (ltr cd sz)), .int (nI g1), .int (mbt cd sz)])), (hc, .inl (G.2 0, 144, .inl (rn (mbt cd sz) g1 0 (ltr cd sz) (fuf cd f (ltr cd sz))))), (tx, .inr (2, [.ref ch, .int (nI sz)])), (ch, .inl (G.2 1, 60, .inl (cdI cd))), (hi, .inr (0, [.ref ka, .int (nI 0), .int (nI nx)])), (ka, .inl (G.2 3, 14, .inr (.inr (.inr (.inr kr))))), (sv, .inl (G.2 2, 2, .inl (upd svf 0 (nI 0))))]) (rfl) (fun H locs hP hD hS => ?_)
  refine lv_iinc (v := nI (0 + 1)) (lv' := [(1, .int (nI (0 + 1))), (0, .ref x)]) hx hb dX6_load_57 hl (k := 0) rfl (inc_n _ 1) (by decide) rfl (fun ls hl => ?_)
  refine lv_goto (tgt := 41) hx hb dX6_load_60 (by decide) ?_
  refine lv_iload_n hx hb dX6_load_41 rfl (lv_at hl 0 rfl) ?_
  refine lv_aload_n hx hb dX6_load_42 rfl (lv_at hl 1 rfl) ?_
  refine va_get (D := G.1) (ci := 3) (v := .ref sv) (C := RX6) (T := TX6) (N := 6) hx hb hts in_c_X6_load_X6 hown hK.1 hP 0 rfl rfl 5 (by decide) (hts (.fieldLink RX6 37 "FloorPanels" "saved" "[Z") (by decide +kernel)) (fun _ h9 => h9) rfl dX6_load_43 ?_
  refine va_alen (D := G.1) (v := nI 2) (ty := .boolean) hx hb hK.1 hP 7 2 rfl rfl rfl dX6_load_46 ?_
  refine bi_ge (tgt := 63) hx hb dX6_load_47 (by decide) (nI_i (by omega)) (nI_i (by omega)) (fun c_47 => False.elim (by omega)) (fun c_47 => ?_)
  refine lv_aload_n hx hb dX6_load_50 rfl (lv_at hl 1 rfl) ?_
  refine va_get (D := G.1) (ci := 3) (v := .ref sv) (C := RX6) (T := TX6) (N := 6) hx hb hts in_c_X6_load_X6 hown hK.1 hP 0 rfl rfl 5 (by decide) (hts (.fieldLink RX6 37 "FloorPanels" "saved" "[Z") (by decide +kernel)) (fun _ h9 => h9) rfl dX6_load_51 ?_
  refine lv_iload_n hx hb dX6_load_54 rfl (lv_at hl 0 rfl) ?_
  refine lv_iconst (v := nI 0) hx hb dX6_load_55 (by decide) ?_
  refine nv_zast hx hb hK hP hD hS 7 rfl (v := nI 0) rfl (by omega) (by decide) dX6_load_56 (w3 := [(x, .inr (3, [.ref tx, .ref h, .ref tr, .ref hi, .ref sl, .ref sv])), (h, .inr (1, [.ref hc, .int (nI (ltr cd sz)), .int (nI g1), .int (mbt cd sz)])), (hc, .inl (G.2 0, 144, .inl (rn (mbt cd sz) g1 0 (ltr cd sz) (fuf cd f (ltr cd sz))))), (tx, .inr (2, [.ref ch, .int (nI sz)])), (ch, .inl (G.2 1, 60, .inl (cdI cd))), (hi, .inr (0, [.ref ka, .int (nI 0), .int (nI nx)])), (ka, .inl (G.2 3, 14, .inr (.inr (.inr (.inr kr))))), (sv, .inl (G.2 2, 2, .inl (upd (upd svf 0 (nI 0)) (0 + 1) (nI 0))))]) (rfl) (fun H locs hP hD hS => ?_)
  refine lv_iinc (v := nI (0 + 1 + 1)) (lv' := [(1, .int (nI (0 + 1 + 1))), (0, .ref x)]) hx hb dX6_load_57 hl (k := 0) rfl (inc_n _ 1) (by decide) rfl (fun ls hl => ?_)
  refine lv_goto (tgt := 41) hx hb dX6_load_60 (by decide) ?_
  refine lv_iload_n hx hb dX6_load_41 rfl (lv_at hl 0 rfl) ?_
  refine lv_aload_n hx hb dX6_load_42 rfl (lv_at hl 1 rfl) ?_
  refine va_get (D := G.1) (ci := 3) (v := .ref sv) (C := RX6) (T := TX6) (N := 6) hx hb hts in_c_X6_load_X6 hown hK.1 hP 0 rfl rfl 5 (by decide) (hts (.fieldLink RX6 37 "FloorPanels" "saved" "[Z") (by decide +kernel)) (fun _ h9 => h9) rfl dX6_load_43 ?_
  refine va_alen (D := G.1) (v := nI 2) (ty := .boolean) hx hb hK.1 hP 7 2 rfl rfl rfl dX6_load_46 ?_
  refine bi_ge (tgt := 63) hx hb dX6_load_47 (by decide) (nI_i (by omega)) (nI_i (by omega)) (fun c_47 => ?_) (fun c_47 => False.elim (by omega))
  refine lv_aload_n hx hb dX6_load_63 rfl (lv_at hl 1 rfl) ?_
  refine va_get (D := G.1) (ci := 3) (v := .ref h) (C := RX6) (T := TX6) (N := 6) hx hb hts in_c_X6_load_X6 hown hK.1 hP 0 rfl rfl 1 (by decide) (hts (.fieldLink RX6 19 "FloorPanels" "house" "LFloorPanels$House;") (by decide +kernel)) (fun _ h9 => h9) rfl dX6_load_64 ?_
  refine cRV (As := []) (rest := []) (v := .int (nI (ltr cd sz))) ⟨hx, hb, hml, hown, hts⟩ (c_X1_levels l G h hc (ltr cd sz) g1 (mbt cd sz) (rn (mbt cd sz) g1 0 (ltr cd sz) (fuf cd f (ltr cd sz))) ) (cwV 0 hts gX6_load_X1_levels rfl rfl rfl (by decide +kernel) ⟨Nat.le_of_ble_eq_true rfl, Nat.le_of_ble_eq_true rfl⟩) (preV_of hK hP hD [1, 2] (by decide) rfl (ci := 1) (q0 := 1) rfl rfl rfl) rfl hl.1 rfl (lv_room (Nat.le_of_ble_eq_true rfl)) dX6_load_67 ⟨Nat.zero_le _, Nat.zero_le _⟩ ?_
  exact W_i hx hb hr hlk dX6_load_70 hP hS (rfl) (rfl)

theorem xi_x_X6_load_ISE : ∀ w ∈ (vx_atS RX6 56 xISE xNMS).filter goodWord, w ∈ wsX6_load := by decide +kernel
theorem in_x_X6_load_X6 : ∀ w ∈ wsX60, w ∈ wsX6_load := by decide +kernel
set_option maxHeartbeats 4000000 in
set_option maxRecDepth 100000 in
theorem x_X6_load (l : Launch) (hst : l.stackTraces = false) (G : GG) (x : Nat) (tx : Nat) (tr : Nat) (hi : Nat) (sl : Nat) (sv : Nat) (h : Nat) (ch : Nat) (sz : Nat) (cd : Nat → Nat) (h_sz : sz ≤ 60) (h_cd : ∀ j_, cd j_ < 256) (h_no : ¬ ferr cd sz = -1) : vx_Met l yX6_load wsX6_load ({ frames := 6, cells := 1, slots := 6, locals := 109 } : Room) (va_Pc [.ref x] (PBX G [(x, .inr (3, [.ref tx, .ref h, .ref tr, .ref hi, .ref sl, .ref sv])), (tx, .inr (2, [.ref ch, .int (nI sz)])), (ch, .inl (G.2 1, 60, .inl (cdI cd)))])) NQ (XT xISE) 1 6 (fun _ => False) := by
  refine Met.goX (cc := cX6_load) (maxL := 2) (ret := (some .int)) (by decide) rfl (Nat.le_of_ble_eq_true rfl) ?_
  intro p e s m below meth c ls hx hb hr hml hown hts hlk hnt hP hK hD hE hZ hl
  have hown : s.vm.findClass RX6 = some m.cls := hown
  have hl : lv_has ls 2 [(0, .ref x)] := hl
  refine lv_aload_n hx hb dX6_load_0 rfl (lv_at hl 0 rfl) ?_
  refine va_get (D := G.1) (ci := 3) (v := .ref tx) (C := RX6) (T := TX6) (N := 6) hx hb hts in_x_X6_load_X6 hown hK.1 hP 0 rfl rfl 0 (by decide) (hts (.fieldLink RX6 10 "FloorPanels" "text" "LFloorPanels$HouseText;") (by decide +kernel)) (fun _ h9 => h9) rfl dX6_load_1 ?_
  refine cRV (As := []) (rest := []) (v := .int (ferr cd sz)) ⟨hx, hb, hml, hown, hts⟩ (c_X2_firstError l G tx ch sz cd (by first | omega | assumption) (by first | omega | assumption)) (cwV 0 hts gX6_load_X2_firstError rfl rfl rfl (by decide +kernel) ⟨Nat.le_of_ble_eq_true rfl, Nat.le_of_ble_eq_true rfl⟩) (preV_of hK hP hD [1, 2] (by decide) rfl (ci := 2) (q0 := 1) rfl rfl rfl) rfl hl.1 rfl (lv_room (Nat.le_of_ble_eq_true rfl)) dX6_load_4 ⟨Nat.zero_le _, Nat.zero_le _⟩ ?_
  refine lv_iconst (v := (-1)) hx hb dX6_load_7 (by decide) ?_
  refine lv_icmp_eq (tgt := 21) hx hb dX6_load_8 (by decide) (fun c_8 => False.elim (by exact h_no c_8)) (fun c_8 => ?_)
  exact X_throw (text := "the text is not a house") hx hb hst hown xf_ISE (hts (.classLink RX6 52 xISE) (by decide +kernel)) (hts (.initialized xISE) (by decide +kernel)) (hE.2.2 (71, "the text is not a house") (by decide +kernel)) (fun w hw => hts w (xi_x_X6_load_ISE w hw)) xa_ISE xg_ISE hE hZ (hl.1.trans hml.symm) dX6_load_11 dX6_load_14 dX6_load_15 dX6_load_17 dX6_load_20 hnt (Nat.le_of_ble_eq_true rfl) (Nat.le_of_ble_eq_true rfl) (Nat.le_of_ble_eq_true rfl) (Nat.le_of_ble_eq_true rfl) hlk

