theorem in_c_X6_append_X6 : ∀ w ∈ wsX60, w ∈ wsX6_append := by decide +kernel
set_option maxHeartbeats 4000000 in
set_option maxRecDepth 100000 in
theorem c_X6_append (l : Launch) (G : GG) (x : Nat) (tx : Nat) (tr : Nat) (hi : Nat) (sl : Nat) (sv : Nat) (h : Nat) (ch : Nat) (sz : Nat) (cd : Nat → Nat) (k : Nat) (h_sz : sz < 60) (h_k : k < 256) : Met l yX6_append wsX6_append ({ frames := 2, cells := 0, slots := 0, locals := 41 } : Room) (va_Pc [.ref x, .int (nI k)] (PB G [(x, .inr (3, [.ref tx, .ref h, .ref tr, .ref hi, .ref sl, .ref sv])), (tx, .inr (2, [.ref ch, .int (nI sz)])), (ch, .inl (G.2 1, 60, .inl (cdI cd)))])) (QW G (some (.int (nI (sz + 1)))) [(x, .inr (3, [.ref tx, .ref h, .ref tr, .ref hi, .ref sl, .ref sv])), (tx, .inr (2, [.ref ch, .int (nI (sz + 1))])), (ch, .inl (G.2 1, 60, .inl (cdI (fun j_ => if j_ = sz then k else cd j_))))] (vA [(x, .inr (3, [.ref tx, .ref h, .ref tr, .ref hi, .ref sl, .ref sv])), (tx, .inr (2, [.ref ch, .int (nI sz)])), (ch, .inl (G.2 1, 60, .inl (cdI cd)))])) 0 0 (vA [(x, .inr (3, [.ref tx, .ref h, .ref tr, .ref hi, .ref sl, .ref sv])), (tx, .inr (2, [.ref ch, .int (nI sz)])), (ch, .inl (G.2 1, 60, .inl (cdI cd)))]) := by
  refine Met.go (cc := cX6_append) (maxL := 2) (ret := (some .int)) (by decide) rfl (Nat.le_of_ble_eq_true rfl) ?_
  intro p e s m below meth c ls hx hb hr hml hown hts hlk hP hK hD hS hl
  have hown : s.vm.findClass RX6 = some m.cls := hown
  have hl : lv_has ls 2 [(0, .ref x), (1, .int (nI k))] := hl
  refine lv_iload_n hx hb dX6_append_0 rfl (lv_at hl 1 rfl) ?_
  refine b0_lt (tgt := 11) hx hb dX6_append_1 (by decide) (nI_i (by omega)) (fun c_1 => False.elim (by omega)) (fun c_1 => ?_)
  refine lv_iload_n hx hb dX6_append_4 rfl (lv_at hl 1 rfl) ?_
  refine lv_sipush (v := nI 255) hx hb dX6_append_5 (by decide) ?_
  refine bi_le (tgt := 21) hx hb dX6_append_8 (by decide) (nI_i (by omega)) (nI_i (by omega)) (fun c_8 => ?_) (fun c_8 => False.elim (by omega))
  refine lv_aload_n hx hb dX6_append_21 rfl (lv_at hl 0 rfl) ?_
  refine va_get (D := G.1) (ci := 3) (v := .ref tx) (C := RX6) (T := TX6) (N := 6) hx hb hts in_c_X6_append_X6 hown hK.1 hP 0 rfl rfl 0 (by decide) (hts (.fieldLink RX6 10 "FloorPanels" "text" "LFloorPanels$HouseText;") (by decide +kernel)) (fun _ h9 => h9) rfl dX6_append_22 ?_
  refine cRV (As := []) (rest := []) (v := .int (zb (sz = 60))) ⟨hx, hb, hml, hown, hts⟩ (c_X2_isFull l G tx ch sz (by first | omega | assumption)) (cwV 0 hts gX6_append_X2_isFull rfl rfl rfl (by decide +kernel) ⟨Nat.le_of_ble_eq_true rfl, Nat.le_of_ble_eq_true rfl⟩) (preV_of hK hP hD [1] (by decide) rfl (ci := 2) (q0 := 1) rfl rfl rfl) rfl hl.1 rfl (lv_room (Nat.le_of_ble_eq_true rfl)) dX6_append_25 ⟨Nat.zero_le _, Nat.zero_le _⟩ ?_
  refine bb_eq (tgt := 41) hx hb dX6_append_28 (by decide) (fun c_28 => ?_) (fun c_28 => False.elim (by omega))
  refine lv_aload_n hx hb dX6_append_41 rfl (lv_at hl 0 rfl) ?_
  refine va_get (D := G.1) (ci := 3) (v := .ref tx) (C := RX6) (T := TX6) (N := 6) hx hb hts in_c_X6_append_X6 hown hK.1 hP 0 rfl rfl 0 (by decide) (hts (.fieldLink RX6 10 "FloorPanels" "text" "LFloorPanels$HouseText;") (by decide +kernel)) (fun _ h9 => h9) rfl dX6_append_42 ?_
  refine lv_iload_n hx hb dX6_append_45 rfl (lv_at hl 1 rfl) ?_
  refine lv_i2c (v := nI k) hx hb dX6_append_46 (nar_c h_k) ?_
  refine cWV (As := [.int (nI k)]) (rest := []) (st1 := []) (w3 := [(x, .inr (3, [.ref tx, .ref h, .ref tr, .ref hi, .ref sl, .ref sv])), (tx, .inr (2, [.ref ch, .int (nI (sz + 1))])), (ch, .inl (G.2 1, 60, .inl (cdI (fun j_ => if j_ = sz then k else cd j_))))]) ⟨hx, hb, hml, hown, hts⟩ (c_X2_write l G tx ch sz cd k (by first | omega | assumption) (by first | omega | assumption)) (cwV 1 hts gX6_append_X2_write rfl rfl rfl (by decide +kernel) ⟨Nat.le_of_ble_eq_true rfl, Nat.le_of_ble_eq_true rfl⟩) (preV_of hK hP hD [1, 2] (by decide) rfl (ci := 2) (q0 := 1) rfl rfl rfl) rfl hl.1 rfl (lv_room (Nat.le_of_ble_eq_true rfl)) dX6_append_47 ⟨Nat.zero_le _, Nat.zero_le _⟩ hP hD hS [1, 2] (by decide) rfl rfl (rfl) rfl (fun H locs hP hD hS => ?_)
  refine lv_aload_n hx hb dX6_append_50 rfl (lv_at hl 0 rfl) ?_
  refine va_get (D := G.1) (ci := 3) (v := .ref tx) (C := RX6) (T := TX6) (N := 6) hx hb hts in_c_X6_append_X6 hown hK.1 hP 0 rfl rfl 0 (by decide) (hts (.fieldLink RX6 10 "FloorPanels" "text" "LFloorPanels$HouseText;") (by decide +kernel)) (fun _ h9 => h9) rfl dX6_append_51 ?_
  refine cRV (As := []) (rest := []) (v := .int (nI (sz + 1))) ⟨hx, hb, hml, hown, hts⟩ (c_X2_length l G tx ch (sz + 1) ) (cwV 0 hts gX6_append_X2_length rfl rfl rfl (by decide +kernel) ⟨Nat.le_of_ble_eq_true rfl, Nat.le_of_ble_eq_true rfl⟩) (preV_of hK hP hD [1] (by decide) rfl (ci := 2) (q0 := 1) rfl rfl rfl) rfl hl.1 rfl (lv_room (Nat.le_of_ble_eq_true rfl)) dX6_append_54 ⟨Nat.zero_le _, Nat.zero_le _⟩ ?_
  exact W_i hx hb hr hlk dX6_append_57 hP hS (rfl) (rfl)

theorem xi_x_X6_append_c_IAE : ∀ w ∈ (vx_atS RX6 45 xIAE xNMS).filter goodWord, w ∈ wsX6_append := by decide +kernel
set_option maxHeartbeats 4000000 in
set_option maxRecDepth 100000 in
theorem x_X6_append_c (l : Launch) (hst : l.stackTraces = false) (G : GG) (x : Nat) (tx : Nat) (tr : Nat) (hi : Nat) (sl : Nat) (sv : Nat) (h : Nat) (y : Int32) (h_nok : ¬ (0 ≤ y.toInt ∧ y.toInt ≤ 255)) : vx_Met l yX6_append wsX6_append ({ frames := 6, cells := 1, slots := 6, locals := 82 } : Room) (va_Pc [.ref x, .int y] (PBX G [(x, .inr (3, [.ref tx, .ref h, .ref tr, .ref hi, .ref sl, .ref sv]))])) NQ (XT xIAE) 1 6 (fun _ => False) := by
  refine Met.goX (cc := cX6_append) (maxL := 2) (ret := (some .int)) (by decide) rfl (Nat.le_of_ble_eq_true rfl) ?_
  intro p e s m below meth c ls hx hb hr hml hown hts hlk hnt hP hK hD hE hZ hl
  have hown : s.vm.findClass RX6 = some m.cls := hown
  have hl : lv_has ls 2 [(0, .ref x), (1, .int y)] := hl
  refine lv_iload_n hx hb dX6_append_0 rfl (lv_at hl 1 rfl) ?_
  refine b0_lt (tgt := 11) hx hb dX6_append_1 (by decide) (toI_r _) (fun c_1 => ?_) (fun c_1 => ?_)
  ·
    exact X_throw (text := "no such character") hx hb hst hown xf_IAE (hts (.classLink RX6 41 xIAE) (by decide +kernel)) (hts (.initialized xIAE) (by decide +kernel)) (hE.2.2 (43, "no such character") (by decide +kernel)) (fun w hw => hts w (xi_x_X6_append_c_IAE w hw)) xa_IAE xg_IAE hE hZ (hl.1.trans hml.symm) dX6_append_11 dX6_append_14 dX6_append_15 dX6_append_17 dX6_append_20 hnt (Nat.le_of_ble_eq_true rfl) (Nat.le_of_ble_eq_true rfl) (Nat.le_of_ble_eq_true rfl) (Nat.le_of_ble_eq_true rfl) hlk
  ·
    refine lv_iload_n hx hb dX6_append_4 rfl (lv_at hl 1 rfl) ?_
    refine lv_sipush (v := nI 255) hx hb dX6_append_5 (by decide) ?_
    refine bi_le (tgt := 21) hx hb dX6_append_8 (by decide) (toI_r _) (nI_i (by omega)) (fun c_8 => False.elim (by omega)) (fun c_8 => ?_)
    exact X_throw (text := "no such character") hx hb hst hown xf_IAE (hts (.classLink RX6 41 xIAE) (by decide +kernel)) (hts (.initialized xIAE) (by decide +kernel)) (hE.2.2 (43, "no such character") (by decide +kernel)) (fun w hw => hts w (xi_x_X6_append_c_IAE w hw)) xa_IAE xg_IAE hE hZ (hl.1.trans hml.symm) dX6_append_11 dX6_append_14 dX6_append_15 dX6_append_17 dX6_append_20 hnt (Nat.le_of_ble_eq_true rfl) (Nat.le_of_ble_eq_true rfl) (Nat.le_of_ble_eq_true rfl) (Nat.le_of_ble_eq_true rfl) hlk

theorem xi_x_X6_append_f_ISE : ∀ w ∈ (vx_atS RX6 56 xISE xNMS).filter goodWord, w ∈ wsX6_append := by decide +kernel
theorem in_x_X6_append_f_X6 : ∀ w ∈ wsX60, w ∈ wsX6_append := by decide +kernel
set_option maxHeartbeats 4000000 in
set_option maxRecDepth 100000 in
theorem x_X6_append_f (l : Launch) (hst : l.stackTraces = false) (G : GG) (x : Nat) (tx : Nat) (tr : Nat) (hi : Nat) (sl : Nat) (sv : Nat) (h : Nat) (ch : Nat) (sz : Nat) (k : Nat) (h_sz : sz = 60) (h_k : k < 256) : vx_Met l yX6_append wsX6_append ({ frames := 6, cells := 1, slots := 6, locals := 82 } : Room) (va_Pc [.ref x, .int (nI k)] (PBX G [(x, .inr (3, [.ref tx, .ref h, .ref tr, .ref hi, .ref sl, .ref sv])), (tx, .inr (2, [.ref ch, .int (nI sz)]))])) NQ (XT xISE) 1 6 (fun _ => False) := by
  refine Met.goX (cc := cX6_append) (maxL := 2) (ret := (some .int)) (by decide) rfl (Nat.le_of_ble_eq_true rfl) ?_
  intro p e s m below meth c ls hx hb hr hml hown hts hlk hnt hP hK hD hE hZ hl
  have hown : s.vm.findClass RX6 = some m.cls := hown
  have hl : lv_has ls 2 [(0, .ref x), (1, .int (nI k))] := hl
  refine lv_iload_n hx hb dX6_append_0 rfl (lv_at hl 1 rfl) ?_
  refine b0_lt (tgt := 11) hx hb dX6_append_1 (by decide) (nI_i (by omega)) (fun c_1 => False.elim (by omega)) (fun c_1 => ?_)
  refine lv_iload_n hx hb dX6_append_4 rfl (lv_at hl 1 rfl) ?_
  refine lv_sipush (v := nI 255) hx hb dX6_append_5 (by decide) ?_
  refine bi_le (tgt := 21) hx hb dX6_append_8 (by decide) (nI_i (by omega)) (nI_i (by omega)) (fun c_8 => ?_) (fun c_8 => False.elim (by omega))
  refine lv_aload_n hx hb dX6_append_21 rfl (lv_at hl 0 rfl) ?_
  refine va_get (D := G.1) (ci := 3) (v := .ref tx) (C := RX6) (T := TX6) (N := 6) hx hb hts in_x_X6_append_f_X6 hown hK.1 hP 0 rfl rfl 0 (by decide) (hts (.fieldLink RX6 10 "FloorPanels" "text" "LFloorPanels$HouseText;") (by decide +kernel)) (fun _ h9 => h9) rfl dX6_append_22 ?_
  refine cRV (As := []) (rest := []) (v := .int (zb (sz = 60))) ⟨hx, hb, hml, hown, hts⟩ (c_X2_isFull l G tx ch sz (by first | omega | assumption)) (cwV 0 hts gX6_append_X2_isFull rfl rfl rfl (by decide +kernel) ⟨Nat.le_of_ble_eq_true rfl, Nat.le_of_ble_eq_true rfl⟩) (preV_of hK hP hD [1] (by decide) rfl (ci := 2) (q0 := 1) rfl rfl rfl) rfl hl.1 rfl (lv_room (Nat.le_of_ble_eq_true rfl)) dX6_append_25 ⟨Nat.zero_le _, Nat.zero_le _⟩ ?_
  refine bb_eq (tgt := 41) hx hb dX6_append_28 (by decide) (fun c_28 => False.elim (by omega)) (fun c_28 => ?_)
  exact X_throw (text := "the text is full") hx hb hst hown xf_ISE (hts (.classLink RX6 52 xISE) (by decide +kernel)) (hts (.initialized xISE) (by decide +kernel)) (hE.2.2 (54, "the text is full") (by decide +kernel)) (fun w hw => hts w (xi_x_X6_append_f_ISE w hw)) xa_ISE xg_ISE hE hZ (hl.1.trans hml.symm) dX6_append_31 dX6_append_34 dX6_append_35 dX6_append_37 dX6_append_40 hnt (Nat.le_of_ble_eq_true rfl) (Nat.le_of_ble_eq_true rfl) (Nat.le_of_ble_eq_true rfl) (Nat.le_of_ble_eq_true rfl) hlk

theorem in_c_X6_clearText_X6 : ∀ w ∈ wsX60, w ∈ wsX6_clearText := by decide +kernel
set_option maxHeartbeats 4000000 in
set_option maxRecDepth 100000 in
theorem c_X6_clearText (l : Launch) (G : GG) (x : Nat) (tx : Nat) (tr : Nat) (hi : Nat) (sl : Nat) (sv : Nat) (h : Nat) (ch : Nat) (sz : Nat)  : Met l yX6_clearText wsX6_clearText ({ frames := 1, cells := 0, slots := 0, locals := 20 } : Room) (va_Pc [.ref x] (PB G [(x, .inr (3, [.ref tx, .ref h, .ref tr, .ref hi, .ref sl, .ref sv])), (tx, .inr (2, [.ref ch, .int (nI sz)]))])) (QW G (some (.int (nI sz))) [(x, .inr (3, [.ref tx, .ref h, .ref tr, .ref hi, .ref sl, .ref sv])), (tx, .inr (2, [.ref ch, .int (nI 0)]))] (vA [(x, .inr (3, [.ref tx, .ref h, .ref tr, .ref hi, .ref sl, .ref sv])), (tx, .inr (2, [.ref ch, .int (nI sz)]))])) 0 0 (vA [(x, .inr (3, [.ref tx, .ref h, .ref tr, .ref hi, .ref sl, .ref sv])), (tx, .inr (2, [.ref ch, .int (nI sz)]))]) := by
  refine Met.go (cc := cX6_clearText) (maxL := 2) (ret := (some .int)) (by decide) rfl (Nat.le_of_ble_eq_true rfl) ?_
  intro p e s m below meth c ls hx hb hr hml hown hts hlk hP hK hD hS hl
  have hown : s.vm.findClass RX6 = some m.cls := hown
  have hl : lv_has ls 2 [(0, .ref x)] := hl
  refine lv_aload_n hx hb dX6_clearText_0 rfl (lv_at hl 0 rfl) ?_
  refine va_get (D := G.1) (ci := 3) (v := .ref tx) (C := RX6) (T := TX6) (N := 6) hx hb hts in_c_X6_clearText_X6 hown hK.1 hP 0 rfl rfl 0 (by decide) (hts (.fieldLink RX6 10 "FloorPanels" "text" "LFloorPanels$HouseText;") (by decide +kernel)) (fun _ h9 => h9) rfl dX6_clearText_1 ?_
  refine cRV (As := []) (rest := []) (v := .int (nI sz)) ⟨hx, hb, hml, hown, hts⟩ (c_X2_length l G tx ch sz ) (cwV 0 hts gX6_clearText_X2_length rfl rfl rfl (by decide +kernel) ⟨Nat.le_of_ble_eq_true rfl, Nat.le_of_ble_eq_true rfl⟩) (preV_of hK hP hD [1] (by decide) rfl (ci := 2) (q0 := 1) rfl rfl rfl) rfl hl.1 rfl (lv_room (Nat.le_of_ble_eq_true rfl)) dX6_clearText_4 ⟨Nat.zero_le _, Nat.zero_le _⟩ ?_
  refine lv_istore_n (lv' := [(1, .int (nI sz)), (0, .ref x)]) hx hb dX6_clearText_7 rfl hl (by decide) rfl (fun ls hl => ?_)
  refine lv_aload_n hx hb dX6_clearText_8 rfl (lv_at hl 1 rfl) ?_
  refine va_get (D := G.1) (ci := 3) (v := .ref tx) (C := RX6) (T := TX6) (N := 6) hx hb hts in_c_X6_clearText_X6 hown hK.1 hP 0 rfl rfl 0 (by decide) (hts (.fieldLink RX6 10 "FloorPanels" "text" "LFloorPanels$HouseText;") (by decide +kernel)) (fun _ h9 => h9) rfl dX6_clearText_9 ?_
  refine cWV (As := []) (rest := []) (st1 := []) (w3 := [(x, .inr (3, [.ref tx, .ref h, .ref tr, .ref hi, .ref sl, .ref sv])), (tx, .inr (2, [.ref ch, .int (nI 0)]))]) ⟨hx, hb, hml, hown, hts⟩ (c_X2_wipe l G tx ch sz ) (cwV 0 hts gX6_clearText_X2_wipe rfl rfl rfl (by decide +kernel) ⟨Nat.le_of_ble_eq_true rfl, Nat.le_of_ble_eq_true rfl⟩) (preV_of hK hP hD [1] (by decide) rfl (ci := 2) (q0 := 1) rfl rfl rfl) rfl hl.1 rfl (lv_room (Nat.le_of_ble_eq_true rfl)) dX6_clearText_12 ⟨Nat.zero_le _, Nat.zero_le _⟩ hP hD hS [1] (by decide) rfl rfl (rfl) rfl (fun H locs hP hD hS => ?_)
  refine lv_iload_n hx hb dX6_clearText_15 rfl (lv_at hl 0 rfl) ?_
  exact W_i hx hb hr hlk dX6_clearText_16 hP hS (rfl) (rfl)

theorem in_c_X6_errorPosition_X6 : ∀ w ∈ wsX60, w ∈ wsX6_errorPosition := by decide +kernel
set_option maxHeartbeats 4000000 in
set_option maxRecDepth 100000 in
theorem c_X6_errorPosition (l : Launch) (G : GG) (x : Nat) (tx : Nat) (tr : Nat) (hi : Nat) (sl : Nat) (sv : Nat) (h : Nat) (ch : Nat) (sz : Nat) (cd : Nat → Nat) (h_sz : sz ≤ 60) (h_cd : ∀ j_, cd j_ < 256) : Met l yX6_errorPosition wsX6_errorPosition ({ frames := 5, cells := 0, slots := 0, locals := 109 } : Room) (va_Pc [.ref x] (PB G [(x, .inr (3, [.ref tx, .ref h, .ref tr, .ref hi, .ref sl, .ref sv])), (tx, .inr (2, [.ref ch, .int (nI sz)])), (ch, .inl (G.2 1, 60, .inl (cdI cd)))])) (QR (some (.int (ferr cd sz)))) 0 0 (fun _ => False) := by
  refine Met.go (cc := cX6_errorPosition) (maxL := 1) (ret := (some .int)) (by decide) rfl (Nat.le_of_ble_eq_true rfl) ?_
  intro p e s m below meth c ls hx hb hr hml hown hts hlk hP hK hD hS hl
  have hown : s.vm.findClass RX6 = some m.cls := hown
  have hl : lv_has ls 1 [(0, .ref x)] := hl
  refine lv_aload_n hx hb dX6_errorPosition_0 rfl (lv_at hl 0 rfl) ?_
  refine va_get (D := G.1) (ci := 3) (v := .ref tx) (C := RX6) (T := TX6) (N := 6) hx hb hts in_c_X6_errorPosition_X6 hown hK.1 hP 0 rfl rfl 0 (by decide) (hts (.fieldLink RX6 10 "FloorPanels" "text" "LFloorPanels$HouseText;") (by decide +kernel)) (fun _ h9 => h9) rfl dX6_errorPosition_1 ?_
  refine cRV (As := []) (rest := []) (v := .int (ferr cd sz)) ⟨hx, hb, hml, hown, hts⟩ (c_X2_firstError l G tx ch sz cd (by first | omega | assumption) (by first | omega | assumption)) (cwV 0 hts gX6_errorPosition_X2_firstError rfl rfl rfl (by decide +kernel) ⟨Nat.le_of_ble_eq_true rfl, Nat.le_of_ble_eq_true rfl⟩) (preV_of hK hP hD [1, 2] (by decide) rfl (ci := 2) (q0 := 1) rfl rfl rfl) rfl hl.1 rfl (lv_room (Nat.le_of_ble_eq_true rfl)) dX6_errorPosition_4 ⟨Nat.zero_le _, Nat.zero_le _⟩ ?_
  exact R_i hx hb hr hlk dX6_errorPosition_7 (rfl)

