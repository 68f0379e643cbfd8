theorem in_c_X6_requireLevel_X6 : ∀ w ∈ wsX60, w ∈ wsX6_requireLevel := by decide +kernel
set_option maxHeartbeats 4000000 in
set_option maxRecDepth 100000 in
theorem c_X6_requireLevel (l : Launch) (G : GG) (x : Nat) (tx : Nat) (tr : Nat) (hi : Nat) (sl : Nat) (sv : Nat) (h : Nat) (hc : Nat) (n : Nat) (g : Nat) (sk : Int32) (f : Nat → Int32) (lv : Nat) (h_n : n ≤ 16) (h_lv : lv < n) : Met l yX6_requireLevel wsX6_requireLevel ({ frames := 1, cells := 0, slots := 0, locals := 21 } : Room) (va_Pc [.ref x, .int (nI lv)] (PB G [(x, .inr (3, [.ref tx, .ref h, .ref tr, .ref hi, .ref sl, .ref sv])), (h, .inr (1, [.ref hc, .int (nI n), .int (nI g), .int sk])), (hc, .inl (G.2 0, 144, .inl f))])) (QR (none)) 0 0 (fun _ => False) := by
  refine Met.go (cc := cX6_requireLevel) (maxL := 2) (ret := none) (by decide) rfl (Nat.le_of_ble_eq_true rfl) ?_
  intro p e s m below meth c ls hx hb hr hml hown hts hlk hP hK hD hS hl
  have hown : s.vm.findClass RX6 = some m.cls := hown
  have hl : lv_has ls 2 [(0, .ref x), (1, .int (nI lv))] := hl
  refine lv_aload_n hx hb dX6_requireLevel_0 rfl (lv_at hl 0 rfl) ?_
  refine va_get (D := G.1) (ci := 3) (v := .ref h) (C := RX6) (T := TX6) (N := 6) hx hb hts in_c_X6_requireLevel_X6 hown hK.1 hP 0 rfl rfl 1 (by decide) (hts (.fieldLink RX6 19 "FloorPanels" "house" "LFloorPanels$House;") (by decide +kernel)) (fun _ h9 => h9) rfl dX6_requireLevel_1 ?_
  refine lv_iload_n hx hb dX6_requireLevel_4 rfl (lv_at hl 1 rfl) ?_
  refine cRV (As := [.int (nI lv)]) (rest := []) (v := .int (zb (lv < n))) ⟨hx, hb, hml, hown, hts⟩ (c_X1_hasLevel_n l G h hc n g sk f lv (by first | omega | assumption) (by first | omega | assumption)) (cwV 1 hts gX6_requireLevel_X1_hasLevel rfl rfl rfl (by decide +kernel) ⟨Nat.le_of_ble_eq_true rfl, Nat.le_of_ble_eq_true rfl⟩) (preV_of hK hP hD [1, 2] (by decide) rfl (ci := 1) (q0 := 1) rfl rfl rfl) rfl hl.1 rfl (lv_room (Nat.le_of_ble_eq_true rfl)) dX6_requireLevel_5 ⟨Nat.zero_le _, Nat.zero_le _⟩ ?_
  refine bb_ne (tgt := 22) hx hb dX6_requireLevel_8 (by decide) (fun c_8 => ?_) (fun c_8 => False.elim (by omega))
  exact R_v hx hb hr hlk dX6_requireLevel_22

theorem xi_x_X6_requireLevel_IOB : ∀ w ∈ (vx_atS RX6 286 xIOB xNMS).filter goodWord, w ∈ wsX6_requireLevel := by decide +kernel
theorem in_x_X6_requireLevel_X6 : ∀ w ∈ wsX60, w ∈ wsX6_requireLevel := by decide +kernel
set_option maxHeartbeats 4000000 in
set_option maxRecDepth 100000 in
theorem x_X6_requireLevel (l : Launch) (hst : l.stackTraces = false) (G : GG) (x : Nat) (tx : Nat) (tr : Nat) (hi : Nat) (sl : Nat) (sv : Nat) (h : Nat) (hc : Nat) (n : Nat) (g : Nat) (sk : Int32) (f : Nat → Int32) (z : Int32) (h_n : n ≤ 16) (h_nol : ¬ (0 ≤ z.toInt ∧ z.toInt < (n : Int))) : vx_Met l yX6_requireLevel wsX6_requireLevel ({ frames := 6, cells := 1, slots := 6, locals := 82 } : Room) (va_Pc [.ref x, .int z] (PBX G [(x, .inr (3, [.ref tx, .ref h, .ref tr, .ref hi, .ref sl, .ref sv])), (h, .inr (1, [.ref hc, .int (nI n), .int (nI g), .int sk])), (hc, .inl (G.2 0, 144, .inl f))])) NQ (XT xIOB) 1 6 (fun _ => False) := by
  refine Met.goX (cc := cX6_requireLevel) (maxL := 2) (ret := none) (by decide) rfl (Nat.le_of_ble_eq_true rfl) ?_
  intro p e s m below meth c ls hx hb hr hml hown hts hlk hnt hP hK hD hE hZ hl
  have hown : s.vm.findClass RX6 = some m.cls := hown
  have hl : lv_has ls 2 [(0, .ref x), (1, .int z)] := hl
  refine lv_aload_n hx hb dX6_requireLevel_0 rfl (lv_at hl 0 rfl) ?_
  refine va_get (D := G.1) (ci := 3) (v := .ref h) (C := RX6) (T := TX6) (N := 6) hx hb hts in_x_X6_requireLevel_X6 hown hK.1 hP 0 rfl rfl 1 (by decide) (hts (.fieldLink RX6 19 "FloorPanels" "house" "LFloorPanels$House;") (by decide +kernel)) (fun _ h9 => h9) rfl dX6_requireLevel_1 ?_
  refine lv_iload_n hx hb dX6_requireLevel_4 rfl (lv_at hl 1 rfl) ?_
  refine cRV (As := [.int z]) (rest := []) (v := .int (zb (0 ≤ z.toInt ∧ z.toInt < (n : Int)))) ⟨hx, hb, hml, hown, hts⟩ (c_X1_hasLevel l G h hc n g sk f z (by first | omega | assumption)) (cwV 1 hts gX6_requireLevel_X1_hasLevel rfl rfl rfl (by decide +kernel) ⟨Nat.le_of_ble_eq_true rfl, Nat.le_of_ble_eq_true rfl⟩) (preV_of hK hP hD [1, 2] (by decide) rfl (ci := 1) (q0 := 1) rfl rfl rfl) rfl hl.1 rfl (lv_room (Nat.le_of_ble_eq_true rfl)) dX6_requireLevel_5 ⟨Nat.zero_le _, Nat.zero_le _⟩ ?_
  refine bb_ne (tgt := 22) hx hb dX6_requireLevel_8 (by decide) (fun c_8 => False.elim (by omega)) (fun c_8 => ?_)
  exact X_throwW (text := "no such level") hx hb hst hown xf_IOB (hts (.classLink RX6 282 xIOB) (by decide +kernel)) (hts (.initialized xIOB) (by decide +kernel)) (hE.2.2 (284, "no such level") (by decide +kernel)) (fun w hw => hts w (xi_x_X6_requireLevel_IOB w hw)) xa_IOB xg_IOB hE hZ (hl.1.trans hml.symm) dX6_requireLevel_11 dX6_requireLevel_14 dX6_requireLevel_15 dX6_requireLevel_18 dX6_requireLevel_21 hnt (Nat.le_of_ble_eq_true rfl) (Nat.le_of_ble_eq_true rfl) (Nat.le_of_ble_eq_true rfl) (Nat.le_of_ble_eq_true rfl) hlk

set_option maxHeartbeats 4000000 in
set_option maxRecDepth 100000 in
theorem c_X6_requireCar (l : Launch) (G : GG) (x : Nat) (tx : Nat) (tr : Nat) (hi : Nat) (sl : Nat) (sv : Nat) (h : Nat) (hc : Nat) (n : Nat) (g : Nat) (sk : Int32) (f : Nat → Int32) (ca : Nat) (h_ca : ca < 3) : Met l yX6_requireCar wsX6_requireCar ({ frames := 1, cells := 0, slots := 0, locals := 20 } : Room) (va_Pc [.ref x, .int (nI ca)] (PB G [(x, .inr (3, [.ref tx, .ref h, .ref tr, .ref hi, .ref sl, .ref sv])), (h, .inr (1, [.ref hc, .int (nI n), .int (nI g), .int sk])), (hc, .inl (G.2 0, 144, .inl f))])) (QR (none)) 0 0 (fun _ => False) := by
  refine Met.go (cc := cX6_requireCar) (maxL := 2) (ret := none) (by decide) rfl (Nat.le_of_ble_eq_true rfl) ?_
  intro p e s m below meth c ls hx hb hr hml hown hts hlk hP hK hD hS hl
  have hown : s.vm.findClass RX6 = some m.cls := hown
  have hl : lv_has ls 2 [(0, .ref x), (1, .int (nI ca))] := hl
  refine lv_iload_n hx hb dX6_requireCar_0 rfl (lv_at hl 1 rfl) ?_
  refine cRS (As := [.int (nI ca)]) (rest := []) (v := .int (zb (ca < 3))) ⟨hx, hb, hml, hown, hts⟩ (c_X6_isCar_n l G ca (by first | omega | assumption)) (va_cwS 1 hts gX6_requireCar_X6_isCar rfl rfl rfl (by decide +kernel) ⟨Nat.le_of_ble_eq_true rfl, Nat.le_of_ble_eq_true rfl⟩) (preS_of hK hP hD [] (by decide) rfl) rfl hl.1 rfl (lv_room (Nat.le_of_ble_eq_true rfl)) dX6_requireCar_1 ⟨Nat.zero_le _, Nat.zero_le _⟩ ?_
  refine bb_ne (tgt := 18) hx hb dX6_requireCar_4 (by decide) (fun c_4 => ?_) (fun c_4 => False.elim (by omega))
  exact R_v hx hb hr hlk dX6_requireCar_18

theorem xi_x_X6_requireCar_IOB : ∀ w ∈ (vx_atS RX6 286 xIOB xNMS).filter goodWord, w ∈ wsX6_requireCar := by decide +kernel
set_option maxHeartbeats 4000000 in
set_option maxRecDepth 100000 in
theorem x_X6_requireCar (l : Launch) (hst : l.stackTraces = false) (G : GG) (x : Nat) (tx : Nat) (tr : Nat) (hi : Nat) (sl : Nat) (sv : Nat) (h : Nat) (hc : Nat) (n : Nat) (g : Nat) (sk : Int32) (f : Nat → Int32) (y : Int32) (h_noc : ¬ (0 ≤ y.toInt ∧ y.toInt < 3)) : vx_Met l yX6_requireCar wsX6_requireCar ({ frames := 6, cells := 1, slots := 6, locals := 82 } : Room) (va_Pc [.ref x, .int y] (PBX G [(x, .inr (3, [.ref tx, .ref h, .ref tr, .ref hi, .ref sl, .ref sv])), (h, .inr (1, [.ref hc, .int (nI n), .int (nI g), .int sk])), (hc, .inl (G.2 0, 144, .inl f))])) NQ (XT xIOB) 1 6 (fun _ => False) := by
  refine Met.goX (cc := cX6_requireCar) (maxL := 2) (ret := none) (by decide) rfl (Nat.le_of_ble_eq_true rfl) ?_
  intro p e s m below meth c ls hx hb hr hml hown hts hlk hnt hP hK hD hE hZ hl
  have hown : s.vm.findClass RX6 = some m.cls := hown
  have hl : lv_has ls 2 [(0, .ref x), (1, .int y)] := hl
  refine lv_iload_n hx hb dX6_requireCar_0 rfl (lv_at hl 1 rfl) ?_
  refine cRS (As := [.int y]) (rest := []) (v := .int (zb (0 ≤ y.toInt ∧ y.toInt < 3))) ⟨hx, hb, hml, hown, hts⟩ (c_X6_isCar l G y ) (va_cwS 1 hts gX6_requireCar_X6_isCar rfl rfl rfl (by decide +kernel) ⟨Nat.le_of_ble_eq_true rfl, Nat.le_of_ble_eq_true rfl⟩) (preS_of hK hP hD [] (by decide) rfl) rfl hl.1 rfl (lv_room (Nat.le_of_ble_eq_true rfl)) dX6_requireCar_1 ⟨Nat.zero_le _, Nat.zero_le _⟩ ?_
  refine bb_ne (tgt := 18) hx hb dX6_requireCar_4 (by decide) (fun c_4 => False.elim (by omega)) (fun c_4 => ?_)
  exact X_throwW (text := "no such car") hx hb hst hown xf_IOB (hts (.classLink RX6 282 xIOB) (by decide +kernel)) (hts (.initialized xIOB) (by decide +kernel)) (hE.2.2 (290, "no such car") (by decide +kernel)) (fun w hw => hts w (xi_x_X6_requireCar_IOB w hw)) xa_IOB xg_IOB hE hZ (hl.1.trans hml.symm) dX6_requireCar_7 dX6_requireCar_10 dX6_requireCar_11 dX6_requireCar_14 dX6_requireCar_17 hnt (Nat.le_of_ble_eq_true rfl) (Nat.le_of_ble_eq_true rfl) (Nat.le_of_ble_eq_true rfl) (Nat.le_of_ble_eq_true rfl) hlk

set_option maxHeartbeats 4000000 in
set_option maxRecDepth 100000 in
theorem c_X6_requireKind (l : Launch) (G : GG) (x : Nat) (tx : Nat) (tr : Nat) (hi : Nat) (sl : Nat) (sv : Nat) (h : Nat) (hc : Nat) (n : Nat) (g : Nat) (sk : Int32) (f : Nat → Int32) (k : Nat) (h_k : k < 4) : Met l yX6_requireKind wsX6_requireKind ({ frames := 1, cells := 0, slots := 0, locals := 20 } : Room) (va_Pc [.ref x, .int (nI k)] (PB G [(x, .inr (3, [.ref tx, .ref h, .ref tr, .ref hi, .ref sl, .ref sv])), (h, .inr (1, [.ref hc, .int (nI n), .int (nI g), .int sk])), (hc, .inl (G.2 0, 144, .inl f))])) (QR (none)) 0 0 (fun _ => False) := by
  refine Met.go (cc := cX6_requireKind) (maxL := 2) (ret := none) (by decide) rfl (Nat.le_of_ble_eq_true rfl) ?_
  intro p e s m below meth c ls hx hb hr hml hown hts hlk hP hK hD hS hl
  have hown : s.vm.findClass RX6 = some m.cls := hown
  have hl : lv_has ls 2 [(0, .ref x), (1, .int (nI k))] := hl
  refine lv_iload_n hx hb dX6_requireKind_0 rfl (lv_at hl 1 rfl) ?_
  refine cRS (As := [.int (nI k)]) (rest := []) (v := .int (zb (k < 4))) ⟨hx, hb, hml, hown, hts⟩ (c_X6_isKind_n l G k (by first | omega | assumption)) (va_cwS 1 hts gX6_requireKind_X6_isKind rfl rfl rfl (by decide +kernel) ⟨Nat.le_of_ble_eq_true rfl, Nat.le_of_ble_eq_true rfl⟩) (preS_of hK hP hD [] (by decide) rfl) rfl hl.1 rfl (lv_room (Nat.le_of_ble_eq_true rfl)) dX6_requireKind_1 ⟨Nat.zero_le _, Nat.zero_le _⟩ ?_
  refine bb_ne (tgt := 18) hx hb dX6_requireKind_4 (by decide) (fun c_4 => ?_) (fun c_4 => False.elim (by omega))
  exact R_v hx hb hr hlk dX6_requireKind_18

theorem xi_x_X6_requireKind_IAE : ∀ w ∈ (vx_atS RX6 45 xIAE xNMS).filter goodWord, w ∈ wsX6_requireKind := by decide +kernel
set_option maxHeartbeats 4000000 in
set_option maxRecDepth 100000 in
theorem x_X6_requireKind (l : Launch) (hst : l.stackTraces = false) (G : GG) (x : Nat) (tx : Nat) (tr : Nat) (hi : Nat) (sl : Nat) (sv : Nat) (h : Nat) (hc : Nat) (n : Nat) (g : Nat) (sk : Int32) (f : Nat → Int32) (y : Int32) (h_nok : ¬ (0 ≤ y.toInt ∧ y.toInt < 4)) : vx_Met l yX6_requireKind wsX6_requireKind ({ frames := 6, cells := 1, slots := 6, locals := 82 } : Room) (va_Pc [.ref x, .int y] (PBX G [(x, .inr (3, [.ref tx, .ref h, .ref tr, .ref hi, .ref sl, .ref sv])), (h, .inr (1, [.ref hc, .int (nI n), .int (nI g), .int sk])), (hc, .inl (G.2 0, 144, .inl f))])) NQ (XT xIAE) 1 6 (fun _ => False) := by
  refine Met.goX (cc := cX6_requireKind) (maxL := 2) (ret := none) (by decide) rfl (Nat.le_of_ble_eq_true rfl) ?_
  intro p e s m below meth c ls hx hb hr hml hown hts hlk hnt hP hK hD hE hZ hl
  have hown : s.vm.findClass RX6 = some m.cls := hown
  have hl : lv_has ls 2 [(0, .ref x), (1, .int y)] := hl
  refine lv_iload_n hx hb dX6_requireKind_0 rfl (lv_at hl 1 rfl) ?_
  refine cRS (As := [.int y]) (rest := []) (v := .int (zb (0 ≤ y.toInt ∧ y.toInt < 4))) ⟨hx, hb, hml, hown, hts⟩ (c_X6_isKind l G y ) (va_cwS 1 hts gX6_requireKind_X6_isKind rfl rfl rfl (by decide +kernel) ⟨Nat.le_of_ble_eq_true rfl, Nat.le_of_ble_eq_true rfl⟩) (preS_of hK hP hD [] (by decide) rfl) rfl hl.1 rfl (lv_room (Nat.le_of_ble_eq_true rfl)) dX6_requireKind_1 ⟨Nat.zero_le _, Nat.zero_le _⟩ ?_
  refine bb_ne (tgt := 18) hx hb dX6_requireKind_4 (by decide) (fun c_4 => False.elim (by omega)) (fun c_4 => ?_)
  exact X_throwW (text := "no such kind") hx hb hst hown xf_IAE (hts (.classLink RX6 41 xIAE) (by decide +kernel)) (hts (.initialized xIAE) (by decide +kernel)) (hE.2.2 (297, "no such kind") (by decide +kernel)) (fun w hw => hts w (xi_x_X6_requireKind_IAE w hw)) xa_IAE xg_IAE hE hZ (hl.1.trans hml.symm) dX6_requireKind_7 dX6_requireKind_10 dX6_requireKind_11 dX6_requireKind_14 dX6_requireKind_17 hnt (Nat.le_of_ble_eq_true rfl) (Nat.le_of_ble_eq_true rfl) (Nat.le_of_ble_eq_true rfl) (Nat.le_of_ble_eq_true rfl) hlk

set_option maxHeartbeats 4000000 in
set_option maxRecDepth 100000 in
theorem c_X6_requireStorey (l : Launch) (G : GG) (x : Nat) (tx : Nat) (tr : Nat) (hi : Nat) (sl : Nat) (sv : Nat) (h : Nat) (hc : Nat) (n : Nat) (g : Nat) (sk : Int32) (f : Nat → Int32) (q : Nat) (h_q : 1 ≤ q ∧ q ≤ 30) : Met l yX6_requireStorey wsX6_requireStorey ({ frames := 1, cells := 0, slots := 0, locals := 20 } : Room) (va_Pc [.ref x, .int (nI q)] (PB G [(x, .inr (3, [.ref tx, .ref h, .ref tr, .ref hi, .ref sl, .ref sv])), (h, .inr (1, [.ref hc, .int (nI n), .int (nI g), .int sk])), (hc, .inl (G.2 0, 144, .inl f))])) (QR (none)) 0 0 (fun _ => False) := by
  refine Met.go (cc := cX6_requireStorey) (maxL := 2) (ret := none) (by decide) rfl (Nat.le_of_ble_eq_true rfl) ?_
  intro p e s m below meth c ls hx hb hr hml hown hts hlk hP hK hD hS hl
  have hown : s.vm.findClass RX6 = some m.cls := hown
  have hl : lv_has ls 2 [(0, .ref x), (1, .int (nI q))] := hl
  refine lv_iload_n hx hb dX6_requireStorey_0 rfl (lv_at hl 1 rfl) ?_
  refine cRS (As := [.int (nI q)]) (rest := []) (v := .int (zb (1 ≤ q ∧ q ≤ 30))) ⟨hx, hb, hml, hown, hts⟩ (c_X6_canBeSkipped_n l G q (by first | omega | assumption)) (va_cwS 1 hts gX6_requireStorey_X6_canBeSkipped rfl rfl rfl (by decide +kernel) ⟨Nat.le_of_ble_eq_true rfl, Nat.le_of_ble_eq_true rfl⟩) (preS_of hK hP hD [] (by decide) rfl) rfl hl.1 rfl (lv_room (Nat.le_of_ble_eq_true rfl)) dX6_requireStorey_1 ⟨Nat.zero_le _, Nat.zero_le _⟩ ?_
  refine bb_ne (tgt := 18) hx hb dX6_requireStorey_4 (by decide) (fun c_4 => ?_) (fun c_4 => False.elim (by omega))
  exact R_v hx hb hr hlk dX6_requireStorey_18

theorem xi_x_X6_requireStorey_IAE : ∀ w ∈ (vx_atS RX6 45 xIAE xNMS).filter goodWord, w ∈ wsX6_requireStorey := by decide +kernel
set_option maxHeartbeats 4000000 in
set_option maxRecDepth 100000 in
theorem x_X6_requireStorey (l : Launch) (hst : l.stackTraces = false) (G : GG) (x : Nat) (tx : Nat) (tr : Nat) (hi : Nat) (sl : Nat) (sv : Nat) (h : Nat) (hc : Nat) (n : Nat) (g : Nat) (sk : Int32) (f : Nat → Int32) (y : Int32) (h_nos : ¬ (1 ≤ y.toInt ∧ y.toInt ≤ 30)) : vx_Met l yX6_requireStorey wsX6_requireStorey ({ frames := 6, cells := 1, slots := 6, locals := 82 } : Room) (va_Pc [.ref x, .int y] (PBX G [(x, .inr (3, [.ref tx, .ref h, .ref tr, .ref hi, .ref sl, .ref sv])), (h, .inr (1, [.ref hc, .int (nI n), .int (nI g), .int sk])), (hc, .inl (G.2 0, 144, .inl f))])) NQ (XT xIAE) 1 6 (fun _ => False) := by
  refine Met.goX (cc := cX6_requireStorey) (maxL := 2) (ret := none) (by decide) rfl (Nat.le_of_ble_eq_true rfl) ?_
  intro p e s m below meth c ls hx hb hr hml hown hts hlk hnt hP hK hD hE hZ hl
  have hown : s.vm.findClass RX6 = some m.cls := hown
  have hl : lv_has ls 2 [(0, .ref x), (1, .int y)] := hl
  refine lv_iload_n hx hb dX6_requireStorey_0 rfl (lv_at hl 1 rfl) ?_
  refine cRS (As := [.int y]) (rest := []) (v := .int (zb (1 ≤ y.toInt ∧ y.toInt ≤ 30))) ⟨hx, hb, hml, hown, hts⟩ (c_X6_canBeSkipped l G y ) (va_cwS 1 hts gX6_requireStorey_X6_canBeSkipped rfl rfl rfl (by decide +kernel) ⟨Nat.le_of_ble_eq_true rfl, Nat.le_of_ble_eq_true rfl⟩) (preS_of hK hP hD [] (by decide) rfl) rfl hl.1 rfl (lv_room (Nat.le_of_ble_eq_true rfl)) dX6_requireStorey_1 ⟨Nat.zero_le _, Nat.zero_le _⟩ ?_
  refine bb_ne (tgt := 18) hx hb dX6_requireStorey_4 (by decide) (fun c_4 => False.elim (by omega)) (fun c_4 => ?_)
  exact X_throwW (text := "no such storey to skip") hx hb hst hown xf_IAE (hts (.classLink RX6 41 xIAE) (by decide +kernel)) (hts (.initialized xIAE) (by decide +kernel)) (hE.2.2 (302, "no such storey to skip") (by decide +kernel)) (fun w hw => hts w (xi_x_X6_requireStorey_IAE w hw)) xa_IAE xg_IAE hE hZ (hl.1.trans hml.symm) dX6_requireStorey_7 dX6_requireStorey_10 dX6_requireStorey_11 dX6_requireStorey_14 dX6_requireStorey_17 hnt (Nat.le_of_ble_eq_true rfl) (Nat.le_of_ble_eq_true rfl) (Nat.le_of_ble_eq_true rfl) (Nat.le_of_ble_eq_true rfl) hlk

set_option maxHeartbeats 4000000 in
set_option maxRecDepth 100000 in
theorem c_X6_requireSlot (l : Launch) (G : GG) (x : Nat) (tx : Nat) (tr : Nat) (hi : Nat) (sl : Nat) (sv : Nat) (h : Nat) (hc : Nat) (n : Nat) (g : Nat) (sk : Int32) (f : Nat → Int32) (u : Nat) (h_u : u < 2) : Met l yX6_requireSlot wsX6_requireSlot ({ frames := 0, cells := 0, slots := 0, locals := 0 } : Room) (va_Pc [.ref x, .int (nI u)] (PB G [(x, .inr (3, [.ref tx, .ref h, .ref tr, .ref hi, .ref sl, .ref sv])), (h, .inr (1, [.ref hc, .int (nI n), .int (nI g), .int sk])), (hc, .inl (G.2 0, 144, .inl f))])) (QR (none)) 0 0 (fun _ => False) := by
  refine Met.go (cc := cX6_requireSlot) (maxL := 2) (ret := none) (by decide) rfl (Nat.le_of_ble_eq_true rfl) ?_
  intro p e s m below meth c ls hx hb hr hml hown hts hlk hP hK hD hS hl
  have hown : s.vm.findClass RX6 = some m.cls := hown
  have hl : lv_has ls 2 [(0, .ref x), (1, .int (nI u))] := hl
  refine lv_iload_n hx hb dX6_requireSlot_0 rfl (lv_at hl 1 rfl) ?_
  refine b0_lt (tgt := 9) hx hb dX6_requireSlot_1 (by decide) (nI_i (by omega)) (fun c_1 => False.elim (by omega)) (fun c_1 => ?_)
  refine lv_iload_n hx hb dX6_requireSlot_4 rfl (lv_at hl 1 rfl) ?_
  refine lv_iconst (v := nI 2) hx hb dX6_requireSlot_5 (by decide) ?_
  refine bi_lt (tgt := 20) hx hb dX6_requireSlot_6 (by decide) (nI_i (by omega)) (nI_i (by omega)) (fun c_6 => ?_) (fun c_6 => False.elim (by omega))
  exact R_v hx hb hr hlk dX6_requireSlot_20

theorem xi_x_X6_requireSlot_IOB : ∀ w ∈ (vx_atS RX6 286 xIOB xNMS).filter goodWord, w ∈ wsX6_requireSlot := by decide +kernel
set_option maxHeartbeats 4000000 in
set_option maxRecDepth 100000 in
theorem x_X6_requireSlot (l : Launch) (hst : l.stackTraces = false) (G : GG) (x : Nat) (tx : Nat) (tr : Nat) (hi : Nat) (sl : Nat) (sv : Nat) (h : Nat) (hc : Nat) (n : Nat) (g : Nat) (sk : Int32) (f : Nat → Int32) (y : Int32) (h_nou : ¬ (0 ≤ y.toInt ∧ y.toInt < 2)) : vx_Met l yX6_requireSlot wsX6_requireSlot ({ frames := 6, cells := 1, slots := 6, locals := 82 } : Room) (va_Pc [.ref x, .int y] (PBX G [(x, .inr (3, [.ref tx, .ref h, .ref tr, .ref hi, .ref sl, .ref sv])), (h, .inr (1, [.ref hc, .int (nI n), .int (nI g), .int sk])), (hc, .inl (G.2 0, 144, .inl f))])) NQ (XT xIOB) 1 6 (fun _ => False) := by
  refine Met.goX (cc := cX6_requireSlot) (maxL := 2) (ret := none) (by decide) rfl (Nat.le_of_ble_eq_true rfl) ?_
  intro p e s m below meth c ls hx hb hr hml hown hts hlk hnt hP hK hD hE hZ hl
  have hown : s.vm.findClass RX6 = some m.cls := hown
  have hl : lv_has ls 2 [(0, .ref x), (1, .int y)] := hl
  refine lv_iload_n hx hb dX6_requireSlot_0 rfl (lv_at hl 1 rfl) ?_
  refine b0_lt (tgt := 9) hx hb dX6_requireSlot_1 (by decide) (toI_r _) (fun c_1 => ?_) (fun c_1 => ?_)
  ·
    exact X_throwW (text := "no such save slot") hx hb hst hown xf_IOB (hts (.classLink RX6 282 xIOB) (by decide +kernel)) (hts (.initialized xIOB) (by decide +kernel)) (hE.2.2 (292, "no such save slot") (by decide +kernel)) (fun w hw => hts w (xi_x_X6_requireSlot_IOB w hw)) xa_IOB xg_IOB hE hZ (hl.1.trans hml.symm) dX6_requireSlot_9 dX6_requireSlot_12 dX6_requireSlot_13 dX6_requireSlot_16 dX6_requireSlot_19 hnt (Nat.le_of_ble_eq_true rfl) (Nat.le_of_ble_eq_true rfl) (Nat.le_of_ble_eq_true rfl) (Nat.le_of_ble_eq_true rfl) hlk
  ·
    refine lv_iload_n hx hb dX6_requireSlot_4 rfl (lv_at hl 1 rfl) ?_
    refine lv_iconst (v := nI 2) hx hb dX6_requireSlot_5 (by decide) ?_
    refine bi_lt (tgt := 20) hx hb dX6_requireSlot_6 (by decide) (toI_r _) (nI_i (by omega)) (fun c_6 => False.elim (by omega)) (fun c_6 => ?_)
    exact X_throwW (text := "no such save slot") hx hb hst hown xf_IOB (hts (.classLink RX6 282 xIOB) (by decide +kernel)) (hts (.initialized xIOB) (by decide +kernel)) (hE.2.2 (292, "no such save slot") (by decide +kernel)) (fun w hw => hts w (xi_x_X6_requireSlot_IOB w hw)) xa_IOB xg_IOB hE hZ (hl.1.trans hml.symm) dX6_requireSlot_9 dX6_requireSlot_12 dX6_requireSlot_13 dX6_requireSlot_16 dX6_requireSlot_19 hnt (Nat.le_of_ble_eq_true rfl) (Nat.le_of_ble_eq_true rfl) (Nat.le_of_ble_eq_true rfl) (Nat.le_of_ble_eq_true rfl) hlk

theorem in_c_X6_requireRoomFor_X6 : ∀ w ∈ wsX60, w ∈ wsX6_requireRoomFor := by decide +kernel
set_option maxHeartbeats 4000000 in
set_option maxRecDepth 100000 in
theorem c_X6_requireRoomFor (l : Launch) (G : GG) (x : Nat) (tx : Nat) (tr : Nat) (hi : Nat) (sl : Nat) (sv : Nat) (h : Nat) (hc : Nat) (n : Nat) (g : Nat) (sk : Int32) (f : Nat → Int32) (lv : Nat) (k : Nat) (h_n : n < 16) (h_lv : lv ≤ n) (h_k : k < 4) : Met l yX6_requireRoomFor wsX6_requireRoomFor ({ frames := 2, cells := 0, slots := 0, locals := 41 } : Room) (va_Pc [.ref x, .int (nI lv), .int (nI k)] (PB G [(x, .inr (3, [.ref tx, .ref h, .ref tr, .ref hi, .ref sl, .ref sv])), (h, .inr (1, [.ref hc, .int (nI n), .int (nI g), .int sk])), (hc, .inl (G.2 0, 144, .inl f))])) (QR (none)) 0 0 (fun _ => False) := by
  refine Met.go (cc := cX6_requireRoomFor) (maxL := 3) (ret := none) (by decide) rfl (Nat.le_of_ble_eq_true rfl) ?_
  intro p e s m below meth c ls hx hb hr hml hown hts hlk hP hK hD hS hl
  have hown : s.vm.findClass RX6 = some m.cls := hown
  have hl : lv_has ls 3 [(0, .ref x), (1, .int (nI lv)), (2, .int (nI k))] := hl
  refine lv_iload_n hx hb dX6_requireRoomFor_0 rfl (lv_at hl 1 rfl) ?_
  refine b0_lt (tgt := 15) hx hb dX6_requireRoomFor_1 (by decide) (nI_i (by omega)) (fun c_1 => False.elim (by omega)) (fun c_1 => ?_)
  refine lv_iload_n hx hb dX6_requireRoomFor_4 rfl (lv_at hl 1 rfl) ?_
  refine lv_aload_n hx hb dX6_requireRoomFor_5 rfl (lv_at hl 0 rfl) ?_
  refine va_get (D := G.1) (ci := 3) (v := .ref h) (C := RX6) (T := TX6) (N := 6) hx hb hts in_c_X6_requireRoomFor_X6 hown hK.1 hP 0 rfl rfl 1 (by decide) (hts (.fieldLink RX6 19 "FloorPanels" "house" "LFloorPanels$House;") (by decide +kernel)) (fun _ h9 => h9) rfl dX6_requireRoomFor_6 ?_
  refine cRV (As := []) (rest := [.int (nI lv)]) (v := .int (nI n)) ⟨hx, hb, hml, hown, hts⟩ (c_X1_levels l G h hc n g sk f ) (cwV 0 hts gX6_requireRoomFor_X1_levels rfl rfl rfl (by decide +kernel) ⟨Nat.le_of_ble_eq_true rfl, Nat.le_of_ble_eq_true rfl⟩) (preV_of hK hP hD [1, 2] (by decide) rfl (ci := 1) (q0 := 1) rfl rfl rfl) rfl hl.1 rfl (lv_room (Nat.le_of_ble_eq_true rfl)) dX6_requireRoomFor_9 ⟨Nat.zero_le _, Nat.zero_le _⟩ ?_
  refine bi_le (tgt := 26) hx hb dX6_requireRoomFor_12 (by decide) (nI_i (by omega)) (nI_i (by omega)) (fun c_12 => ?_) (fun c_12 => False.elim (by omega))
  refine lv_aload_n hx hb dX6_requireRoomFor_26 rfl (lv_at hl 0 rfl) ?_
  refine lv_iload_n hx hb dX6_requireRoomFor_27 rfl (lv_at hl 2 rfl) ?_
  refine cRVv (As := [.int (nI k)]) (rest := []) ⟨hx, hb, hml, hown, hts⟩ (c_X6_requireKind l G x tx tr hi sl sv h hc n g sk f k (by first | omega | assumption)) (cwV 1 hts gX6_requireRoomFor_X6_requireKind rfl rfl rfl (by decide +kernel) ⟨Nat.le_of_ble_eq_true rfl, Nat.le_of_ble_eq_true rfl⟩) (preV_of hK hP hD [0, 1, 2] (by decide) rfl (ci := 3) (q0 := 0) rfl rfl rfl) rfl hl.1 rfl (lv_room (Nat.le_of_ble_eq_true rfl)) dX6_requireRoomFor_28 ⟨Nat.zero_le _, Nat.zero_le _⟩ ?_
  refine lv_aload_n hx hb dX6_requireRoomFor_31 rfl (lv_at hl 0 rfl) ?_
  refine va_get (D := G.1) (ci := 3) (v := .ref h) (C := RX6) (T := TX6) (N := 6) hx hb hts in_c_X6_requireRoomFor_X6 hown hK.1 hP 0 rfl rfl 1 (by decide) (hts (.fieldLink RX6 19 "FloorPanels" "house" "LFloorPanels$House;") (by decide +kernel)) (fun _ h9 => h9) rfl dX6_requireRoomFor_32 ?_
  refine cRV (As := []) (rest := []) (v := .int (zb (16 ≤ n))) ⟨hx, hb, hml, hown, hts⟩ (c_X1_isFull l G h hc n g sk f (by first | omega | assumption)) (cwV 0 hts gX6_requireRoomFor_X1_isFull rfl rfl rfl (by decide +kernel) ⟨Nat.le_of_ble_eq_true rfl, Nat.le_of_ble_eq_true rfl⟩) (preV_of hK hP hD [1, 2] (by decide) rfl (ci := 1) (q0 := 1) rfl rfl rfl) rfl hl.1 rfl (lv_room (Nat.le_of_ble_eq_true rfl)) dX6_requireRoomFor_35 ⟨Nat.zero_le _, Nat.zero_le _⟩ ?_
  refine bb_eq (tgt := 52) hx hb dX6_requireRoomFor_38 (by decide) (fun c_38 => ?_) (fun c_38 => False.elim (by omega))
  exact R_v hx hb hr hlk dX6_requireRoomFor_52

theorem xi_x_X6_requireRoomFor_l_IOB : ∀ w ∈ (vx_atS RX6 286 xIOB xNMS).filter goodWord, w ∈ wsX6_requireRoomFor := by decide +kernel
theorem in_x_X6_requireRoomFor_l_X6 : ∀ w ∈ wsX60, w ∈ wsX6_requireRoomFor := by decide +kernel
set_option maxHeartbeats 4000000 in
set_option maxRecDepth 100000 in
theorem x_X6_requireRoomFor_l (l : Launch) (hst : l.stackTraces = false) (G : GG) (x : Nat) (tx : Nat) (tr : Nat) (hi : Nat) (sl : Nat) (sv : Nat) (h : Nat) (hc : Nat) (n : Nat) (g : Nat) (sk : Int32) (f : Nat → Int32) (z : Int32) (y : Int32) (h_n : n ≤ 16) (h_nol : ¬ (0 ≤ z.toInt ∧ z.toInt ≤ (n : Int))) : vx_Met l yX6_requireRoomFor wsX6_requireRoomFor ({ frames := 6, cells := 1, slots := 6, locals := 82 } : Room) (va_Pc [.ref x, .int z, .int y] (PBX G [(x, .inr (3, [.ref tx, .ref h, .ref tr, .ref hi, .ref sl, .ref sv])), (h, .inr (1, [.ref hc, .int (nI n), .int (nI g), .int sk])), (hc, .inl (G.2 0, 144, .inl f))])) NQ (XT xIOB) 1 6 (fun _ => False) := by
  refine Met.goX (cc := cX6_requireRoomFor) (maxL := 3) (ret := none) (by decide) rfl (Nat.le_of_ble_eq_true rfl) ?_
  intro p e s m below meth c ls hx hb hr hml hown hts hlk hnt hP hK hD hE hZ hl
  have hown : s.vm.findClass RX6 = some m.cls := hown
  have hl : lv_has ls 3 [(0, .ref x), (1, .int z), (2, .int y)] := hl
  refine lv_iload_n hx hb dX6_requireRoomFor_0 rfl (lv_at hl 1 rfl) ?_
  refine b0_lt (tgt := 15) hx hb dX6_requireRoomFor_1 (by decide) (toI_r _) (fun c_1 => ?_) (fun c_1 => ?_)
  ·
    exact X_throwW (text := "no place for a level") hx hb hst hown xf_IOB (hts (.classLink RX6 282 xIOB) (by decide +kernel)) (hts (.initialized xIOB) (by decide +kernel)) (hE.2.2 (304, "no place for a level") (by decide +kernel)) (fun w hw => hts w (xi_x_X6_requireRoomFor_l_IOB w hw)) xa_IOB xg_IOB hE hZ (hl.1.trans hml.symm) dX6_requireRoomFor_15 dX6_requireRoomFor_18 dX6_requireRoomFor_19 dX6_requireRoomFor_22 dX6_requireRoomFor_25 hnt (Nat.le_of_ble_eq_true rfl) (Nat.le_of_ble_eq_true rfl) (Nat.le_of_ble_eq_true rfl) (Nat.le_of_ble_eq_true rfl) hlk
  ·
    refine lv_iload_n hx hb dX6_requireRoomFor_4 rfl (lv_at hl 1 rfl) ?_
    refine lv_aload_n hx hb dX6_requireRoomFor_5 rfl (lv_at hl 0 rfl) ?_
    refine va_get (D := G.1) (ci := 3) (v := .ref h) (C := RX6) (T := TX6) (N := 6) hx hb hts in_x_X6_requireRoomFor_l_X6 hown hK.1 hP 0 rfl rfl 1 (by decide) (hts (.fieldLink RX6 19 "FloorPanels" "house" "LFloorPanels$House;") (by decide +kernel)) (fun _ h9 => h9) rfl dX6_requireRoomFor_6 ?_
    refine cRV (As := []) (rest := [.int z]) (v := .int (nI n)) ⟨hx, hb, hml, hown, hts⟩ (c_X1_levels l G h hc n g sk f ) (cwV 0 hts gX6_requireRoomFor_X1_levels rfl rfl rfl (by decide +kernel) ⟨Nat.le_of_ble_eq_true rfl, Nat.le_of_ble_eq_true rfl⟩) (preV_of hK hP hD [1, 2] (by decide) rfl (ci := 1) (q0 := 1) rfl rfl rfl) rfl hl.1 rfl (lv_room (Nat.le_of_ble_eq_true rfl)) dX6_requireRoomFor_9 ⟨Nat.zero_le _, Nat.zero_le _⟩ ?_
    refine bi_le (tgt := 26) hx hb dX6_requireRoomFor_12 (by decide) (toI_r _) (nI_i (by omega)) (fun c_12 => False.elim (by omega)) (fun c_12 => ?_)
    exact X_throwW (text := "no place for a level") hx hb hst hown xf_IOB (hts (.classLink RX6 282 xIOB) (by decide +kernel)) (hts (.initialized xIOB) (by decide +kernel)) (hE.2.2 (304, "no place for a level") (by decide +kernel)) (fun w hw => hts w (xi_x_X6_requireRoomFor_l_IOB w hw)) xa_IOB xg_IOB hE hZ (hl.1.trans hml.symm) dX6_requireRoomFor_15 dX6_requireRoomFor_18 dX6_requireRoomFor_19 dX6_requireRoomFor_22 dX6_requireRoomFor_25 hnt (Nat.le_of_ble_eq_true rfl) (Nat.le_of_ble_eq_true rfl) (Nat.le_of_ble_eq_true rfl) (Nat.le_of_ble_eq_true rfl) hlk

theorem in_x_X6_requireRoomFor_k_X6 : ∀ w ∈ wsX60, w ∈ wsX6_requireRoomFor := by decide +kernel
set_option maxHeartbeats 4000000 in
set_option maxRecDepth 100000 in
theorem x_X6_requireRoomFor_k (l : Launch) (hst : l.stackTraces = false) (G : GG) (x : Nat) (tx : Nat) (tr : Nat) (hi : Nat) (sl : Nat) (sv : Nat) (h : Nat) (hc : Nat) (n : Nat) (g : Nat) (sk : Int32) (f : Nat → Int32) (lv : Nat) (y : Int32) (h_n : n ≤ 16) (h_lv : lv ≤ n) (h_nok : ¬ (0 ≤ y.toInt ∧ y.toInt < 4)) : vx_Met l yX6_requireRoomFor wsX6_requireRoomFor ({ frames := 7, cells := 1, slots := 6, locals := 103 } : Room) (va_Pc [.ref x, .int (nI lv), .int y] (PBX G [(x, .inr (3, [.ref tx, .ref h, .ref tr, .ref hi, .ref sl, .ref sv])), (h, .inr (1, [.ref hc, .int (nI n), .int (nI g), .int sk])), (hc, .inl (G.2 0, 144, .inl f))])) NQ (XT xIAE) 1 6 (fun _ => False) := by
  refine Met.goX (cc := cX6_requireRoomFor) (maxL := 3) (ret := none) (by decide) rfl (Nat.le_of_ble_eq_true rfl) ?_
  intro p e s m below meth c ls hx hb hr hml hown hts hlk hnt hP hK hD hE hZ hl
  have hown : s.vm.findClass RX6 = some m.cls := hown
  have hl : lv_has ls 3 [(0, .ref x), (1, .int (nI lv)), (2, .int y)] := hl
  refine lv_iload_n hx hb dX6_requireRoomFor_0 rfl (lv_at hl 1 rfl) ?_
  refine b0_lt (tgt := 15) hx hb dX6_requireRoomFor_1 (by decide) (nI_i (by omega)) (fun c_1 => False.elim (by omega)) (fun c_1 => ?_)
  refine lv_iload_n hx hb dX6_requireRoomFor_4 rfl (lv_at hl 1 rfl) ?_
  refine lv_aload_n hx hb dX6_requireRoomFor_5 rfl (lv_at hl 0 rfl) ?_
  refine va_get (D := G.1) (ci := 3) (v := .ref h) (C := RX6) (T := TX6) (N := 6) hx hb hts in_x_X6_requireRoomFor_k_X6 hown hK.1 hP 0 rfl rfl 1 (by decide) (hts (.fieldLink RX6 19 "FloorPanels" "house" "LFloorPanels$House;") (by decide +kernel)) (fun _ h9 => h9) rfl dX6_requireRoomFor_6 ?_
  refine cRV (As := []) (rest := [.int (nI lv)]) (v := .int (nI n)) ⟨hx, hb, hml, hown, hts⟩ (c_X1_levels l G h hc n g sk f ) (cwV 0 hts gX6_requireRoomFor_X1_levels rfl rfl rfl (by decide +kernel) ⟨Nat.le_of_ble_eq_true rfl, Nat.le_of_ble_eq_true rfl⟩) (preV_of hK hP hD [1, 2] (by decide) rfl (ci := 1) (q0 := 1) rfl rfl rfl) rfl hl.1 rfl (lv_room (Nat.le_of_ble_eq_true rfl)) dX6_requireRoomFor_9 ⟨Nat.zero_le _, Nat.zero_le _⟩ ?_
  refine bi_le (tgt := 26) hx hb dX6_requireRoomFor_12 (by decide) (nI_i (by omega)) (nI_i (by omega)) (fun c_12 => ?_) (fun c_12 => False.elim (by omega))
  refine lv_aload_n hx hb dX6_requireRoomFor_26 rfl (lv_at hl 0 rfl) ?_
  refine lv_iload_n hx hb dX6_requireRoomFor_27 rfl (lv_at hl 2 rfl) ?_
  exact cXV (As := [.int y]) (rest := []) ⟨hx, hb, hml, hown, hts⟩ (x_X6_requireKind l hst G x tx tr hi sl sv h hc n g sk f y (by first | omega | assumption)) (cwV 1 hts gX6_requireRoomFor_X6_requireKind rfl rfl rfl (by decide +kernel) ⟨Nat.le_of_ble_eq_true rfl, Nat.le_of_ble_eq_true rfl⟩) (preVX_of (preV_of hK hP hD [0, 1, 2] (by decide) rfl (ci := 3) (q0 := 0) rfl rfl rfl) hE hZ) rfl hl.1 rfl (lv_room (Nat.le_of_ble_eq_true rfl)) dX6_requireRoomFor_28 ⟨Nat.le_of_ble_eq_true rfl, Nat.le_of_ble_eq_true rfl⟩ hnt hlk

theorem xi_x_X6_requireRoomFor_f_ISE : ∀ w ∈ (vx_atS RX6 56 xISE xNMS).filter goodWord, w ∈ wsX6_requireRoomFor := by decide +kernel
theorem in_x_X6_requireRoomFor_f_X6 : ∀ w ∈ wsX60, w ∈ wsX6_requireRoomFor := by decide +kernel
set_option maxHeartbeats 4000000 in
set_option maxRecDepth 100000 in
theorem x_X6_requireRoomFor_f (l : Launch) (hst : l.stackTraces = false) (G : GG) (x : Nat) (tx : Nat) (tr : Nat) (hi : Nat) (sl : Nat) (sv : Nat) (h : Nat) (hc : Nat) (n : Nat) (g : Nat) (sk : Int32) (f : Nat → Int32) (lv : Nat) (k : Nat) (h_n : n ≤ 16) (h_lv : lv ≤ n) (h_k : k < 4) (h_f16 : 16 ≤ n) : vx_Met l yX6_requireRoomFor wsX6_requireRoomFor ({ frames := 6, cells := 1, slots := 6, locals := 82 } : Room) (va_Pc [.ref x, .int (nI lv), .int (nI k)] (PBX G [(x, .inr (3, [.ref tx, .ref h, .ref tr, .ref hi, .ref sl, .ref sv])), (h, .inr (1, [.ref hc, .int (nI n), .int (nI g), .int sk])), (hc, .inl (G.2 0, 144, .inl f))])) NQ (XT xISE) 1 6 (fun _ => False) := by
  refine Met.goX (cc := cX6_requireRoomFor) (maxL := 3) (ret := none) (by decide) rfl (Nat.le_of_ble_eq_true rfl) ?_
  intro p e s m below meth c ls hx hb hr hml hown hts hlk hnt hP hK hD hE hZ hl
  have hown : s.vm.findClass RX6 = some m.cls := hown
  have hl : lv_has ls 3 [(0, .ref x), (1, .int (nI lv)), (2, .int (nI k))] := hl
  refine lv_iload_n hx hb dX6_requireRoomFor_0 rfl (lv_at hl 1 rfl) ?_
  refine b0_lt (tgt := 15) hx hb dX6_requireRoomFor_1 (by decide) (nI_i (by omega)) (fun c_1 => False.elim (by omega)) (fun c_1 => ?_)
  refine lv_iload_n hx hb dX6_requireRoomFor_4 rfl (lv_at hl 1 rfl) ?_
  refine lv_aload_n hx hb dX6_requireRoomFor_5 rfl (lv_at hl 0 rfl) ?_
  refine va_get (D := G.1) (ci := 3) (v := .ref h) (C := RX6) (T := TX6) (N := 6) hx hb hts in_x_X6_requireRoomFor_f_X6 hown hK.1 hP 0 rfl rfl 1 (by decide) (hts (.fieldLink RX6 19 "FloorPanels" "house" "LFloorPanels$House;") (by decide +kernel)) (fun _ h9 => h9) rfl dX6_requireRoomFor_6 ?_
  refine cRV (As := []) (rest := [.int (nI lv)]) (v := .int (nI n)) ⟨hx, hb, hml, hown, hts⟩ (c_X1_levels l G h hc n g sk f ) (cwV 0 hts gX6_requireRoomFor_X1_levels rfl rfl rfl (by decide +kernel) ⟨Nat.le_of_ble_eq_true rfl, Nat.le_of_ble_eq_true rfl⟩) (preV_of hK hP hD [1, 2] (by decide) rfl (ci := 1) (q0 := 1) rfl rfl rfl) rfl hl.1 rfl (lv_room (Nat.le_of_ble_eq_true rfl)) dX6_requireRoomFor_9 ⟨Nat.zero_le _, Nat.zero_le _⟩ ?_
  refine bi_le (tgt := 26) hx hb dX6_requireRoomFor_12 (by decide) (nI_i (by omega)) (nI_i (by omega)) (fun c_12 => ?_) (fun c_12 => False.elim (by omega))
  refine lv_aload_n hx hb dX6_requireRoomFor_26 rfl (lv_at hl 0 rfl) ?_
  refine lv_iload_n hx hb dX6_requireRoomFor_27 rfl (lv_at hl 2 rfl) ?_
  refine cRVv (As := [.int (nI k)]) (rest := []) ⟨hx, hb, hml, hown, hts⟩ (c_X6_requireKind l G x tx tr hi sl sv h hc n g sk f k (by first | omega | assumption)) (cwV 1 hts gX6_requireRoomFor_X6_requireKind rfl rfl rfl (by decide +kernel) ⟨Nat.le_of_ble_eq_true rfl, Nat.le_of_ble_eq_true rfl⟩) (preV_of hK hP hD [0, 1, 2] (by decide) rfl (ci := 3) (q0 := 0) rfl rfl rfl) rfl hl.1 rfl (lv_room (Nat.le_of_ble_eq_true rfl)) dX6_requireRoomFor_28 ⟨Nat.zero_le _, Nat.zero_le _⟩ ?_
  refine lv_aload_n hx hb dX6_requireRoomFor_31 rfl (lv_at hl 0 rfl) ?_
  refine va_get (D := G.1) (ci := 3) (v := .ref h) (C := RX6) (T := TX6) (N := 6) hx hb hts in_x_X6_requireRoomFor_f_X6 hown hK.1 hP 0 rfl rfl 1 (by decide) (hts (.fieldLink RX6 19 "FloorPanels" "house" "LFloorPanels$House;") (by decide +kernel)) (fun _ h9 => h9) rfl dX6_requireRoomFor_32 ?_
  refine cRV (As := []) (rest := []) (v := .int (zb (16 ≤ n))) ⟨hx, hb, hml, hown, hts⟩ (c_X1_isFull l G h hc n g sk f (by first | omega | assumption)) (cwV 0 hts gX6_requireRoomFor_X1_isFull rfl rfl rfl (by decide +kernel) ⟨Nat.le_of_ble_eq_true rfl, Nat.le_of_ble_eq_true rfl⟩) (preV_of hK hP hD [1, 2] (by decide) rfl (ci := 1) (q0 := 1) rfl rfl rfl) rfl hl.1 rfl (lv_room (Nat.le_of_ble_eq_true rfl)) dX6_requireRoomFor_35 ⟨Nat.zero_le _, Nat.zero_le _⟩ ?_
  refine bb_eq (tgt := 52) hx hb dX6_requireRoomFor_38 (by decide) (fun c_38 => False.elim (by omega)) (fun c_38 => ?_)
  exact X_throwW (text := "the house is full") hx hb hst hown xf_ISE (hts (.classLink RX6 52 xISE) (by decide +kernel)) (hts (.initialized xISE) (by decide +kernel)) (hE.2.2 (307, "the house is full") (by decide +kernel)) (fun w hw => hts w (xi_x_X6_requireRoomFor_f_ISE w hw)) xa_ISE xg_ISE hE hZ (hl.1.trans hml.symm) dX6_requireRoomFor_41 dX6_requireRoomFor_44 dX6_requireRoomFor_45 dX6_requireRoomFor_48 dX6_requireRoomFor_51 hnt (Nat.le_of_ble_eq_true rfl) (Nat.le_of_ble_eq_true rfl) (Nat.le_of_ble_eq_true rfl) (Nat.le_of_ble_eq_true rfl) hlk

theorem in_c_X6_about_0_X6 : ∀ w ∈ wsX60, w ∈ wsX6_about := by decide +kernel
set_option maxHeartbeats 4000000 in
set_option maxRecDepth 100000 in
theorem c_X6_about_0 (l : Launch) (G : GG) (x : Nat) (tx : Nat) (tr : Nat) (hi : Nat) (sl : Nat) (sv : Nat) (h : Nat) (hc : Nat) (n : Nat) (g : Nat) (sk : Int32) (f : Nat → Int32) (h_n : n ≤ 16) : Met l yX6_about wsX6_about ({ frames := 1, cells := 0, slots := 0, locals := 20 } : Room) (va_Pc [.ref x, .int (nI 0)] (PB G [(x, .inr (3, [.ref tx, .ref h, .ref tr, .ref hi, .ref sl, .ref sv])), (h, .inr (1, [.ref hc, .int (nI n), .int (nI g), .int sk])), (hc, .inl (G.2 0, 144, .inl f))])) (QR (some (.int (nI n)))) 0 0 (fun _ => False) := by
  refine Met.go (cc := cX6_about) (maxL := 2) (ret := (some .int)) (by decide) rfl (Nat.le_of_ble_eq_true rfl) ?_
  intro p e s m below meth c ls hx hb hr hml hown hts hlk hP hK hD hS hl
  have hown : s.vm.findClass RX6 = some m.cls := hown
  have hl : lv_has ls 2 [(0, .ref x), (1, .int (nI 0))] := hl
  refine lv_iload_n hx hb dX6_about_0 rfl (lv_at hl 1 rfl) ?_
  refine lv_tableIn (off := 51) (tgt := 52) hx hb dX6_about_1 (by decide) (by decide) (by decide) (by decide) ?_
  refine lv_aload_n hx hb dX6_about_52 rfl (lv_at hl 0 rfl) ?_
  refine va_get (D := G.1) (ci := 3) (v := .ref h) (C := RX6) (T := TX6) (N := 6) hx hb hts in_c_X6_about_0_X6 hown hK.1 hP 0 rfl rfl 1 (by decide) (hts (.fieldLink RX6 19 "FloorPanels" "house" "LFloorPanels$House;") (by decide +kernel)) (fun _ h9 => h9) rfl dX6_about_53 ?_
  refine cRV (As := []) (rest := []) (v := .int (nI n)) ⟨hx, hb, hml, hown, hts⟩ (c_X1_levels l G h hc n g sk f ) (cwV 0 hts gX6_about_X1_levels rfl rfl rfl (by decide +kernel) ⟨Nat.le_of_ble_eq_true rfl, Nat.le_of_ble_eq_true rfl⟩) (preV_of hK hP hD [1, 2] (by decide) rfl (ci := 1) (q0 := 1) rfl rfl rfl) rfl hl.1 rfl (lv_room (Nat.le_of_ble_eq_true rfl)) dX6_about_56 ⟨Nat.zero_le _, Nat.zero_le _⟩ ?_
  exact R_i hx hb hr hlk dX6_about_59 (rfl)

theorem in_c_X6_about_1_X6 : ∀ w ∈ wsX60, w ∈ wsX6_about := by decide +kernel
set_option maxHeartbeats 4000000 in
set_option maxRecDepth 100000 in
theorem c_X6_about_1 (l : Launch) (G : GG) (x : Nat) (tx : Nat) (tr : Nat) (hi : Nat) (sl : Nat) (sv : Nat) (h : Nat) (hc : Nat) (n : Nat) (g : Nat) (sk : Int32) (f : Nat → Int32) (h_n : n ≤ 16) : Met l yX6_about wsX6_about ({ frames := 1, cells := 0, slots := 0, locals := 20 } : Room) (va_Pc [.ref x, .int (nI 1)] (PB G [(x, .inr (3, [.ref tx, .ref h, .ref tr, .ref hi, .ref sl, .ref sv])), (h, .inr (1, [.ref hc, .int (nI n), .int (nI g), .int sk])), (hc, .inl (G.2 0, 144, .inl f))])) (QR (some (.int (nI g)))) 0 0 (fun _ => False) := by
  refine Met.go (cc := cX6_about) (maxL := 2) (ret := (some .int)) (by decide) rfl (Nat.le_of_ble_eq_true rfl) ?_
  intro p e s m below meth c ls hx hb hr hml hown hts hlk hP hK hD hS hl
  have hown : s.vm.findClass RX6 = some m.cls := hown
  have hl : lv_has ls 2 [(0, .ref x), (1, .int (nI 1))] := hl
  refine lv_iload_n hx hb dX6_about_0 rfl (lv_at hl 1 rfl) ?_
  refine lv_tableIn (off := 59) (tgt := 60) hx hb dX6_about_1 (by decide) (by decide) (by decide) (by decide) ?_
  refine lv_aload_n hx hb dX6_about_60 rfl (lv_at hl 0 rfl) ?_
  refine va_get (D := G.1) (ci := 3) (v := .ref h) (C := RX6) (T := TX6) (N := 6) hx hb hts in_c_X6_about_1_X6 hown hK.1 hP 0 rfl rfl 1 (by decide) (hts (.fieldLink RX6 19 "FloorPanels" "house" "LFloorPanels$House;") (by decide +kernel)) (fun _ h9 => h9) rfl dX6_about_61 ?_
  refine cRV (As := []) (rest := []) (v := .int (nI g)) ⟨hx, hb, hml, hown, hts⟩ (c_X1_groundLevel l G h hc n g sk f ) (cwV 0 hts gX6_about_X1_groundLevel rfl rfl rfl (by decide +kernel) ⟨Nat.le_of_ble_eq_true rfl, Nat.le_of_ble_eq_true rfl⟩) (preV_of hK hP hD [1, 2] (by decide) rfl (ci := 1) (q0 := 1) rfl rfl rfl) rfl hl.1 rfl (lv_room (Nat.le_of_ble_eq_true rfl)) dX6_about_64 ⟨Nat.zero_le _, Nat.zero_le _⟩ ?_
  exact R_i hx hb hr hlk dX6_about_67 (rfl)

theorem in_c_X6_about_2_X6 : ∀ w ∈ wsX60, w ∈ wsX6_about := by decide +kernel
set_option maxHeartbeats 4000000 in
set_option maxRecDepth 100000 in
theorem c_X6_about_2 (l : Launch) (G : GG) (x : Nat) (tx : Nat) (tr : Nat) (hi : Nat) (sl : Nat) (sv : Nat) (h : Nat) (hc : Nat) (n : Nat) (g : Nat) (sk : Int32) (f : Nat → Int32) (h_n : n ≤ 16) : Met l yX6_about wsX6_about ({ frames := 4, cells := 0, slots := 0, locals := 87 } : Room) (va_Pc [.ref x, .int (nI 2)] (PB G [(x, .inr (3, [.ref tx, .ref h, .ref tr, .ref hi, .ref sl, .ref sv])), (h, .inr (1, [.ref hc, .int (nI n), .int (nI g), .int sk])), (hc, .inl (G.2 0, 144, .inl f))])) (QR (some (.int (nI (wr f 2 n))))) 0 0 (fun _ => False) := by
  refine Met.go (cc := cX6_about) (maxL := 2) (ret := (some .int)) (by decide) rfl (Nat.le_of_ble_eq_true rfl) ?_
  intro p e s m below meth c ls hx hb hr hml hown hts hlk hP hK hD hS hl
  have hown : s.vm.findClass RX6 = some m.cls := hown
  have hl : lv_has ls 2 [(0, .ref x), (1, .int (nI 2))] := hl
  refine lv_iload_n hx hb dX6_about_0 rfl (lv_at hl 1 rfl) ?_
  refine lv_tableIn (off := 67) (tgt := 68) hx hb dX6_about_1 (by decide) (by decide) (by decide) (by decide) ?_
  refine lv_aload_n hx hb dX6_about_68 rfl (lv_at hl 0 rfl) ?_
  refine va_get (D := G.1) (ci := 3) (v := .ref h) (C := RX6) (T := TX6) (N := 6) hx hb hts in_c_X6_about_2_X6 hown hK.1 hP 0 rfl rfl 1 (by decide) (hts (.fieldLink RX6 19 "FloorPanels" "house" "LFloorPanels$House;") (by decide +kernel)) (fun _ h9 => h9) rfl dX6_about_69 ?_
  refine cRV (As := []) (rest := []) (v := .int (nI (wr f 2 n))) ⟨hx, hb, hml, hown, hts⟩ (c_X1_wrongSigns l G h hc n g sk f (by first | omega | assumption)) (cwV 0 hts gX6_about_X1_wrongSigns rfl rfl rfl (by decide +kernel) ⟨Nat.le_of_ble_eq_true rfl, Nat.le_of_ble_eq_true rfl⟩) (preV_of hK hP hD [1, 2] (by decide) rfl (ci := 1) (q0 := 1) rfl rfl rfl) rfl hl.1 rfl (lv_room (Nat.le_of_ble_eq_true rfl)) dX6_about_72 ⟨Nat.zero_le _, Nat.zero_le _⟩ ?_
  exact R_i hx hb hr hlk dX6_about_75 (rfl)

theorem in_c_X6_about_3_X6 : ∀ w ∈ wsX60, w ∈ wsX6_about := by decide +kernel
set_option maxHeartbeats 4000000 in
set_option maxRecDepth 100000 in
theorem c_X6_about_3 (l : Launch) (G : GG) (x : Nat) (tx : Nat) (tr : Nat) (hi : Nat) (sl : Nat) (sv : Nat) (h : Nat) (hc : Nat) (n : Nat) (g : Nat) (sk : Int32) (f : Nat → Int32) (h_n : n ≤ 16) : Met l yX6_about wsX6_about ({ frames := 4, cells := 0, slots := 0, locals := 89 } : Room) (va_Pc [.ref x, .int (nI 3)] (PB G [(x, .inr (3, [.ref tx, .ref h, .ref tr, .ref hi, .ref sl, .ref sv])), (h, .inr (1, [.ref hc, .int (nI n), .int (nI g), .int sk])), (hc, .inl (G.2 0, 144, .inl f))])) (QR (some (.int (nI (wr f 3 n + wr f 4 n + wr f 5 n))))) 0 0 (fun _ => False) := by
  refine Met.go (cc := cX6_about) (maxL := 2) (ret := (some .int)) (by decide) rfl (Nat.le_of_ble_eq_true rfl) ?_
  intro p e s m below meth c ls hx hb hr hml hown hts hlk hP hK hD hS hl
  have hown : s.vm.findClass RX6 = some m.cls := hown
  have hl : lv_has ls 2 [(0, .ref x), (1, .int (nI 3))] := hl
  refine lv_iload_n hx hb dX6_about_0 rfl (lv_at hl 1 rfl) ?_
  refine lv_tableIn (off := 75) (tgt := 76) hx hb dX6_about_1 (by decide) (by decide) (by decide) (by decide) ?_
  refine lv_aload_n hx hb dX6_about_76 rfl (lv_at hl 0 rfl) ?_
  refine va_get (D := G.1) (ci := 3) (v := .ref h) (C := RX6) (T := TX6) (N := 6) hx hb hts in_c_X6_about_3_X6 hown hK.1 hP 0 rfl rfl 1 (by decide) (hts (.fieldLink RX6 19 "FloorPanels" "house" "LFloorPanels$House;") (by decide +kernel)) (fun _ h9 => h9) rfl dX6_about_77 ?_
  refine cRV (As := []) (rest := []) (v := .int (nI (wr f 3 n + wr f 4 n + wr f 5 n))) ⟨hx, hb, hml, hown, hts⟩ (c_X1_wrongButtons l G h hc n g sk f (by first | omega | assumption)) (cwV 0 hts gX6_about_X1_wrongButtons rfl rfl rfl (by decide +kernel) ⟨Nat.le_of_ble_eq_true rfl, Nat.le_of_ble_eq_true rfl⟩) (preV_of hK hP hD [1, 2] (by decide) rfl (ci := 1) (q0 := 1) rfl rfl rfl) rfl hl.1 rfl (lv_room (Nat.le_of_ble_eq_true rfl)) dX6_about_80 ⟨Nat.zero_le _, Nat.zero_le _⟩ ?_
  exact R_i hx hb hr hlk dX6_about_83 (rfl)

theorem in_c_X6_about_4_X6 : ∀ w ∈ wsX60, w ∈ wsX6_about := by decide +kernel
set_option maxHeartbeats 4000000 in
set_option maxRecDepth 100000 in
theorem c_X6_about_4 (l : Launch) (G : GG) (x : Nat) (tx : Nat) (tr : Nat) (hi : Nat) (sl : Nat) (sv : Nat) (h : Nat) (hc : Nat) (n : Nat) (g : Nat) (sk : Int32) (f : Nat → Int32) (h_n : n ≤ 16) : Met l yX6_about wsX6_about ({ frames := 3, cells := 0, slots := 0, locals := 65 } : Room) (va_Pc [.ref x, .int (nI 4)] (PB G [(x, .inr (3, [.ref tx, .ref h, .ref tr, .ref hi, .ref sl, .ref sv])), (h, .inr (1, [.ref hc, .int (nI n), .int (nI g), .int sk])), (hc, .inl (G.2 0, 144, .inl f))])) (QR (some (.int (nI (ct (fun x_ => f (16 + x_) = -1) n))))) 0 0 (fun _ => False) := by
  refine Met.go (cc := cX6_about) (maxL := 2) (ret := (some .int)) (by decide) rfl (Nat.le_of_ble_eq_true rfl) ?_
  intro p e s m below meth c ls hx hb hr hml hown hts hlk hP hK hD hS hl
  have hown : s.vm.findClass RX6 = some m.cls := hown
  have hl : lv_has ls 2 [(0, .ref x), (1, .int (nI 4))] := hl
  refine lv_iload_n hx hb dX6_about_0 rfl (lv_at hl 1 rfl) ?_
  refine lv_tableIn (off := 83) (tgt := 84) hx hb dX6_about_1 (by decide) (by decide) (by decide) (by decide) ?_
  refine lv_aload_n hx hb dX6_about_84 rfl (lv_at hl 0 rfl) ?_
  refine va_get (D := G.1) (ci := 3) (v := .ref h) (C := RX6) (T := TX6) (N := 6) hx hb hts in_c_X6_about_4_X6 hown hK.1 hP 0 rfl rfl 1 (by decide) (hts (.fieldLink RX6 19 "FloorPanels" "house" "LFloorPanels$House;") (by decide +kernel)) (fun _ h9 => h9) rfl dX6_about_85 ?_
  refine cRV (As := []) (rest := []) (v := .int (nI (ct (fun x_ => f (16 + x_) = -1) n))) ⟨hx, hb, hml, hown, hts⟩ (c_X1_namelessLevels l G h hc n g sk f (by first | omega | assumption)) (cwV 0 hts gX6_about_X1_namelessLevels rfl rfl rfl (by decide +kernel) ⟨Nat.le_of_ble_eq_true rfl, Nat.le_of_ble_eq_true rfl⟩) (preV_of hK hP hD [1, 2] (by decide) rfl (ci := 1) (q0 := 1) rfl rfl rfl) rfl hl.1 rfl (lv_room (Nat.le_of_ble_eq_true rfl)) dX6_about_88 ⟨Nat.zero_le _, Nat.zero_le _⟩ ?_
  exact R_i hx hb hr hlk dX6_about_91 (rfl)

theorem in_c_X6_about_5_X6 : ∀ w ∈ wsX60, w ∈ wsX6_about := by decide +kernel
set_option maxHeartbeats 4000000 in
set_option maxRecDepth 100000 in
theorem c_X6_about_5 (l : Launch) (G : GG) (x : Nat) (tx : Nat) (tr : Nat) (hi : Nat) (sl : Nat) (sv : Nat) (h : Nat) (hc : Nat) (n : Nat) (g : Nat) (sk : Int32) (f : Nat → Int32) (h_n : n ≤ 16) : Met l yX6_about wsX6_about ({ frames := 4, cells := 0, slots := 0, locals := 88 } : Room) (va_Pc [.ref x, .int (nI 5)] (PB G [(x, .inr (3, [.ref tx, .ref h, .ref tr, .ref hi, .ref sl, .ref sv])), (h, .inr (1, [.ref hc, .int (nI n), .int (nI g), .int sk])), (hc, .inl (G.2 0, 144, .inl f))])) (QR (some (.int (nI (ct (fun x_ => 1 < lk f n x_) n))))) 0 0 (fun _ => False) := by
  refine Met.go (cc := cX6_about) (maxL := 2) (ret := (some .int)) (by decide) rfl (Nat.le_of_ble_eq_true rfl) ?_
  intro p e s m below meth c ls hx hb hr hml hown hts hlk hP hK hD hS hl
  have hown : s.vm.findClass RX6 = some m.cls := hown
  have hl : lv_has ls 2 [(0, .ref x), (1, .int (nI 5))] := hl
  refine lv_iload_n hx hb dX6_about_0 rfl (lv_at hl 1 rfl) ?_
  refine lv_tableIn (off := 91) (tgt := 92) hx hb dX6_about_1 (by decide) (by decide) (by decide) (by decide) ?_
  refine lv_aload_n hx hb dX6_about_92 rfl (lv_at hl 0 rfl) ?_
  refine va_get (D := G.1) (ci := 3) (v := .ref h) (C := RX6) (T := TX6) (N := 6) hx hb hts in_c_X6_about_5_X6 hown hK.1 hP 0 rfl rfl 1 (by decide) (hts (.fieldLink RX6 19 "FloorPanels" "house" "LFloorPanels$House;") (by decide +kernel)) (fun _ h9 => h9) rfl dX6_about_93 ?_
  refine cRV (As := []) (rest := []) (v := .int (nI (ct (fun x_ => 1 < lk f n x_) n))) ⟨hx, hb, hml, hown, hts⟩ (c_X1_levelsWithSharedNames l G h hc n g sk f (by first | omega | assumption)) (cwV 0 hts gX6_about_X1_levelsWithSharedNames rfl rfl rfl (by decide +kernel) ⟨Nat.le_of_ble_eq_true rfl, Nat.le_of_ble_eq_true rfl⟩) (preV_of hK hP hD [1, 2] (by decide) rfl (ci := 1) (q0 := 1) rfl rfl rfl) rfl hl.1 rfl (lv_room (Nat.le_of_ble_eq_true rfl)) dX6_about_96 ⟨Nat.zero_le _, Nat.zero_le _⟩ ?_
  exact R_i hx hb hr hlk dX6_about_99 (rfl)

theorem in_c_X6_about_6_X6 : ∀ w ∈ wsX60, w ∈ wsX6_about := by decide +kernel
set_option maxHeartbeats 4000000 in
set_option maxRecDepth 100000 in
theorem c_X6_about_6 (l : Launch) (G : GG) (x : Nat) (tx : Nat) (tr : Nat) (hi : Nat) (sl : Nat) (sv : Nat) (h : Nat) (hc : Nat) (n : Nat) (g : Nat) (sk : Int32) (f : Nat → Int32) (h_n : n ≤ 16) : Met l yX6_about wsX6_about ({ frames := 2, cells := 0, slots := 0, locals := 40 } : Room) (va_Pc [.ref x, .int (nI 6)] (PB G [(x, .inr (3, [.ref tx, .ref h, .ref tr, .ref hi, .ref sl, .ref sv])), (h, .inr (1, [.ref hc, .int (nI n), .int (nI g), .int sk])), (hc, .inl (G.2 0, 144, .inl f))])) (QR (some (.int (bcj sk)))) 0 0 (fun _ => False) := by
  refine Met.go (cc := cX6_about) (maxL := 2) (ret := (some .int)) (by decide) rfl (Nat.le_of_ble_eq_true rfl) ?_
  intro p e s m below meth c ls hx hb hr hml hown hts hlk hP hK hD hS hl
  have hown : s.vm.findClass RX6 = some m.cls := hown
  have hl : lv_has ls 2 [(0, .ref x), (1, .int (nI 6))] := hl
  refine lv_iload_n hx hb dX6_about_0 rfl (lv_at hl 1 rfl) ?_
  refine lv_tableIn (off := 99) (tgt := 100) hx hb dX6_about_1 (by decide) (by decide) (by decide) (by decide) ?_
  refine lv_aload_n hx hb dX6_about_100 rfl (lv_at hl 0 rfl) ?_
  refine va_get (D := G.1) (ci := 3) (v := .ref h) (C := RX6) (T := TX6) (N := 6) hx hb hts in_c_X6_about_6_X6 hown hK.1 hP 0 rfl rfl 1 (by decide) (hts (.fieldLink RX6 19 "FloorPanels" "house" "LFloorPanels$House;") (by decide +kernel)) (fun _ h9 => h9) rfl dX6_about_101 ?_
  refine cRV (As := []) (rest := []) (v := .int (bcj sk)) ⟨hx, hb, hml, hown, hts⟩ (c_X1_skippedStoreys l G h hc n g sk f ) (cwV 0 hts gX6_about_X1_skippedStoreys rfl rfl rfl (by decide +kernel) ⟨Nat.le_of_ble_eq_true rfl, Nat.le_of_ble_eq_true rfl⟩) (preV_of hK hP hD [1, 2] (by decide) rfl (ci := 1) (q0 := 1) rfl rfl rfl) rfl hl.1 rfl (lv_room (Nat.le_of_ble_eq_true rfl)) dX6_about_104 ⟨Nat.zero_le _, Nat.zero_le _⟩ ?_
  exact R_i hx hb hr hlk dX6_about_107 (rfl)

theorem in_c_X6_about_7_X6 : ∀ w ∈ wsX60, w ∈ wsX6_about := by decide +kernel
set_option maxHeartbeats 4000000 in
set_option maxRecDepth 100000 in
theorem c_X6_about_7 (l : Launch) (G : GG) (x : Nat) (tx : Nat) (tr : Nat) (hi : Nat) (sl : Nat) (sv : Nat) (h : Nat) (hc : Nat) (n : Nat) (g : Nat) (sk : Int32) (f : Nat → Int32) (h_n : n ≤ 16) (h_g : g < n) (h_nm : Nmd n g sk f) (h_kd : Kds n f) : Met l yX6_about wsX6_about ({ frames := 3, cells := 0, slots := 0, locals := 65 } : Room) (va_Pc [.ref x, .int (nI 7)] (PB G [(x, .inr (3, [.ref tx, .ref h, .ref tr, .ref hi, .ref sl, .ref sv])), (h, .inr (1, [.ref hc, .int (nI n), .int (nI g), .int sk])), (hc, .inl (G.2 0, 144, .inl f))])) (QR (some (.int (zI (mxs (fun x_ => ¬ f (16 + x_) = -1) (fun x_ => sto sk f g x_) n))))) 0 0 (fun _ => False) := by
  refine Met.go (cc := cX6_about) (maxL := 2) (ret := (some .int)) (by decide) rfl (Nat.le_of_ble_eq_true rfl) ?_
  intro p e s m below meth c ls hx hb hr hml hown hts hlk hP hK hD hS hl
  have hown : s.vm.findClass RX6 = some m.cls := hown
  have hl : lv_has ls 2 [(0, .ref x), (1, .int (nI 7))] := hl
  refine lv_iload_n hx hb dX6_about_0 rfl (lv_at hl 1 rfl) ?_
  refine lv_tableIn (off := 107) (tgt := 108) hx hb dX6_about_1 (by decide) (by decide) (by decide) (by decide) ?_
  refine lv_aload_n hx hb dX6_about_108 rfl (lv_at hl 0 rfl) ?_
  refine va_get (D := G.1) (ci := 3) (v := .ref h) (C := RX6) (T := TX6) (N := 6) hx hb hts in_c_X6_about_7_X6 hown hK.1 hP 0 rfl rfl 1 (by decide) (hts (.fieldLink RX6 19 "FloorPanels" "house" "LFloorPanels$House;") (by decide +kernel)) (fun _ h9 => h9) rfl dX6_about_109 ?_
  refine cRV (As := []) (rest := []) (v := .int (zI (mxs (fun x_ => ¬ f (16 + x_) = -1) (fun x_ => sto sk f g x_) n))) ⟨hx, hb, hml, hown, hts⟩ (c_X1_greatestStorey l G h hc n g sk f (by first | omega | assumption) (by first | omega | assumption) (by first | omega | assumption) (by first | omega | assumption)) (cwV 0 hts gX6_about_X1_greatestStorey rfl rfl rfl (by decide +kernel) ⟨Nat.le_of_ble_eq_true rfl, Nat.le_of_ble_eq_true rfl⟩) (preV_of hK hP hD [1, 2] (by decide) rfl (ci := 1) (q0 := 1) rfl rfl rfl) rfl hl.1 rfl (lv_room (Nat.le_of_ble_eq_true rfl)) dX6_about_112 ⟨Nat.zero_le _, Nat.zero_le _⟩ ?_
  exact R_i hx hb hr hlk dX6_about_115 (rfl)

theorem in_c_X6_about_8_X6 : ∀ w ∈ wsX60, w ∈ wsX6_about := by decide +kernel
set_option maxHeartbeats 4000000 in
set_option maxRecDepth 100000 in
theorem c_X6_about_8 (l : Launch) (G : GG) (x : Nat) (tx : Nat) (tr : Nat) (hi : Nat) (sl : Nat) (sv : Nat) (h : Nat) (hc : Nat) (n : Nat) (g : Nat) (sk : Int32) (f : Nat → Int32) (h_n : n ≤ 16) (h_g : g < n) (h_nm : Nmd n g sk f) (h_kd : Kds n f) : Met l yX6_about wsX6_about ({ frames := 3, cells := 0, slots := 0, locals := 65 } : Room) (va_Pc [.ref x, .int (nI 8)] (PB G [(x, .inr (3, [.ref tx, .ref h, .ref tr, .ref hi, .ref sl, .ref sv])), (h, .inr (1, [.ref hc, .int (nI n), .int (nI g), .int sk])), (hc, .inl (G.2 0, 144, .inl f))])) (QR (some (.int (zI (mns (fun x_ => ¬ f (16 + x_) = -1) (fun x_ => sto sk f g x_) n))))) 0 0 (fun _ => False) := by
  refine Met.go (cc := cX6_about) (maxL := 2) (ret := (some .int)) (by decide) rfl (Nat.le_of_ble_eq_true rfl) ?_
  intro p e s m below meth c ls hx hb hr hml hown hts hlk hP hK hD hS hl
  have hown : s.vm.findClass RX6 = some m.cls := hown
  have hl : lv_has ls 2 [(0, .ref x), (1, .int (nI 8))] := hl
  refine lv_iload_n hx hb dX6_about_0 rfl (lv_at hl 1 rfl) ?_
  refine lv_tableIn (off := 115) (tgt := 116) hx hb dX6_about_1 (by decide) (by decide) (by decide) (by decide) ?_
  refine lv_aload_n hx hb dX6_about_116 rfl (lv_at hl 0 rfl) ?_
  refine va_get (D := G.1) (ci := 3) (v := .ref h) (C := RX6) (T := TX6) (N := 6) hx hb hts in_c_X6_about_8_X6 hown hK.1 hP 0 rfl rfl 1 (by decide) (hts (.fieldLink RX6 19 "FloorPanels" "house" "LFloorPanels$House;") (by decide +kernel)) (fun _ h9 => h9) rfl dX6_about_117 ?_
  refine cRV (As := []) (rest := []) (v := .int (zI (mns (fun x_ => ¬ f (16 + x_) = -1) (fun x_ => sto sk f g x_) n))) ⟨hx, hb, hml, hown, hts⟩ (c_X1_leastStorey l G h hc n g sk f (by first | omega | assumption) (by first | omega | assumption) (by first | omega | assumption) (by first | omega | assumption)) (cwV 0 hts gX6_about_X1_leastStorey rfl rfl rfl (by decide +kernel) ⟨Nat.le_of_ble_eq_true rfl, Nat.le_of_ble_eq_true rfl⟩) (preV_of hK hP hD [1, 2] (by decide) rfl (ci := 1) (q0 := 1) rfl rfl rfl) rfl hl.1 rfl (lv_room (Nat.le_of_ble_eq_true rfl)) dX6_about_120 ⟨Nat.zero_le _, Nat.zero_le _⟩ ?_
  exact R_i hx hb hr hlk dX6_about_123 (rfl)

theorem xi_x_X6_about_IAE : ∀ w ∈ (vx_atS RX6 45 xIAE xNMS).filter goodWord, w ∈ wsX6_about := by decide +kernel
set_option maxHeartbeats 4000000 in
set_option maxRecDepth 100000 in
theorem x_X6_about (l : Launch) (hst : l.stackTraces = false) (G : GG) (x : Nat) (tx : Nat) (tr : Nat) (hi : Nat) (sl : Nat) (sv : Nat) (h : Nat) (hc : Nat) (n : Nat) (g : Nat) (sk : Int32) (f : Nat → Int32) (w : Int32) (h_now : ¬ (0 ≤ w.toInt ∧ w.toInt ≤ 8)) : vx_Met l yX6_about wsX6_about ({ frames := 6, cells := 1, slots := 6, locals := 82 } : Room) (va_Pc [.ref x, .int w] (PBX G [(x, .inr (3, [.ref tx, .ref h, .ref tr, .ref hi, .ref sl, .ref sv])), (h, .inr (1, [.ref hc, .int (nI n), .int (nI g), .int sk])), (hc, .inl (G.2 0, 144, .inl f))])) NQ (XT xIAE) 1 6 (fun _ => False) := by
  refine Met.goX (cc := cX6_about) (maxL := 2) (ret := (some .int)) (by decide) rfl (Nat.le_of_ble_eq_true rfl) ?_
  intro p e s m below meth c ls hx hb hr hml hown hts hlk hnt hP hK hD hE hZ hl
  have hown : s.vm.findClass RX6 = some m.cls := hown
  have hl : lv_has ls 2 [(0, .ref x), (1, .int w)] := hl
  refine lv_iload_n hx hb dX6_about_0 rfl (lv_at hl 1 rfl) ?_
  refine lv_tableOut (tgt := 124) hx hb dX6_about_1 (by omega) (by decide) ?_
  exact X_throw (text := "no such number of the house") hx hb hst hown xf_IAE (hts (.classLink RX6 41 xIAE) (by decide +kernel)) (hts (.initialized xIAE) (by decide +kernel)) (hE.2.2 (107, "no such number of the house") (by decide +kernel)) (fun w hw => hts w (xi_x_X6_about_IAE w hw)) xa_IAE xg_IAE hE hZ (hl.1.trans hml.symm) dX6_about_124 dX6_about_127 dX6_about_128 dX6_about_130 dX6_about_133 hnt (Nat.le_of_ble_eq_true rfl) (Nat.le_of_ble_eq_true rfl) (Nat.le_of_ble_eq_true rfl) (Nat.le_of_ble_eq_true rfl) hlk

theorem in_c_X6_level_0_X6 : ∀ w ∈ wsX60, w ∈ wsX6_level := by decide +kernel
set_option maxHeartbeats 4000000 in
set_option maxRecDepth 100000 in
theorem c_X6_level_0 (l : Launch) (G : GG) (x : Nat) (tx : Nat) (tr : Nat) (hi : Nat) (sl : Nat) (sv : Nat) (h : Nat) (hc : Nat) (n : Nat) (g : Nat) (sk : Int32) (f : Nat → Int32) (lv : Nat) (h_n : n ≤ 16) (h_lv : lv < n) : Met l yX6_level wsX6_level ({ frames := 2, cells := 0, slots := 0, locals := 43 } : Room) (va_Pc [.ref x, .int (nI lv), .int (nI 0)] (PB G [(x, .inr (3, [.ref tx, .ref h, .ref tr, .ref hi, .ref sl, .ref sv])), (h, .inr (1, [.ref hc, .int (nI n), .int (nI g), .int sk])), (hc, .inl (G.2 0, 144, .inl f))])) (QR (some (.int (f lv)))) 0 0 (fun _ => False) := by
  refine Met.go (cc := cX6_level) (maxL := 3) (ret := (some .int)) (by decide) rfl (Nat.le_of_ble_eq_true rfl) ?_
  intro p e s m below meth c ls hx hb hr hml hown hts hlk hP hK hD hS hl
  have hown : s.vm.findClass RX6 = some m.cls := hown
  have hl : lv_has ls 3 [(0, .ref x), (1, .int (nI lv)), (2, .int (nI 0))] := hl
  refine lv_aload_n hx hb dX6_level_0 rfl (lv_at hl 0 rfl) ?_
  refine lv_iload_n hx hb dX6_level_1 rfl (lv_at hl 1 rfl) ?_
  refine cRVv (As := [.int (nI lv)]) (rest := []) ⟨hx, hb, hml, hown, hts⟩ (c_X6_requireLevel l G x tx tr hi sl sv h hc n g sk f lv (by first | omega | assumption) (by first | omega | assumption)) (cwV 1 hts gX6_level_X6_requireLevel rfl rfl rfl (by decide +kernel) ⟨Nat.le_of_ble_eq_true rfl, Nat.le_of_ble_eq_true rfl⟩) (preV_of hK hP hD [0, 1, 2] (by decide) rfl (ci := 3) (q0 := 0) rfl rfl rfl) rfl hl.1 rfl (lv_room (Nat.le_of_ble_eq_true rfl)) dX6_level_2 ⟨Nat.zero_le _, Nat.zero_le _⟩ ?_
  refine lv_iload_n hx hb dX6_level_5 rfl (lv_at hl 2 rfl) ?_
  refine lv_tableIn (off := 34) (tgt := 40) hx hb dX6_level_6 (by decide) (by decide) (by decide) (by decide) ?_
  refine lv_aload_n hx hb dX6_level_40 rfl (lv_at hl 0 rfl) ?_
  refine va_get (D := G.1) (ci := 3) (v := .ref h) (C := RX6) (T := TX6) (N := 6) hx hb hts in_c_X6_level_0_X6 hown hK.1 hP 0 rfl rfl 1 (by decide) (hts (.fieldLink RX6 19 "FloorPanels" "house" "LFloorPanels$House;") (by decide +kernel)) (fun _ h9 => h9) rfl dX6_level_41 ?_
  refine lv_iload_n hx hb dX6_level_44 rfl (lv_at hl 1 rfl) ?_
  refine cRV (As := [.int (nI lv)]) (rest := []) (v := .int (f lv)) ⟨hx, hb, hml, hown, hts⟩ (c_X1_kindOf l G h hc n g sk f lv (by first | omega | assumption)) (cwV 1 hts gX6_level_X1_kindOf rfl rfl rfl (by decide +kernel) ⟨Nat.le_of_ble_eq_true rfl, Nat.le_of_ble_eq_true rfl⟩) (preV_of hK hP hD [1, 2] (by decide) rfl (ci := 1) (q0 := 1) rfl rfl rfl) rfl hl.1 rfl (lv_room (Nat.le_of_ble_eq_true rfl)) dX6_level_45 ⟨Nat.zero_le _, Nat.zero_le _⟩ ?_
  exact R_i hx hb hr hlk dX6_level_48 (rfl)

theorem in_c_X6_level_1_X6 : ∀ w ∈ wsX60, w ∈ wsX6_level := by decide +kernel
set_option maxHeartbeats 4000000 in
set_option maxRecDepth 100000 in
theorem c_X6_level_1 (l : Launch) (G : GG) (x : Nat) (tx : Nat) (tr : Nat) (hi : Nat) (sl : Nat) (sv : Nat) (h : Nat) (hc : Nat) (n : Nat) (g : Nat) (sk : Int32) (f : Nat → Int32) (lv : Nat) (h_n : n ≤ 16) (h_lv : lv < n) : Met l yX6_level wsX6_level ({ frames := 2, cells := 0, slots := 0, locals := 43 } : Room) (va_Pc [.ref x, .int (nI lv), .int (nI 1)] (PB G [(x, .inr (3, [.ref tx, .ref h, .ref tr, .ref hi, .ref sl, .ref sv])), (h, .inr (1, [.ref hc, .int (nI n), .int (nI g), .int sk])), (hc, .inl (G.2 0, 144, .inl f))])) (QR (some (.int (f (16 + lv))))) 0 0 (fun _ => False) := by
  refine Met.go (cc := cX6_level) (maxL := 3) (ret := (some .int)) (by decide) rfl (Nat.le_of_ble_eq_true rfl) ?_
  intro p e s m below meth c ls hx hb hr hml hown hts hlk hP hK hD hS hl
  have hown : s.vm.findClass RX6 = some m.cls := hown
  have hl : lv_has ls 3 [(0, .ref x), (1, .int (nI lv)), (2, .int (nI 1))] := hl
  refine lv_aload_n hx hb dX6_level_0 rfl (lv_at hl 0 rfl) ?_
  refine lv_iload_n hx hb dX6_level_1 rfl (lv_at hl 1 rfl) ?_
  refine cRVv (As := [.int (nI lv)]) (rest := []) ⟨hx, hb, hml, hown, hts⟩ (c_X6_requireLevel l G x tx tr hi sl sv h hc n g sk f lv (by first | omega | assumption) (by first | omega | assumption)) (cwV 1 hts gX6_level_X6_requireLevel rfl rfl rfl (by decide +kernel) ⟨Nat.le_of_ble_eq_true rfl, Nat.le_of_ble_eq_true rfl⟩) (preV_of hK hP hD [0, 1, 2] (by decide) rfl (ci := 3) (q0 := 0) rfl rfl rfl) rfl hl.1 rfl (lv_room (Nat.le_of_ble_eq_true rfl)) dX6_level_2 ⟨Nat.zero_le _, Nat.zero_le _⟩ ?_
  refine lv_iload_n hx hb dX6_level_5 rfl (lv_at hl 2 rfl) ?_
  refine lv_tableIn (off := 43) (tgt := 49) hx hb dX6_level_6 (by decide) (by decide) (by decide) (by decide) ?_
  refine lv_aload_n hx hb dX6_level_49 rfl (lv_at hl 0 rfl) ?_
  refine va_get (D := G.1) (ci := 3) (v := .ref h) (C := RX6) (T := TX6) (N := 6) hx hb hts in_c_X6_level_1_X6 hown hK.1 hP 0 rfl rfl 1 (by decide) (hts (.fieldLink RX6 19 "FloorPanels" "house" "LFloorPanels$House;") (by decide +kernel)) (fun _ h9 => h9) rfl dX6_level_50 ?_
  refine lv_iload_n hx hb dX6_level_53 rfl (lv_at hl 1 rfl) ?_
  refine cRV (As := [.int (nI lv)]) (rest := []) (v := .int (f (16 + lv))) ⟨hx, hb, hml, hown, hts⟩ (c_X1_nameOf l G h hc n g sk f lv (by first | omega | assumption)) (cwV 1 hts gX6_level_X1_nameOf rfl rfl rfl (by decide +kernel) ⟨Nat.le_of_ble_eq_true rfl, Nat.le_of_ble_eq_true rfl⟩) (preV_of hK hP hD [1, 2] (by decide) rfl (ci := 1) (q0 := 1) rfl rfl rfl) rfl hl.1 rfl (lv_room (Nat.le_of_ble_eq_true rfl)) dX6_level_54 ⟨Nat.zero_le _, Nat.zero_le _⟩ ?_
  exact R_i hx hb hr hlk dX6_level_57 (rfl)

theorem in_c_X6_level_2_X6 : ∀ w ∈ wsX60, w ∈ wsX6_level := by decide +kernel
set_option maxHeartbeats 4000000 in
set_option maxRecDepth 100000 in
theorem c_X6_level_2 (l : Launch) (G : GG) (x : Nat) (tx : Nat) (tr : Nat) (hi : Nat) (sl : Nat) (sv : Nat) (h : Nat) (hc : Nat) (n : Nat) (g : Nat) (sk : Int32) (f : Nat → Int32) (lv : Nat) (h_n : n ≤ 16) (h_lv : lv < n) : Met l yX6_level wsX6_level ({ frames := 2, cells := 0, slots := 0, locals := 43 } : Room) (va_Pc [.ref x, .int (nI lv), .int (nI 2)] (PB G [(x, .inr (3, [.ref tx, .ref h, .ref tr, .ref hi, .ref sl, .ref sv])), (h, .inr (1, [.ref hc, .int (nI n), .int (nI g), .int sk])), (hc, .inl (G.2 0, 144, .inl f))])) (QR (some (.int (f (32 + lv))))) 0 0 (fun _ => False) := by
  refine Met.go (cc := cX6_level) (maxL := 3) (ret := (some .int)) (by decide) rfl (Nat.le_of_ble_eq_true rfl) ?_
  intro p e s m below meth c ls hx hb hr hml hown hts hlk hP hK hD hS hl
  have hown : s.vm.findClass RX6 = some m.cls := hown
  have hl : lv_has ls 3 [(0, .ref x), (1, .int (nI lv)), (2, .int (nI 2))] := hl
  refine lv_aload_n hx hb dX6_level_0 rfl (lv_at hl 0 rfl) ?_
  refine lv_iload_n hx hb dX6_level_1 rfl (lv_at hl 1 rfl) ?_
  refine cRVv (As := [.int (nI lv)]) (rest := []) ⟨hx, hb, hml, hown, hts⟩ (c_X6_requireLevel l G x tx tr hi sl sv h hc n g sk f lv (by first | omega | assumption) (by first | omega | assumption)) (cwV 1 hts gX6_level_X6_requireLevel rfl rfl rfl (by decide +kernel) ⟨Nat.le_of_ble_eq_true rfl, Nat.le_of_ble_eq_true rfl⟩) (preV_of hK hP hD [0, 1, 2] (by decide) rfl (ci := 3) (q0 := 0) rfl rfl rfl) rfl hl.1 rfl (lv_room (Nat.le_of_ble_eq_true rfl)) dX6_level_2 ⟨Nat.zero_le _, Nat.zero_le _⟩ ?_
  refine lv_iload_n hx hb dX6_level_5 rfl (lv_at hl 2 rfl) ?_
  refine lv_tableIn (off := 52) (tgt := 58) hx hb dX6_level_6 (by decide) (by decide) (by decide) (by decide) ?_
  refine lv_aload_n hx hb dX6_level_58 rfl (lv_at hl 0 rfl) ?_
  refine va_get (D := G.1) (ci := 3) (v := .ref h) (C := RX6) (T := TX6) (N := 6) hx hb hts in_c_X6_level_2_X6 hown hK.1 hP 0 rfl rfl 1 (by decide) (hts (.fieldLink RX6 19 "FloorPanels" "house" "LFloorPanels$House;") (by decide +kernel)) (fun _ h9 => h9) rfl dX6_level_59 ?_
  refine lv_iload_n hx hb dX6_level_62 rfl (lv_at hl 1 rfl) ?_
  refine cRV (As := [.int (nI lv)]) (rest := []) (v := .int (f (32 + lv))) ⟨hx, hb, hml, hown, hts⟩ (c_X1_signAt l G h hc n g sk f lv (by first | omega | assumption)) (cwV 1 hts gX6_level_X1_signAt rfl rfl rfl (by decide +kernel) ⟨Nat.le_of_ble_eq_true rfl, Nat.le_of_ble_eq_true rfl⟩) (preV_of hK hP hD [1, 2] (by decide) rfl (ci := 1) (q0 := 1) rfl rfl rfl) rfl hl.1 rfl (lv_room (Nat.le_of_ble_eq_true rfl)) dX6_level_63 ⟨Nat.zero_le _, Nat.zero_le _⟩ ?_
  exact R_i hx hb hr hlk dX6_level_66 (rfl)

theorem in_c_X6_level_3_X6 : ∀ w ∈ wsX60, w ∈ wsX6_level := by decide +kernel
set_option maxHeartbeats 4000000 in
set_option maxRecDepth 100000 in
theorem c_X6_level_3 (l : Launch) (G : GG) (x : Nat) (tx : Nat) (tr : Nat) (hi : Nat) (sl : Nat) (sv : Nat) (h : Nat) (hc : Nat) (n : Nat) (g : Nat) (sk : Int32) (f : Nat → Int32) (lv : Nat) (h_n : n ≤ 16) (h_lv : lv < n) : Met l yX6_level wsX6_level ({ frames := 3, cells := 0, slots := 0, locals := 65 } : Room) (va_Pc [.ref x, .int (nI lv), .int (nI 3)] (PB G [(x, .inr (3, [.ref tx, .ref h, .ref tr, .ref hi, .ref sl, .ref sv])), (h, .inr (1, [.ref hc, .int (nI n), .int (nI g), .int sk])), (hc, .inl (G.2 0, 144, .inl f))])) (QR (some (.int (zb (f (32 + lv) = f (16 + lv)))))) 0 0 (fun _ => False) := by
  refine Met.go (cc := cX6_level) (maxL := 3) (ret := (some .int)) (by decide) rfl (Nat.le_of_ble_eq_true rfl) ?_
  intro p e s m below meth c ls hx hb hr hml hown hts hlk hP hK hD hS hl
  have hown : s.vm.findClass RX6 = some m.cls := hown
  have hl : lv_has ls 3 [(0, .ref x), (1, .int (nI lv)), (2, .int (nI 3))] := hl
  refine lv_aload_n hx hb dX6_level_0 rfl (lv_at hl 0 rfl) ?_
  refine lv_iload_n hx hb dX6_level_1 rfl (lv_at hl 1 rfl) ?_
  refine cRVv (As := [.int (nI lv)]) (rest := []) ⟨hx, hb, hml, hown, hts⟩ (c_X6_requireLevel l G x tx tr hi sl sv h hc n g sk f lv (by first | omega | assumption) (by first | omega | assumption)) (cwV 1 hts gX6_level_X6_requireLevel rfl rfl rfl (by decide +kernel) ⟨Nat.le_of_ble_eq_true rfl, Nat.le_of_ble_eq_true rfl⟩) (preV_of hK hP hD [0, 1, 2] (by decide) rfl (ci := 3) (q0 := 0) rfl rfl rfl) rfl hl.1 rfl (lv_room (Nat.le_of_ble_eq_true rfl)) dX6_level_2 ⟨Nat.zero_le _, Nat.zero_le _⟩ ?_
  refine lv_iload_n hx hb dX6_level_5 rfl (lv_at hl 2 rfl) ?_
  refine lv_tableIn (off := 61) (tgt := 67) hx hb dX6_level_6 (by decide) (by decide) (by decide) (by decide) ?_
  refine lv_aload_n hx hb dX6_level_67 rfl (lv_at hl 0 rfl) ?_
  refine va_get (D := G.1) (ci := 3) (v := .ref h) (C := RX6) (T := TX6) (N := 6) hx hb hts in_c_X6_level_3_X6 hown hK.1 hP 0 rfl rfl 1 (by decide) (hts (.fieldLink RX6 19 "FloorPanels" "house" "LFloorPanels$House;") (by decide +kernel)) (fun _ h9 => h9) rfl dX6_level_68 ?_
  refine lv_iload_n hx hb dX6_level_71 rfl (lv_at hl 1 rfl) ?_
  refine cRV (As := [.int (nI lv)]) (rest := []) (v := .int (zb (f (32 + lv) = f (16 + lv)))) ⟨hx, hb, hml, hown, hts⟩ (c_X1_isSignRight l G h hc n g sk f lv (by first | omega | assumption)) (cwV 1 hts gX6_level_X1_isSignRight rfl rfl rfl (by decide +kernel) ⟨Nat.le_of_ble_eq_true rfl, Nat.le_of_ble_eq_true rfl⟩) (preV_of hK hP hD [1, 2] (by decide) rfl (ci := 1) (q0 := 1) rfl rfl rfl) rfl hl.1 rfl (lv_room (Nat.le_of_ble_eq_true rfl)) dX6_level_72 ⟨Nat.zero_le _, Nat.zero_le _⟩ ?_
  refine bb_eq (tgt := 82) hx hb dX6_level_75 (by decide) (fun c_75 => ?_) (fun c_75 => ?_)
  ·
    refine lv_iconst (v := zb (f (32 + lv) = f (16 + lv))) hx hb dX6_level_82 (zb_f c_75).symm ?_
    exact R_i hx hb hr hlk dX6_level_83 (rfl)
  ·
    refine lv_iconst (v := zb (f (32 + lv) = f (16 + lv))) hx hb dX6_level_78 (zb_t c_75).symm ?_
    refine lv_goto (tgt := 83) hx hb dX6_level_79 (by decide) ?_
    exact R_i hx hb hr hlk dX6_level_83 (rfl)

theorem in_c_X6_level_4_X6 : ∀ w ∈ wsX60, w ∈ wsX6_level := by decide +kernel
set_option maxHeartbeats 4000000 in
set_option maxRecDepth 100000 in
theorem c_X6_level_4 (l : Launch) (G : GG) (x : Nat) (tx : Nat) (tr : Nat) (hi : Nat) (sl : Nat) (sv : Nat) (h : Nat) (hc : Nat) (n : Nat) (g : Nat) (sk : Int32) (f : Nat → Int32) (lv : Nat) (h_n : n ≤ 16) (h_lv : lv < n) : Met l yX6_level wsX6_level ({ frames := 3, cells := 0, slots := 0, locals := 66 } : Room) (va_Pc [.ref x, .int (nI lv), .int (nI 4)] (PB G [(x, .inr (3, [.ref tx, .ref h, .ref tr, .ref hi, .ref sl, .ref sv])), (h, .inr (1, [.ref hc, .int (nI n), .int (nI g), .int sk])), (hc, .inl (G.2 0, 144, .inl f))])) (QR (some (.int (nI (lk f n lv))))) 0 0 (fun _ => False) := by
  refine Met.go (cc := cX6_level) (maxL := 3) (ret := (some .int)) (by decide) rfl (Nat.le_of_ble_eq_true rfl) ?_
  intro p e s m below meth c ls hx hb hr hml hown hts hlk hP hK hD hS hl
  have hown : s.vm.findClass RX6 = some m.cls := hown
  have hl : lv_has ls 3 [(0, .ref x), (1, .int (nI lv)), (2, .int (nI 4))] := hl
  refine lv_aload_n hx hb dX6_level_0 rfl (lv_at hl 0 rfl) ?_
  refine lv_iload_n hx hb dX6_level_1 rfl (lv_at hl 1 rfl) ?_
  refine cRVv (As := [.int (nI lv)]) (rest := []) ⟨hx, hb, hml, hown, hts⟩ (c_X6_requireLevel l G x tx tr hi sl sv h hc n g sk f lv (by first | omega | assumption) (by first | omega | assumption)) (cwV 1 hts gX6_level_X6_requireLevel rfl rfl rfl (by decide +kernel) ⟨Nat.le_of_ble_eq_true rfl, Nat.le_of_ble_eq_true rfl⟩) (preV_of hK hP hD [0, 1, 2] (by decide) rfl (ci := 3) (q0 := 0) rfl rfl rfl) rfl hl.1 rfl (lv_room (Nat.le_of_ble_eq_true rfl)) dX6_level_2 ⟨Nat.zero_le _, Nat.zero_le _⟩ ?_
  refine lv_iload_n hx hb dX6_level_5 rfl (lv_at hl 2 rfl) ?_
  refine lv_tableIn (off := 78) (tgt := 84) hx hb dX6_level_6 (by decide) (by decide) (by decide) (by decide) ?_
  refine lv_aload_n hx hb dX6_level_84 rfl (lv_at hl 0 rfl) ?_
  refine va_get (D := G.1) (ci := 3) (v := .ref h) (C := RX6) (T := TX6) (N := 6) hx hb hts in_c_X6_level_4_X6 hown hK.1 hP 0 rfl rfl 1 (by decide) (hts (.fieldLink RX6 19 "FloorPanels" "house" "LFloorPanels$House;") (by decide +kernel)) (fun _ h9 => h9) rfl dX6_level_85 ?_
  refine lv_iload_n hx hb dX6_level_88 rfl (lv_at hl 1 rfl) ?_
  refine cRV (As := [.int (nI lv)]) (rest := []) (v := .int (nI (lk f n lv))) ⟨hx, hb, hml, hown, hts⟩ (c_X1_levelsNamedLike l G h hc n g sk f lv (by first | omega | assumption) (by first | omega | assumption)) (cwV 1 hts gX6_level_X1_levelsNamedLike rfl rfl rfl (by decide +kernel) ⟨Nat.le_of_ble_eq_true rfl, Nat.le_of_ble_eq_true rfl⟩) (preV_of hK hP hD [1, 2] (by decide) rfl (ci := 1) (q0 := 1) rfl rfl rfl) rfl hl.1 rfl (lv_room (Nat.le_of_ble_eq_true rfl)) dX6_level_89 ⟨Nat.zero_le _, Nat.zero_le _⟩ ?_
  exact R_i hx hb hr hlk dX6_level_92 (rfl)

set_option maxHeartbeats 4000000 in
set_option maxRecDepth 100000 in
theorem x_X6_level_l (l : Launch) (hst : l.stackTraces = false) (G : GG) (x : Nat) (tx : Nat) (tr : Nat) (hi : Nat) (sl : Nat) (sv : Nat) (h : Nat) (hc : Nat) (n : Nat) (g : Nat) (sk : Int32) (f : Nat → Int32) (z : Int32) (w : Int32) (h_n : n ≤ 16) (h_nol : ¬ (0 ≤ z.toInt ∧ z.toInt < (n : Int))) : vx_Met l yX6_level wsX6_level ({ frames := 7, cells := 1, slots := 6, locals := 103 } : Room) (va_Pc [.ref x, .int z, .int w] (PBX G [(x, .inr (3, [.ref tx, .ref h, .ref tr, .ref hi, .ref sl, .ref sv])), (h, .inr (1, [.ref hc, .int (nI n), .int (nI g), .int sk])), (hc, .inl (G.2 0, 144, .inl f))])) NQ (XT xIOB) 1 6 (fun _ => False) := by
  refine Met.goX (cc := cX6_level) (maxL := 3) (ret := (some .int)) (by decide) rfl (Nat.le_of_ble_eq_true rfl) ?_
  intro p e s m below meth c ls hx hb hr hml hown hts hlk hnt hP hK hD hE hZ hl
  have hown : s.vm.findClass RX6 = some m.cls := hown
  have hl : lv_has ls 3 [(0, .ref x), (1, .int z), (2, .int w)] := hl
  refine lv_aload_n hx hb dX6_level_0 rfl (lv_at hl 0 rfl) ?_
  refine lv_iload_n hx hb dX6_level_1 rfl (lv_at hl 1 rfl) ?_
  exact cXV (As := [.int z]) (rest := []) ⟨hx, hb, hml, hown, hts⟩ (x_X6_requireLevel l hst G x tx tr hi sl sv h hc n g sk f z (by first | omega | assumption) (by first | omega | assumption)) (cwV 1 hts gX6_level_X6_requireLevel rfl rfl rfl (by decide +kernel) ⟨Nat.le_of_ble_eq_true rfl, Nat.le_of_ble_eq_true rfl⟩) (preVX_of (preV_of hK hP hD [0, 1, 2] (by decide) rfl (ci := 3) (q0 := 0) rfl rfl rfl) hE hZ) rfl hl.1 rfl (lv_room (Nat.le_of_ble_eq_true rfl)) dX6_level_2 ⟨Nat.le_of_ble_eq_true rfl, Nat.le_of_ble_eq_true rfl⟩ hnt hlk

theorem xi_x_X6_level_w_IAE : ∀ w ∈ (vx_atS RX6 45 xIAE xNMS).filter goodWord, w ∈ wsX6_level := by decide +kernel
set_option maxHeartbeats 4000000 in
set_option maxRecDepth 100000 in
theorem x_X6_level_w (l : Launch) (hst : l.stackTraces = false) (G : GG) (x : Nat) (tx : Nat) (tr : Nat) (hi : Nat) (sl : Nat) (sv : Nat) (h : Nat) (hc : Nat) (n : Nat) (g : Nat) (sk : Int32) (f : Nat → Int32) (lv : Nat) (w : Int32) (h_n : n ≤ 16) (h_lv : lv < n) (h_now : ¬ (0 ≤ w.toInt ∧ w.toInt ≤ 4)) : vx_Met l yX6_level wsX6_level ({ frames := 6, cells := 1, slots := 6, locals := 82 } : Room) (va_Pc [.ref x, .int (nI lv), .int w] (PBX G [(x, .inr (3, [.ref tx, .ref h, .ref tr, .ref hi, .ref sl, .ref sv])), (h, .inr (1, [.ref hc, .int (nI n), .int (nI g), .int sk])), (hc, .inl (G.2 0, 144, .inl f))])) NQ (XT xIAE) 1 6 (fun _ => False) := by
  refine Met.goX (cc := cX6_level) (maxL := 3) (ret := (some .int)) (by decide) rfl (Nat.le_of_ble_eq_true rfl) ?_
  intro p e s m below meth c ls hx hb hr hml hown hts hlk hnt hP hK hD hE hZ hl
  have hown : s.vm.findClass RX6 = some m.cls := hown
  have hl : lv_has ls 3 [(0, .ref x), (1, .int (nI lv)), (2, .int w)] := hl
  refine lv_aload_n hx hb dX6_level_0 rfl (lv_at hl 0 rfl) ?_
  refine lv_iload_n hx hb dX6_level_1 rfl (lv_at hl 1 rfl) ?_
  refine cRVv (As := [.int (nI lv)]) (rest := []) ⟨hx, hb, hml, hown, hts⟩ (c_X6_requireLevel l G x tx tr hi sl sv h hc n g sk f lv (by first | omega | assumption) (by first | omega | assumption)) (cwV 1 hts gX6_level_X6_requireLevel rfl rfl rfl (by decide +kernel) ⟨Nat.le_of_ble_eq_true rfl, Nat.le_of_ble_eq_true rfl⟩) (preV_of hK hP hD [0, 1, 2] (by decide) rfl (ci := 3) (q0 := 0) rfl rfl rfl) rfl hl.1 rfl (lv_room (Nat.le_of_ble_eq_true rfl)) dX6_level_2 ⟨Nat.zero_le _, Nat.zero_le _⟩ ?_
  refine lv_iload_n hx hb dX6_level_5 rfl (lv_at hl 2 rfl) ?_
  refine lv_tableOut (tgt := 93) hx hb dX6_level_6 (by omega) (by decide) ?_
  exact X_throw (text := "no such number of a level") hx hb hst hown xf_IAE (hts (.classLink RX6 41 xIAE) (by decide +kernel)) (hts (.initialized xIAE) (by decide +kernel)) (hE.2.2 (130, "no such number of a level") (by decide +kernel)) (fun w hw => hts w (xi_x_X6_level_w_IAE w hw)) xa_IAE xg_IAE hE hZ (hl.1.trans hml.symm) dX6_level_93 dX6_level_96 dX6_level_97 dX6_level_99 dX6_level_102 hnt (Nat.le_of_ble_eq_true rfl) (Nat.le_of_ble_eq_true rfl) (Nat.le_of_ble_eq_true rfl) (Nat.le_of_ble_eq_true rfl) hlk

theorem in_c_X6_button_0_X6 : ∀ w ∈ wsX60, w ∈ wsX6_button := by decide +kernel
set_option maxHeartbeats 4000000 in
set_option maxRecDepth 100000 in
theorem c_X6_button_0 (l : Launch) (G : GG) (x : Nat) (tx : Nat) (tr : Nat) (hi : Nat) (sl : Nat) (sv : Nat) (h : Nat) (hc : Nat) (n : Nat) (g : Nat) (sk : Int32) (f : Nat → Int32) (ca : Nat) (lv : Nat) (h_n : n ≤ 16) (h_ca : ca < 3) (h_lv : lv < n) : Met l yX6_button wsX6_button ({ frames := 2, cells := 0, slots := 0, locals := 44 } : Room) (va_Pc [.ref x, .int (nI ca), .int (nI lv), .int (nI 0)] (PB G [(x, .inr (3, [.ref tx, .ref h, .ref tr, .ref hi, .ref sl, .ref sv])), (h, .inr (1, [.ref hc, .int (nI n), .int (nI g), .int sk])), (hc, .inl (G.2 0, 144, .inl f))])) (QR (some (.int (f ((3 + ca) * 16 + lv))))) 0 0 (fun _ => False) := by
  refine Met.go (cc := cX6_button) (maxL := 4) (ret := (some .int)) (by decide) rfl (Nat.le_of_ble_eq_true rfl) ?_
  intro p e s m below meth c ls hx hb hr hml hown hts hlk hP hK hD hS hl
  have hown : s.vm.findClass RX6 = some m.cls := hown
  have hl : lv_has ls 4 [(0, .ref x), (1, .int (nI ca)), (2, .int (nI lv)), (3, .int (nI 0))] := hl
  refine lv_aload_n hx hb dX6_button_0 rfl (lv_at hl 0 rfl) ?_
  refine lv_iload_n hx hb dX6_button_1 rfl (lv_at hl 1 rfl) ?_
  refine cRVv (As := [.int (nI ca)]) (rest := []) ⟨hx, hb, hml, hown, hts⟩ (c_X6_requireCar l G x tx tr hi sl sv h hc n g sk f ca (by first | omega | assumption)) (cwV 1 hts gX6_button_X6_requireCar rfl rfl rfl (by decide +kernel) ⟨Nat.le_of_ble_eq_true rfl, Nat.le_of_ble_eq_true rfl⟩) (preV_of hK hP hD [0, 1, 2] (by decide) rfl (ci := 3) (q0 := 0) rfl rfl rfl) rfl hl.1 rfl (lv_room (Nat.le_of_ble_eq_true rfl)) dX6_button_2 ⟨Nat.zero_le _, Nat.zero_le _⟩ ?_
  refine lv_aload_n hx hb dX6_button_5 rfl (lv_at hl 0 rfl) ?_
  refine lv_iload_n hx hb dX6_button_6 rfl (lv_at hl 2 rfl) ?_
  refine cRVv (As := [.int (nI lv)]) (rest := []) ⟨hx, hb, hml, hown, hts⟩ (c_X6_requireLevel l G x tx tr hi sl sv h hc n g sk f lv (by first | omega | assumption) (by first | omega | assumption)) (cwV 1 hts gX6_button_X6_requireLevel rfl rfl rfl (by decide +kernel) ⟨Nat.le_of_ble_eq_true rfl, Nat.le_of_ble_eq_true rfl⟩) (preV_of hK hP hD [0, 1, 2] (by decide) rfl (ci := 3) (q0 := 0) rfl rfl rfl) rfl hl.1 rfl (lv_room (Nat.le_of_ble_eq_true rfl)) dX6_button_7 ⟨Nat.zero_le _, Nat.zero_le _⟩ ?_
  refine lv_iload_n hx hb dX6_button_10 rfl (lv_at hl 3 rfl) ?_
  refine lv_tableIn (off := 25) (tgt := 36) hx hb dX6_button_11 (by decide) (by decide) (by decide) (by decide) ?_
  refine lv_aload_n hx hb dX6_button_36 rfl (lv_at hl 0 rfl) ?_
  refine va_get (D := G.1) (ci := 3) (v := .ref h) (C := RX6) (T := TX6) (N := 6) hx hb hts in_c_X6_button_0_X6 hown hK.1 hP 0 rfl rfl 1 (by decide) (hts (.fieldLink RX6 19 "FloorPanels" "house" "LFloorPanels$House;") (by decide +kernel)) (fun _ h9 => h9) rfl dX6_button_37 ?_
  refine lv_iload_n hx hb dX6_button_40 rfl (lv_at hl 1 rfl) ?_
  refine lv_iload_n hx hb dX6_button_41 rfl (lv_at hl 2 rfl) ?_
  refine cRV (As := [.int (nI ca), .int (nI lv)]) (rest := []) (v := .int (f ((3 + ca) * 16 + lv))) ⟨hx, hb, hml, hown, hts⟩ (c_X1_buttonAt l G h hc n g sk f ca lv (by first | omega | assumption) (by first | omega | assumption)) (cwV 2 hts gX6_button_X1_buttonAt rfl rfl rfl (by decide +kernel) ⟨Nat.le_of_ble_eq_true rfl, Nat.le_of_ble_eq_true rfl⟩) (preV_of hK hP hD [1, 2] (by decide) rfl (ci := 1) (q0 := 1) rfl rfl rfl) rfl hl.1 rfl (lv_room (Nat.le_of_ble_eq_true rfl)) dX6_button_42 ⟨Nat.zero_le _, Nat.zero_le _⟩ ?_
  exact R_i hx hb hr hlk dX6_button_45 (rfl)

theorem in_c_X6_button_1_X6 : ∀ w ∈ wsX60, w ∈ wsX6_button := by decide +kernel
set_option maxHeartbeats 4000000 in
set_option maxRecDepth 100000 in
theorem c_X6_button_1 (l : Launch) (G : GG) (x : Nat) (tx : Nat) (tr : Nat) (hi : Nat) (sl : Nat) (sv : Nat) (h : Nat) (hc : Nat) (n : Nat) (g : Nat) (sk : Int32) (f : Nat → Int32) (ca : Nat) (lv : Nat) (h_n : n ≤ 16) (h_ca : ca < 3) (h_lv : lv < n) : Met l yX6_button wsX6_button ({ frames := 3, cells := 0, slots := 0, locals := 66 } : Room) (va_Pc [.ref x, .int (nI ca), .int (nI lv), .int (nI 1)] (PB G [(x, .inr (3, [.ref tx, .ref h, .ref tr, .ref hi, .ref sl, .ref sv])), (h, .inr (1, [.ref hc, .int (nI n), .int (nI g), .int sk])), (hc, .inl (G.2 0, 144, .inl f))])) (QR (some (.int (zb (f ((3 + ca) * 16 + lv) = f (16 + lv)))))) 0 0 (fun _ => False) := by
  refine Met.go (cc := cX6_button) (maxL := 4) (ret := (some .int)) (by decide) rfl (Nat.le_of_ble_eq_true rfl) ?_
  intro p e s m below meth c ls hx hb hr hml hown hts hlk hP hK hD hS hl
  have hown : s.vm.findClass RX6 = some m.cls := hown
  have hl : lv_has ls 4 [(0, .ref x), (1, .int (nI ca)), (2, .int (nI lv)), (3, .int (nI 1))] := hl
  refine lv_aload_n hx hb dX6_button_0 rfl (lv_at hl 0 rfl) ?_
  refine lv_iload_n hx hb dX6_button_1 rfl (lv_at hl 1 rfl) ?_
  refine cRVv (As := [.int (nI ca)]) (rest := []) ⟨hx, hb, hml, hown, hts⟩ (c_X6_requireCar l G x tx tr hi sl sv h hc n g sk f ca (by first | omega | assumption)) (cwV 1 hts gX6_button_X6_requireCar rfl rfl rfl (by decide +kernel) ⟨Nat.le_of_ble_eq_true rfl, Nat.le_of_ble_eq_true rfl⟩) (preV_of hK hP hD [0, 1, 2] (by decide) rfl (ci := 3) (q0 := 0) rfl rfl rfl) rfl hl.1 rfl (lv_room (Nat.le_of_ble_eq_true rfl)) dX6_button_2 ⟨Nat.zero_le _, Nat.zero_le _⟩ ?_
  refine lv_aload_n hx hb dX6_button_5 rfl (lv_at hl 0 rfl) ?_
  refine lv_iload_n hx hb dX6_button_6 rfl (lv_at hl 2 rfl) ?_
  refine cRVv (As := [.int (nI lv)]) (rest := []) ⟨hx, hb, hml, hown, hts⟩ (c_X6_requireLevel l G x tx tr hi sl sv h hc n g sk f lv (by first | omega | assumption) (by first | omega | assumption)) (cwV 1 hts gX6_button_X6_requireLevel rfl rfl rfl (by decide +kernel) ⟨Nat.le_of_ble_eq_true rfl, Nat.le_of_ble_eq_true rfl⟩) (preV_of hK hP hD [0, 1, 2] (by decide) rfl (ci := 3) (q0 := 0) rfl rfl rfl) rfl hl.1 rfl (lv_room (Nat.le_of_ble_eq_true rfl)) dX6_button_7 ⟨Nat.zero_le _, Nat.zero_le _⟩ ?_
  refine lv_iload_n hx hb dX6_button_10 rfl (lv_at hl 3 rfl) ?_
  refine lv_tableIn (off := 35) (tgt := 46) hx hb dX6_button_11 (by decide) (by decide) (by decide) (by decide) ?_
  refine lv_aload_n hx hb dX6_button_46 rfl (lv_at hl 0 rfl) ?_
  refine va_get (D := G.1) (ci := 3) (v := .ref h) (C := RX6) (T := TX6) (N := 6) hx hb hts in_c_X6_button_1_X6 hown hK.1 hP 0 rfl rfl 1 (by decide) (hts (.fieldLink RX6 19 "FloorPanels" "house" "LFloorPanels$House;") (by decide +kernel)) (fun _ h9 => h9) rfl dX6_button_47 ?_
  refine lv_iload_n hx hb dX6_button_50 rfl (lv_at hl 1 rfl) ?_
  refine lv_iload_n hx hb dX6_button_51 rfl (lv_at hl 2 rfl) ?_
  refine cRV (As := [.int (nI ca), .int (nI lv)]) (rest := []) (v := .int (zb (f ((3 + ca) * 16 + lv) = f (16 + lv)))) ⟨hx, hb, hml, hown, hts⟩ (c_X1_isButtonRight l G h hc n g sk f ca lv (by first | omega | assumption) (by first | omega | assumption)) (cwV 2 hts gX6_button_X1_isButtonRight rfl rfl rfl (by decide +kernel) ⟨Nat.le_of_ble_eq_true rfl, Nat.le_of_ble_eq_true rfl⟩) (preV_of hK hP hD [1, 2] (by decide) rfl (ci := 1) (q0 := 1) rfl rfl rfl) rfl hl.1 rfl (lv_room (Nat.le_of_ble_eq_true rfl)) dX6_button_52 ⟨Nat.zero_le _, Nat.zero_le _⟩ ?_
  refine bb_eq (tgt := 62) hx hb dX6_button_55 (by decide) (fun c_55 => ?_) (fun c_55 => ?_)
  ·
    refine lv_iconst (v := zb (f ((3 + ca) * 16 + lv) = f (16 + lv))) hx hb dX6_button_62 (zb_f c_55).symm ?_
    exact R_i hx hb hr hlk dX6_button_63 (rfl)
  ·
    refine lv_iconst (v := zb (f ((3 + ca) * 16 + lv) = f (16 + lv))) hx hb dX6_button_58 (zb_t c_55).symm ?_
    refine lv_goto (tgt := 63) hx hb dX6_button_59 (by decide) ?_
    exact R_i hx hb hr hlk dX6_button_63 (rfl)

theorem in_c_X6_button_2_X6 : ∀ w ∈ wsX60, w ∈ wsX6_button := by decide +kernel
set_option maxHeartbeats 4000000 in
set_option maxRecDepth 100000 in
theorem c_X6_button_2 (l : Launch) (G : GG) (x : Nat) (tx : Nat) (tr : Nat) (hi : Nat) (sl : Nat) (sv : Nat) (h : Nat) (hc : Nat) (n : Nat) (g : Nat) (sk : Int32) (f : Nat → Int32) (ca : Nat) (lv : Nat) (h_n : n ≤ 16) (h_ca : ca < 3) (h_lv : lv < n) : Met l yX6_button wsX6_button ({ frames := 2, cells := 0, slots := 0, locals := 44 } : Room) (va_Pc [.ref x, .int (nI ca), .int (nI lv), .int (nI 2)] (PB G [(x, .inr (3, [.ref tx, .ref h, .ref tr, .ref hi, .ref sl, .ref sv])), (h, .inr (1, [.ref hc, .int (nI n), .int (nI g), .int sk])), (hc, .inl (G.2 0, 144, .inl f))])) (QR (some (.int (zb (f ((6 + ca) * 16 + lv) = 1))))) 0 0 (fun _ => False) := by
  refine Met.go (cc := cX6_button) (maxL := 4) (ret := (some .int)) (by decide) rfl (Nat.le_of_ble_eq_true rfl) ?_
  intro p e s m below meth c ls hx hb hr hml hown hts hlk hP hK hD hS hl
  have hown : s.vm.findClass RX6 = some m.cls := hown
  have hl : lv_has ls 4 [(0, .ref x), (1, .int (nI ca)), (2, .int (nI lv)), (3, .int (nI 2))] := hl
  refine lv_aload_n hx hb dX6_button_0 rfl (lv_at hl 0 rfl) ?_
  refine lv_iload_n hx hb dX6_button_1 rfl (lv_at hl 1 rfl) ?_
  refine cRVv (As := [.int (nI ca)]) (rest := []) ⟨hx, hb, hml, hown, hts⟩ (c_X6_requireCar l G x tx tr hi sl sv h hc n g sk f ca (by first | omega | assumption)) (cwV 1 hts gX6_button_X6_requireCar rfl rfl rfl (by decide +kernel) ⟨Nat.le_of_ble_eq_true rfl, Nat.le_of_ble_eq_true rfl⟩) (preV_of hK hP hD [0, 1, 2] (by decide) rfl (ci := 3) (q0 := 0) rfl rfl rfl) rfl hl.1 rfl (lv_room (Nat.le_of_ble_eq_true rfl)) dX6_button_2 ⟨Nat.zero_le _, Nat.zero_le _⟩ ?_
  refine lv_aload_n hx hb dX6_button_5 rfl (lv_at hl 0 rfl) ?_
  refine lv_iload_n hx hb dX6_button_6 rfl (lv_at hl 2 rfl) ?_
  refine cRVv (As := [.int (nI lv)]) (rest := []) ⟨hx, hb, hml, hown, hts⟩ (c_X6_requireLevel l G x tx tr hi sl sv h hc n g sk f lv (by first | omega | assumption) (by first | omega | assumption)) (cwV 1 hts gX6_button_X6_requireLevel rfl rfl rfl (by decide +kernel) ⟨Nat.le_of_ble_eq_true rfl, Nat.le_of_ble_eq_true rfl⟩) (preV_of hK hP hD [0, 1, 2] (by decide) rfl (ci := 3) (q0 := 0) rfl rfl rfl) rfl hl.1 rfl (lv_room (Nat.le_of_ble_eq_true rfl)) dX6_button_7 ⟨Nat.zero_le _, Nat.zero_le _⟩ ?_
  refine lv_iload_n hx hb dX6_button_10 rfl (lv_at hl 3 rfl) ?_
  refine lv_tableIn (off := 53) (tgt := 64) hx hb dX6_button_11 (by decide) (by decide) (by decide) (by decide) ?_
  refine lv_aload_n hx hb dX6_button_64 rfl (lv_at hl 0 rfl) ?_
  refine va_get (D := G.1) (ci := 3) (v := .ref h) (C := RX6) (T := TX6) (N := 6) hx hb hts in_c_X6_button_2_X6 hown hK.1 hP 0 rfl rfl 1 (by decide) (hts (.fieldLink RX6 19 "FloorPanels" "house" "LFloorPanels$House;") (by decide +kernel)) (fun _ h9 => h9) rfl dX6_button_65 ?_
  refine lv_iload_n hx hb dX6_button_68 rfl (lv_at hl 1 rfl) ?_
  refine lv_iload_n hx hb dX6_button_69 rfl (lv_at hl 2 rfl) ?_
  refine cRV (As := [.int (nI ca), .int (nI lv)]) (rest := []) (v := .int (zb (f ((6 + ca) * 16 + lv) = 1))) ⟨hx, hb, hml, hown, hts⟩ (c_X1_isServed l G h hc n g sk f ca lv (by first | omega | assumption) (by first | omega | assumption)) (cwV 2 hts gX6_button_X1_isServed rfl rfl rfl (by decide +kernel) ⟨Nat.le_of_ble_eq_true rfl, Nat.le_of_ble_eq_true rfl⟩) (preV_of hK hP hD [1, 2] (by decide) rfl (ci := 1) (q0 := 1) rfl rfl rfl) rfl hl.1 rfl (lv_room (Nat.le_of_ble_eq_true rfl)) dX6_button_70 ⟨Nat.zero_le _, Nat.zero_le _⟩ ?_
  refine bb_eq (tgt := 80) hx hb dX6_button_73 (by decide) (fun c_73 => ?_) (fun c_73 => ?_)
  ·
    refine lv_iconst (v := zb (f ((6 + ca) * 16 + lv) = 1)) hx hb dX6_button_80 (zb_f c_73).symm ?_
    exact R_i hx hb hr hlk dX6_button_81 (rfl)
  ·
    refine lv_iconst (v := zb (f ((6 + ca) * 16 + lv) = 1)) hx hb dX6_button_76 (zb_t c_73).symm ?_
    refine lv_goto (tgt := 81) hx hb dX6_button_77 (by decide) ?_
    exact R_i hx hb hr hlk dX6_button_81 (rfl)

set_option maxHeartbeats 4000000 in
set_option maxRecDepth 100000 in
theorem x_X6_button_c (l : Launch) (hst : l.stackTraces = false) (G : GG) (x : Nat) (tx : Nat) (tr : Nat) (hi : Nat) (sl : Nat) (sv : Nat) (h : Nat) (hc : Nat) (n : Nat) (g : Nat) (sk : Int32) (f : Nat → Int32) (y : Int32) (z : Int32) (w : Int32) (h_n : n ≤ 16) (h_noc : ¬ (0 ≤ y.toInt ∧ y.toInt < 3)) : vx_Met l yX6_button wsX6_button ({ frames := 7, cells := 1, slots := 6, locals := 103 } : Room) (va_Pc [.ref x, .int y, .int z, .int w] (PBX G [(x, .inr (3, [.ref tx, .ref h, .ref tr, .ref hi, .ref sl, .ref sv])), (h, .inr (1, [.ref hc, .int (nI n), .int (nI g), .int sk])), (hc, .inl (G.2 0, 144, .inl f))])) NQ (XT xIOB) 1 6 (fun _ => False) := by
  refine Met.goX (cc := cX6_button) (maxL := 4) (ret := (some .int)) (by decide) rfl (Nat.le_of_ble_eq_true rfl) ?_
  intro p e s m below meth c ls hx hb hr hml hown hts hlk hnt hP hK hD hE hZ hl
  have hown : s.vm.findClass RX6 = some m.cls := hown
  have hl : lv_has ls 4 [(0, .ref x), (1, .int y), (2, .int z), (3, .int w)] := hl
  refine lv_aload_n hx hb dX6_button_0 rfl (lv_at hl 0 rfl) ?_
  refine lv_iload_n hx hb dX6_button_1 rfl (lv_at hl 1 rfl) ?_
  exact cXV (As := [.int y]) (rest := []) ⟨hx, hb, hml, hown, hts⟩ (x_X6_requireCar l hst G x tx tr hi sl sv h hc n g sk f y (by first | omega | assumption)) (cwV 1 hts gX6_button_X6_requireCar rfl rfl rfl (by decide +kernel) ⟨Nat.le_of_ble_eq_true rfl, Nat.le_of_ble_eq_true rfl⟩) (preVX_of (preV_of hK hP hD [0, 1, 2] (by decide) rfl (ci := 3) (q0 := 0) rfl rfl rfl) hE hZ) rfl hl.1 rfl (lv_room (Nat.le_of_ble_eq_true rfl)) dX6_button_2 ⟨Nat.le_of_ble_eq_true rfl, Nat.le_of_ble_eq_true rfl⟩ hnt hlk

set_option maxHeartbeats 4000000 in
set_option maxRecDepth 100000 in
theorem x_X6_button_l (l : Launch) (hst : l.stackTraces = false) (G : GG) (x : Nat) (tx : Nat) (tr : Nat) (hi : Nat) (sl : Nat) (sv : Nat) (h : Nat) (hc : Nat) (n : Nat) (g : Nat) (sk : Int32) (f : Nat → Int32) (ca : Nat) (z : Int32) (w : Int32) (h_n : n ≤ 16) (h_ca : ca < 3) (h_nol : ¬ (0 ≤ z.toInt ∧ z.toInt < (n : Int))) : vx_Met l yX6_button wsX6_button ({ frames := 7, cells := 1, slots := 6, locals := 103 } : Room) (va_Pc [.ref x, .int (nI ca), .int z, .int w] (PBX G [(x, .inr (3, [.ref tx, .ref h, .ref tr, .ref hi, .ref sl, .ref sv])), (h, .inr (1, [.ref hc, .int (nI n), .int (nI g), .int sk])), (hc, .inl (G.2 0, 144, .inl f))])) NQ (XT xIOB) 1 6 (fun _ => False) := by
  refine Met.goX (cc := cX6_button) (maxL := 4) (ret := (some .int)) (by decide) rfl (Nat.le_of_ble_eq_true rfl) ?_
  intro p e s m below meth c ls hx hb hr hml hown hts hlk hnt hP hK hD hE hZ hl
  have hown : s.vm.findClass RX6 = some m.cls := hown
  have hl : lv_has ls 4 [(0, .ref x), (1, .int (nI ca)), (2, .int z), (3, .int w)] := hl
  refine lv_aload_n hx hb dX6_button_0 rfl (lv_at hl 0 rfl) ?_
  refine lv_iload_n hx hb dX6_button_1 rfl (lv_at hl 1 rfl) ?_
  refine cRVv (As := [.int (nI ca)]) (rest := []) ⟨hx, hb, hml, hown, hts⟩ (c_X6_requireCar l G x tx tr hi sl sv h hc n g sk f ca (by first | omega | assumption)) (cwV 1 hts gX6_button_X6_requireCar rfl rfl rfl (by decide +kernel) ⟨Nat.le_of_ble_eq_true rfl, Nat.le_of_ble_eq_true rfl⟩) (preV_of hK hP hD [0, 1, 2] (by decide) rfl (ci := 3) (q0 := 0) rfl rfl rfl) rfl hl.1 rfl (lv_room (Nat.le_of_ble_eq_true rfl)) dX6_button_2 ⟨Nat.zero_le _, Nat.zero_le _⟩ ?_
  refine lv_aload_n hx hb dX6_button_5 rfl (lv_at hl 0 rfl) ?_
  refine lv_iload_n hx hb dX6_button_6 rfl (lv_at hl 2 rfl) ?_
  exact cXV (As := [.int z]) (rest := []) ⟨hx, hb, hml, hown, hts⟩ (x_X6_requireLevel l hst G x tx tr hi sl sv h hc n g sk f z (by first | omega | assumption) (by first | omega | assumption)) (cwV 1 hts gX6_button_X6_requireLevel rfl rfl rfl (by decide +kernel) ⟨Nat.le_of_ble_eq_true rfl, Nat.le_of_ble_eq_true rfl⟩) (preVX_of (preV_of hK hP hD [0, 1, 2] (by decide) rfl (ci := 3) (q0 := 0) rfl rfl rfl) hE hZ) rfl hl.1 rfl (lv_room (Nat.le_of_ble_eq_true rfl)) dX6_button_7 ⟨Nat.le_of_ble_eq_true rfl, Nat.le_of_ble_eq_true rfl⟩ hnt hlk

theorem xi_x_X6_button_w_IAE : ∀ w ∈ (vx_atS RX6 45 xIAE xNMS).filter goodWord, w ∈ wsX6_button := by decide +kernel
set_option maxHeartbeats 4000000 in
set_option maxRecDepth 100000 in
theorem x_X6_button_w (l : Launch) (hst : l.stackTraces = false) (G : GG) (x : Nat) (tx : Nat) (tr : Nat) (hi : Nat) (sl : Nat) (sv : Nat) (h : Nat) (hc : Nat) (n : Nat) (g : Nat) (sk : Int32) (f : Nat → Int32) (ca : Nat) (lv : Nat) (w : Int32) (h_n : n ≤ 16) (h_ca : ca < 3) (h_lv : lv < n) (h_now : ¬ (0 ≤ w.toInt ∧ w.toInt ≤ 2)) : vx_Met l yX6_button wsX6_button ({ frames := 6, cells := 1, slots := 6, locals := 82 } : Room) (va_Pc [.ref x, .int (nI ca), .int (nI lv), .int w] (PBX G [(x, .inr (3, [.ref tx, .ref h, .ref tr, .ref hi, .ref sl, .ref sv])), (h, .inr (1, [.ref hc, .int (nI n), .int (nI g), .int sk])), (hc, .inl (G.2 0, 144, .inl f))])) NQ (XT xIAE) 1 6 (fun _ => False) := by
  refine Met.goX (cc := cX6_button) (maxL := 4) (ret := (some .int)) (by decide) rfl (Nat.le_of_ble_eq_true rfl) ?_
  intro p e s m below meth c ls hx hb hr hml hown hts hlk hnt hP hK hD hE hZ hl
  have hown : s.vm.findClass RX6 = some m.cls := hown
  have hl : lv_has ls 4 [(0, .ref x), (1, .int (nI ca)), (2, .int (nI lv)), (3, .int w)] := hl
  refine lv_aload_n hx hb dX6_button_0 rfl (lv_at hl 0 rfl) ?_
  refine lv_iload_n hx hb dX6_button_1 rfl (lv_at hl 1 rfl) ?_
  refine cRVv (As := [.int (nI ca)]) (rest := []) ⟨hx, hb, hml, hown, hts⟩ (c_X6_requireCar l G x tx tr hi sl sv h hc n g sk f ca (by first | omega | assumption)) (cwV 1 hts gX6_button_X6_requireCar rfl rfl rfl (by decide +kernel) ⟨Nat.le_of_ble_eq_true rfl, Nat.le_of_ble_eq_true rfl⟩) (preV_of hK hP hD [0, 1, 2] (by decide) rfl (ci := 3) (q0 := 0) rfl rfl rfl) rfl hl.1 rfl (lv_room (Nat.le_of_ble_eq_true rfl)) dX6_button_2 ⟨Nat.zero_le _, Nat.zero_le _⟩ ?_
  refine lv_aload_n hx hb dX6_button_5 rfl (lv_at hl 0 rfl) ?_
  refine lv_iload_n hx hb dX6_button_6 rfl (lv_at hl 2 rfl) ?_
  refine cRVv (As := [.int (nI lv)]) (rest := []) ⟨hx, hb, hml, hown, hts⟩ (c_X6_requireLevel l G x tx tr hi sl sv h hc n g sk f lv (by first | omega | assumption) (by first | omega | assumption)) (cwV 1 hts gX6_button_X6_requireLevel rfl rfl rfl (by decide +kernel) ⟨Nat.le_of_ble_eq_true rfl, Nat.le_of_ble_eq_true rfl⟩) (preV_of hK hP hD [0, 1, 2] (by decide) rfl (ci := 3) (q0 := 0) rfl rfl rfl) rfl hl.1 rfl (lv_room (Nat.le_of_ble_eq_true rfl)) dX6_button_7 ⟨Nat.zero_le _, Nat.zero_le _⟩ ?_
  refine lv_iload_n hx hb dX6_button_10 rfl (lv_at hl 3 rfl) ?_
  refine lv_tableOut (tgt := 82) hx hb dX6_button_11 (by omega) (by decide) ?_
  exact X_throw (text := "no such number of a button") hx hb hst hown xf_IAE (hts (.classLink RX6 41 xIAE) (by decide +kernel)) (hts (.initialized xIAE) (by decide +kernel)) (hE.2.2 (146, "no such number of a button") (by decide +kernel)) (fun w hw => hts w (xi_x_X6_button_w_IAE w hw)) xa_IAE xg_IAE hE hZ (hl.1.trans hml.symm) dX6_button_82 dX6_button_85 dX6_button_86 dX6_button_88 dX6_button_91 hnt (Nat.le_of_ble_eq_true rfl) (Nat.le_of_ble_eq_true rfl) (Nat.le_of_ble_eq_true rfl) (Nat.le_of_ble_eq_true rfl) hlk

theorem in_c_X6_isSkipped_X6 : ∀ w ∈ wsX60, w ∈ wsX6_isSkipped := by decide +kernel
set_option maxHeartbeats 4000000 in
set_option maxRecDepth 100000 in
theorem c_X6_isSkipped (l : Launch) (G : GG) (x : Nat) (tx : Nat) (tr : Nat) (hi : Nat) (sl : Nat) (sv : Nat) (h : Nat) (hc : Nat) (n : Nat) (g : Nat) (sk : Int32) (f : Nat → Int32) (q : Nat) (h_q : 1 ≤ q ∧ q ≤ 30) : Met l yX6_isSkipped wsX6_isSkipped ({ frames := 2, cells := 0, slots := 0, locals := 41 } : Room) (va_Pc [.ref x, .int (nI q)] (PB G [(x, .inr (3, [.ref tx, .ref h, .ref tr, .ref hi, .ref sl, .ref sv])), (h, .inr (1, [.ref hc, .int (nI n), .int (nI g), .int sk])), (hc, .inl (G.2 0, 144, .inl f))])) (QR (some (.int (zb (bt sk q = true))))) 0 0 (fun _ => False) := by
  refine Met.go (cc := cX6_isSkipped) (maxL := 2) (ret := (some .boolean)) (by decide) rfl (Nat.le_of_ble_eq_true rfl) ?_
  intro p e s m below meth c ls hx hb hr hml hown hts hlk hP hK hD hS hl
  have hown : s.vm.findClass RX6 = some m.cls := hown
  have hl : lv_has ls 2 [(0, .ref x), (1, .int (nI q))] := hl
  refine lv_aload_n hx hb dX6_isSkipped_0 rfl (lv_at hl 0 rfl) ?_
  refine lv_iload_n hx hb dX6_isSkipped_1 rfl (lv_at hl 1 rfl) ?_
  refine cRVv (As := [.int (nI q)]) (rest := []) ⟨hx, hb, hml, hown, hts⟩ (c_X6_requireStorey l G x tx tr hi sl sv h hc n g sk f q (by first | omega | assumption)) (cwV 1 hts gX6_isSkipped_X6_requireStorey rfl rfl rfl (by decide +kernel) ⟨Nat.le_of_ble_eq_true rfl, Nat.le_of_ble_eq_true rfl⟩) (preV_of hK hP hD [0, 1, 2] (by decide) rfl (ci := 3) (q0 := 0) rfl rfl rfl) rfl hl.1 rfl (lv_room (Nat.le_of_ble_eq_true rfl)) dX6_isSkipped_2 ⟨Nat.zero_le _, Nat.zero_le _⟩ ?_
  refine lv_aload_n hx hb dX6_isSkipped_5 rfl (lv_at hl 0 rfl) ?_
  refine va_get (D := G.1) (ci := 3) (v := .ref h) (C := RX6) (T := TX6) (N := 6) hx hb hts in_c_X6_isSkipped_X6 hown hK.1 hP 0 rfl rfl 1 (by decide) (hts (.fieldLink RX6 19 "FloorPanels" "house" "LFloorPanels$House;") (by decide +kernel)) (fun _ h9 => h9) rfl dX6_isSkipped_6 ?_
  refine lv_iload_n hx hb dX6_isSkipped_9 rfl (lv_at hl 1 rfl) ?_
  refine cRV (As := [.int (nI q)]) (rest := []) (v := .int (zb (bt sk q = true))) ⟨hx, hb, hml, hown, hts⟩ (c_X1_skips l G h hc n g sk f q (by first | omega | assumption)) (cwV 1 hts gX6_isSkipped_X1_skips rfl rfl rfl (by decide +kernel) ⟨Nat.le_of_ble_eq_true rfl, Nat.le_of_ble_eq_true rfl⟩) (preV_of hK hP hD [1, 2] (by decide) rfl (ci := 1) (q0 := 1) rfl rfl rfl) rfl hl.1 rfl (lv_room (Nat.le_of_ble_eq_true rfl)) dX6_isSkipped_10 ⟨Nat.zero_le _, Nat.zero_le _⟩ ?_
  exact R_z hx hb hr hlk dX6_isSkipped_13 (rfl) zb_nar

set_option maxHeartbeats 4000000 in
set_option maxRecDepth 100000 in
theorem x_X6_isSkipped (l : Launch) (hst : l.stackTraces = false) (G : GG) (x : Nat) (tx : Nat) (tr : Nat) (hi : Nat) (sl : Nat) (sv : Nat) (h : Nat) (hc : Nat) (n : Nat) (g : Nat) (sk : Int32) (f : Nat → Int32) (y : Int32) (h_nos : ¬ (1 ≤ y.toInt ∧ y.toInt ≤ 30)) : vx_Met l yX6_isSkipped wsX6_isSkipped ({ frames := 7, cells := 1, slots := 6, locals := 103 } : Room) (va_Pc [.ref x, .int y] (PBX G [(x, .inr (3, [.ref tx, .ref h, .ref tr, .ref hi, .ref sl, .ref sv])), (h, .inr (1, [.ref hc, .int (nI n), .int (nI g), .int sk])), (hc, .inl (G.2 0, 144, .inl f))])) NQ (XT xIAE) 1 6 (fun _ => False) := by
  refine Met.goX (cc := cX6_isSkipped) (maxL := 2) (ret := (some .boolean)) (by decide) rfl (Nat.le_of_ble_eq_true rfl) ?_
  intro p e s m below meth c ls hx hb hr hml hown hts hlk hnt hP hK hD hE hZ hl
  have hown : s.vm.findClass RX6 = some m.cls := hown
  have hl : lv_has ls 2 [(0, .ref x), (1, .int y)] := hl
  refine lv_aload_n hx hb dX6_isSkipped_0 rfl (lv_at hl 0 rfl) ?_
  refine lv_iload_n hx hb dX6_isSkipped_1 rfl (lv_at hl 1 rfl) ?_
  exact cXV (As := [.int y]) (rest := []) ⟨hx, hb, hml, hown, hts⟩ (x_X6_requireStorey l hst G x tx tr hi sl sv h hc n g sk f y (by first | omega | assumption)) (cwV 1 hts gX6_isSkipped_X6_requireStorey rfl rfl rfl (by decide +kernel) ⟨Nat.le_of_ble_eq_true rfl, Nat.le_of_ble_eq_true rfl⟩) (preVX_of (preV_of hK hP hD [0, 1, 2] (by decide) rfl (ci := 3) (q0 := 0) rfl rfl rfl) hE hZ) rfl hl.1 rfl (lv_room (Nat.le_of_ble_eq_true rfl)) dX6_isSkipped_2 ⟨Nat.le_of_ble_eq_true rfl, Nat.le_of_ble_eq_true rfl⟩ hnt hlk

theorem in_c_X6_named_X6 : ∀ w ∈ wsX60, w ∈ wsX6_named := by decide +kernel
set_option maxHeartbeats 4000000 in
set_option maxRecDepth 100000 in
theorem c_X6_named (l : Launch) (G : GG) (x : Nat) (tx : Nat) (tr : Nat) (hi : Nat) (sl : Nat) (sv : Nat) (h : Nat) (hc : Nat) (n : Nat) (g : Nat) (sk : Int32) (f : Nat → Int32) (na : Int32) (k : Nat) (h_n : n ≤ 16) (h_k : k < 2147483648) : Met l yX6_named wsX6_named ({ frames := 3, cells := 0, slots := 0, locals := 67 } : Room) (va_Pc [.ref x, .int na, .int (nI k)] (PB G [(x, .inr (3, [.ref tx, .ref h, .ref tr, .ref hi, .ref sl, .ref sv])), (h, .inr (1, [.ref hc, .int (nI n), .int (nI g), .int sk])), (hc, .inl (G.2 0, 144, .inl f))])) (QR (some (.int (kth (fun x_ => ¬ f (16 + x_) = -1 ∧ f (16 + x_) = na) n 0 k)))) 0 0 (fun _ => False) := by
  refine Met.go (cc := cX6_named) (maxL := 3) (ret := (some .int)) (by decide) rfl (Nat.le_of_ble_eq_true rfl) ?_
  intro p e s m below meth c ls hx hb hr hml hown hts hlk hP hK hD hS hl
  have hown : s.vm.findClass RX6 = some m.cls := hown
  have hl : lv_has ls 3 [(0, .ref x), (1, .int na), (2, .int (nI k))] := hl
  refine lv_iload_n hx hb dX6_named_0 rfl (lv_at hl 2 rfl) ?_
  refine b0_ge (tgt := 14) hx hb dX6_named_1 (by decide) (nI_i (by omega)) (fun c_1 => ?_) (fun c_1 => False.elim (by omega))
  refine lv_aload_n hx hb dX6_named_14 rfl (lv_at hl 0 rfl) ?_
  refine va_get (D := G.1) (ci := 3) (v := .ref h) (C := RX6) (T := TX6) (N := 6) hx hb hts in_c_X6_named_X6 hown hK.1 hP 0 rfl rfl 1 (by decide) (hts (.fieldLink RX6 19 "FloorPanels" "house" "LFloorPanels$House;") (by decide +kernel)) (fun _ h9 => h9) rfl dX6_named_15 ?_
  refine lv_iload_n hx hb dX6_named_18 rfl (lv_at hl 1 rfl) ?_
  refine lv_iload_n hx hb dX6_named_19 rfl (lv_at hl 2 rfl) ?_
  refine cRV (As := [.int na, .int (nI k)]) (rest := []) (v := .int (kth (fun x_ => ¬ f (16 + x_) = -1 ∧ f (16 + x_) = na) n 0 k)) ⟨hx, hb, hml, hown, hts⟩ (c_X1_levelNamed l G h hc n g sk f na k (by first | omega | assumption) (by first | omega | assumption)) (cwV 2 hts gX6_named_X1_levelNamed rfl rfl rfl (by decide +kernel) ⟨Nat.le_of_ble_eq_true rfl, Nat.le_of_ble_eq_true rfl⟩) (preV_of hK hP hD [1, 2] (by decide) rfl (ci := 1) (q0 := 1) rfl rfl rfl) rfl hl.1 rfl (lv_room (Nat.le_of_ble_eq_true rfl)) dX6_named_20 ⟨Nat.zero_le _, Nat.zero_le _⟩ ?_
  exact R_i hx hb hr hlk dX6_named_23 (rfl)

theorem xi_x_X6_named_IAE : ∀ w ∈ (vx_atS RX6 45 xIAE xNMS).filter goodWord, w ∈ wsX6_named := by decide +kernel
set_option maxHeartbeats 4000000 in
set_option maxRecDepth 100000 in
theorem x_X6_named (l : Launch) (hst : l.stackTraces = false) (G : GG) (x : Nat) (tx : Nat) (tr : Nat) (hi : Nat) (sl : Nat) (sv : Nat) (h : Nat) (hc : Nat) (n : Nat) (g : Nat) (sk : Int32) (f : Nat → Int32) (na : Int32) (y : Int32) (h_nok : y.toInt < 0) : vx_Met l yX6_named wsX6_named ({ frames := 6, cells := 1, slots := 6, locals := 82 } : Room) (va_Pc [.ref x, .int na, .int y] (PBX G [(x, .inr (3, [.ref tx, .ref h, .ref tr, .ref hi, .ref sl, .ref sv])), (h, .inr (1, [.ref hc, .int (nI n), .int (nI g), .int sk])), (hc, .inl (G.2 0, 144, .inl f))])) NQ (XT xIAE) 1 6 (fun _ => False) := by
  refine Met.goX (cc := cX6_named) (maxL := 3) (ret := (some .int)) (by decide) rfl (Nat.le_of_ble_eq_true rfl) ?_
  intro p e s m below meth c ls hx hb hr hml hown hts hlk hnt hP hK hD hE hZ hl
  have hown : s.vm.findClass RX6 = some m.cls := hown
  have hl : lv_has ls 3 [(0, .ref x), (1, .int na), (2, .int y)] := hl
  refine lv_iload_n hx hb dX6_named_0 rfl (lv_at hl 2 rfl) ?_
  refine b0_ge (tgt := 14) hx hb dX6_named_1 (by decide) (toI_r _) (fun c_1 => False.elim (by omega)) (fun c_1 => ?_)
  exact X_throw (text := "k is negative") hx hb hst hown xf_IAE (hts (.classLink RX6 41 xIAE) (by decide +kernel)) (hts (.initialized xIAE) (by decide +kernel)) (hE.2.2 (154, "k is negative") (by decide +kernel)) (fun w hw => hts w (xi_x_X6_named_IAE w hw)) xa_IAE xg_IAE hE hZ (hl.1.trans hml.symm) dX6_named_4 dX6_named_7 dX6_named_8 dX6_named_10 dX6_named_13 hnt (Nat.le_of_ble_eq_true rfl) (Nat.le_of_ble_eq_true rfl) (Nat.le_of_ble_eq_true rfl) (Nat.le_of_ble_eq_true rfl) hlk

theorem in_c_X6_goes_X6 : ∀ w ∈ wsX60, w ∈ wsX6_goes := by decide +kernel
set_option maxHeartbeats 4000000 in
set_option maxRecDepth 100000 in
theorem c_X6_goes (l : Launch) (G : GG) (x : Nat) (tx : Nat) (tr : Nat) (hi : Nat) (sl : Nat) (sv : Nat) (h : Nat) (hc : Nat) (n : Nat) (g : Nat) (sk : Int32) (f : Nat → Int32) (ca : Nat) (lv : Nat) (na : Int32) (h_n : n ≤ 16) (h_ca : ca < 3) (h_lv : lv < n) : Met l yX6_goes wsX6_goes ({ frames := 3, cells := 0, slots := 0, locals := 68 } : Room) (va_Pc [.ref x, .int (nI ca), .int (nI lv), .int na] (PB G [(x, .inr (3, [.ref tx, .ref h, .ref tr, .ref hi, .ref sl, .ref sv])), (h, .inr (1, [.ref hc, .int (nI n), .int (nI g), .int sk])), (hc, .inl (G.2 0, 144, .inl f))])) (QR (some (.int (dst f n ca lv na)))) 0 0 (fun _ => False) := by
  refine Met.go (cc := cX6_goes) (maxL := 4) (ret := (some .int)) (by decide) rfl (Nat.le_of_ble_eq_true rfl) ?_
  intro p e s m below meth c ls hx hb hr hml hown hts hlk hP hK hD hS hl
  have hown : s.vm.findClass RX6 = some m.cls := hown
  have hl : lv_has ls 4 [(0, .ref x), (1, .int (nI ca)), (2, .int (nI lv)), (3, .int na)] := hl
  refine lv_aload_n hx hb dX6_goes_0 rfl (lv_at hl 0 rfl) ?_
  refine lv_iload_n hx hb dX6_goes_1 rfl (lv_at hl 1 rfl) ?_
  refine cRVv (As := [.int (nI ca)]) (rest := []) ⟨hx, hb, hml, hown, hts⟩ (c_X6_requireCar l G x tx tr hi sl sv h hc n g sk f ca (by first | omega | assumption)) (cwV 1 hts gX6_goes_X6_requireCar rfl rfl rfl (by decide +kernel) ⟨Nat.le_of_ble_eq_true rfl, Nat.le_of_ble_eq_true rfl⟩) (preV_of hK hP hD [0, 1, 2] (by decide) rfl (ci := 3) (q0 := 0) rfl rfl rfl) rfl hl.1 rfl (lv_room (Nat.le_of_ble_eq_true rfl)) dX6_goes_2 ⟨Nat.zero_le _, Nat.zero_le _⟩ ?_
  refine lv_aload_n hx hb dX6_goes_5 rfl (lv_at hl 0 rfl) ?_
  refine lv_iload_n hx hb dX6_goes_6 rfl (lv_at hl 2 rfl) ?_
  refine cRVv (As := [.int (nI lv)]) (rest := []) ⟨hx, hb, hml, hown, hts⟩ (c_X6_requireLevel l G x tx tr hi sl sv h hc n g sk f lv (by first | omega | assumption) (by first | omega | assumption)) (cwV 1 hts gX6_goes_X6_requireLevel rfl rfl rfl (by decide +kernel) ⟨Nat.le_of_ble_eq_true rfl, Nat.le_of_ble_eq_true rfl⟩) (preV_of hK hP hD [0, 1, 2] (by decide) rfl (ci := 3) (q0 := 0) rfl rfl rfl) rfl hl.1 rfl (lv_room (Nat.le_of_ble_eq_true rfl)) dX6_goes_7 ⟨Nat.zero_le _, Nat.zero_le _⟩ ?_
  refine lv_aload_n hx hb dX6_goes_10 rfl (lv_at hl 0 rfl) ?_
  refine va_get (D := G.1) (ci := 3) (v := .ref h) (C := RX6) (T := TX6) (N := 6) hx hb hts in_c_X6_goes_X6 hown hK.1 hP 0 rfl rfl 1 (by decide) (hts (.fieldLink RX6 19 "FloorPanels" "house" "LFloorPanels$House;") (by decide +kernel)) (fun _ h9 => h9) rfl dX6_goes_11 ?_
  refine lv_iload_n hx hb dX6_goes_14 rfl (lv_at hl 1 rfl) ?_
  refine lv_iload_n hx hb dX6_goes_15 rfl (lv_at hl 2 rfl) ?_
  refine lv_iload_n hx hb dX6_goes_16 rfl (lv_at hl 3 rfl) ?_
  refine cRS (As := [.ref h, .int (nI ca), .int (nI lv), .int na]) (rest := []) (v := .int (dst f n ca lv na)) ⟨hx, hb, hml, hown, hts⟩ (c_X3_destination l G h hc n g sk f ca lv na (by first | omega | assumption) (by first | omega | assumption) (by first | omega | assumption)) (va_cwS 4 hts gX6_goes_X3_destination rfl rfl rfl (by decide +kernel) ⟨Nat.le_of_ble_eq_true rfl, Nat.le_of_ble_eq_true rfl⟩) (preS_of hK hP hD [1, 2] (by decide) rfl) rfl hl.1 rfl (lv_room (Nat.le_of_ble_eq_true rfl)) dX6_goes_17 ⟨Nat.zero_le _, Nat.zero_le _⟩ ?_
  exact R_i hx hb hr hlk dX6_goes_20 (rfl)

set_option maxHeartbeats 4000000 in
set_option maxRecDepth 100000 in
theorem x_X6_goes_c (l : Launch) (hst : l.stackTraces = false) (G : GG) (x : Nat) (tx : Nat) (tr : Nat) (hi : Nat) (sl : Nat) (sv : Nat) (h : Nat) (hc : Nat) (n : Nat) (g : Nat) (sk : Int32) (f : Nat → Int32) (y : Int32) (z : Int32) (w : Int32) (h_n : n ≤ 16) (h_noc : ¬ (0 ≤ y.toInt ∧ y.toInt < 3)) : vx_Met l yX6_goes wsX6_goes ({ frames := 7, cells := 1, slots := 6, locals := 103 } : Room) (va_Pc [.ref x, .int y, .int z, .int w] (PBX G [(x, .inr (3, [.ref tx, .ref h, .ref tr, .ref hi, .ref sl, .ref sv])), (h, .inr (1, [.ref hc, .int (nI n), .int (nI g), .int sk])), (hc, .inl (G.2 0, 144, .inl f))])) NQ (XT xIOB) 1 6 (fun _ => False) := by
  refine Met.goX (cc := cX6_goes) (maxL := 4) (ret := (some .int)) (by decide) rfl (Nat.le_of_ble_eq_true rfl) ?_
  intro p e s m below meth c ls hx hb hr hml hown hts hlk hnt hP hK hD hE hZ hl
  have hown : s.vm.findClass RX6 = some m.cls := hown
  have hl : lv_has ls 4 [(0, .ref x), (1, .int y), (2, .int z), (3, .int w)] := hl
  refine lv_aload_n hx hb dX6_goes_0 rfl (lv_at hl 0 rfl) ?_
  refine lv_iload_n hx hb dX6_goes_1 rfl (lv_at hl 1 rfl) ?_
  exact cXV (As := [.int y]) (rest := []) ⟨hx, hb, hml, hown, hts⟩ (x_X6_requireCar l hst G x tx tr hi sl sv h hc n g sk f y (by first | omega | assumption)) (cwV 1 hts gX6_goes_X6_requireCar rfl rfl rfl (by decide +kernel) ⟨Nat.le_of_ble_eq_true rfl, Nat.le_of_ble_eq_true rfl⟩) (preVX_of (preV_of hK hP hD [0, 1, 2] (by decide) rfl (ci := 3) (q0 := 0) rfl rfl rfl) hE hZ) rfl hl.1 rfl (lv_room (Nat.le_of_ble_eq_true rfl)) dX6_goes_2 ⟨Nat.le_of_ble_eq_true rfl, Nat.le_of_ble_eq_true rfl⟩ hnt hlk

set_option maxHeartbeats 4000000 in
set_option maxRecDepth 100000 in
theorem x_X6_goes_l (l : Launch) (hst : l.stackTraces = false) (G : GG) (x : Nat) (tx : Nat) (tr : Nat) (hi : Nat) (sl : Nat) (sv : Nat) (h : Nat) (hc : Nat) (n : Nat) (g : Nat) (sk : Int32) (f : Nat → Int32) (ca : Nat) (z : Int32) (w : Int32) (h_n : n ≤ 16) (h_ca : ca < 3) (h_nol : ¬ (0 ≤ z.toInt ∧ z.toInt < (n : Int))) : vx_Met l yX6_goes wsX6_goes ({ frames := 7, cells := 1, slots := 6, locals := 103 } : Room) (va_Pc [.ref x, .int (nI ca), .int z, .int w] (PBX G [(x, .inr (3, [.ref tx, .ref h, .ref tr, .ref hi, .ref sl, .ref sv])), (h, .inr (1, [.ref hc, .int (nI n), .int (nI g), .int sk])), (hc, .inl (G.2 0, 144, .inl f))])) NQ (XT xIOB) 1 6 (fun _ => False) := by
  refine Met.goX (cc := cX6_goes) (maxL := 4) (ret := (some .int)) (by decide) rfl (Nat.le_of_ble_eq_true rfl) ?_
  intro p e s m below meth c ls hx hb hr hml hown hts hlk hnt hP hK hD hE hZ hl
  have hown : s.vm.findClass RX6 = some m.cls := hown
  have hl : lv_has ls 4 [(0, .ref x), (1, .int (nI ca)), (2, .int z), (3, .int w)] := hl
  refine lv_aload_n hx hb dX6_goes_0 rfl (lv_at hl 0 rfl) ?_
  refine lv_iload_n hx hb dX6_goes_1 rfl (lv_at hl 1 rfl) ?_
  refine cRVv (As := [.int (nI ca)]) (rest := []) ⟨hx, hb, hml, hown, hts⟩ (c_X6_requireCar l G x tx tr hi sl sv h hc n g sk f ca (by first | omega | assumption)) (cwV 1 hts gX6_goes_X6_requireCar rfl rfl rfl (by decide +kernel) ⟨Nat.le_of_ble_eq_true rfl, Nat.le_of_ble_eq_true rfl⟩) (preV_of hK hP hD [0, 1, 2] (by decide) rfl (ci := 3) (q0 := 0) rfl rfl rfl) rfl hl.1 rfl (lv_room (Nat.le_of_ble_eq_true rfl)) dX6_goes_2 ⟨Nat.zero_le _, Nat.zero_le _⟩ ?_
  refine lv_aload_n hx hb dX6_goes_5 rfl (lv_at hl 0 rfl) ?_
  refine lv_iload_n hx hb dX6_goes_6 rfl (lv_at hl 2 rfl) ?_
  exact cXV (As := [.int z]) (rest := []) ⟨hx, hb, hml, hown, hts⟩ (x_X6_requireLevel l hst G x tx tr hi sl sv h hc n g sk f z (by first | omega | assumption) (by first | omega | assumption)) (cwV 1 hts gX6_goes_X6_requireLevel rfl rfl rfl (by decide +kernel) ⟨Nat.le_of_ble_eq_true rfl, Nat.le_of_ble_eq_true rfl⟩) (preVX_of (preV_of hK hP hD [0, 1, 2] (by decide) rfl (ci := 3) (q0 := 0) rfl rfl rfl) hE hZ) rfl hl.1 rfl (lv_room (Nat.le_of_ble_eq_true rfl)) dX6_goes_7 ⟨Nat.le_of_ble_eq_true rfl, Nat.le_of_ble_eq_true rfl⟩ hnt hlk

theorem in_c_X6_astray_X6 : ∀ w ∈ wsX60, w ∈ wsX6_astray := by decide +kernel
set_option maxHeartbeats 4000000 in
set_option maxRecDepth 100000 in
theorem c_X6_astray (l : Launch) (G : GG) (x : Nat) (tx : Nat) (tr : Nat) (hi : Nat) (sl : Nat) (sv : Nat) (h : Nat) (hc : Nat) (n : Nat) (g : Nat) (sk : Int32) (f : Nat → Int32) (ca : Nat) (h_n : n ≤ 16) (h_ca : ca < 3) : Met l yX6_astray wsX6_astray ({ frames := 4, cells := 0, slots := 0, locals := 92 } : Room) (va_Pc [.ref x, .int (nI ca)] (PB G [(x, .inr (3, [.ref tx, .ref h, .ref tr, .ref hi, .ref sl, .ref sv])), (h, .inr (1, [.ref hc, .int (nI n), .int (nI g), .int sk])), (hc, .inl (G.2 0, 144, .inl f))])) (QR (some (.int (nI (ast f n ca n))))) 0 0 (fun _ => False) := by
  refine Met.go (cc := cX6_astray) (maxL := 2) (ret := (some .int)) (by decide) rfl (Nat.le_of_ble_eq_true rfl) ?_
  intro p e s m below meth c ls hx hb hr hml hown hts hlk hP hK hD hS hl
  have hown : s.vm.findClass RX6 = some m.cls := hown
  have hl : lv_has ls 2 [(0, .ref x), (1, .int (nI ca))] := hl
  refine lv_aload_n hx hb dX6_astray_0 rfl (lv_at hl 0 rfl) ?_
  refine lv_iload_n hx hb dX6_astray_1 rfl (lv_at hl 1 rfl) ?_
  refine cRVv (As := [.int (nI ca)]) (rest := []) ⟨hx, hb, hml, hown, hts⟩ (c_X6_requireCar l G x tx tr hi sl sv h hc n g sk f ca (by first | omega | assumption)) (cwV 1 hts gX6_astray_X6_requireCar rfl rfl rfl (by decide +kernel) ⟨Nat.le_of_ble_eq_true rfl, Nat.le_of_ble_eq_true rfl⟩) (preV_of hK hP hD [0, 1, 2] (by decide) rfl (ci := 3) (q0 := 0) rfl rfl rfl) rfl hl.1 rfl (lv_room (Nat.le_of_ble_eq_true rfl)) dX6_astray_2 ⟨Nat.zero_le _, Nat.zero_le _⟩ ?_
  refine lv_aload_n hx hb dX6_astray_5 rfl (lv_at hl 0 rfl) ?_
  refine va_get (D := G.1) (ci := 3) (v := .ref h) (C := RX6) (T := TX6) (N := 6) hx hb hts in_c_X6_astray_X6 hown hK.1 hP 0 rfl rfl 1 (by decide) (hts (.fieldLink RX6 19 "FloorPanels" "house" "LFloorPanels$House;") (by decide +kernel)) (fun _ h9 => h9) rfl dX6_astray_6 ?_
  refine lv_iload_n hx hb dX6_astray_9 rfl (lv_at hl 1 rfl) ?_
  refine cRS (As := [.ref h, .int (nI ca)]) (rest := []) (v := .int (nI (ast f n ca n))) ⟨hx, hb, hml, hown, hts⟩ (c_X3_leadingAstray l G h hc n g sk f ca (by first | omega | assumption) (by first | omega | assumption)) (va_cwS 2 hts gX6_astray_X3_leadingAstray rfl rfl rfl (by decide +kernel) ⟨Nat.le_of_ble_eq_true rfl, Nat.le_of_ble_eq_true rfl⟩) (preS_of hK hP hD [1, 2] (by decide) rfl) rfl hl.1 rfl (lv_room (Nat.le_of_ble_eq_true rfl)) dX6_astray_10 ⟨Nat.zero_le _, Nat.zero_le _⟩ ?_
  exact R_i hx hb hr hlk dX6_astray_13 (rfl)

set_option maxHeartbeats 4000000 in
set_option maxRecDepth 100000 in
theorem x_X6_astray (l : Launch) (hst : l.stackTraces = false) (G : GG) (x : Nat) (tx : Nat) (tr : Nat) (hi : Nat) (sl : Nat) (sv : Nat) (h : Nat) (hc : Nat) (n : Nat) (g : Nat) (sk : Int32) (f : Nat → Int32) (y : Int32) (h_noc : ¬ (0 ≤ y.toInt ∧ y.toInt < 3)) : vx_Met l yX6_astray wsX6_astray ({ frames := 7, cells := 1, slots := 6, locals := 103 } : Room) (va_Pc [.ref x, .int y] (PBX G [(x, .inr (3, [.ref tx, .ref h, .ref tr, .ref hi, .ref sl, .ref sv])), (h, .inr (1, [.ref hc, .int (nI n), .int (nI g), .int sk])), (hc, .inl (G.2 0, 144, .inl f))])) NQ (XT xIOB) 1 6 (fun _ => False) := by
  refine Met.goX (cc := cX6_astray) (maxL := 2) (ret := (some .int)) (by decide) rfl (Nat.le_of_ble_eq_true rfl) ?_
  intro p e s m below meth c ls hx hb hr hml hown hts hlk hnt hP hK hD hE hZ hl
  have hown : s.vm.findClass RX6 = some m.cls := hown
  have hl : lv_has ls 2 [(0, .ref x), (1, .int y)] := hl
  refine lv_aload_n hx hb dX6_astray_0 rfl (lv_at hl 0 rfl) ?_
  refine lv_iload_n hx hb dX6_astray_1 rfl (lv_at hl 1 rfl) ?_
  exact cXV (As := [.int y]) (rest := []) ⟨hx, hb, hml, hown, hts⟩ (x_X6_requireCar l hst G x tx tr hi sl sv h hc n g sk f y (by first | omega | assumption)) (cwV 1 hts gX6_astray_X6_requireCar rfl rfl rfl (by decide +kernel) ⟨Nat.le_of_ble_eq_true rfl, Nat.le_of_ble_eq_true rfl⟩) (preVX_of (preV_of hK hP hD [0, 1, 2] (by decide) rfl (ci := 3) (q0 := 0) rfl rfl rfl) hE hZ) rfl hl.1 rfl (lv_room (Nat.le_of_ble_eq_true rfl)) dX6_astray_2 ⟨Nat.le_of_ble_eq_true rfl, Nat.le_of_ble_eq_true rfl⟩ hnt hlk

theorem in_c_X6_rides_X6 : ∀ w ∈ wsX60, w ∈ wsX6_rides := by decide +kernel
set_option maxHeartbeats 4000000 in
set_option maxRecDepth 100000 in
theorem c_X6_rides (l : Launch) (G : GG) (x : Nat) (tx : Nat) (tr : Nat) (hi : Nat) (sl : Nat) (sv : Nat) (h : Nat) (hc : Nat) (n : Nat) (g : Nat) (sk : Int32) (f : Nat → Int32) (lv : Nat) (to : Nat) (h_n : n ≤ 16) (h_lv : lv < n) (h_to : to < n) : Met l yX6_rides wsX6_rides ({ frames := 6, cells := 0, slots := 0, locals := 140 } : Room) (va_Pc [.ref x, .int (nI lv), .int (nI to)] (PB G [(x, .inr (3, [.ref tx, .ref h, .ref tr, .ref hi, .ref sl, .ref sv])), (h, .inr (1, [.ref hc, .int (nI n), .int (nI g), .int sk])), (hc, .inl (G.2 0, 144, .inl f))])) (QR (some (.int (fwF f n to 16 0 (bitv lv))))) 0 0 (fun _ => False) := by
  refine Met.go (cc := cX6_rides) (maxL := 3) (ret := (some .int)) (by decide) rfl (Nat.le_of_ble_eq_true rfl) ?_
  intro p e s m below meth c ls hx hb hr hml hown hts hlk hP hK hD hS hl
  have hown : s.vm.findClass RX6 = some m.cls := hown
  have hl : lv_has ls 3 [(0, .ref x), (1, .int (nI lv)), (2, .int (nI to))] := hl
  refine lv_aload_n hx hb dX6_rides_0 rfl (lv_at hl 0 rfl) ?_
  refine lv_iload_n hx hb dX6_rides_1 rfl (lv_at hl 1 rfl) ?_
  refine cRVv (As := [.int (nI lv)]) (rest := []) ⟨hx, hb, hml, hown, hts⟩ (c_X6_requireLevel l G x tx tr hi sl sv h hc n g sk f lv (by first | omega | assumption) (by first | omega | assumption)) (cwV 1 hts gX6_rides_X6_requireLevel rfl rfl rfl (by decide +kernel) ⟨Nat.le_of_ble_eq_true rfl, Nat.le_of_ble_eq_true rfl⟩) (preV_of hK hP hD [0, 1, 2] (by decide) rfl (ci := 3) (q0 := 0) rfl rfl rfl) rfl hl.1 rfl (lv_room (Nat.le_of_ble_eq_true rfl)) dX6_rides_2 ⟨Nat.zero_le _, Nat.zero_le _⟩ ?_
  refine lv_aload_n hx hb dX6_rides_5 rfl (lv_at hl 0 rfl) ?_
  refine lv_iload_n hx hb dX6_rides_6 rfl (lv_at hl 2 rfl) ?_
  refine cRVv (As := [.int (nI to)]) (rest := []) ⟨hx, hb, hml, hown, hts⟩ (c_X6_requireLevel l G x tx tr hi sl sv h hc n g sk f to (by first | omega | assumption) (by first | omega | assumption)) (cwV 1 hts gX6_rides_X6_requireLevel rfl rfl rfl (by decide +kernel) ⟨Nat.le_of_ble_eq_true rfl, Nat.le_of_ble_eq_true rfl⟩) (preV_of hK hP hD [0, 1, 2] (by decide) rfl (ci := 3) (q0 := 0) rfl rfl rfl) rfl hl.1 rfl (lv_room (Nat.le_of_ble_eq_true rfl)) dX6_rides_7 ⟨Nat.zero_le _, Nat.zero_le _⟩ ?_
  refine lv_aload_n hx hb dX6_rides_10 rfl (lv_at hl 0 rfl) ?_
  refine va_get (D := G.1) (ci := 3) (v := .ref h) (C := RX6) (T := TX6) (N := 6) hx hb hts in_c_X6_rides_X6 hown hK.1 hP 0 rfl rfl 1 (by decide) (hts (.fieldLink RX6 19 "FloorPanels" "house" "LFloorPanels$House;") (by decide +kernel)) (fun _ h9 => h9) rfl dX6_rides_11 ?_
  refine lv_iload_n hx hb dX6_rides_14 rfl (lv_at hl 1 rfl) ?_
  refine lv_iload_n hx hb dX6_rides_15 rfl (lv_at hl 2 rfl) ?_
  refine cRS (As := [.ref h, .int (nI lv), .int (nI to)]) (rest := []) (v := .int (fwF f n to 16 0 (bitv lv))) ⟨hx, hb, hml, hown, hts⟩ (c_X3_fewest l G h hc n g sk f lv to (by first | omega | assumption) (by first | omega | assumption) (by first | omega | assumption)) (va_cwS 3 hts gX6_rides_X3_fewest rfl rfl rfl (by decide +kernel) ⟨Nat.le_of_ble_eq_true rfl, Nat.le_of_ble_eq_true rfl⟩) (preS_of hK hP hD [1, 2] (by decide) rfl) rfl hl.1 rfl (lv_room (Nat.le_of_ble_eq_true rfl)) dX6_rides_16 ⟨Nat.zero_le _, Nat.zero_le _⟩ ?_
  exact R_i hx hb hr hlk dX6_rides_19 (rfl)

set_option maxHeartbeats 4000000 in
set_option maxRecDepth 100000 in
theorem x_X6_rides_l (l : Launch) (hst : l.stackTraces = false) (G : GG) (x : Nat) (tx : Nat) (tr : Nat) (hi : Nat) (sl : Nat) (sv : Nat) (h : Nat) (hc : Nat) (n : Nat) (g : Nat) (sk : Int32) (f : Nat → Int32) (z : Int32) (w : Int32) (h_n : n ≤ 16) (h_nol : ¬ (0 ≤ z.toInt ∧ z.toInt < (n : Int))) : vx_Met l yX6_rides wsX6_rides ({ frames := 7, cells := 1, slots := 6, locals := 103 } : Room) (va_Pc [.ref x, .int z, .int w] (PBX G [(x, .inr (3, [.ref tx, .ref h, .ref tr, .ref hi, .ref sl, .ref sv])), (h, .inr (1, [.ref hc, .int (nI n), .int (nI g), .int sk])), (hc, .inl (G.2 0, 144, .inl f))])) NQ (XT xIOB) 1 6 (fun _ => False) := by
  refine Met.goX (cc := cX6_rides) (maxL := 3) (ret := (some .int)) (by decide) rfl (Nat.le_of_ble_eq_true rfl) ?_
  intro p e s m below meth c ls hx hb hr hml hown hts hlk hnt hP hK hD hE hZ hl
  have hown : s.vm.findClass RX6 = some m.cls := hown
  have hl : lv_has ls 3 [(0, .ref x), (1, .int z), (2, .int w)] := hl
  refine lv_aload_n hx hb dX6_rides_0 rfl (lv_at hl 0 rfl) ?_
  refine lv_iload_n hx hb dX6_rides_1 rfl (lv_at hl 1 rfl) ?_
  exact cXV (As := [.int z]) (rest := []) ⟨hx, hb, hml, hown, hts⟩ (x_X6_requireLevel l hst G x tx tr hi sl sv h hc n g sk f z (by first | omega | assumption) (by first | omega | assumption)) (cwV 1 hts gX6_rides_X6_requireLevel rfl rfl rfl (by decide +kernel) ⟨Nat.le_of_ble_eq_true rfl, Nat.le_of_ble_eq_true rfl⟩) (preVX_of (preV_of hK hP hD [0, 1, 2] (by decide) rfl (ci := 3) (q0 := 0) rfl rfl rfl) hE hZ) rfl hl.1 rfl (lv_room (Nat.le_of_ble_eq_true rfl)) dX6_rides_2 ⟨Nat.le_of_ble_eq_true rfl, Nat.le_of_ble_eq_true rfl⟩ hnt hlk

set_option maxHeartbeats 4000000 in
set_option maxRecDepth 100000 in
theorem x_X6_rides_m (l : Launch) (hst : l.stackTraces = false) (G : GG) (x : Nat) (tx : Nat) (tr : Nat) (hi : Nat) (sl : Nat) (sv : Nat) (h : Nat) (hc : Nat) (n : Nat) (g : Nat) (sk : Int32) (f : Nat → Int32) (lv : Nat) (z : Int32) (h_n : n ≤ 16) (h_lv : lv < n) (h_nol : ¬ (0 ≤ z.toInt ∧ z.toInt < (n : Int))) : vx_Met l yX6_rides wsX6_rides ({ frames := 7, cells := 1, slots := 6, locals := 103 } : Room) (va_Pc [.ref x, .int (nI lv), .int z] (PBX G [(x, .inr (3, [.ref tx, .ref h, .ref tr, .ref hi, .ref sl, .ref sv])), (h, .inr (1, [.ref hc, .int (nI n), .int (nI g), .int sk])), (hc, .inl (G.2 0, 144, .inl f))])) NQ (XT xIOB) 1 6 (fun _ => False) := by
  refine Met.goX (cc := cX6_rides) (maxL := 3) (ret := (some .int)) (by decide) rfl (Nat.le_of_ble_eq_true rfl) ?_
  intro p e s m below meth c ls hx hb hr hml hown hts hlk hnt hP hK hD hE hZ hl
  have hown : s.vm.findClass RX6 = some m.cls := hown
  have hl : lv_has ls 3 [(0, .ref x), (1, .int (nI lv)), (2, .int z)] := hl
  refine lv_aload_n hx hb dX6_rides_0 rfl (lv_at hl 0 rfl) ?_
  refine lv_iload_n hx hb dX6_rides_1 rfl (lv_at hl 1 rfl) ?_
  refine cRVv (As := [.int (nI lv)]) (rest := []) ⟨hx, hb, hml, hown, hts⟩ (c_X6_requireLevel l G x tx tr hi sl sv h hc n g sk f lv (by first | omega | assumption) (by first | omega | assumption)) (cwV 1 hts gX6_rides_X6_requireLevel rfl rfl rfl (by decide +kernel) ⟨Nat.le_of_ble_eq_true rfl, Nat.le_of_ble_eq_true rfl⟩) (preV_of hK hP hD [0, 1, 2] (by decide) rfl (ci := 3) (q0 := 0) rfl rfl rfl) rfl hl.1 rfl (lv_room (Nat.le_of_ble_eq_true rfl)) dX6_rides_2 ⟨Nat.zero_le _, Nat.zero_le _⟩ ?_
  refine lv_aload_n hx hb dX6_rides_5 rfl (lv_at hl 0 rfl) ?_
  refine lv_iload_n hx hb dX6_rides_6 rfl (lv_at hl 2 rfl) ?_
  exact cXV (As := [.int z]) (rest := []) ⟨hx, hb, hml, hown, hts⟩ (x_X6_requireLevel l hst G x tx tr hi sl sv h hc n g sk f z (by first | omega | assumption) (by first | omega | assumption)) (cwV 1 hts gX6_rides_X6_requireLevel rfl rfl rfl (by decide +kernel) ⟨Nat.le_of_ble_eq_true rfl, Nat.le_of_ble_eq_true rfl⟩) (preVX_of (preV_of hK hP hD [0, 1, 2] (by decide) rfl (ci := 3) (q0 := 0) rfl rfl rfl) hE hZ) rfl hl.1 rfl (lv_room (Nat.le_of_ble_eq_true rfl)) dX6_rides_7 ⟨Nat.le_of_ble_eq_true rfl, Nat.le_of_ble_eq_true rfl⟩ hnt hlk

theorem in_c_X6_worst_X6 : ∀ w ∈ wsX60, w ∈ wsX6_worst := by decide +kernel
set_option maxHeartbeats 4000000 in
set_option maxRecDepth 100000 in
theorem c_X6_worst (l : Launch) (G : GG) (x : Nat) (tx : Nat) (tr : Nat) (hi : Nat) (sl : Nat) (sv : Nat) (h : Nat) (hc : Nat) (n : Nat) (g : Nat) (sk : Int32) (f : Nat → Int32) (h_n : n ≤ 16) : Met l yX6_worst wsX6_worst ({ frames := 4, cells := 0, slots := 0, locals := 92 } : Room) (va_Pc [.ref x] (PB G [(x, .inr (3, [.ref tx, .ref h, .ref tr, .ref hi, .ref sl, .ref sv])), (h, .inr (1, [.ref hc, .int (nI n), .int (nI g), .int sk])), (hc, .inl (G.2 0, 144, .inl f))])) (QR (some (.int (nI (wst (ast f n 0 n) (ast f n 1 n) (ast f n 2 n)))))) 0 0 (fun _ => False) := by
  refine Met.go (cc := cX6_worst) (maxL := 5) (ret := (some .int)) (by decide) rfl (Nat.le_of_ble_eq_true rfl) ?_
  intro p e s m below meth c ls hx hb hr hml hown hts hlk hP hK hD hS hl
  have hown : s.vm.findClass RX6 = some m.cls := hown
  have hl : lv_has ls 5 [(0, .ref x)] := hl
  refine lv_iconst (v := nI 0) hx hb dX6_worst_0 (by decide) ?_
  refine lv_istore_n (lv' := [(1, .int (nI 0)), (0, .ref x)]) hx hb dX6_worst_1 rfl hl (by decide) rfl (fun ls hl => ?_)
  have h_a0 := ast_le f 0 h_n n
  have h_a1 := ast_le f 1 h_n n
  have h_a2 := ast_le f 2 h_n n
  refine lv_aload_n hx hb dX6_worst_2 rfl (lv_at hl 1 rfl) ?_
  refine va_get (D := G.1) (ci := 3) (v := .ref h) (C := RX6) (T := TX6) (N := 6) hx hb hts in_c_X6_worst_X6 hown hK.1 hP 0 rfl rfl 1 (by decide) (hts (.fieldLink RX6 19 "FloorPanels" "house" "LFloorPanels$House;") (by decide +kernel)) (fun _ h9 => h9) rfl dX6_worst_3 ?_
  refine lv_iconst (v := nI 0) hx hb dX6_worst_6 (by decide) ?_
  refine cRS (As := [.ref h, .int (nI 0)]) (rest := []) (v := .int (nI (ast f n 0 n))) ⟨hx, hb, hml, hown, hts⟩ (c_X3_leadingAstray l G h hc n g sk f 0 (by first | omega | assumption) (by first | omega | assumption)) (va_cwS 2 hts gX6_worst_X3_leadingAstray rfl rfl rfl (by decide +kernel) ⟨Nat.le_of_ble_eq_true rfl, Nat.le_of_ble_eq_true rfl⟩) (preS_of hK hP hD [1, 2] (by decide) rfl) rfl hl.1 rfl (lv_room (Nat.le_of_ble_eq_true rfl)) dX6_worst_7 ⟨Nat.zero_le _, Nat.zero_le _⟩ ?_
  refine lv_istore_n (lv' := [(2, .int (nI (ast f n 0 n))), (1, .int (nI 0)), (0, .ref x)]) hx hb dX6_worst_10 rfl hl (by decide) rfl (fun ls hl => ?_)
  refine lv_iconst (v := nI 1) hx hb dX6_worst_11 (by decide) ?_
  refine lv_istore_n (lv' := [(3, .int (nI 1)), (2, .int (nI (ast f n 0 n))), (1, .int (nI 0)), (0, .ref x)]) hx hb dX6_worst_12 rfl hl (by decide) rfl (fun ls hl => ?_)
  refine lv_iload_n hx hb dX6_worst_13 rfl (lv_at hl 0 rfl) ?_
  refine lv_iconst (v := nI 3) hx hb dX6_worst_14 (by decide) ?_
  refine bi_ge (tgt := 45) hx hb dX6_worst_15 (by decide) (nI_i (by omega)) (nI_i (by omega)) (fun c_15 => False.elim (by omega)) (fun c_15 => ?_)
  refine lv_aload_n hx hb dX6_worst_18 rfl (lv_at hl 3 rfl) ?_
  refine va_get (D := G.1) (ci := 3) (v := .ref h) (C := RX6) (T := TX6) (N := 6) hx hb hts in_c_X6_worst_X6 hown hK.1 hP 0 rfl rfl 1 (by decide) (hts (.fieldLink RX6 19 "FloorPanels" "house" "LFloorPanels$House;") (by decide +kernel)) (fun _ h9 => h9) rfl dX6_worst_19 ?_
  refine lv_iload_n hx hb dX6_worst_22 rfl (lv_at hl 0 rfl) ?_
  refine cRS (As := [.ref h, .int (nI 1)]) (rest := []) (v := .int (nI (ast f n 1 n))) ⟨hx, hb, hml, hown, hts⟩ (c_X3_leadingAstray l G h hc n g sk f 1 (by first | omega | assumption) (by first | omega | assumption)) (va_cwS 2 hts gX6_worst_X3_leadingAstray rfl rfl rfl (by decide +kernel) ⟨Nat.le_of_ble_eq_true rfl, Nat.le_of_ble_eq_true rfl⟩) (preS_of hK hP hD [1, 2] (by decide) rfl) rfl hl.1 rfl (lv_room (Nat.le_of_ble_eq_true rfl)) dX6_worst_23 ⟨Nat.zero_le _, Nat.zero_le _⟩ ?_
  refine lv_istore (lv' := [(4, .int (nI (ast f n 1 n))), (3, .int (nI 1)), (2, .int (nI (ast f n 0 n))), (1, .int (nI 0)), (0, .ref x)]) hx hb dX6_worst_26 hl (by decide) rfl (fun ls hl => ?_)
  refine lv_iload hx hb dX6_worst_28 (lv_at hl 0 rfl) ?_
  refine lv_iload_n hx hb dX6_worst_30 rfl (lv_at hl 2 rfl) ?_
  refine bi_le (tgt := 39) hx hb dX6_worst_31 (by decide) (nI_i (by omega)) (nI_i (by omega)) (fun c_31 => ?_) (fun c_31 => ?_)
  ·
    refine lv_iinc (v := nI (1 + 1)) (lv' := [(3, .int (nI (1 + 1))), (4, .int (nI (ast f n 1 n))), (2, .int (nI (ast f n 0 n))), (1, .int (nI 0)), (0, .ref x)]) hx hb dX6_worst_39 hl (k := 1) rfl (inc_n _ 1) (by decide) rfl (fun ls hl => ?_)
    refine lv_goto (tgt := 13) hx hb dX6_worst_42 (by decide) ?_
    refine lv_iload_n hx hb dX6_worst_13 rfl (lv_at hl 0 rfl) ?_
    refine lv_iconst (v := nI 3) hx hb dX6_worst_14 (by decide) ?_
    refine bi_ge (tgt := 45) hx hb dX6_worst_15 (by decide) (nI_i (by omega)) (nI_i (by omega)) (fun c_15 => False.elim (by omega)) (fun c_15 => ?_)
    refine lv_aload_n hx hb dX6_worst_18 rfl (lv_at hl 4 rfl) ?_
    refine va_get (D := G.1) (ci := 3) (v := .ref h) (C := RX6) (T := TX6) (N := 6) hx hb hts in_c_X6_worst_X6 hown hK.1 hP 0 rfl rfl 1 (by decide) (hts (.fieldLink RX6 19 "FloorPanels" "house" "LFloorPanels$House;") (by decide +kernel)) (fun _ h9 => h9) rfl dX6_worst_19 ?_
    refine lv_iload_n hx hb dX6_worst_22 rfl (lv_at hl 0 rfl) ?_
    refine cRS (As := [.ref h, .int (nI (1 + 1))]) (rest := []) (v := .int (nI (ast f n 2 n))) ⟨hx, hb, hml, hown, hts⟩ (c_X3_leadingAstray l G h hc n g sk f (1 + 1) (by first | omega | assumption) (by first | omega | assumption)) (va_cwS 2 hts gX6_worst_X3_leadingAstray rfl rfl rfl (by decide +kernel) ⟨Nat.le_of_ble_eq_true rfl, Nat.le_of_ble_eq_true rfl⟩) (preS_of hK hP hD [1, 2] (by decide) rfl) rfl hl.1 rfl (lv_room (Nat.le_of_ble_eq_true rfl)) dX6_worst_23 ⟨Nat.zero_le _, Nat.zero_le _⟩ ?_
    refine lv_istore (lv' := [(4, .int (nI (ast f n 2 n))), (3, .int (nI (1 + 1))), (2, .int (nI (ast f n 0 n))), (1, .int (nI 0)), (0, .ref x)]) hx hb dX6_worst_26 hl (by decide) rfl (fun ls hl => ?_)
    refine lv_iload hx hb dX6_worst_28 (lv_at hl 0 rfl) ?_
    refine lv_iload_n hx hb dX6_worst_30 rfl (lv_at hl 2 rfl) ?_
    refine bi_le (tgt := 39) hx hb dX6_worst_31 (by decide) (nI_i (by omega)) (nI_i (by omega)) (fun c_31 => ?_) (fun c_31 => ?_)
    ·
      refine lv_iinc (v := nI (1 + 1 + 1)) (lv' := [(3, .int (nI (1 + 1 + 1))), (4, .int (nI (ast f n 2 n))), (2, .int (nI (ast f n 0 n))), (1, .int (nI 0)), (0, .ref x)]) hx hb dX6_worst_39 hl (k := 1) rfl (inc_n _ 1) (by decide) rfl (fun ls hl => ?_)
      refine lv_goto (tgt := 13) hx hb dX6_worst_42 (by decide) ?_
      refine lv_iload_n hx hb dX6_worst_13 rfl (lv_at hl 0 rfl) ?_
      refine lv_iconst (v := nI 3) hx hb dX6_worst_14 (by decide) ?_
      refine bi_ge (tgt := 45) hx hb dX6_worst_15 (by decide) (nI_i (by omega)) (nI_i (by omega)) (fun c_15 => ?_) (fun c_15 => False.elim (by omega))
      refine lv_iload_n hx hb dX6_worst_45 rfl (lv_at hl 3 rfl) ?_
      exact R_i hx hb hr hlk dX6_worst_46 ((wst_ok (by omega)).symm)
    ·
      refine lv_iload hx hb dX6_worst_34 (lv_at hl 0 rfl) ?_
      refine lv_istore_n (lv' := [(2, .int (nI (ast f n 2 n))), (4, .int (nI (ast f n 2 n))), (3, .int (nI (1 + 1))), (1, .int (nI 0)), (0, .ref x)]) hx hb dX6_worst_36 rfl hl (by decide) rfl (fun ls hl => ?_)
      refine lv_iload_n hx hb dX6_worst_37 rfl (lv_at hl 2 rfl) ?_
      refine lv_istore_n (lv' := [(1, .int (nI (1 + 1))), (2, .int (nI (ast f n 2 n))), (4, .int (nI (ast f n 2 n))), (3, .int (nI (1 + 1))), (0, .ref x)]) hx hb dX6_worst_38 rfl hl (by decide) rfl (fun ls hl => ?_)
      refine lv_iinc (v := nI (1 + 1 + 1)) (lv' := [(3, .int (nI (1 + 1 + 1))), (1, .int (nI (1 + 1))), (2, .int (nI (ast f n 2 n))), (4, .int (nI (ast f n 2 n))), (0, .ref x)]) hx hb dX6_worst_39 hl (k := 3) rfl (inc_n _ 1) (by decide) rfl (fun ls hl => ?_)
      refine lv_goto (tgt := 13) hx hb dX6_worst_42 (by decide) ?_
      refine lv_iload_n hx hb dX6_worst_13 rfl (lv_at hl 0 rfl) ?_
      refine lv_iconst (v := nI 3) hx hb dX6_worst_14 (by decide) ?_
      refine bi_ge (tgt := 45) hx hb dX6_worst_15 (by decide) (nI_i (by omega)) (nI_i (by omega)) (fun c_15 => ?_) (fun c_15 => False.elim (by omega))
      refine lv_iload_n hx hb dX6_worst_45 rfl (lv_at hl 1 rfl) ?_
      exact R_i hx hb hr hlk dX6_worst_46 ((wst_ok (by omega)).symm)
  ·
    refine lv_iload hx hb dX6_worst_34 (lv_at hl 0 rfl) ?_
    refine lv_istore_n (lv' := [(2, .int (nI (ast f n 1 n))), (4, .int (nI (ast f n 1 n))), (3, .int (nI 1)), (1, .int (nI 0)), (0, .ref x)]) hx hb dX6_worst_36 rfl hl (by decide) rfl (fun ls hl => ?_)
    refine lv_iload_n hx hb dX6_worst_37 rfl (lv_at hl 2 rfl) ?_
    refine lv_istore_n (lv' := [(1, .int (nI 1)), (2, .int (nI (ast f n 1 n))), (4, .int (nI (ast f n 1 n))), (3, .int (nI 1)), (0, .ref x)]) hx hb dX6_worst_38 rfl hl (by decide) rfl (fun ls hl => ?_)
    refine lv_iinc (v := nI (1 + 1)) (lv' := [(3, .int (nI (1 + 1))), (1, .int (nI 1)), (2, .int (nI (ast f n 1 n))), (4, .int (nI (ast f n 1 n))), (0, .ref x)]) hx hb dX6_worst_39 hl (k := 3) rfl (inc_n _ 1) (by decide) rfl (fun ls hl => ?_)
    refine lv_goto (tgt := 13) hx hb dX6_worst_42 (by decide) ?_
    refine lv_iload_n hx hb dX6_worst_13 rfl (lv_at hl 0 rfl) ?_
    refine lv_iconst (v := nI 3) hx hb dX6_worst_14 (by decide) ?_
    refine bi_ge (tgt := 45) hx hb dX6_worst_15 (by decide) (nI_i (by omega)) (nI_i (by omega)) (fun c_15 => False.elim (by omega)) (fun c_15 => ?_)
    refine lv_aload_n hx hb dX6_worst_18 rfl (lv_at hl 4 rfl) ?_
    refine va_get (D := G.1) (ci := 3) (v := .ref h) (C := RX6) (T := TX6) (N := 6) hx hb hts in_c_X6_worst_X6 hown hK.1 hP 0 rfl rfl 1 (by decide) (hts (.fieldLink RX6 19 "FloorPanels" "house" "LFloorPanels$House;") (by decide +kernel)) (fun _ h9 => h9) rfl dX6_worst_19 ?_
    refine lv_iload_n hx hb dX6_worst_22 rfl (lv_at hl 0 rfl) ?_
    refine cRS (As := [.ref h, .int (nI (1 + 1))]) (rest := []) (v := .int (nI (ast f n 2 n))) ⟨hx, hb, hml, hown, hts⟩ (c_X3_leadingAstray l G h hc n g sk f (1 + 1) (by first | omega | assumption) (by first | omega | assumption)) (va_cwS 2 hts gX6_worst_X3_leadingAstray rfl rfl rfl (by decide +kernel) ⟨Nat.le_of_ble_eq_true rfl, Nat.le_of_ble_eq_true rfl⟩) (preS_of hK hP hD [1, 2] (by decide) rfl) rfl hl.1 rfl (lv_room (Nat.le_of_ble_eq_true rfl)) dX6_worst_23 ⟨Nat.zero_le _, Nat.zero_le _⟩ ?_
    refine lv_istore (lv' := [(4, .int (nI (ast f n 2 n))), (3, .int (nI (1 + 1))), (1, .int (nI 1)), (2, .int (nI (ast f n 1 n))), (0, .ref x)]) hx hb dX6_worst_26 hl (by decide) rfl (fun ls hl => ?_)
    refine lv_iload hx hb dX6_worst_28 (lv_at hl 0 rfl) ?_
    refine lv_iload_n hx hb dX6_worst_30 rfl (lv_at hl 3 rfl) ?_
    refine bi_le (tgt := 39) hx hb dX6_worst_31 (by decide) (nI_i (by omega)) (nI_i (by omega)) (fun c_31 => ?_) (fun c_31 => ?_)
    ·
      refine lv_iinc (v := nI (1 + 1 + 1)) (lv' := [(3, .int (nI (1 + 1 + 1))), (4, .int (nI (ast f n 2 n))), (1, .int (nI 1)), (2, .int (nI (ast f n 1 n))), (0, .ref x)]) hx hb dX6_worst_39 hl (k := 1) rfl (inc_n _ 1) (by decide) rfl (fun ls hl => ?_)
      refine lv_goto (tgt := 13) hx hb dX6_worst_42 (by decide) ?_
      refine lv_iload_n hx hb dX6_worst_13 rfl (lv_at hl 0 rfl) ?_
      refine lv_iconst (v := nI 3) hx hb dX6_worst_14 (by decide) ?_
      refine bi_ge (tgt := 45) hx hb dX6_worst_15 (by decide) (nI_i (by omega)) (nI_i (by omega)) (fun c_15 => ?_) (fun c_15 => False.elim (by omega))
      refine lv_iload_n hx hb dX6_worst_45 rfl (lv_at hl 2 rfl) ?_
      exact R_i hx hb hr hlk dX6_worst_46 ((wst_ok (by omega)).symm)
    ·
      refine lv_iload hx hb dX6_worst_34 (lv_at hl 0 rfl) ?_
      refine lv_istore_n (lv' := [(2, .int (nI (ast f n 2 n))), (4, .int (nI (ast f n 2 n))), (3, .int (nI (1 + 1))), (1, .int (nI 1)), (0, .ref x)]) hx hb dX6_worst_36 rfl hl (by decide) rfl (fun ls hl => ?_)
      refine lv_iload_n hx hb dX6_worst_37 rfl (lv_at hl 2 rfl) ?_
      refine lv_istore_n (lv' := [(1, .int (nI (1 + 1))), (2, .int (nI (ast f n 2 n))), (4, .int (nI (ast f n 2 n))), (3, .int (nI (1 + 1))), (0, .ref x)]) hx hb dX6_worst_38 rfl hl (by decide) rfl (fun ls hl => ?_)
      refine lv_iinc (v := nI (1 + 1 + 1)) (lv' := [(3, .int (nI (1 + 1 + 1))), (1, .int (nI (1 + 1))), (2, .int (nI (ast f n 2 n))), (4, .int (nI (ast f n 2 n))), (0, .ref x)]) hx hb dX6_worst_39 hl (k := 3) rfl (inc_n _ 1) (by decide) rfl (fun ls hl => ?_)
      refine lv_goto (tgt := 13) hx hb dX6_worst_42 (by decide) ?_
      refine lv_iload_n hx hb dX6_worst_13 rfl (lv_at hl 0 rfl) ?_
      refine lv_iconst (v := nI 3) hx hb dX6_worst_14 (by decide) ?_
      refine bi_ge (tgt := 45) hx hb dX6_worst_15 (by decide) (nI_i (by omega)) (nI_i (by omega)) (fun c_15 => ?_) (fun c_15 => False.elim (by omega))
      refine lv_iload_n hx hb dX6_worst_45 rfl (lv_at hl 1 rfl) ?_
      exact R_i hx hb hr hlk dX6_worst_46 ((wst_ok (by omega)).symm)

theorem in_c_X6_wrongIfSkipChanged_X6 : ∀ w ∈ wsX60, w ∈ wsX6_wrongIfSkipChanged := by decide +kernel
set_option maxHeartbeats 4000000 in
set_option maxRecDepth 100000 in
theorem c_X6_wrongIfSkipChanged (l : Launch) (G : GG) (x : Nat) (tx : Nat) (tr : Nat) (hi : Nat) (sl : Nat) (sv : Nat) (h : Nat) (hc : Nat) (n : Nat) (g : Nat) (sk : Int32) (f : Nat → Int32) (trc : Nat) (n2 : Nat) (g2 : Nat) (sk2 : Int32) (f2 : Nat → Int32) (q : Nat) (h_n : n ≤ 16) (h_g : g < n) (h_f : f g = 0) (h_q : 1 ≤ q ∧ q ≤ 30) : Met l yX6_wrongIfSkipChanged wsX6_wrongIfSkipChanged ({ frames := 4, cells := 0, slots := 0, locals := 91 } : Room) (va_Pc [.ref x, .int (nI q)] (PB G [(x, .inr (3, [.ref tx, .ref h, .ref tr, .ref hi, .ref sl, .ref sv])), (h, .inr (1, [.ref hc, .int (nI n), .int (nI g), .int sk])), (hc, .inl (G.2 0, 144, .inl f)), (tr, .inr (1, [.ref trc, .int (nI n2), .int (nI g2), .int sk2])), (trc, .inl (G.2 0, 144, .inl f2))])) (QW G (some (.int (nI (tg n g sk f q)))) [(x, .inr (3, [.ref tx, .ref h, .ref tr, .ref hi, .ref sl, .ref sv])), (h, .inr (1, [.ref hc, .int (nI n), .int (nI g), .int sk])), (hc, .inl (G.2 0, 144, .inl f)), (tr, .inr (1, [.ref trc, .int (nI n), .int (nI g), .int (skp sk q (¬ bt sk q = true))])), (trc, .inl (G.2 0, 144, .inl (rn (skp sk q (¬ bt sk q = true)) g 0 n f)))] (vA [(x, .inr (3, [.ref tx, .ref h, .ref tr, .ref hi, .ref sl, .ref sv])), (h, .inr (1, [.ref hc, .int (nI n), .int (nI g), .int sk])), (hc, .inl (G.2 0, 144, .inl f)), (tr, .inr (1, [.ref trc, .int (nI n2), .int (nI g2), .int sk2])), (trc, .inl (G.2 0, 144, .inl f2))])) 0 0 (vA [(x, .inr (3, [.ref tx, .ref h, .ref tr, .ref hi, .ref sl, .ref sv])), (h, .inr (1, [.ref hc, .int (nI n), .int (nI g), .int sk])), (hc, .inl (G.2 0, 144, .inl f)), (tr, .inr (1, [.ref trc, .int (nI n2), .int (nI g2), .int sk2])), (trc, .inl (G.2 0, 144, .inl f2))]) := by
  refine Met.go (cc := cX6_wrongIfSkipChanged) (maxL := 2) (ret := (some .int)) (by decide) rfl (Nat.le_of_ble_eq_true rfl) ?_
  intro p e s m below meth c ls hx hb hr hml hown hts hlk hP hK hD hS hl
  have hown : s.vm.findClass RX6 = some m.cls := hown
  have hl : lv_has ls 2 [(0, .ref x), (1, .int (nI q))] := hl
  refine lv_aload_n hx hb dX6_wrongIfSkipChanged_0 rfl (lv_at hl 0 rfl) ?_
  refine va_get (D := G.1) (ci := 3) (v := .ref tr) (C := RX6) (T := TX6) (N := 6) hx hb hts in_c_X6_wrongIfSkipChanged_X6 hown hK.1 hP 0 rfl rfl 2 (by decide) (hts (.fieldLink RX6 23 "FloorPanels" "trial" "LFloorPanels$House;") (by decide +kernel)) (fun _ h9 => h9) rfl dX6_wrongIfSkipChanged_1 ?_
  refine lv_aload_n hx hb dX6_wrongIfSkipChanged_4 rfl (lv_at hl 0 rfl) ?_
  refine va_get (D := G.1) (ci := 3) (v := .ref h) (C := RX6) (T := TX6) (N := 6) hx hb hts in_c_X6_wrongIfSkipChanged_X6 hown hK.1 hP 0 rfl rfl 1 (by decide) (hts (.fieldLink RX6 19 "FloorPanels" "house" "LFloorPanels$House;") (by decide +kernel)) (fun _ h9 => h9) rfl dX6_wrongIfSkipChanged_5 ?_
  refine cWV (As := [.ref h]) (rest := []) (st1 := []) (w3 := [(x, .inr (3, [.ref tx, .ref h, .ref tr, .ref hi, .ref sl, .ref sv])), (h, .inr (1, [.ref hc, .int (nI n), .int (nI g), .int sk])), (hc, .inl (G.2 0, 144, .inl f)), (tr, .inr (1, [.ref trc, .int (nI n), .int (nI g), .int sk])), (trc, .inl (G.2 0, 144, .inl f))]) ⟨hx, hb, hml, hown, hts⟩ (c_X1_copyFrom l G tr trc n2 g2 sk2 f2 h hc n g sk f ) (cwV 1 hts gX6_wrongIfSkipChanged_X1_copyFrom rfl rfl rfl (by decide +kernel) ⟨Nat.le_of_ble_eq_true rfl, Nat.le_of_ble_eq_true rfl⟩) (preV_of hK hP hD [3, 4, 1, 2] (by decide) rfl (ci := 1) (q0 := 3) rfl rfl rfl) rfl hl.1 rfl (lv_room (Nat.le_of_ble_eq_true rfl)) dX6_wrongIfSkipChanged_8 ⟨Nat.zero_le _, Nat.zero_le _⟩ hP hD hS [3, 4, 1, 2] (by decide) rfl rfl (rfl) rfl (fun H locs hP hD hS => ?_)
  refine lv_aload_n hx hb dX6_wrongIfSkipChanged_11 rfl (lv_at hl 0 rfl) ?_
  refine va_get (D := G.1) (ci := 3) (v := .ref tr) (C := RX6) (T := TX6) (N := 6) hx hb hts in_c_X6_wrongIfSkipChanged_X6 hown hK.1 hP 0 rfl rfl 2 (by decide) (hts (.fieldLink RX6 23 "FloorPanels" "trial" "LFloorPanels$House;") (by decide +kernel)) (fun _ h9 => h9) rfl dX6_wrongIfSkipChanged_12 ?_
  refine lv_iload_n hx hb dX6_wrongIfSkipChanged_15 rfl (lv_at hl 1 rfl) ?_
  refine lv_aload_n hx hb dX6_wrongIfSkipChanged_16 rfl (lv_at hl 0 rfl) ?_
  refine va_get (D := G.1) (ci := 3) (v := .ref tr) (C := RX6) (T := TX6) (N := 6) hx hb hts in_c_X6_wrongIfSkipChanged_X6 hown hK.1 hP 0 rfl rfl 2 (by decide) (hts (.fieldLink RX6 23 "FloorPanels" "trial" "LFloorPanels$House;") (by decide +kernel)) (fun _ h9 => h9) rfl dX6_wrongIfSkipChanged_17 ?_
  refine lv_iload_n hx hb dX6_wrongIfSkipChanged_20 rfl (lv_at hl 1 rfl) ?_
  refine cRV (As := [.int (nI q)]) (rest := [.int (nI q), .ref tr]) (v := .int (zb (bt sk q = true))) ⟨hx, hb, hml, hown, hts⟩ (c_X1_skips l G tr trc n g sk f q (by first | omega | assumption)) (cwV 1 hts gX6_wrongIfSkipChanged_X1_skips rfl rfl rfl (by decide +kernel) ⟨Nat.le_of_ble_eq_true rfl, Nat.le_of_ble_eq_true rfl⟩) (preV_of hK hP hD [3, 4] (by decide) rfl (ci := 1) (q0 := 3) rfl rfl rfl) rfl hl.1 rfl (lv_room (Nat.le_of_ble_eq_true rfl)) dX6_wrongIfSkipChanged_21 ⟨Nat.zero_le _, Nat.zero_le _⟩ ?_
  refine bb_ne (tgt := 31) hx hb dX6_wrongIfSkipChanged_24 (by decide) (fun c_24 => ?_) (fun c_24 => ?_)
  ·
    refine lv_iconst (v := zb (¬ bt sk q = true)) hx hb dX6_wrongIfSkipChanged_31 (zb_f (fun z_ => z_ c_24)).symm ?_
    refine cWV (As := [.int (nI q), .int (zb (¬ bt sk q = true))]) (rest := []) (st1 := [.int (nI 1)]) (w3 := [(x, .inr (3, [.ref tx, .ref h, .ref tr, .ref hi, .ref sl, .ref sv])), (h, .inr (1, [.ref hc, .int (nI n), .int (nI g), .int sk])), (hc, .inl (G.2 0, 144, .inl f)), (tr, .inr (1, [.ref trc, .int (nI n), .int (nI g), .int (skp sk q (¬ bt sk q = true))])), (trc, .inl (G.2 0, 144, .inl (rn (skp sk q (¬ bt sk q = true)) g 0 n f)))]) ⟨hx, hb, hml, hown, hts⟩ (c_X1_changeSkip l G tr trc n g sk f q (¬ bt sk q = true) (by first | omega | assumption) (by first | omega | assumption) (by first | omega | assumption) (by first | omega | assumption)) (cwV 2 hts gX6_wrongIfSkipChanged_X1_changeSkip rfl rfl rfl (by decide +kernel) ⟨Nat.le_of_ble_eq_true rfl, Nat.le_of_ble_eq_true rfl⟩) (preV_of hK hP hD [3, 4] (by decide) rfl (ci := 1) (q0 := 3) rfl rfl rfl) rfl hl.1 rfl (lv_room (Nat.le_of_ble_eq_true rfl)) dX6_wrongIfSkipChanged_32 ⟨Nat.zero_le _, Nat.zero_le _⟩ hP hD hS [3, 4] (by decide) rfl rfl (rfl) rfl (fun H locs hP hD hS => ?_)
    refine lv_pop hx hb dX6_wrongIfSkipChanged_35 rfl ?_
    refine lv_aload_n hx hb dX6_wrongIfSkipChanged_36 rfl (lv_at hl 0 rfl) ?_
    refine va_get (D := G.1) (ci := 3) (v := .ref tr) (C := RX6) (T := TX6) (N := 6) hx hb hts in_c_X6_wrongIfSkipChanged_X6 hown hK.1 hP 0 rfl rfl 2 (by decide) (hts (.fieldLink RX6 23 "FloorPanels" "trial" "LFloorPanels$House;") (by decide +kernel)) (fun _ h9 => h9) rfl dX6_wrongIfSkipChanged_37 ?_
    refine cRV (As := []) (rest := []) (v := .int (nI (tw (rn (skp sk q (¬ bt sk q = true)) g 0 n f) n))) ⟨hx, hb, hml, hown, hts⟩ (c_X1_wrongInAll l G tr trc n g (skp sk q (¬ bt sk q = true)) (rn (skp sk q (¬ bt sk q = true)) g 0 n f) (by first | omega | assumption)) (cwV 0 hts gX6_wrongIfSkipChanged_X1_wrongInAll rfl rfl rfl (by decide +kernel) ⟨Nat.le_of_ble_eq_true rfl, Nat.le_of_ble_eq_true rfl⟩) (preV_of hK hP hD [3, 4] (by decide) rfl (ci := 1) (q0 := 3) rfl rfl rfl) rfl hl.1 rfl (lv_room (Nat.le_of_ble_eq_true rfl)) dX6_wrongIfSkipChanged_40 ⟨Nat.zero_le _, Nat.zero_le _⟩ ?_
    exact W_i hx hb hr hlk dX6_wrongIfSkipChanged_43 hP hS (rfl) (rfl)
  ·
    refine lv_iconst (v := zb (¬ bt sk q = true)) hx hb dX6_wrongIfSkipChanged_27 (zb_t c_24).symm ?_
    refine lv_goto (tgt := 32) hx hb dX6_wrongIfSkipChanged_28 (by decide) ?_
    refine cWV (As := [.int (nI q), .int (zb (¬ bt sk q = true))]) (rest := []) (st1 := [.int (nI 1)]) (w3 := [(x, .inr (3, [.ref tx, .ref h, .ref tr, .ref hi, .ref sl, .ref sv])), (h, .inr (1, [.ref hc, .int (nI n), .int (nI g), .int sk])), (hc, .inl (G.2 0, 144, .inl f)), (tr, .inr (1, [.ref trc, .int (nI n), .int (nI g), .int (skp sk q (¬ bt sk q = true))])), (trc, .inl (G.2 0, 144, .inl (rn (skp sk q (¬ bt sk q = true)) g 0 n f)))]) ⟨hx, hb, hml, hown, hts⟩ (c_X1_changeSkip l G tr trc n g sk f q (¬ bt sk q = true) (by first | omega | assumption) (by first | omega | assumption) (by first | omega | assumption) (by first | omega | assumption)) (cwV 2 hts gX6_wrongIfSkipChanged_X1_changeSkip rfl rfl rfl (by decide +kernel) ⟨Nat.le_of_ble_eq_true rfl, Nat.le_of_ble_eq_true rfl⟩) (preV_of hK hP hD [3, 4] (by decide) rfl (ci := 1) (q0 := 3) rfl rfl rfl) rfl hl.1 rfl (lv_room (Nat.le_of_ble_eq_true rfl)) dX6_wrongIfSkipChanged_32 ⟨Nat.zero_le _, Nat.zero_le _⟩ hP hD hS [3, 4] (by decide) rfl rfl (rfl) rfl (fun H locs hP hD hS => ?_)
    refine lv_pop hx hb dX6_wrongIfSkipChanged_35 rfl ?_
    refine lv_aload_n hx hb dX6_wrongIfSkipChanged_36 rfl (lv_at hl 0 rfl) ?_
    refine va_get (D := G.1) (ci := 3) (v := .ref tr) (C := RX6) (T := TX6) (N := 6) hx hb hts in_c_X6_wrongIfSkipChanged_X6 hown hK.1 hP 0 rfl rfl 2 (by decide) (hts (.fieldLink RX6 23 "FloorPanels" "trial" "LFloorPanels$House;") (by decide +kernel)) (fun _ h9 => h9) rfl dX6_wrongIfSkipChanged_37 ?_
    refine cRV (As := []) (rest := []) (v := .int (nI (tw (rn (skp sk q (¬ bt sk q = true)) g 0 n f) n))) ⟨hx, hb, hml, hown, hts⟩ (c_X1_wrongInAll l G tr trc n g (skp sk q (¬ bt sk q = true)) (rn (skp sk q (¬ bt sk q = true)) g 0 n f) (by first | omega | assumption)) (cwV 0 hts gX6_wrongIfSkipChanged_X1_wrongInAll rfl rfl rfl (by decide +kernel) ⟨Nat.le_of_ble_eq_true rfl, Nat.le_of_ble_eq_true rfl⟩) (preV_of hK hP hD [3, 4] (by decide) rfl (ci := 1) (q0 := 3) rfl rfl rfl) rfl hl.1 rfl (lv_room (Nat.le_of_ble_eq_true rfl)) dX6_wrongIfSkipChanged_40 ⟨Nat.zero_le _, Nat.zero_le _⟩ ?_
    exact W_i hx hb hr hlk dX6_wrongIfSkipChanged_43 hP hS (rfl) (rfl)

set_option maxHeartbeats 4000000 in
set_option maxRecDepth 100000 in
theorem c_X6_ifSkipped (l : Launch) (G : GG) (x : Nat) (tx : Nat) (tr : Nat) (hi : Nat) (sl : Nat) (sv : Nat) (h : Nat) (hc : Nat) (n : Nat) (g : Nat) (sk : Int32) (f : Nat → Int32) (trc : Nat) (n2 : Nat) (g2 : Nat) (sk2 : Int32) (f2 : Nat → Int32) (q : Nat) (h_n : n ≤ 16) (h_g : g < n) (h_f : f g = 0) (h_q : 1 ≤ q ∧ q ≤ 30) : Met l yX6_ifSkipped wsX6_ifSkipped ({ frames := 5, cells := 0, slots := 0, locals := 112 } : Room) (va_Pc [.ref x, .int (nI q)] (PB G [(x, .inr (3, [.ref tx, .ref h, .ref tr, .ref hi, .ref sl, .ref sv])), (h, .inr (1, [.ref hc, .int (nI n), .int (nI g), .int sk])), (hc, .inl (G.2 0, 144, .inl f)), (tr, .inr (1, [.ref trc, .int (nI n2), .int (nI g2), .int sk2])), (trc, .inl (G.2 0, 144, .inl f2))])) (QW G (some (.int (nI (tg n g sk f q)))) [(x, .inr (3, [.ref tx, .ref h, .ref tr, .ref hi, .ref sl, .ref sv])), (h, .inr (1, [.ref hc, .int (nI n), .int (nI g), .int sk])), (hc, .inl (G.2 0, 144, .inl f)), (tr, .inr (1, [.ref trc, .int (nI n), .int (nI g), .int (skp sk q (¬ bt sk q = true))])), (trc, .inl (G.2 0, 144, .inl (rn (skp sk q (¬ bt sk q = true)) g 0 n f)))] (vA [(x, .inr (3, [.ref tx, .ref h, .ref tr, .ref hi, .ref sl, .ref sv])), (h, .inr (1, [.ref hc, .int (nI n), .int (nI g), .int sk])), (hc, .inl (G.2 0, 144, .inl f)), (tr, .inr (1, [.ref trc, .int (nI n2), .int (nI g2), .int sk2])), (trc, .inl (G.2 0, 144, .inl f2))])) 0 0 (vA [(x, .inr (3, [.ref tx, .ref h, .ref tr, .ref hi, .ref sl, .ref sv])), (h, .inr (1, [.ref hc, .int (nI n), .int (nI g), .int sk])), (hc, .inl (G.2 0, 144, .inl f)), (tr, .inr (1, [.ref trc, .int (nI n2), .int (nI g2), .int sk2])), (trc, .inl (G.2 0, 144, .inl f2))]) := by
  refine Met.go (cc := cX6_ifSkipped) (maxL := 2) (ret := (some .int)) (by decide) rfl (Nat.le_of_ble_eq_true rfl) ?_
  intro p e s m below meth c ls hx hb hr hml hown hts hlk hP hK hD hS hl
  have hown : s.vm.findClass RX6 = some m.cls := hown
  have hl : lv_has ls 2 [(0, .ref x), (1, .int (nI q))] := hl
  refine lv_aload_n hx hb dX6_ifSkipped_0 rfl (lv_at hl 0 rfl) ?_
  refine lv_iload_n hx hb dX6_ifSkipped_1 rfl (lv_at hl 1 rfl) ?_
  refine cRVv (As := [.int (nI q)]) (rest := []) ⟨hx, hb, hml, hown, hts⟩ (c_X6_requireStorey l G x tx tr hi sl sv h hc n g sk f q (by first | omega | assumption)) (cwV 1 hts gX6_ifSkipped_X6_requireStorey rfl rfl rfl (by decide +kernel) ⟨Nat.le_of_ble_eq_true rfl, Nat.le_of_ble_eq_true rfl⟩) (preV_of hK hP hD [0, 1, 2] (by decide) rfl (ci := 3) (q0 := 0) rfl rfl rfl) rfl hl.1 rfl (lv_room (Nat.le_of_ble_eq_true rfl)) dX6_ifSkipped_2 ⟨Nat.zero_le _, Nat.zero_le _⟩ ?_
  refine lv_aload_n hx hb dX6_ifSkipped_5 rfl (lv_at hl 0 rfl) ?_
  refine lv_iload_n hx hb dX6_ifSkipped_6 rfl (lv_at hl 1 rfl) ?_
  refine cWV (As := [.int (nI q)]) (rest := []) (st1 := [.int (nI (tg n g sk f q))]) (w3 := [(x, .inr (3, [.ref tx, .ref h, .ref tr, .ref hi, .ref sl, .ref sv])), (h, .inr (1, [.ref hc, .int (nI n), .int (nI g), .int sk])), (hc, .inl (G.2 0, 144, .inl f)), (tr, .inr (1, [.ref trc, .int (nI n), .int (nI g), .int (skp sk q (¬ bt sk q = true))])), (trc, .inl (G.2 0, 144, .inl (rn (skp sk q (¬ bt sk q = true)) g 0 n f)))]) ⟨hx, hb, hml, hown, hts⟩ (c_X6_wrongIfSkipChanged l G x tx tr hi sl sv h hc n g sk f trc n2 g2 sk2 f2 q (by first | omega | assumption) (by first | omega | assumption) (by first | omega | assumption) (by first | omega | assumption)) (cwV 1 hts gX6_ifSkipped_X6_wrongIfSkipChanged rfl rfl rfl (by decide +kernel) ⟨Nat.le_of_ble_eq_true rfl, Nat.le_of_ble_eq_true rfl⟩) (preV_of hK hP hD [0, 1, 2, 3, 4] (by decide) rfl (ci := 3) (q0 := 0) rfl rfl rfl) rfl hl.1 rfl (lv_room (Nat.le_of_ble_eq_true rfl)) dX6_ifSkipped_7 ⟨Nat.zero_le _, Nat.zero_le _⟩ hP hD hS [0, 1, 2, 3, 4] (by decide) rfl rfl (rfl) rfl (fun H locs hP hD hS => ?_)
  exact W_i hx hb hr hlk dX6_ifSkipped_10 hP hS (rfl) (rfl)

set_option maxHeartbeats 4000000 in
set_option maxRecDepth 100000 in
theorem x_X6_ifSkipped (l : Launch) (hst : l.stackTraces = false) (G : GG) (x : Nat) (tx : Nat) (tr : Nat) (hi : Nat) (sl : Nat) (sv : Nat) (h : Nat) (hc : Nat) (n : Nat) (g : Nat) (sk : Int32) (f : Nat → Int32) (y : Int32) (h_nos : ¬ (1 ≤ y.toInt ∧ y.toInt ≤ 30)) : vx_Met l yX6_ifSkipped wsX6_ifSkipped ({ frames := 7, cells := 1, slots := 6, locals := 103 } : Room) (va_Pc [.ref x, .int y] (PBX G [(x, .inr (3, [.ref tx, .ref h, .ref tr, .ref hi, .ref sl, .ref sv])), (h, .inr (1, [.ref hc, .int (nI n), .int (nI g), .int sk])), (hc, .inl (G.2 0, 144, .inl f))])) NQ (XT xIAE) 1 6 (fun _ => False) := by
  refine Met.goX (cc := cX6_ifSkipped) (maxL := 2) (ret := (some .int)) (by decide) rfl (Nat.le_of_ble_eq_true rfl) ?_
  intro p e s m below meth c ls hx hb hr hml hown hts hlk hnt hP hK hD hE hZ hl
  have hown : s.vm.findClass RX6 = some m.cls := hown
  have hl : lv_has ls 2 [(0, .ref x), (1, .int y)] := hl
  refine lv_aload_n hx hb dX6_ifSkipped_0 rfl (lv_at hl 0 rfl) ?_
  refine lv_iload_n hx hb dX6_ifSkipped_1 rfl (lv_at hl 1 rfl) ?_
  exact cXV (As := [.int y]) (rest := []) ⟨hx, hb, hml, hown, hts⟩ (x_X6_requireStorey l hst G x tx tr hi sl sv h hc n g sk f y (by first | omega | assumption)) (cwV 1 hts gX6_ifSkipped_X6_requireStorey rfl rfl rfl (by decide +kernel) ⟨Nat.le_of_ble_eq_true rfl, Nat.le_of_ble_eq_true rfl⟩) (preVX_of (preV_of hK hP hD [0, 1, 2] (by decide) rfl (ci := 3) (q0 := 0) rfl rfl rfl) hE hZ) rfl hl.1 rfl (lv_room (Nat.le_of_ble_eq_true rfl)) dX6_ifSkipped_2 ⟨Nat.le_of_ble_eq_true rfl, Nat.le_of_ble_eq_true rfl⟩ hnt hlk

theorem in_c_X6_bestSkip_X6 : ∀ w ∈ wsX60, w ∈ wsX6_bestSkip := by decide +kernel
set_option maxHeartbeats 4000000 in
set_option maxRecDepth 100000 in
theorem c_X6_bestSkip (l : Launch) (G : GG) (x : Nat) (tx : Nat) (tr : Nat) (hi : Nat) (sl : Nat) (sv : Nat) (h : Nat) (hc : Nat) (n : Nat) (g : Nat) (sk : Int32) (f : Nat → Int32) (trc : Nat) (n2 : Nat) (g2 : Nat) (sk2 : Int32) (f2 : Nat → Int32) (h_n : n ≤ 16) (h_g : g < n) (h_f : f g = 0) : Met l yX6_bestSkip wsX6_bestSkip ({ frames := 5, cells := 0, slots := 0, locals := 112 } : Room) (va_Pc [.ref x] (PB G [(x, .inr (3, [.ref tx, .ref h, .ref tr, .ref hi, .ref sl, .ref sv])), (h, .inr (1, [.ref hc, .int (nI n), .int (nI g), .int sk])), (hc, .inl (G.2 0, 144, .inl f)), (tr, .inr (1, [.ref trc, .int (nI n2), .int (nI g2), .int sk2])), (trc, .inl (G.2 0, 144, .inl f2))])) (QW G (some (.int (bsF (tg n g sk f) (tw f n) 30))) [(x, .inr (3, [.ref tx, .ref h, .ref tr, .ref hi, .ref sl, .ref sv])), (h, .inr (1, [.ref hc, .int (nI n), .int (nI g), .int sk])), (hc, .inl (G.2 0, 144, .inl f)), (tr, .inr (1, [.ref trc, .int (nI n), .int (nI g), .int (skp sk 30 (¬ bt sk 30 = true))])), (trc, .inl (G.2 0, 144, .inl (rn (skp sk 30 (¬ bt sk 30 = true)) g 0 n f)))] (vA [(x, .inr (3, [.ref tx, .ref h, .ref tr, .ref hi, .ref sl, .ref sv])), (h, .inr (1, [.ref hc, .int (nI n), .int (nI g), .int sk])), (hc, .inl (G.2 0, 144, .inl f)), (tr, .inr (1, [.ref trc, .int (nI n2), .int (nI g2), .int sk2])), (trc, .inl (G.2 0, 144, .inl f2))])) 0 0 (vA [(x, .inr (3, [.ref tx, .ref h, .ref tr, .ref hi, .ref sl, .ref sv])), (h, .inr (1, [.ref hc, .int (nI n), .int (nI g), .int sk])), (hc, .inl (G.2 0, 144, .inl f)), (tr, .inr (1, [.ref trc, .int (nI n2), .int (nI g2), .int sk2])), (trc, .inl (G.2 0, 144, .inl f2))]) := by
  refine Met.go (cc := cX6_bestSkip) (maxL := 5) (ret := (some .int)) (by decide) rfl (Nat.le_of_ble_eq_true rfl) ?_
  intro p e s m below meth c ls hx hb hr hml hown hts hlk hP hK hD hS hl
  have hown : s.vm.findClass RX6 = some m.cls := hown
  have hl : lv_has ls 5 [(0, .ref x)] := hl
  refine lv_iconst (v := (-1)) hx hb dX6_bestSkip_0 (by decide) ?_
  refine lv_istore_n (lv' := [(1, .int (-1)), (0, .ref x)]) hx hb dX6_bestSkip_1 rfl hl (by decide) rfl (fun ls hl => ?_)
  refine lv_aload_n hx hb dX6_bestSkip_2 rfl (lv_at hl 1 rfl) ?_
  refine va_get (D := G.1) (ci := 3) (v := .ref h) (C := RX6) (T := TX6) (N := 6) hx hb hts in_c_X6_bestSkip_X6 hown hK.1 hP 0 rfl rfl 1 (by decide) (hts (.fieldLink RX6 19 "FloorPanels" "house" "LFloorPanels$House;") (by decide +kernel)) (fun _ h9 => h9) rfl dX6_bestSkip_3 ?_
  refine cRV (As := []) (rest := []) (v := .int (nI (tw f n))) ⟨hx, hb, hml, hown, hts⟩ (c_X1_wrongInAll l G h hc n g sk f (by first | omega | assumption)) (cwV 0 hts gX6_bestSkip_X1_wrongInAll rfl rfl rfl (by decide +kernel) ⟨Nat.le_of_ble_eq_true rfl, Nat.le_of_ble_eq_true rfl⟩) (preV_of hK hP hD [1, 2] (by decide) rfl (ci := 1) (q0 := 1) rfl rfl rfl) rfl hl.1 rfl (lv_room (Nat.le_of_ble_eq_true rfl)) dX6_bestSkip_6 ⟨Nat.zero_le _, Nat.zero_le _⟩ ?_
  refine lv_istore_n (lv' := [(2, .int (nI (tw f n))), (1, .int (-1)), (0, .ref x)]) hx hb dX6_bestSkip_9 rfl hl (by decide) rfl (fun ls hl => ?_)
  refine lv_iconst (v := nI 1) hx hb dX6_bestSkip_10 (by decide) ?_
  refine lv_istore_n (lv' := [(3, .int (nI 1)), (2, .int (nI (tw f n))), (1, .int (-1)), (0, .ref x)]) hx hb dX6_bestSkip_11 rfl hl (by decide) rfl (fun ls hl => ?_)
  have loop_12 : ∀ (k_ : Nat) (q : Nat) (h_q1 : 1 ≤ q) (h_q : q ≤ 31) (h_lb : lsF (tg n g sk f) (tw f n) (q - 1) ≤ 64) (_ : 31 - q < k_) (H : Heap) (locs : List Loc) (_ : VP G [(x, .inr (3, [.ref tx, .ref h, .ref tr, .ref hi, .ref sl, .ref sv])), (h, .inr (1, [.ref hc, .int (nI n), .int (nI g), .int sk])), (hc, .inl (G.2 0, 144, .inl f)), (tr, .inr (1, [.ref trc, .int (nI (it q n2 n)), .int (nI (it q g2 g)), .int (it q sk2 (skp sk (q - 1) (¬ bt sk (q - 1) = true)))])), (trc, .inl (G.2 0, 144, .inl (it q f2 (rn (skp sk (q - 1) (¬ bt sk (q - 1) = true)) g 0 n f))))] H) (_ : va_D (vA [(x, .inr (3, [.ref tx, .ref h, .ref tr, .ref hi, .ref sl, .ref sv])), (h, .inr (1, [.ref hc, .int (nI n), .int (nI g), .int sk])), (hc, .inl (G.2 0, 144, .inl f)), (tr, .inr (1, [.ref trc, .int (nI n2), .int (nI g2), .int sk2])), (trc, .inl (G.2 0, 144, .inl f2))]) [(x, .inr (3, [.ref tx, .ref h, .ref tr, .ref hi, .ref sl, .ref sv])), (h, .inr (1, [.ref hc, .int (nI n), .int (nI g), .int sk])), (hc, .inl (G.2 0, 144, .inl f)), (tr, .inr (1, [.ref trc, .int (nI (it q n2 n)), .int (nI (it q g2 g)), .int (it q sk2 (skp sk (q - 1) (¬ bt sk (q - 1) = true)))])), (trc, .inl (G.2 0, 144, .inl (it q f2 (rn (skp sk (q - 1) (¬ bt sk (q - 1) = true)) g 0 n f))))]) (_ : va_S (vA [(x, .inr (3, [.ref tx, .ref h, .ref tr, .ref hi, .ref sl, .ref sv])), (h, .inr (1, [.ref hc, .int (nI n), .int (nI g), .int sk])), (hc, .inl (G.2 0, 144, .inl f)), (tr, .inr (1, [.ref trc, .int (nI n2), .int (nI g2), .int sk2])), (trc, .inl (G.2 0, 144, .inl f2))]) s.heap H locs) (ls : Array Slot), lv_has ls 5 [(3, .int (nI q)), (2, .int (nI (lsF (tg n g sk f) (tw f n) (q - 1)))), (1, .int (bsF (tg n g sk f) (tw f n) (q - 1))), (0, .ref x)] → W p l e ({ frames := 5, cells := 0, slots := 0, locals := 112 } : Room) s m ([.ref x] : List Value).toArray below meth c H locs 0 0 (MQ below (QW G (some (.int (bsF (tg n g sk f) (tw f n) 30))) [(x, .inr (3, [.ref tx, .ref h, .ref tr, .ref hi, .ref sl, .ref sv])), (h, .inr (1, [.ref hc, .int (nI n), .int (nI g), .int sk])), (hc, .inl (G.2 0, 144, .inl f)), (tr, .inr (1, [.ref trc, .int (nI n), .int (nI g), .int (skp sk 30 (¬ bt sk 30 = true))])), (trc, .inl (G.2 0, 144, .inl (rn (skp sk 30 (¬ bt sk 30 = true)) g 0 n f)))] (vA [(x, .inr (3, [.ref tx, .ref h, .ref tr, .ref hi, .ref sl, .ref sv])), (h, .inr (1, [.ref hc, .int (nI n), .int (nI g), .int sk])), (hc, .inl (G.2 0, 144, .inl f)), (tr, .inr (1, [.ref trc, .int (nI n2), .int (nI g2), .int sk2])), (trc, .inl (G.2 0, 144, .inl f2))])) ([.ref x] : List Value).toArray s 0 0 (vA [(x, .inr (3, [.ref tx, .ref h, .ref tr, .ref hi, .ref sl, .ref sv])), (h, .inr (1, [.ref hc, .int (nI n), .int (nI g), .int sk])), (hc, .inl (G.2 0, 144, .inl f)), (tr, .inr (1, [.ref trc, .int (nI n2), .int (nI g2), .int sk2])), (trc, .inl (G.2 0, 144, .inl f2))])) (F0 m 12 ls []) := by
    intro k_
    induction k_ with
    | zero => intro q h_q1 h_q h_lb hk_; exact absurd hk_ (Nat.not_lt_zero _)
    | succ k_ ih_12 =>
      intro q h_q1 h_q h_lb hk_ H locs hP hD hS ls hl
      refine lv_iload_n hx hb dX6_bestSkip_12 rfl (lv_at hl 0 rfl) ?_
      refine lv_bipush (v := nI 30) hx hb dX6_bestSkip_13 (by decide) ?_
      refine bi_gt (tgt := 42) hx hb dX6_bestSkip_15 (by decide) (nI_i (by omega)) (nI_i (by omega)) (fun c_15 => ?_) (fun c_15 => ?_)
      ·
        refine lv_iload_n hx hb dX6_bestSkip_42 rfl (lv_at hl 2 rfl) ?_
        exact W_i hx hb hr hlk dX6_bestSkip_43 hP hS (by rw [show q = 31 by omega]) (by rw [show q = 31 by omega]; rfl)
      ·
        refine lv_aload_n hx hb dX6_bestSkip_18 rfl (lv_at hl 3 rfl) ?_
        refine lv_iload_n hx hb dX6_bestSkip_19 rfl (lv_at hl 0 rfl) ?_
        refine cWV (As := [.int (nI q)]) (rest := []) (st1 := [.int (nI (tg n g sk f q))]) (w3 := [(x, .inr (3, [.ref tx, .ref h, .ref tr, .ref hi, .ref sl, .ref sv])), (h, .inr (1, [.ref hc, .int (nI n), .int (nI g), .int sk])), (hc, .inl (G.2 0, 144, .inl f)), (tr, .inr (1, [.ref trc, .int (nI n), .int (nI g), .int (skp sk q (¬ bt sk q = true))])), (trc, .inl (G.2 0, 144, .inl (rn (skp sk q (¬ bt sk q = true)) g 0 n f)))]) ⟨hx, hb, hml, hown, hts⟩ (c_X6_wrongIfSkipChanged l G x tx tr hi sl sv h hc n g sk f trc (it q n2 n) (it q g2 g) (it q sk2 (skp sk (q - 1) (¬ bt sk (q - 1) = true))) (it q f2 (rn (skp sk (q - 1) (¬ bt sk (q - 1) = true)) g 0 n f)) q (by first | omega | assumption) (by first | omega | assumption) (by first | omega | assumption) (by first | omega | assumption)) (cwV 1 hts gX6_bestSkip_X6_wrongIfSkipChanged rfl rfl rfl (by decide +kernel) ⟨Nat.le_of_ble_eq_true rfl, Nat.le_of_ble_eq_true rfl⟩) (preV_of hK hP hD [0, 1, 2, 3, 4] (by decide) rfl (ci := 3) (q0 := 0) rfl rfl rfl) rfl hl.1 rfl (lv_room (Nat.le_of_ble_eq_true rfl)) dX6_bestSkip_20 ⟨Nat.zero_le _, Nat.zero_le _⟩ hP hD hS [0, 1, 2, 3, 4] (by decide) rfl rfl (rfl) rfl (fun H locs hP hD hS => ?_)
        refine lv_istore (lv' := [(4, .int (nI (tg n g sk f q))), (3, .int (nI q)), (2, .int (nI (lsF (tg n g sk f) (tw f n) (q - 1)))), (1, .int (bsF (tg n g sk f) (tw f n) (q - 1))), (0, .ref x)]) hx hb dX6_bestSkip_23 hl (by decide) rfl (fun ls hl => ?_)
        have h_tg := tg_le n g sk f q h_n
        have h_ls := h_lb
        refine lv_iload hx hb dX6_bestSkip_25 (lv_at hl 0 rfl) ?_
        refine lv_iload_n hx hb dX6_bestSkip_27 rfl (lv_at hl 2 rfl) ?_
        refine bi_ge (tgt := 36) hx hb dX6_bestSkip_28 (by decide) (nI_i (by omega)) (nI_i (by omega)) (fun c_28 => ?_) (fun c_28 => ?_)
        ·
          refine lv_iinc (v := nI (q + 1)) (lv' := [(3, .int (nI (q + 1))), (4, .int (nI (tg n g sk f q))), (2, .int (nI (lsF (tg n g sk f) (tw f n) (q - 1)))), (1, .int (bsF (tg n g sk f) (tw f n) (q - 1))), (0, .ref x)]) hx hb dX6_bestSkip_36 hl (k := 1) rfl (inc_n _ 1) (by decide) rfl (fun ls hl => ?_)
          refine lv_goto (tgt := 12) hx hb dX6_bestSkip_39 (by decide) ?_
          exact ih_12 (q + 1) (by first | omega | assumption) (by first | omega | assumption) (lsF_le (tw_le f h_n) _) (by omega) _ _ (by rw [it_s h_q1, it_s h_q1, it_s h_q1, it_s h_q1]; exact hP) (by rw [it_s h_q1, it_s h_q1, it_s h_q1, it_s h_q1]; exact hD) hS ls (lv_sub hl [0, 2, 3, 4] (by (first | (rw [lsF_t h_q1 (by omega), bsF_t h_q1 (by omega)]; rfl) | (rw [lsF_f h_q1 (by omega), bsF_f h_q1 (by omega)]; rfl))))
        ·
          refine lv_iload hx hb dX6_bestSkip_31 (lv_at hl 0 rfl) ?_
          refine lv_istore_n (lv' := [(2, .int (nI (tg n g sk f q))), (4, .int (nI (tg n g sk f q))), (3, .int (nI q)), (1, .int (bsF (tg n g sk f) (tw f n) (q - 1))), (0, .ref x)]) hx hb dX6_bestSkip_33 rfl hl (by decide) rfl (fun ls hl => ?_)
          refine lv_iload_n hx hb dX6_bestSkip_34 rfl (lv_at hl 2 rfl) ?_
          refine lv_istore_n (lv' := [(1, .int (nI q)), (2, .int (nI (tg n g sk f q))), (4, .int (nI (tg n g sk f q))), (3, .int (nI q)), (0, .ref x)]) hx hb dX6_bestSkip_35 rfl hl (by decide) rfl (fun ls hl => ?_)
          refine lv_iinc (v := nI (q + 1)) (lv' := [(3, .int (nI (q + 1))), (1, .int (nI q)), (2, .int (nI (tg n g sk f q))), (4, .int (nI (tg n g sk f q))), (0, .ref x)]) hx hb dX6_bestSkip_36 hl (k := 3) rfl (inc_n _ 1) (by decide) rfl (fun ls hl => ?_)
          refine lv_goto (tgt := 12) hx hb dX6_bestSkip_39 (by decide) ?_
          exact ih_12 (q + 1) (by first | omega | assumption) (by first | omega | assumption) (lsF_le (tw_le f h_n) _) (by omega) _ _ (by rw [it_s h_q1, it_s h_q1, it_s h_q1, it_s h_q1]; exact hP) (by rw [it_s h_q1, it_s h_q1, it_s h_q1, it_s h_q1]; exact hD) hS ls (lv_sub hl [0, 2, 1, 4] (by (first | (rw [lsF_t h_q1 (by omega), bsF_t h_q1 (by omega)]; rfl) | (rw [lsF_f h_q1 (by omega), bsF_f h_q1 (by omega)]; rfl))))
  exact loop_12 (31 - 1 + 1) 1 (by first | omega | assumption) (by first | omega | assumption) (lsF_le (tw_le f h_n) _) (Nat.lt_succ_self _) _ _ hP hD hS ls (lv_sub hl [0, 1, 2, 3] (by rfl))

theorem in_c_X6_ifAdded_X6 : ∀ w ∈ wsX60, w ∈ wsX6_ifAdded := by decide +kernel
set_option maxHeartbeats 4000000 in
set_option maxRecDepth 100000 in
theorem c_X6_ifAdded (l : Launch) (G : GG) (x : Nat) (tx : Nat) (tr : Nat) (hi : Nat) (sl : Nat) (sv : Nat) (h : Nat) (hc : Nat) (n : Nat) (g : Nat) (sk : Int32) (f : Nat → Int32) (trc : Nat) (n2 : Nat) (g2 : Nat) (sk2 : Int32) (f2 : Nat → Int32) (lv : Nat) (k : Nat) (h_n : n < 16) (h_g : g < n) (h_f : f g = 0) (h_lv : lv ≤ n) (h_k : k < 4) : Met l yX6_ifAdded wsX6_ifAdded ({ frames := 4, cells := 0, slots := 0, locals := 92 } : Room) (va_Pc [.ref x, .int (nI lv), .int (nI k)] (PB G [(x, .inr (3, [.ref tx, .ref h, .ref tr, .ref hi, .ref sl, .ref sv])), (h, .inr (1, [.ref hc, .int (nI n), .int (nI g), .int sk])), (hc, .inl (G.2 0, 144, .inl f)), (tr, .inr (1, [.ref trc, .int (nI n2), .int (nI g2), .int sk2])), (trc, .inl (G.2 0, 144, .inl f2))])) (QW G (some (.int (nI (tw (rn sk (insG lv g) 0 (n + 1) (fur lv (nI k) (sh lv n 9 n f))) (n + 1) - wo (rn sk (insG lv g) 0 (n + 1) (fur lv (nI k) (sh lv n 9 n f))) lv)))) [(x, .inr (3, [.ref tx, .ref h, .ref tr, .ref hi, .ref sl, .ref sv])), (h, .inr (1, [.ref hc, .int (nI n), .int (nI g), .int sk])), (hc, .inl (G.2 0, 144, .inl f)), (tr, .inr (1, [.ref trc, .int (nI (n + 1)), .int (nI (insG lv g)), .int sk])), (trc, .inl (G.2 0, 144, .inl (rn sk (insG lv g) 0 (n + 1) (fur lv (nI k) (sh lv n 9 n f)))))] (vA [(x, .inr (3, [.ref tx, .ref h, .ref tr, .ref hi, .ref sl, .ref sv])), (h, .inr (1, [.ref hc, .int (nI n), .int (nI g), .int sk])), (hc, .inl (G.2 0, 144, .inl f)), (tr, .inr (1, [.ref trc, .int (nI n2), .int (nI g2), .int sk2])), (trc, .inl (G.2 0, 144, .inl f2))])) 0 0 (vA [(x, .inr (3, [.ref tx, .ref h, .ref tr, .ref hi, .ref sl, .ref sv])), (h, .inr (1, [.ref hc, .int (nI n), .int (nI g), .int sk])), (hc, .inl (G.2 0, 144, .inl f)), (tr, .inr (1, [.ref trc, .int (nI n2), .int (nI g2), .int sk2])), (trc, .inl (G.2 0, 144, .inl f2))]) := by
  refine Met.go (cc := cX6_ifAdded) (maxL := 3) (ret := (some .int)) (by decide) rfl (Nat.le_of_ble_eq_true rfl) ?_
  intro p e s m below meth c ls hx hb hr hml hown hts hlk hP hK hD hS hl
  have hown : s.vm.findClass RX6 = some m.cls := hown
  have hl : lv_has ls 3 [(0, .ref x), (1, .int (nI lv)), (2, .int (nI k))] := hl
  refine lv_aload_n hx hb dX6_ifAdded_0 rfl (lv_at hl 0 rfl) ?_
  refine lv_iload_n hx hb dX6_ifAdded_1 rfl (lv_at hl 1 rfl) ?_
  refine lv_iload_n hx hb dX6_ifAdded_2 rfl (lv_at hl 2 rfl) ?_
  refine cRVv (As := [.int (nI lv), .int (nI k)]) (rest := []) ⟨hx, hb, hml, hown, hts⟩ (c_X6_requireRoomFor l G x tx tr hi sl sv h hc n g sk f lv k (by first | omega | assumption) (by first | omega | assumption) (by first | omega | assumption)) (cwV 2 hts gX6_ifAdded_X6_requireRoomFor rfl rfl rfl (by decide +kernel) ⟨Nat.le_of_ble_eq_true rfl, Nat.le_of_ble_eq_true rfl⟩) (preV_of hK hP hD [0, 1, 2] (by decide) rfl (ci := 3) (q0 := 0) rfl rfl rfl) rfl hl.1 rfl (lv_room (Nat.le_of_ble_eq_true rfl)) dX6_ifAdded_3 ⟨Nat.zero_le _, Nat.zero_le _⟩ ?_
  refine lv_aload_n hx hb dX6_ifAdded_6 rfl (lv_at hl 0 rfl) ?_
  refine va_get (D := G.1) (ci := 3) (v := .ref tr) (C := RX6) (T := TX6) (N := 6) hx hb hts in_c_X6_ifAdded_X6 hown hK.1 hP 0 rfl rfl 2 (by decide) (hts (.fieldLink RX6 23 "FloorPanels" "trial" "LFloorPanels$House;") (by decide +kernel)) (fun _ h9 => h9) rfl dX6_ifAdded_7 ?_
  refine lv_aload_n hx hb dX6_ifAdded_10 rfl (lv_at hl 0 rfl) ?_
  refine va_get (D := G.1) (ci := 3) (v := .ref h) (C := RX6) (T := TX6) (N := 6) hx hb hts in_c_X6_ifAdded_X6 hown hK.1 hP 0 rfl rfl 1 (by decide) (hts (.fieldLink RX6 19 "FloorPanels" "house" "LFloorPanels$House;") (by decide +kernel)) (fun _ h9 => h9) rfl dX6_ifAdded_11 ?_
  refine cWV (As := [.ref h]) (rest := []) (st1 := []) (w3 := [(x, .inr (3, [.ref tx, .ref h, .ref tr, .ref hi, .ref sl, .ref sv])), (h, .inr (1, [.ref hc, .int (nI n), .int (nI g), .int sk])), (hc, .inl (G.2 0, 144, .inl f)), (tr, .inr (1, [.ref trc, .int (nI n), .int (nI g), .int sk])), (trc, .inl (G.2 0, 144, .inl f))]) ⟨hx, hb, hml, hown, hts⟩ (c_X1_copyFrom l G tr trc n2 g2 sk2 f2 h hc n g sk f ) (cwV 1 hts gX6_ifAdded_X1_copyFrom rfl rfl rfl (by decide +kernel) ⟨Nat.le_of_ble_eq_true rfl, Nat.le_of_ble_eq_true rfl⟩) (preV_of hK hP hD [3, 4, 1, 2] (by decide) rfl (ci := 1) (q0 := 3) rfl rfl rfl) rfl hl.1 rfl (lv_room (Nat.le_of_ble_eq_true rfl)) dX6_ifAdded_14 ⟨Nat.zero_le _, Nat.zero_le _⟩ hP hD hS [3, 4, 1, 2] (by decide) rfl rfl (rfl) rfl (fun H locs hP hD hS => ?_)
  refine lv_aload_n hx hb dX6_ifAdded_17 rfl (lv_at hl 0 rfl) ?_
  refine va_get (D := G.1) (ci := 3) (v := .ref tr) (C := RX6) (T := TX6) (N := 6) hx hb hts in_c_X6_ifAdded_X6 hown hK.1 hP 0 rfl rfl 2 (by decide) (hts (.fieldLink RX6 23 "FloorPanels" "trial" "LFloorPanels$House;") (by decide +kernel)) (fun _ h9 => h9) rfl dX6_ifAdded_18 ?_
  refine lv_iload_n hx hb dX6_ifAdded_21 rfl (lv_at hl 1 rfl) ?_
  refine lv_iload_n hx hb dX6_ifAdded_22 rfl (lv_at hl 2 rfl) ?_
  refine cWV (As := [.int (nI lv), .int (nI k)]) (rest := []) (st1 := [.int (nI 1)]) (w3 := [(x, .inr (3, [.ref tx, .ref h, .ref tr, .ref hi, .ref sl, .ref sv])), (h, .inr (1, [.ref hc, .int (nI n), .int (nI g), .int sk])), (hc, .inl (G.2 0, 144, .inl f)), (tr, .inr (1, [.ref trc, .int (nI (n + 1)), .int (nI (insG lv g)), .int sk])), (trc, .inl (G.2 0, 144, .inl (rn sk (insG lv g) 0 (n + 1) (fur lv (nI k) (sh lv n 9 n f)))))]) ⟨hx, hb, hml, hown, hts⟩ (c_X1_insertLevel l G tr trc n g sk f lv k (by first | omega | assumption) (by first | omega | assumption) (by first | omega | assumption) (by first | omega | assumption) (by first | omega | assumption)) (cwV 2 hts gX6_ifAdded_X1_insertLevel rfl rfl rfl (by decide +kernel) ⟨Nat.le_of_ble_eq_true rfl, Nat.le_of_ble_eq_true rfl⟩) (preV_of hK hP hD [3, 4] (by decide) rfl (ci := 1) (q0 := 3) rfl rfl rfl) rfl hl.1 rfl (lv_room (Nat.le_of_ble_eq_true rfl)) dX6_ifAdded_23 ⟨Nat.zero_le _, Nat.zero_le _⟩ hP hD hS [3, 4] (by decide) rfl rfl (rfl) rfl (fun H locs hP hD hS => ?_)
  refine lv_pop hx hb dX6_ifAdded_26 rfl ?_
  refine lv_aload_n hx hb dX6_ifAdded_27 rfl (lv_at hl 0 rfl) ?_
  refine va_get (D := G.1) (ci := 3) (v := .ref tr) (C := RX6) (T := TX6) (N := 6) hx hb hts in_c_X6_ifAdded_X6 hown hK.1 hP 0 rfl rfl 2 (by decide) (hts (.fieldLink RX6 23 "FloorPanels" "trial" "LFloorPanels$House;") (by decide +kernel)) (fun _ h9 => h9) rfl dX6_ifAdded_28 ?_
  refine cRV (As := []) (rest := []) (v := .int (nI (tw (rn sk (insG lv g) 0 (n + 1) (fur lv (nI k) (sh lv n 9 n f))) (n + 1)))) ⟨hx, hb, hml, hown, hts⟩ (c_X1_wrongInAll l G tr trc (n + 1) (insG lv g) sk (rn sk (insG lv g) 0 (n + 1) (fur lv (nI k) (sh lv n 9 n f))) (by first | omega | assumption)) (cwV 0 hts gX6_ifAdded_X1_wrongInAll rfl rfl rfl (by decide +kernel) ⟨Nat.le_of_ble_eq_true rfl, Nat.le_of_ble_eq_true rfl⟩) (preV_of hK hP hD [3, 4] (by decide) rfl (ci := 1) (q0 := 3) rfl rfl rfl) rfl hl.1 rfl (lv_room (Nat.le_of_ble_eq_true rfl)) dX6_ifAdded_31 ⟨Nat.zero_le _, Nat.zero_le _⟩ ?_
  refine lv_aload_n hx hb dX6_ifAdded_34 rfl (lv_at hl 0 rfl) ?_
  refine va_get (D := G.1) (ci := 3) (v := .ref tr) (C := RX6) (T := TX6) (N := 6) hx hb hts in_c_X6_ifAdded_X6 hown hK.1 hP 0 rfl rfl 2 (by decide) (hts (.fieldLink RX6 23 "FloorPanels" "trial" "LFloorPanels$House;") (by decide +kernel)) (fun _ h9 => h9) rfl dX6_ifAdded_35 ?_
  refine lv_iload_n hx hb dX6_ifAdded_38 rfl (lv_at hl 1 rfl) ?_
  refine cRV (As := [.int (nI lv)]) (rest := [.int (nI (tw (rn sk (insG lv g) 0 (n + 1) (fur lv (nI k) (sh lv n 9 n f))) (n + 1)))]) (v := .int (nI (nb (¬ (rn sk (insG lv g) 0 (n + 1) (fur lv (nI k) (sh lv n 9 n f))) (32 + lv) = (rn sk (insG lv g) 0 (n + 1) (fur lv (nI k) (sh lv n 9 n f))) (16 + lv)) + nb (¬ (rn sk (insG lv g) 0 (n + 1) (fur lv (nI k) (sh lv n 9 n f))) (48 + lv) = (rn sk (insG lv g) 0 (n + 1) (fur lv (nI k) (sh lv n 9 n f))) (16 + lv)) + nb (¬ (rn sk (insG lv g) 0 (n + 1) (fur lv (nI k) (sh lv n 9 n f))) (64 + lv) = (rn sk (insG lv g) 0 (n + 1) (fur lv (nI k) (sh lv n 9 n f))) (16 + lv)) + nb (¬ (rn sk (insG lv g) 0 (n + 1) (fur lv (nI k) (sh lv n 9 n f))) (80 + lv) = (rn sk (insG lv g) 0 (n + 1) (fur lv (nI k) (sh lv n 9 n f))) (16 + lv))))) ⟨hx, hb, hml, hown, hts⟩ (c_X1_wrongOf l G tr trc (n + 1) (insG lv g) sk (rn sk (insG lv g) 0 (n + 1) (fur lv (nI k) (sh lv n 9 n f))) lv (by first | omega | assumption)) (cwV 1 hts gX6_ifAdded_X1_wrongOf rfl rfl rfl (by decide +kernel) ⟨Nat.le_of_ble_eq_true rfl, Nat.le_of_ble_eq_true rfl⟩) (preV_of hK hP hD [3, 4] (by decide) rfl (ci := 1) (q0 := 3) rfl rfl rfl) rfl hl.1 rfl (lv_room (Nat.le_of_ble_eq_true rfl)) dX6_ifAdded_39 ⟨Nat.zero_le _, Nat.zero_le _⟩ ?_
  have h_wo := wo_le (rn sk (insG lv g) 0 (n + 1) (fur lv (nI k) (sh lv n 9 n f))) (show lv < n + 1 by omega)
  unfold wo at h_wo
  refine nv_isub hx hb (by omega) dX6_ifAdded_42 ?_
  exact W_i hx hb hr hlk dX6_ifAdded_43 hP hS (rfl) (rfl)

set_option maxHeartbeats 4000000 in
set_option maxRecDepth 100000 in
theorem x_X6_ifAdded_l (l : Launch) (hst : l.stackTraces = false) (G : GG) (x : Nat) (tx : Nat) (tr : Nat) (hi : Nat) (sl : Nat) (sv : Nat) (h : Nat) (hc : Nat) (n : Nat) (g : Nat) (sk : Int32) (f : Nat → Int32) (z : Int32) (y : Int32) (h_n : n ≤ 16) (h_nol : ¬ (0 ≤ z.toInt ∧ z.toInt ≤ (n : Int))) : vx_Met l yX6_ifAdded wsX6_ifAdded ({ frames := 7, cells := 1, slots := 6, locals := 104 } : Room) (va_Pc [.ref x, .int z, .int y] (PBX G [(x, .inr (3, [.ref tx, .ref h, .ref tr, .ref hi, .ref sl, .ref sv])), (h, .inr (1, [.ref hc, .int (nI n), .int (nI g), .int sk])), (hc, .inl (G.2 0, 144, .inl f))])) NQ (XT xIOB) 1 6 (fun _ => False) := by
  refine Met.goX (cc := cX6_ifAdded) (maxL := 3) (ret := (some .int)) (by decide) rfl (Nat.le_of_ble_eq_true rfl) ?_
  intro p e s m below meth c ls hx hb hr hml hown hts hlk hnt hP hK hD hE hZ hl
  have hown : s.vm.findClass RX6 = some m.cls := hown
  have hl : lv_has ls 3 [(0, .ref x), (1, .int z), (2, .int y)] := hl
  refine lv_aload_n hx hb dX6_ifAdded_0 rfl (lv_at hl 0 rfl) ?_
  refine lv_iload_n hx hb dX6_ifAdded_1 rfl (lv_at hl 1 rfl) ?_
  refine lv_iload_n hx hb dX6_ifAdded_2 rfl (lv_at hl 2 rfl) ?_
  exact cXV (As := [.int z, .int y]) (rest := []) ⟨hx, hb, hml, hown, hts⟩ (x_X6_requireRoomFor_l l hst G x tx tr hi sl sv h hc n g sk f z y (by first | omega | assumption) (by first | omega | assumption)) (cwV 2 hts gX6_ifAdded_X6_requireRoomFor rfl rfl rfl (by decide +kernel) ⟨Nat.le_of_ble_eq_true rfl, Nat.le_of_ble_eq_true rfl⟩) (preVX_of (preV_of hK hP hD [0, 1, 2] (by decide) rfl (ci := 3) (q0 := 0) rfl rfl rfl) hE hZ) rfl hl.1 rfl (lv_room (Nat.le_of_ble_eq_true rfl)) dX6_ifAdded_3 ⟨Nat.le_of_ble_eq_true rfl, Nat.le_of_ble_eq_true rfl⟩ hnt hlk

set_option maxHeartbeats 4000000 in
set_option maxRecDepth 100000 in
theorem x_X6_ifAdded_k (l : Launch) (hst : l.stackTraces = false) (G : GG) (x : Nat) (tx : Nat) (tr : Nat) (hi : Nat) (sl : Nat) (sv : Nat) (h : Nat) (hc : Nat) (n : Nat) (g : Nat) (sk : Int32) (f : Nat → Int32) (lv : Nat) (y : Int32) (h_n : n ≤ 16) (h_lv : lv ≤ n) (h_nok : ¬ (0 ≤ y.toInt ∧ y.toInt < 4)) : vx_Met l yX6_ifAdded wsX6_ifAdded ({ frames := 8, cells := 1, slots := 6, locals := 125 } : Room) (va_Pc [.ref x, .int (nI lv), .int y] (PBX G [(x, .inr (3, [.ref tx, .ref h, .ref tr, .ref hi, .ref sl, .ref sv])), (h, .inr (1, [.ref hc, .int (nI n), .int (nI g), .int sk])), (hc, .inl (G.2 0, 144, .inl f))])) NQ (XT xIAE) 1 6 (fun _ => False) := by
  refine Met.goX (cc := cX6_ifAdded) (maxL := 3) (ret := (some .int)) (by decide) rfl (Nat.le_of_ble_eq_true rfl) ?_
  intro p e s m below meth c ls hx hb hr hml hown hts hlk hnt hP hK hD hE hZ hl
  have hown : s.vm.findClass RX6 = some m.cls := hown
  have hl : lv_has ls 3 [(0, .ref x), (1, .int (nI lv)), (2, .int y)] := hl
  refine lv_aload_n hx hb dX6_ifAdded_0 rfl (lv_at hl 0 rfl) ?_
  refine lv_iload_n hx hb dX6_ifAdded_1 rfl (lv_at hl 1 rfl) ?_
  refine lv_iload_n hx hb dX6_ifAdded_2 rfl (lv_at hl 2 rfl) ?_
  exact cXV (As := [.int (nI lv), .int y]) (rest := []) ⟨hx, hb, hml, hown, hts⟩ (x_X6_requireRoomFor_k l hst G x tx tr hi sl sv h hc n g sk f lv y (by first | omega | assumption) (by first | omega | assumption) (by first | omega | assumption)) (cwV 2 hts gX6_ifAdded_X6_requireRoomFor rfl rfl rfl (by decide +kernel) ⟨Nat.le_of_ble_eq_true rfl, Nat.le_of_ble_eq_true rfl⟩) (preVX_of (preV_of hK hP hD [0, 1, 2] (by decide) rfl (ci := 3) (q0 := 0) rfl rfl rfl) hE hZ) rfl hl.1 rfl (lv_room (Nat.le_of_ble_eq_true rfl)) dX6_ifAdded_3 ⟨Nat.le_of_ble_eq_true rfl, Nat.le_of_ble_eq_true rfl⟩ hnt hlk

set_option maxHeartbeats 4000000 in
set_option maxRecDepth 100000 in
theorem x_X6_ifAdded_f (l : Launch) (hst : l.stackTraces = false) (G : GG) (x : Nat) (tx : Nat) (tr : Nat) (hi : Nat) (sl : Nat) (sv : Nat) (h : Nat) (hc : Nat) (n : Nat) (g : Nat) (sk : Int32) (f : Nat → Int32) (lv : Nat) (k : Nat) (h_n : n ≤ 16) (h_lv : lv ≤ n) (h_k : k < 4) (h_f16 : 16 ≤ n) : vx_Met l yX6_ifAdded wsX6_ifAdded ({ frames := 7, cells := 1, slots := 6, locals := 104 } : Room) (va_Pc [.ref x, .int (nI lv), .int (nI k)] (PBX G [(x, .inr (3, [.ref tx, .ref h, .ref tr, .ref hi, .ref sl, .ref sv])), (h, .inr (1, [.ref hc, .int (nI n), .int (nI g), .int sk])), (hc, .inl (G.2 0, 144, .inl f))])) NQ (XT xISE) 1 6 (fun _ => False) := by
  refine Met.goX (cc := cX6_ifAdded) (maxL := 3) (ret := (some .int)) (by decide) rfl (Nat.le_of_ble_eq_true rfl) ?_
  intro p e s m below meth c ls hx hb hr hml hown hts hlk hnt hP hK hD hE hZ hl
  have hown : s.vm.findClass RX6 = some m.cls := hown
  have hl : lv_has ls 3 [(0, .ref x), (1, .int (nI lv)), (2, .int (nI k))] := hl
  refine lv_aload_n hx hb dX6_ifAdded_0 rfl (lv_at hl 0 rfl) ?_
  refine lv_iload_n hx hb dX6_ifAdded_1 rfl (lv_at hl 1 rfl) ?_
  refine lv_iload_n hx hb dX6_ifAdded_2 rfl (lv_at hl 2 rfl) ?_
  exact cXV (As := [.int (nI lv), .int (nI k)]) (rest := []) ⟨hx, hb, hml, hown, hts⟩ (x_X6_requireRoomFor_f l hst G x tx tr hi sl sv h hc n g sk f lv k (by first | omega | assumption) (by first | omega | assumption) (by first | omega | assumption) (by first | omega | assumption)) (cwV 2 hts gX6_ifAdded_X6_requireRoomFor rfl rfl rfl (by decide +kernel) ⟨Nat.le_of_ble_eq_true rfl, Nat.le_of_ble_eq_true rfl⟩) (preVX_of (preV_of hK hP hD [0, 1, 2] (by decide) rfl (ci := 3) (q0 := 0) rfl rfl rfl) hE hZ) rfl hl.1 rfl (lv_room (Nat.le_of_ble_eq_true rfl)) dX6_ifAdded_3 ⟨Nat.le_of_ble_eq_true rfl, Nat.le_of_ble_eq_true rfl⟩ hnt hlk

