theorem in_c_X7_undo_X7 : ∀ w ∈ wsX70, w ∈ wsX7_undo := by decide +kernel
set_option maxHeartbeats 4000000 in
set_option maxRecDepth 100000 in
theorem c_X7_undo (l : Launch) (G : GG) (M : Nat) (rf : Nat) (mt : Nat) (sz : Nat) (mn : Nat) (mtr : Nat) (md : Nat) (ac : Nat) (mk : Nat) (mik : Nat) (na : Nat) (so : Nat) (n : Nat) (g : Nat) (sk : Int32) (mm : Nat → Int32) (df : Nat → Int32) (n4 : Nat) (g4 : Int32) (sk4 : Int32) (m4 : Nat → Int32) (h_ac : ac ≤ 14) (h_c1 : 1 ≤ ac) (h_d : ∀ j, j < 131 → df (131 * (ac - 1) + j) = mr n4 g4 sk4 m4 j) : Met l yX7_undo wsX7_undo ({ frames := 1, cells := 0, slots := 0, locals := 24 } : Room) (va_Pc [.ref M] (PB G [(M, .inr (4, [.int (nI rf), .ref mt, .int (nI sz), .ref mn, .ref mtr, .ref md, .int (nI ac), .ref mk, .ref mik, .ref na, .ref so])), (mn, .inl (G.2 0, 131, .inl (mr n (nI g) sk mm))), (md, .inl (G.2 0, 1834, .inl df))])) (QW G (some (.int (nI (ac - 1)))) [(M, .inr (4, [.int (nI 0), .ref mt, .int (nI sz), .ref mn, .ref mtr, .ref md, .int (nI (ac - 1)), .ref mk, .ref mik, .ref na, .ref so])), (mn, .inl (G.2 0, 131, .inl (mr n4 g4 sk4 (pur mm 0 m4 131)))), (md, .inl (G.2 0, 1834, .inl df))] (vA [(M, .inr (4, [.int (nI rf), .ref mt, .int (nI sz), .ref mn, .ref mtr, .ref md, .int (nI ac), .ref mk, .ref mik, .ref na, .ref so])), (mn, .inl (G.2 0, 131, .inl (mr n (nI g) sk mm))), (md, .inl (G.2 0, 1834, .inl df))])) 0 0 (vA [(M, .inr (4, [.int (nI rf), .ref mt, .int (nI sz), .ref mn, .ref mtr, .ref md, .int (nI ac), .ref mk, .ref mik, .ref na, .ref so])), (mn, .inl (G.2 0, 131, .inl (mr n (nI g) sk mm))), (md, .inl (G.2 0, 1834, .inl df))]) := by
  refine Met.go (cc := cX7_undo) (maxL := 1) (ret := (some .int)) (by decide) rfl (Nat.le_of_ble_eq_true rfl) ?_
  intro p e s m below meth c ls hx hb hr hml hown hts hlk hP hK hD hS hl
  have hown : s.vm.findClass RX7 = some m.cls := hown
  have hl : lv_has ls 1 [(0, .ref M)] := hl
  refine lv_aload_n hx hb dX7_undo_0 rfl (lv_at hl 0 rfl) ?_
  refine lv_aload_n hx hb dX7_undo_1 rfl (lv_at hl 0 rfl) ?_
  refine va_get (D := G.1) (ci := 4) (v := .int (nI ac)) (C := RX7) (T := TX7) (N := 11) hx hb hts in_c_X7_undo_X7 hown hK.1 hP 0 rfl rfl 6 (by decide) (hts (.fieldLink RX7 136 "FloorPanelsModel" "acts" "I") (by decide +kernel)) (fun _ h9 => h9) rfl dX7_undo_2 ?_
  refine b0_ne (tgt := 12) hx hb dX7_undo_5 (by decide) (nI_i (by omega)) (fun c_5 => ?_) (fun c_5 => False.elim (by omega))
  refine lv_iconst (v := nI 0) hx hb dX7_undo_12 (by decide) ?_
  refine cWV (As := [.int (nI 0)]) (rest := []) (st1 := [.int (zb (0 < 0))]) (w3 := [(M, .inr (4, [.int (nI 0), .ref mt, .int (nI sz), .ref mn, .ref mtr, .ref md, .int (nI ac), .ref mk, .ref mik, .ref na, .ref so])), (mn, .inl (G.2 0, 131, .inl (mr n (nI g) sk mm))), (md, .inl (G.2 0, 1834, .inl df))]) ⟨hx, hb, hml, hown, hts⟩ (c_X7_refused l G M rf mt sz mn mtr md ac mk mik na so 0 (by first | omega | assumption)) (cwV 1 hts gX7_undo_X7_refused rfl rfl rfl (by decide +kernel) ⟨Nat.le_of_ble_eq_true rfl, Nat.le_of_ble_eq_true rfl⟩) (preV_of hK hP hD [0] (by decide) rfl (ci := 4) (q0 := 0) rfl rfl rfl) rfl hl.1 rfl (lv_room (Nat.le_of_ble_eq_true rfl)) dX7_undo_13 ⟨Nat.zero_le _, Nat.zero_le _⟩ hP hD hS [0] (by decide) rfl rfl (rfl) rfl (fun H locs hP hD hS => ?_)
  refine bb_eq (tgt := 21) hx hb dX7_undo_16 (by decide) (fun c_16 => ?_) (fun c_16 => False.elim (by omega))
  refine lv_aload_n hx hb dX7_undo_21 rfl (lv_at hl 0 rfl) ?_
  refine lv_dup hx hb dX7_undo_22 rfl ?_
  refine va_get (D := G.1) (ci := 4) (v := .int (nI ac)) (C := RX7) (T := TX7) (N := 11) hx hb hts in_c_X7_undo_X7 hown hK.1 hP 0 rfl rfl 6 (by decide) (hts (.fieldLink RX7 136 "FloorPanelsModel" "acts" "I") (by decide +kernel)) (fun _ h9 => h9) rfl dX7_undo_23 ?_
  refine lv_iconst (v := nI 1) hx hb dX7_undo_26 (by decide) ?_
  refine nv_isub hx hb (by omega) dX7_undo_27 ?_
  refine va_put (D := G.1) (ci := 4) (v := .int (nI (ac - 1))) (ty := .int) (C := RX7) (T := TX7) (N := 11) hx hb hts in_c_X7_undo_X7 tyX7 tyX7_ok nmX7 hown hK.1 hP hD hS 0 rfl rfl 6 (by decide) (hts (.fieldLink RX7 136 "FloorPanelsModel" "acts" "I") (by decide +kernel)) (fun _ h9 => h9) rfl (by decide +kernel) rfl rfl (Nat.le_of_ble_eq_true rfl) dX7_undo_28 (fun H locs hP hD hS => ?_)
  have hP : VP G [(M, .inr (4, [.int (nI 0), .ref mt, .int (nI sz), .ref mn, .ref mtr, .ref md, .int (nI (ac - 1)), .ref mk, .ref mik, .ref na, .ref so])), (mn, .inl (G.2 0, 131, .inl (mr n (nI g) sk mm))), (md, .inl (G.2 0, 1834, .inl df))] H := hP
  have hD : va_D _ [(M, .inr (4, [.int (nI 0), .ref mt, .int (nI sz), .ref mn, .ref mtr, .ref md, .int (nI (ac - 1)), .ref mk, .ref mik, .ref na, .ref so])), (mn, .inl (G.2 0, 131, .inl (mr n (nI g) sk mm))), (md, .inl (G.2 0, 1834, .inl df))] := hD
  refine lv_aload_n hx hb dX7_undo_31 rfl (lv_at hl 0 rfl) ?_
  refine va_get (D := G.1) (ci := 4) (v := .ref md) (C := RX7) (T := TX7) (N := 11) hx hb hts in_c_X7_undo_X7 hown hK.1 hP 0 rfl rfl 5 (by decide) (hts (.fieldLink RX7 19 "FloorPanelsModel" "diary" "[I") (by decide +kernel)) (fun _ h9 => h9) rfl dX7_undo_32 ?_
  refine lv_sipush (v := nI 131) hx hb dX7_undo_35 (by decide) ?_
  refine lv_aload_n hx hb dX7_undo_38 rfl (lv_at hl 0 rfl) ?_
  refine va_get (D := G.1) (ci := 4) (v := .int (nI (ac - 1))) (C := RX7) (T := TX7) (N := 11) hx hb hts in_c_X7_undo_X7 hown hK.1 hP 0 rfl rfl 6 (by decide) (hts (.fieldLink RX7 136 "FloorPanelsModel" "acts" "I") (by decide +kernel)) (fun _ h9 => h9) rfl dX7_undo_39 ?_
  refine nv_imul hx hb dX7_undo_42 ?_
  refine lv_aload_n hx hb dX7_undo_43 rfl (lv_at hl 0 rfl) ?_
  refine va_get (D := G.1) (ci := 4) (v := .ref mn) (C := RX7) (T := TX7) (N := 11) hx hb hts in_c_X7_undo_X7 hown hK.1 hP 0 rfl rfl 3 (by decide) (hts (.fieldLink RX7 13 "FloorPanelsModel" "now" "[I") (by decide +kernel)) (fun _ h9 => h9) rfl dX7_undo_44 ?_
  refine lv_iconst (v := nI 0) hx hb dX7_undo_47 (by decide) ?_
  refine cWS (As := [.ref md, .int (nI (131 * (ac - 1))), .ref mn, .int (nI 0)]) (rest := []) (st1 := []) (w3 := [(M, .inr (4, [.int (nI 0), .ref mt, .int (nI sz), .ref mn, .ref mtr, .ref md, .int (nI (ac - 1)), .ref mk, .ref mik, .ref na, .ref so])), (mn, .inl (G.2 0, 131, .inl (mr n4 g4 sk4 (pur mm 0 m4 131)))), (md, .inl (G.2 0, 1834, .inl df))]) ⟨hx, hb, hml, hown, hts⟩ (c_X7_copyState l G md 1834 df mn 131 (mr n (nI g) sk mm) (131 * (ac - 1)) 0 (by first | omega | assumption) (by first | omega | assumption) (by first | omega | assumption) (by first | omega | assumption)) (va_cwS 4 hts gX7_undo_X7_copyState rfl rfl rfl (by decide +kernel) ⟨Nat.le_of_ble_eq_true rfl, Nat.le_of_ble_eq_true rfl⟩) (preS_of hK hP hD [2, 1] (by decide) rfl) rfl hl.1 rfl (lv_room (Nat.le_of_ble_eq_true rfl)) dX7_undo_48 ⟨Nat.zero_le _, Nat.zero_le _⟩ hP hD hS [2, 1] (by decide) rfl rfl (by rw [pur_mr3 h_d]; rfl) rfl (fun H locs hP hD hS => ?_)
  refine lv_aload_n hx hb dX7_undo_51 rfl (lv_at hl 0 rfl) ?_
  refine va_get (D := G.1) (ci := 4) (v := .int (nI (ac - 1))) (C := RX7) (T := TX7) (N := 11) hx hb hts in_c_X7_undo_X7 hown hK.1 hP 0 rfl rfl 6 (by decide) (hts (.fieldLink RX7 136 "FloorPanelsModel" "acts" "I") (by decide +kernel)) (fun _ h9 => h9) rfl dX7_undo_52 ?_
  exact W_i hx hb hr hlk dX7_undo_55 hP hS (rfl) (rfl)

theorem in_n_X7_undo_X7 : ∀ w ∈ wsX70, w ∈ wsX7_undo := by decide +kernel
set_option maxHeartbeats 4000000 in
set_option maxRecDepth 100000 in
theorem n_X7_undo (l : Launch) (G : GG) (M : Nat) (rf : Nat) (mt : Nat) (sz : Nat) (mn : Nat) (mtr : Nat) (md : Nat) (ac : Nat) (mk : Nat) (mik : Nat) (na : Nat) (so : Nat) (h_c0 : ac = 0) : Met l yX7_undo wsX7_undo ({ frames := 1, cells := 0, slots := 0, locals := 21 } : Room) (va_Pc [.ref M] (PB G [(M, .inr (4, [.int (nI rf), .ref mt, .int (nI sz), .ref mn, .ref mtr, .ref md, .int (nI ac), .ref mk, .ref mik, .ref na, .ref so]))])) (QW G (some (.int (nI 0))) [(M, .inr (4, [.int (nI 1), .ref mt, .int (nI sz), .ref mn, .ref mtr, .ref md, .int (nI ac), .ref mk, .ref mik, .ref na, .ref so]))] (vA [(M, .inr (4, [.int (nI rf), .ref mt, .int (nI sz), .ref mn, .ref mtr, .ref md, .int (nI ac), .ref mk, .ref mik, .ref na, .ref so]))])) 0 0 (vA [(M, .inr (4, [.int (nI rf), .ref mt, .int (nI sz), .ref mn, .ref mtr, .ref md, .int (nI ac), .ref mk, .ref mik, .ref na, .ref so]))]) := by
  refine Met.go (cc := cX7_undo) (maxL := 1) (ret := (some .int)) (by decide) rfl (Nat.le_of_ble_eq_true rfl) ?_
  intro p e s m below meth c ls hx hb hr hml hown hts hlk hP hK hD hS hl
  have hown : s.vm.findClass RX7 = some m.cls := hown
  have hl : lv_has ls 1 [(0, .ref M)] := hl
  refine lv_aload_n hx hb dX7_undo_0 rfl (lv_at hl 0 rfl) ?_
  refine lv_aload_n hx hb dX7_undo_1 rfl (lv_at hl 0 rfl) ?_
  refine va_get (D := G.1) (ci := 4) (v := .int (nI ac)) (C := RX7) (T := TX7) (N := 11) hx hb hts in_n_X7_undo_X7 hown hK.1 hP 0 rfl rfl 6 (by decide) (hts (.fieldLink RX7 136 "FloorPanelsModel" "acts" "I") (by decide +kernel)) (fun _ h9 => h9) rfl dX7_undo_2 ?_
  refine b0_ne (tgt := 12) hx hb dX7_undo_5 (by decide) (nI_i (by omega)) (fun c_5 => False.elim (by omega)) (fun c_5 => ?_)
  refine lv_iconst (v := nI 1) hx hb dX7_undo_8 (by decide) ?_
  refine lv_goto (tgt := 13) hx hb dX7_undo_9 (by decide) ?_
  refine cWV (As := [.int (nI 1)]) (rest := []) (st1 := [.int (zb (0 < 1))]) (w3 := [(M, .inr (4, [.int (nI 1), .ref mt, .int (nI sz), .ref mn, .ref mtr, .ref md, .int (nI ac), .ref mk, .ref mik, .ref na, .ref so]))]) ⟨hx, hb, hml, hown, hts⟩ (c_X7_refused l G M rf mt sz mn mtr md ac mk mik na so 1 (by first | omega | assumption)) (cwV 1 hts gX7_undo_X7_refused rfl rfl rfl (by decide +kernel) ⟨Nat.le_of_ble_eq_true rfl, Nat.le_of_ble_eq_true rfl⟩) (preV_of hK hP hD [0] (by decide) rfl (ci := 4) (q0 := 0) rfl rfl rfl) rfl hl.1 rfl (lv_room (Nat.le_of_ble_eq_true rfl)) dX7_undo_13 ⟨Nat.zero_le _, Nat.zero_le _⟩ hP hD hS [0] (by decide) rfl rfl (rfl) rfl (fun H locs hP hD hS => ?_)
  refine bb_eq (tgt := 21) hx hb dX7_undo_16 (by decide) (fun c_16 => False.elim (by omega)) (fun c_16 => ?_)
  refine lv_iconst (v := nI 0) hx hb dX7_undo_19 (by decide) ?_
  exact W_i hx hb hr hlk dX7_undo_20 hP hS (rfl) (rfl)

theorem in_c_X7_save_X7 : ∀ w ∈ wsX70, w ∈ wsX7_save := by decide +kernel
set_option maxHeartbeats 4000000 in
set_option maxRecDepth 100000 in
theorem c_X7_save (l : Launch) (G : GG) (M : Nat) (rf : Nat) (mt : Nat) (sz : Nat) (mn : Nat) (mtr : Nat) (md : Nat) (ac : Nat) (mk : Nat) (mik : Nat) (na : Nat) (so : Nat) (n : Nat) (g : Nat) (sk : Int32) (mm : Nat → Int32) (kf : Nat → Int32) (ikf : Nat → Int32) (u : Nat) (h_u : u < 2) : Met l yX7_save wsX7_save ({ frames := 1, cells := 0, slots := 0, locals := 25 } : Room) (va_Pc [.ref M, .int (nI u)] (PB G [(M, .inr (4, [.int (nI rf), .ref mt, .int (nI sz), .ref mn, .ref mtr, .ref md, .int (nI ac), .ref mk, .ref mik, .ref na, .ref so])), (mn, .inl (G.2 0, 131, .inl (mr n (nI g) sk mm))), (mk, .inl (G.2 0, 262, .inl kf)), (mik, .inl (G.2 2, 2, .inl ikf))])) (QW G (some (.int (nI n))) [(M, .inr (4, [.int (nI 0), .ref mt, .int (nI sz), .ref mn, .ref mtr, .ref md, .int (nI ac), .ref mk, .ref mik, .ref na, .ref so])), (mn, .inl (G.2 0, 131, .inl (mr n (nI g) sk mm))), (mk, .inl (G.2 0, 262, .inl (pur kf (131 * u) (mr n (nI g) sk mm) 131))), (mik, .inl (G.2 2, 2, .inl (upd ikf u (nI 1))))] (vA [(M, .inr (4, [.int (nI rf), .ref mt, .int (nI sz), .ref mn, .ref mtr, .ref md, .int (nI ac), .ref mk, .ref mik, .ref na, .ref so])), (mn, .inl (G.2 0, 131, .inl (mr n (nI g) sk mm))), (mk, .inl (G.2 0, 262, .inl kf)), (mik, .inl (G.2 2, 2, .inl ikf))])) 0 0 (vA [(M, .inr (4, [.int (nI rf), .ref mt, .int (nI sz), .ref mn, .ref mtr, .ref md, .int (nI ac), .ref mk, .ref mik, .ref na, .ref so])), (mn, .inl (G.2 0, 131, .inl (mr n (nI g) sk mm))), (mk, .inl (G.2 0, 262, .inl kf)), (mik, .inl (G.2 2, 2, .inl ikf))]) := by
  refine Met.go (cc := cX7_save) (maxL := 2) (ret := (some .int)) (by decide) rfl (Nat.le_of_ble_eq_true rfl) ?_
  intro p e s m below meth c ls hx hb hr hml hown hts hlk hP hK hD hS hl
  have hown : s.vm.findClass RX7 = some m.cls := hown
  have hl : lv_has ls 2 [(0, .ref M), (1, .int (nI u))] := hl
  refine lv_aload_n hx hb dX7_save_0 rfl (lv_at hl 0 rfl) ?_
  refine lv_iload_n hx hb dX7_save_1 rfl (lv_at hl 1 rfl) ?_
  refine lv_i2l (v := (nI u).toInt64) hx hb dX7_save_2 rfl ?_
  refine lv_lconst (v := 0) hx hb dX7_save_3 rfl ?_
  refine lv_lconst (v := 1) hx hb dX7_save_4 rfl ?_
  refine cRS (As := [.long ((nI u).toInt64), .long (0 : Int64), .long (1 : Int64)]) (rest := [.ref M]) (v := .int (zb ((0 : Int64).toInt ≤ ((nI u).toInt64).toInt ∧ ((nI u).toInt64).toInt ≤ (1 : Int64).toInt))) ⟨hx, hb, hml, hown, hts⟩ (c_X7_in l G ((nI u).toInt64) (0 : Int64) (1 : Int64) ) (va_cwS 3 hts gX7_save_X7_in rfl rfl rfl (by decide +kernel) ⟨Nat.le_of_ble_eq_true rfl, Nat.le_of_ble_eq_true rfl⟩) (preS_of hK hP hD [] (by decide) rfl) rfl hl.1 rfl (lv_room (Nat.le_of_ble_eq_true rfl)) dX7_save_5 ⟨Nat.zero_le _, Nat.zero_le _⟩ ?_
  refine bb_eq (tgt := 15) hx hb dX7_save_8 (by decide) (fun c_8 => False.elim (by (rw [i2l_toInt, nI_i (by omega), show (0 : Int64).toInt = 0 from rfl, show (1 : Int64).toInt = 1 from rfl] at c_8; omega))) (fun c_8 => ?_)
  rw [i2l_toInt, nI_i (by omega), show (0 : Int64).toInt = 0 from rfl, show (1 : Int64).toInt = 1 from rfl] at c_8
  refine lv_iconst (v := nI 0) hx hb dX7_save_11 (by decide) ?_
  refine lv_goto (tgt := 16) hx hb dX7_save_12 (by decide) ?_
  refine cWV (As := [.int (nI 0)]) (rest := []) (st1 := [.int (zb (0 < 0))]) (w3 := [(M, .inr (4, [.int (nI 0), .ref mt, .int (nI sz), .ref mn, .ref mtr, .ref md, .int (nI ac), .ref mk, .ref mik, .ref na, .ref so])), (mn, .inl (G.2 0, 131, .inl (mr n (nI g) sk mm))), (mk, .inl (G.2 0, 262, .inl kf)), (mik, .inl (G.2 2, 2, .inl ikf))]) ⟨hx, hb, hml, hown, hts⟩ (c_X7_refused l G M rf mt sz mn mtr md ac mk mik na so 0 (by first | omega | assumption)) (cwV 1 hts gX7_save_X7_refused rfl rfl rfl (by decide +kernel) ⟨Nat.le_of_ble_eq_true rfl, Nat.le_of_ble_eq_true rfl⟩) (preV_of hK hP hD [0] (by decide) rfl (ci := 4) (q0 := 0) rfl rfl rfl) rfl hl.1 rfl (lv_room (Nat.le_of_ble_eq_true rfl)) dX7_save_16 ⟨Nat.zero_le _, Nat.zero_le _⟩ hP hD hS [0] (by decide) rfl rfl (rfl) rfl (fun H locs hP hD hS => ?_)
  refine bb_eq (tgt := 24) hx hb dX7_save_19 (by decide) (fun c_19 => ?_) (fun c_19 => False.elim (by omega))
  refine lv_aload_n hx hb dX7_save_24 rfl (lv_at hl 0 rfl) ?_
  refine va_get (D := G.1) (ci := 4) (v := .ref mn) (C := RX7) (T := TX7) (N := 11) hx hb hts in_c_X7_save_X7 hown hK.1 hP 0 rfl rfl 3 (by decide) (hts (.fieldLink RX7 13 "FloorPanelsModel" "now" "[I") (by decide +kernel)) (fun _ h9 => h9) rfl dX7_save_25 ?_
  refine lv_iconst (v := nI 0) hx hb dX7_save_28 (by decide) ?_
  refine lv_aload_n hx hb dX7_save_29 rfl (lv_at hl 0 rfl) ?_
  refine va_get (D := G.1) (ci := 4) (v := .ref mk) (C := RX7) (T := TX7) (N := 11) hx hb hts in_c_X7_save_X7 hown hK.1 hP 0 rfl rfl 7 (by decide) (hts (.fieldLink RX7 22 "FloorPanelsModel" "kept" "[I") (by decide +kernel)) (fun _ h9 => h9) rfl dX7_save_30 ?_
  refine lv_sipush (v := nI 131) hx hb dX7_save_33 (by decide) ?_
  refine lv_iload_n hx hb dX7_save_36 rfl (lv_at hl 1 rfl) ?_
  refine nv_imul hx hb dX7_save_37 ?_
  refine cWS (As := [.ref mn, .int (nI 0), .ref mk, .int (nI (131 * u))]) (rest := []) (st1 := []) (w3 := [(M, .inr (4, [.int (nI 0), .ref mt, .int (nI sz), .ref mn, .ref mtr, .ref md, .int (nI ac), .ref mk, .ref mik, .ref na, .ref so])), (mn, .inl (G.2 0, 131, .inl (mr n (nI g) sk mm))), (mk, .inl (G.2 0, 262, .inl (pur kf (131 * u) (mr n (nI g) sk mm) 131))), (mik, .inl (G.2 2, 2, .inl ikf))]) ⟨hx, hb, hml, hown, hts⟩ (c_X7_copyState l G mn 131 (mr n (nI g) sk mm) mk 262 kf 0 (131 * u) (by first | omega | assumption) (by first | omega | assumption) (by first | omega | assumption) (by first | omega | assumption)) (va_cwS 4 hts gX7_save_X7_copyState rfl rfl rfl (by decide +kernel) ⟨Nat.le_of_ble_eq_true rfl, Nat.le_of_ble_eq_true rfl⟩) (preS_of hK hP hD [1, 2] (by decide) rfl) rfl hl.1 rfl (lv_room (Nat.le_of_ble_eq_true rfl)) dX7_save_38 ⟨Nat.zero_le _, Nat.zero_le _⟩ hP hD hS [1, 2] (by decide) rfl rfl (by rw [fz]; rfl) rfl (fun H locs hP hD hS => ?_)
  refine lv_aload_n hx hb dX7_save_41 rfl (lv_at hl 0 rfl) ?_
  refine va_get (D := G.1) (ci := 4) (v := .ref mik) (C := RX7) (T := TX7) (N := 11) hx hb hts in_c_X7_save_X7 hown hK.1 hP 0 rfl rfl 8 (by decide) (hts (.fieldLink RX7 25 "FloorPanelsModel" "isKept" "[Z") (by decide +kernel)) (fun _ h9 => h9) rfl dX7_save_42 ?_
  refine lv_iload_n hx hb dX7_save_45 rfl (lv_at hl 1 rfl) ?_
  refine lv_iconst (v := nI 1) hx hb dX7_save_46 (by decide) ?_
  refine nv_zast hx hb hK hP hD hS 3 rfl (v := nI 1) rfl (by omega) (by decide) dX7_save_47 (w3 := [(M, .inr (4, [.int (nI 0), .ref mt, .int (nI sz), .ref mn, .ref mtr, .ref md, .int (nI ac), .ref mk, .ref mik, .ref na, .ref so])), (mn, .inl (G.2 0, 131, .inl (mr n (nI g) sk mm))), (mk, .inl (G.2 0, 262, .inl (pur kf (131 * u) (mr n (nI g) sk mm) 131))), (mik, .inl (G.2 2, 2, .inl (upd ikf u (nI 1))))]) (rfl) (fun H locs hP hD hS => ?_)
  refine lv_aload_n hx hb dX7_save_48 rfl (lv_at hl 0 rfl) ?_
  refine va_get (D := G.1) (ci := 4) (v := .ref mn) (C := RX7) (T := TX7) (N := 11) hx hb hts in_c_X7_save_X7 hown hK.1 hP 0 rfl rfl 3 (by decide) (hts (.fieldLink RX7 13 "FloorPanelsModel" "now" "[I") (by decide +kernel)) (fun _ h9 => h9) rfl dX7_save_49 ?_
  refine lv_iconst (v := nI 0) hx hb dX7_save_52 (by decide) ?_
  refine nv_iald hx hb hK hP 1 rfl (by omega) (by decide) dX7_save_53 ?_
  rw [show (mr n (nI g) sk mm) 0 = nI n from mr_0]
  exact W_i hx hb hr hlk dX7_save_54 hP hS (rfl) (rfl)

set_option maxHeartbeats 4000000 in
set_option maxRecDepth 100000 in
theorem n_X7_save (l : Launch) (G : GG) (M : Nat) (rf : Nat) (mt : Nat) (sz : Nat) (mn : Nat) (mtr : Nat) (md : Nat) (ac : Nat) (mk : Nat) (mik : Nat) (na : Nat) (so : Nat) (y : Int32) (h_nou : ¬ (0 ≤ y.toInt ∧ y.toInt < 2)) : Met l yX7_save wsX7_save ({ frames := 1, cells := 0, slots := 0, locals := 25 } : Room) (va_Pc [.ref M, .int y] (PB G [(M, .inr (4, [.int (nI rf), .ref mt, .int (nI sz), .ref mn, .ref mtr, .ref md, .int (nI ac), .ref mk, .ref mik, .ref na, .ref so]))])) (QW G (some (.int (nI 0))) [(M, .inr (4, [.int (nI 1), .ref mt, .int (nI sz), .ref mn, .ref mtr, .ref md, .int (nI ac), .ref mk, .ref mik, .ref na, .ref so]))] (vA [(M, .inr (4, [.int (nI rf), .ref mt, .int (nI sz), .ref mn, .ref mtr, .ref md, .int (nI ac), .ref mk, .ref mik, .ref na, .ref so]))])) 0 0 (vA [(M, .inr (4, [.int (nI rf), .ref mt, .int (nI sz), .ref mn, .ref mtr, .ref md, .int (nI ac), .ref mk, .ref mik, .ref na, .ref so]))]) := by
  refine Met.go (cc := cX7_save) (maxL := 2) (ret := (some .int)) (by decide) rfl (Nat.le_of_ble_eq_true rfl) ?_
  intro p e s m below meth c ls hx hb hr hml hown hts hlk hP hK hD hS hl
  have hown : s.vm.findClass RX7 = some m.cls := hown
  have hl : lv_has ls 2 [(0, .ref M), (1, .int y)] := hl
  refine lv_aload_n hx hb dX7_save_0 rfl (lv_at hl 0 rfl) ?_
  refine lv_iload_n hx hb dX7_save_1 rfl (lv_at hl 1 rfl) ?_
  refine lv_i2l (v := (y).toInt64) hx hb dX7_save_2 rfl ?_
  refine lv_lconst (v := 0) hx hb dX7_save_3 rfl ?_
  refine lv_lconst (v := 1) hx hb dX7_save_4 rfl ?_
  refine cRS (As := [.long ((y).toInt64), .long (0 : Int64), .long (1 : Int64)]) (rest := [.ref M]) (v := .int (zb ((0 : Int64).toInt ≤ ((y).toInt64).toInt ∧ ((y).toInt64).toInt ≤ (1 : Int64).toInt))) ⟨hx, hb, hml, hown, hts⟩ (c_X7_in l G ((y).toInt64) (0 : Int64) (1 : Int64) ) (va_cwS 3 hts gX7_save_X7_in rfl rfl rfl (by decide +kernel) ⟨Nat.le_of_ble_eq_true rfl, Nat.le_of_ble_eq_true rfl⟩) (preS_of hK hP hD [] (by decide) rfl) rfl hl.1 rfl (lv_room (Nat.le_of_ble_eq_true rfl)) dX7_save_5 ⟨Nat.zero_le _, Nat.zero_le _⟩ ?_
  refine bb_eq (tgt := 15) hx hb dX7_save_8 (by decide) (fun c_8 => ?_) (fun c_8 => False.elim (by (rw [i2l_toInt, show (0 : Int64).toInt = 0 from rfl, show (1 : Int64).toInt = 1 from rfl] at c_8; omega)))
  refine lv_iconst (v := nI 1) hx hb dX7_save_15 (by decide) ?_
  refine cWV (As := [.int (nI 1)]) (rest := []) (st1 := [.int (zb (0 < 1))]) (w3 := [(M, .inr (4, [.int (nI 1), .ref mt, .int (nI sz), .ref mn, .ref mtr, .ref md, .int (nI ac), .ref mk, .ref mik, .ref na, .ref so]))]) ⟨hx, hb, hml, hown, hts⟩ (c_X7_refused l G M rf mt sz mn mtr md ac mk mik na so 1 (by first | omega | assumption)) (cwV 1 hts gX7_save_X7_refused rfl rfl rfl (by decide +kernel) ⟨Nat.le_of_ble_eq_true rfl, Nat.le_of_ble_eq_true rfl⟩) (preV_of hK hP hD [0] (by decide) rfl (ci := 4) (q0 := 0) rfl rfl rfl) rfl hl.1 rfl (lv_room (Nat.le_of_ble_eq_true rfl)) dX7_save_16 ⟨Nat.zero_le _, Nat.zero_le _⟩ hP hD hS [0] (by decide) rfl rfl (rfl) rfl (fun H locs hP hD hS => ?_)
  refine bb_eq (tgt := 24) hx hb dX7_save_19 (by decide) (fun c_19 => False.elim (by omega)) (fun c_19 => ?_)
  refine lv_iconst (v := nI 0) hx hb dX7_save_22 (by decide) ?_
  exact W_i hx hb hr hlk dX7_save_23 hP hS (rfl) (rfl)

theorem in_c_X7_restore_X7 : ∀ w ∈ wsX70, w ∈ wsX7_restore := by decide +kernel
set_option maxHeartbeats 4000000 in
set_option maxRecDepth 100000 in
theorem c_X7_restore (l : Launch) (G : GG) (M : Nat) (rf : Nat) (mt : Nat) (sz : Nat) (mn : Nat) (mtr : Nat) (md : Nat) (ac : Nat) (mk : Nat) (mik : Nat) (na : Nat) (so : Nat) (n : Nat) (g : Nat) (sk : Int32) (mm : Nat → Int32) (kf : Nat → Int32) (ikf : Nat → Int32) (n4 : Nat) (g4 : Int32) (sk4 : Int32) (m4 : Nat → Int32) (u : Nat) (h_u : u < 2) (h_sv : ¬ ikf u = 0) (h_d : ∀ j, j < 131 → kf (131 * u + j) = mr n4 g4 sk4 m4 j) : Met l yX7_restore wsX7_restore ({ frames := 1, cells := 0, slots := 0, locals := 25 } : Room) (va_Pc [.ref M, .int (nI u)] (PB G [(M, .inr (4, [.int (nI rf), .ref mt, .int (nI sz), .ref mn, .ref mtr, .ref md, .int (nI ac), .ref mk, .ref mik, .ref na, .ref so])), (mn, .inl (G.2 0, 131, .inl (mr n (nI g) sk mm))), (mk, .inl (G.2 0, 262, .inl kf)), (mik, .inl (G.2 2, 2, .inl ikf))])) (QW G (some (.int (nI n4))) [(M, .inr (4, [.int (nI 0), .ref mt, .int (nI sz), .ref mn, .ref mtr, .ref md, .int (nI 0), .ref mk, .ref mik, .ref na, .ref so])), (mn, .inl (G.2 0, 131, .inl (mr n4 g4 sk4 (pur mm 0 m4 131)))), (mk, .inl (G.2 0, 262, .inl kf)), (mik, .inl (G.2 2, 2, .inl ikf))] (vA [(M, .inr (4, [.int (nI rf), .ref mt, .int (nI sz), .ref mn, .ref mtr, .ref md, .int (nI ac), .ref mk, .ref mik, .ref na, .ref so])), (mn, .inl (G.2 0, 131, .inl (mr n (nI g) sk mm))), (mk, .inl (G.2 0, 262, .inl kf)), (mik, .inl (G.2 2, 2, .inl ikf))])) 0 0 (vA [(M, .inr (4, [.int (nI rf), .ref mt, .int (nI sz), .ref mn, .ref mtr, .ref md, .int (nI ac), .ref mk, .ref mik, .ref na, .ref so])), (mn, .inl (G.2 0, 131, .inl (mr n (nI g) sk mm))), (mk, .inl (G.2 0, 262, .inl kf)), (mik, .inl (G.2 2, 2, .inl ikf))]) := by
  refine Met.go (cc := cX7_restore) (maxL := 2) (ret := (some .int)) (by decide) rfl (Nat.le_of_ble_eq_true rfl) ?_
  intro p e s m below meth c ls hx hb hr hml hown hts hlk hP hK hD hS hl
  have hown : s.vm.findClass RX7 = some m.cls := hown
  have hl : lv_has ls 2 [(0, .ref M), (1, .int (nI u))] := hl
  refine lv_aload_n hx hb dX7_restore_0 rfl (lv_at hl 0 rfl) ?_
  refine lv_iload_n hx hb dX7_restore_1 rfl (lv_at hl 1 rfl) ?_
  refine lv_i2l (v := (nI u).toInt64) hx hb dX7_restore_2 rfl ?_
  refine lv_lconst (v := 0) hx hb dX7_restore_3 rfl ?_
  refine lv_lconst (v := 1) hx hb dX7_restore_4 rfl ?_
  refine cRS (As := [.long ((nI u).toInt64), .long (0 : Int64), .long (1 : Int64)]) (rest := [.ref M]) (v := .int (zb ((0 : Int64).toInt ≤ ((nI u).toInt64).toInt ∧ ((nI u).toInt64).toInt ≤ (1 : Int64).toInt))) ⟨hx, hb, hml, hown, hts⟩ (c_X7_in l G ((nI u).toInt64) (0 : Int64) (1 : Int64) ) (va_cwS 3 hts gX7_restore_X7_in rfl rfl rfl (by decide +kernel) ⟨Nat.le_of_ble_eq_true rfl, Nat.le_of_ble_eq_true rfl⟩) (preS_of hK hP hD [] (by decide) rfl) rfl hl.1 rfl (lv_room (Nat.le_of_ble_eq_true rfl)) dX7_restore_5 ⟨Nat.zero_le _, Nat.zero_le _⟩ ?_
  refine bb_ne (tgt := 15) hx hb dX7_restore_8 (by decide) (fun c_8 => ?_) (fun c_8 => False.elim (by (rw [i2l_toInt, nI_i (by omega), show (0 : Int64).toInt = 0 from rfl, show (1 : Int64).toInt = 1 from rfl] at c_8; omega)))
  refine lv_aload_n hx hb dX7_restore_15 rfl (lv_at hl 0 rfl) ?_
  refine va_get (D := G.1) (ci := 4) (v := .ref mik) (C := RX7) (T := TX7) (N := 11) hx hb hts in_c_X7_restore_X7 hown hK.1 hP 0 rfl rfl 8 (by decide) (hts (.fieldLink RX7 25 "FloorPanelsModel" "isKept" "[Z") (by decide +kernel)) (fun _ h9 => h9) rfl dX7_restore_16 ?_
  refine lv_iload_n hx hb dX7_restore_19 rfl (lv_at hl 1 rfl) ?_
  refine nv_zald hx hb hK hP 3 rfl (by omega) (by decide) dX7_restore_20 ?_
  refine lv_if_ne (tgt := 28) hx hb dX7_restore_21 (by decide) (fun c_21 => ?_) (fun c_21 => False.elim (by exact h_sv c_21))
  refine lv_iconst (v := nI 0) hx hb dX7_restore_28 (by decide) ?_
  refine cWV (As := [.int (nI 0)]) (rest := []) (st1 := [.int (zb (0 < 0))]) (w3 := [(M, .inr (4, [.int (nI 0), .ref mt, .int (nI sz), .ref mn, .ref mtr, .ref md, .int (nI ac), .ref mk, .ref mik, .ref na, .ref so])), (mn, .inl (G.2 0, 131, .inl (mr n (nI g) sk mm))), (mk, .inl (G.2 0, 262, .inl kf)), (mik, .inl (G.2 2, 2, .inl ikf))]) ⟨hx, hb, hml, hown, hts⟩ (c_X7_refused l G M rf mt sz mn mtr md ac mk mik na so 0 (by first | omega | assumption)) (cwV 1 hts gX7_restore_X7_refused rfl rfl rfl (by decide +kernel) ⟨Nat.le_of_ble_eq_true rfl, Nat.le_of_ble_eq_true rfl⟩) (preV_of hK hP hD [0] (by decide) rfl (ci := 4) (q0 := 0) rfl rfl rfl) rfl hl.1 rfl (lv_room (Nat.le_of_ble_eq_true rfl)) dX7_restore_29 ⟨Nat.zero_le _, Nat.zero_le _⟩ hP hD hS [0] (by decide) rfl rfl (rfl) rfl (fun H locs hP hD hS => ?_)
  refine bb_eq (tgt := 37) hx hb dX7_restore_32 (by decide) (fun c_32 => ?_) (fun c_32 => False.elim (by omega))
  refine lv_aload_n hx hb dX7_restore_37 rfl (lv_at hl 0 rfl) ?_
  refine va_get (D := G.1) (ci := 4) (v := .ref mk) (C := RX7) (T := TX7) (N := 11) hx hb hts in_c_X7_restore_X7 hown hK.1 hP 0 rfl rfl 7 (by decide) (hts (.fieldLink RX7 22 "FloorPanelsModel" "kept" "[I") (by decide +kernel)) (fun _ h9 => h9) rfl dX7_restore_38 ?_
  refine lv_sipush (v := nI 131) hx hb dX7_restore_41 (by decide) ?_
  refine lv_iload_n hx hb dX7_restore_44 rfl (lv_at hl 1 rfl) ?_
  refine nv_imul hx hb dX7_restore_45 ?_
  refine lv_aload_n hx hb dX7_restore_46 rfl (lv_at hl 0 rfl) ?_
  refine va_get (D := G.1) (ci := 4) (v := .ref mn) (C := RX7) (T := TX7) (N := 11) hx hb hts in_c_X7_restore_X7 hown hK.1 hP 0 rfl rfl 3 (by decide) (hts (.fieldLink RX7 13 "FloorPanelsModel" "now" "[I") (by decide +kernel)) (fun _ h9 => h9) rfl dX7_restore_47 ?_
  refine lv_iconst (v := nI 0) hx hb dX7_restore_50 (by decide) ?_
  refine cWS (As := [.ref mk, .int (nI (131 * u)), .ref mn, .int (nI 0)]) (rest := []) (st1 := []) (w3 := [(M, .inr (4, [.int (nI 0), .ref mt, .int (nI sz), .ref mn, .ref mtr, .ref md, .int (nI ac), .ref mk, .ref mik, .ref na, .ref so])), (mn, .inl (G.2 0, 131, .inl (mr n4 g4 sk4 (pur mm 0 m4 131)))), (mk, .inl (G.2 0, 262, .inl kf)), (mik, .inl (G.2 2, 2, .inl ikf))]) ⟨hx, hb, hml, hown, hts⟩ (c_X7_copyState l G mk 262 kf mn 131 (mr n (nI g) sk mm) (131 * u) 0 (by first | omega | assumption) (by first | omega | assumption) (by first | omega | assumption) (by first | omega | assumption)) (va_cwS 4 hts gX7_restore_X7_copyState rfl rfl rfl (by decide +kernel) ⟨Nat.le_of_ble_eq_true rfl, Nat.le_of_ble_eq_true rfl⟩) (preS_of hK hP hD [2, 1] (by decide) rfl) rfl hl.1 rfl (lv_room (Nat.le_of_ble_eq_true rfl)) dX7_restore_51 ⟨Nat.zero_le _, Nat.zero_le _⟩ hP hD hS [2, 1] (by decide) rfl rfl (by rw [pur_mr3 h_d]; rfl) rfl (fun H locs hP hD hS => ?_)
  refine lv_aload_n hx hb dX7_restore_54 rfl (lv_at hl 0 rfl) ?_
  refine lv_iconst (v := nI 0) hx hb dX7_restore_55 (by decide) ?_
  refine va_put (D := G.1) (ci := 4) (v := .int (nI 0)) (ty := .int) (C := RX7) (T := TX7) (N := 11) hx hb hts in_c_X7_restore_X7 tyX7 tyX7_ok nmX7 hown hK.1 hP hD hS 0 rfl rfl 6 (by decide) (hts (.fieldLink RX7 136 "FloorPanelsModel" "acts" "I") (by decide +kernel)) (fun _ h9 => h9) rfl (by decide +kernel) rfl rfl (Nat.le_of_ble_eq_true rfl) dX7_restore_56 (fun H locs hP hD hS => ?_)
  have hP : VP G [(M, .inr (4, [.int (nI 0), .ref mt, .int (nI sz), .ref mn, .ref mtr, .ref md, .int (nI 0), .ref mk, .ref mik, .ref na, .ref so])), (mn, .inl (G.2 0, 131, .inl (mr n4 g4 sk4 (pur mm 0 m4 131)))), (mk, .inl (G.2 0, 262, .inl kf)), (mik, .inl (G.2 2, 2, .inl ikf))] H := hP
  have hD : va_D _ [(M, .inr (4, [.int (nI 0), .ref mt, .int (nI sz), .ref mn, .ref mtr, .ref md, .int (nI 0), .ref mk, .ref mik, .ref na, .ref so])), (mn, .inl (G.2 0, 131, .inl (mr n4 g4 sk4 (pur mm 0 m4 131)))), (mk, .inl (G.2 0, 262, .inl kf)), (mik, .inl (G.2 2, 2, .inl ikf))] := hD
  refine lv_aload_n hx hb dX7_restore_59 rfl (lv_at hl 0 rfl) ?_
  refine va_get (D := G.1) (ci := 4) (v := .ref mn) (C := RX7) (T := TX7) (N := 11) hx hb hts in_c_X7_restore_X7 hown hK.1 hP 0 rfl rfl 3 (by decide) (hts (.fieldLink RX7 13 "FloorPanelsModel" "now" "[I") (by decide +kernel)) (fun _ h9 => h9) rfl dX7_restore_60 ?_
  refine lv_iconst (v := nI 0) hx hb dX7_restore_63 (by decide) ?_
  refine nv_iald hx hb hK hP 1 rfl (by omega) (by decide) dX7_restore_64 ?_
  rw [show (mr n4 g4 sk4 (pur mm 0 m4 131)) 0 = nI n4 from mr_0]
  exact W_i hx hb hr hlk dX7_restore_65 hP hS (rfl) (rfl)

set_option maxHeartbeats 4000000 in
set_option maxRecDepth 100000 in
theorem n_X7_restore_u (l : Launch) (G : GG) (M : Nat) (rf : Nat) (mt : Nat) (sz : Nat) (mn : Nat) (mtr : Nat) (md : Nat) (ac : Nat) (mk : Nat) (mik : Nat) (na : Nat) (so : Nat) (y : Int32) (h_nou : ¬ (0 ≤ y.toInt ∧ y.toInt < 2)) : Met l yX7_restore wsX7_restore ({ frames := 1, cells := 0, slots := 0, locals := 25 } : Room) (va_Pc [.ref M, .int y] (PB G [(M, .inr (4, [.int (nI rf), .ref mt, .int (nI sz), .ref mn, .ref mtr, .ref md, .int (nI ac), .ref mk, .ref mik, .ref na, .ref so]))])) (QW G (some (.int (nI 0))) [(M, .inr (4, [.int (nI 1), .ref mt, .int (nI sz), .ref mn, .ref mtr, .ref md, .int (nI ac), .ref mk, .ref mik, .ref na, .ref so]))] (vA [(M, .inr (4, [.int (nI rf), .ref mt, .int (nI sz), .ref mn, .ref mtr, .ref md, .int (nI ac), .ref mk, .ref mik, .ref na, .ref so]))])) 0 0 (vA [(M, .inr (4, [.int (nI rf), .ref mt, .int (nI sz), .ref mn, .ref mtr, .ref md, .int (nI ac), .ref mk, .ref mik, .ref na, .ref so]))]) := by
  refine Met.go (cc := cX7_restore) (maxL := 2) (ret := (some .int)) (by decide) rfl (Nat.le_of_ble_eq_true rfl) ?_
  intro p e s m below meth c ls hx hb hr hml hown hts hlk hP hK hD hS hl
  have hown : s.vm.findClass RX7 = some m.cls := hown
  have hl : lv_has ls 2 [(0, .ref M), (1, .int y)] := hl
  refine lv_aload_n hx hb dX7_restore_0 rfl (lv_at hl 0 rfl) ?_
  refine lv_iload_n hx hb dX7_restore_1 rfl (lv_at hl 1 rfl) ?_
  refine lv_i2l (v := (y).toInt64) hx hb dX7_restore_2 rfl ?_
  refine lv_lconst (v := 0) hx hb dX7_restore_3 rfl ?_
  refine lv_lconst (v := 1) hx hb dX7_restore_4 rfl ?_
  refine cRS (As := [.long ((y).toInt64), .long (0 : Int64), .long (1 : Int64)]) (rest := [.ref M]) (v := .int (zb ((0 : Int64).toInt ≤ ((y).toInt64).toInt ∧ ((y).toInt64).toInt ≤ (1 : Int64).toInt))) ⟨hx, hb, hml, hown, hts⟩ (c_X7_in l G ((y).toInt64) (0 : Int64) (1 : Int64) ) (va_cwS 3 hts gX7_restore_X7_in rfl rfl rfl (by decide +kernel) ⟨Nat.le_of_ble_eq_true rfl, Nat.le_of_ble_eq_true rfl⟩) (preS_of hK hP hD [] (by decide) rfl) rfl hl.1 rfl (lv_room (Nat.le_of_ble_eq_true rfl)) dX7_restore_5 ⟨Nat.zero_le _, Nat.zero_le _⟩ ?_
  refine bb_ne (tgt := 15) hx hb dX7_restore_8 (by decide) (fun c_8 => False.elim (by (rw [i2l_toInt, show (0 : Int64).toInt = 0 from rfl, show (1 : Int64).toInt = 1 from rfl] at c_8; omega))) (fun c_8 => ?_)
  refine lv_iconst (v := nI 1) hx hb dX7_restore_11 (by decide) ?_
  refine lv_goto (tgt := 29) hx hb dX7_restore_12 (by decide) ?_
  refine cWV (As := [.int (nI 1)]) (rest := []) (st1 := [.int (zb (0 < 1))]) (w3 := [(M, .inr (4, [.int (nI 1), .ref mt, .int (nI sz), .ref mn, .ref mtr, .ref md, .int (nI ac), .ref mk, .ref mik, .ref na, .ref so]))]) ⟨hx, hb, hml, hown, hts⟩ (c_X7_refused l G M rf mt sz mn mtr md ac mk mik na so 1 (by first | omega | assumption)) (cwV 1 hts gX7_restore_X7_refused rfl rfl rfl (by decide +kernel) ⟨Nat.le_of_ble_eq_true rfl, Nat.le_of_ble_eq_true rfl⟩) (preV_of hK hP hD [0] (by decide) rfl (ci := 4) (q0 := 0) rfl rfl rfl) rfl hl.1 rfl (lv_room (Nat.le_of_ble_eq_true rfl)) dX7_restore_29 ⟨Nat.zero_le _, Nat.zero_le _⟩ hP hD hS [0] (by decide) rfl rfl (rfl) rfl (fun H locs hP hD hS => ?_)
  refine bb_eq (tgt := 37) hx hb dX7_restore_32 (by decide) (fun c_32 => False.elim (by omega)) (fun c_32 => ?_)
  refine lv_iconst (v := nI 0) hx hb dX7_restore_35 (by decide) ?_
  exact W_i hx hb hr hlk dX7_restore_36 hP hS (rfl) (rfl)

theorem in_n_X7_restore_s_X7 : ∀ w ∈ wsX70, w ∈ wsX7_restore := by decide +kernel
set_option maxHeartbeats 4000000 in
set_option maxRecDepth 100000 in
theorem n_X7_restore_s (l : Launch) (G : GG) (M : Nat) (rf : Nat) (mt : Nat) (sz : Nat) (mn : Nat) (mtr : Nat) (md : Nat) (ac : Nat) (mk : Nat) (mik : Nat) (na : Nat) (so : Nat) (ikf : Nat → Int32) (u : Nat) (h_u : u < 2) (h_sv : ikf u = 0) : Met l yX7_restore wsX7_restore ({ frames := 1, cells := 0, slots := 0, locals := 25 } : Room) (va_Pc [.ref M, .int (nI u)] (PB G [(M, .inr (4, [.int (nI rf), .ref mt, .int (nI sz), .ref mn, .ref mtr, .ref md, .int (nI ac), .ref mk, .ref mik, .ref na, .ref so])), (mik, .inl (G.2 2, 2, .inl ikf))])) (QW G (some (.int (nI 0))) [(M, .inr (4, [.int (nI 2), .ref mt, .int (nI sz), .ref mn, .ref mtr, .ref md, .int (nI ac), .ref mk, .ref mik, .ref na, .ref so])), (mik, .inl (G.2 2, 2, .inl ikf))] (vA [(M, .inr (4, [.int (nI rf), .ref mt, .int (nI sz), .ref mn, .ref mtr, .ref md, .int (nI ac), .ref mk, .ref mik, .ref na, .ref so])), (mik, .inl (G.2 2, 2, .inl ikf))])) 0 0 (vA [(M, .inr (4, [.int (nI rf), .ref mt, .int (nI sz), .ref mn, .ref mtr, .ref md, .int (nI ac), .ref mk, .ref mik, .ref na, .ref so])), (mik, .inl (G.2 2, 2, .inl ikf))]) := by
  refine Met.go (cc := cX7_restore) (maxL := 2) (ret := (some .int)) (by decide) rfl (Nat.le_of_ble_eq_true rfl) ?_
  intro p e s m below meth c ls hx hb hr hml hown hts hlk hP hK hD hS hl
  have hown : s.vm.findClass RX7 = some m.cls := hown
  have hl : lv_has ls 2 [(0, .ref M), (1, .int (nI u))] := hl
  refine lv_aload_n hx hb dX7_restore_0 rfl (lv_at hl 0 rfl) ?_
  refine lv_iload_n hx hb dX7_restore_1 rfl (lv_at hl 1 rfl) ?_
  refine lv_i2l (v := (nI u).toInt64) hx hb dX7_restore_2 rfl ?_
  refine lv_lconst (v := 0) hx hb dX7_restore_3 rfl ?_
  refine lv_lconst (v := 1) hx hb dX7_restore_4 rfl ?_
  refine cRS (As := [.long ((nI u).toInt64), .long (0 : Int64), .long (1 : Int64)]) (rest := [.ref M]) (v := .int (zb ((0 : Int64).toInt ≤ ((nI u).toInt64).toInt ∧ ((nI u).toInt64).toInt ≤ (1 : Int64).toInt))) ⟨hx, hb, hml, hown, hts⟩ (c_X7_in l G ((nI u).toInt64) (0 : Int64) (1 : Int64) ) (va_cwS 3 hts gX7_restore_X7_in rfl rfl rfl (by decide +kernel) ⟨Nat.le_of_ble_eq_true rfl, Nat.le_of_ble_eq_true rfl⟩) (preS_of hK hP hD [] (by decide) rfl) rfl hl.1 rfl (lv_room (Nat.le_of_ble_eq_true rfl)) dX7_restore_5 ⟨Nat.zero_le _, Nat.zero_le _⟩ ?_
  refine bb_ne (tgt := 15) hx hb dX7_restore_8 (by decide) (fun c_8 => ?_) (fun c_8 => False.elim (by (rw [i2l_toInt, nI_i (by omega), show (0 : Int64).toInt = 0 from rfl, show (1 : Int64).toInt = 1 from rfl] at c_8; omega)))
  refine lv_aload_n hx hb dX7_restore_15 rfl (lv_at hl 0 rfl) ?_
  refine va_get (D := G.1) (ci := 4) (v := .ref mik) (C := RX7) (T := TX7) (N := 11) hx hb hts in_n_X7_restore_s_X7 hown hK.1 hP 0 rfl rfl 8 (by decide) (hts (.fieldLink RX7 25 "FloorPanelsModel" "isKept" "[Z") (by decide +kernel)) (fun _ h9 => h9) rfl dX7_restore_16 ?_
  refine lv_iload_n hx hb dX7_restore_19 rfl (lv_at hl 1 rfl) ?_
  refine nv_zald hx hb hK hP 1 rfl (by omega) (by decide) dX7_restore_20 ?_
  refine lv_if_ne (tgt := 28) hx hb dX7_restore_21 (by decide) (fun c_21 => False.elim (by exact c_21 h_sv)) (fun c_21 => ?_)
  refine lv_iconst (v := nI 2) hx hb dX7_restore_24 (by decide) ?_
  refine lv_goto (tgt := 29) hx hb dX7_restore_25 (by decide) ?_
  refine cWV (As := [.int (nI 2)]) (rest := []) (st1 := [.int (zb (0 < 2))]) (w3 := [(M, .inr (4, [.int (nI 2), .ref mt, .int (nI sz), .ref mn, .ref mtr, .ref md, .int (nI ac), .ref mk, .ref mik, .ref na, .ref so])), (mik, .inl (G.2 2, 2, .inl ikf))]) ⟨hx, hb, hml, hown, hts⟩ (c_X7_refused l G M rf mt sz mn mtr md ac mk mik na so 2 (by first | omega | assumption)) (cwV 1 hts gX7_restore_X7_refused rfl rfl rfl (by decide +kernel) ⟨Nat.le_of_ble_eq_true rfl, Nat.le_of_ble_eq_true rfl⟩) (preV_of hK hP hD [0] (by decide) rfl (ci := 4) (q0 := 0) rfl rfl rfl) rfl hl.1 rfl (lv_room (Nat.le_of_ble_eq_true rfl)) dX7_restore_29 ⟨Nat.zero_le _, Nat.zero_le _⟩ hP hD hS [0] (by decide) rfl rfl (rfl) rfl (fun H locs hP hD hS => ?_)
  refine bb_eq (tgt := 37) hx hb dX7_restore_32 (by decide) (fun c_32 => False.elim (by omega)) (fun c_32 => ?_)
  refine lv_iconst (v := nI 0) hx hb dX7_restore_35 (by decide) ?_
  exact W_i hx hb hr hlk dX7_restore_36 hP hS (rfl) (rfl)

