theorem in_c_X7_level_0_X7 : ∀ w ∈ wsX70, w ∈ wsX7_level := by decide +kernel
set_option maxHeartbeats 4000000 in
set_option maxRecDepth 100000 in
theorem c_X7_level_0 (l : Launch) (G : GG) (M : Nat) (rf : Nat) (mt : Nat) (sz : Nat) (mn : Nat) (mtr : Nat) (md : Nat) (ac : Nat) (mk : Nat) (mik : Nat) (na : Nat) (so : Nat) (n : Nat) (g : Nat) (sk : Int32) (mm : Nat → Int32) (nf : Nat → Int32) (sf : Nat → Int32) (f : Nat → Int32) (lv : Nat) (h_n : n ≤ 16) (h_n1 : 1 ≤ n) (h_g : g < n) (h_k : mm (3 + g) = 0) (h_R : MRel n sk g f mm) (h_lv : lv < n) : Met l yX7_level wsX7_level ({ frames := 3, cells := 0, slots := 0, locals := 74 } : Room) (va_Pc [.ref M, .int (nI lv), .int (nI 0)] (PB G [(M, .inr (4, [.int (nI rf), .ref mt, .int (nI sz), .ref mn, .ref mtr, .ref md, .int (nI ac), .ref mk, .ref mik, .ref na, .ref so])), (mn, .inl (G.2 0, 131, .inl (mr n (nI g) sk mm))), (na, .inl (G.2 0, 16, .inl nf)), (so, .inl (G.2 0, 16, .inl sf))])) (QW G (some (.int (f lv))) [(M, .inr (4, [.int (nI 0), .ref mt, .int (nI sz), .ref mn, .ref mtr, .ref md, .int (nI ac), .ref mk, .ref mik, .ref na, .ref so])), (mn, .inl (G.2 0, 131, .inl (mr n (nI g) sk mm))), (na, .inl (G.2 0, 16, .inl (nmA sk (kdm mm) g 0 n nf))), (so, .inl (G.2 0, 16, .inl (soA sk (kdm mm) g 0 n sf)))] (vA [(M, .inr (4, [.int (nI rf), .ref mt, .int (nI sz), .ref mn, .ref mtr, .ref md, .int (nI ac), .ref mk, .ref mik, .ref na, .ref so])), (mn, .inl (G.2 0, 131, .inl (mr n (nI g) sk mm))), (na, .inl (G.2 0, 16, .inl nf)), (so, .inl (G.2 0, 16, .inl sf))])) 0 0 (vA [(M, .inr (4, [.int (nI rf), .ref mt, .int (nI sz), .ref mn, .ref mtr, .ref md, .int (nI ac), .ref mk, .ref mik, .ref na, .ref so])), (mn, .inl (G.2 0, 131, .inl (mr n (nI g) sk mm))), (na, .inl (G.2 0, 16, .inl nf)), (so, .inl (G.2 0, 16, .inl sf))]) := by
  refine Met.go (cc := cX7_level) (maxL := 3) (ret := (some .int)) (by decide) rfl (Nat.le_of_ble_eq_true rfl) ?_
  intro p e s m below meth c ls hx hb hr hml hown hts hlk hP hK hD hS hl
  have hown : s.vm.findClass RX7 = some m.cls := hown
  have hl : lv_has ls 3 [(0, .ref M), (1, .int (nI lv)), (2, .int (nI 0))] := hl
  refine lv_aload_n hx hb dX7_level_0 rfl (lv_at hl 0 rfl) ?_
  refine lv_aload_n hx hb dX7_level_1 rfl (lv_at hl 0 rfl) ?_
  refine va_get (D := G.1) (ci := 4) (v := .ref mn) (C := RX7) (T := TX7) (N := 11) hx hb hts in_c_X7_level_0_X7 hown hK.1 hP 0 rfl rfl 3 (by decide) (hts (.fieldLink RX7 13 "FloorPanelsModel" "now" "[I") (by decide +kernel)) (fun _ h9 => h9) rfl dX7_level_2 ?_
  refine lv_iload_n hx hb dX7_level_5 rfl (lv_at hl 1 rfl) ?_
  refine cRS (As := [.ref mn, .int (nI lv)]) (rest := [.ref M]) (v := .int (zb (lv < n))) ⟨hx, hb, hml, hown, hts⟩ (c_X7_isLevel_n l G mn n g sk mm lv (by first | omega | assumption) (by first | omega | assumption) (by first | omega | assumption)) (va_cwS 2 hts gX7_level_X7_isLevel rfl rfl rfl (by decide +kernel) ⟨Nat.le_of_ble_eq_true rfl, Nat.le_of_ble_eq_true rfl⟩) (preS_of hK hP hD [1] (by decide) rfl) rfl hl.1 rfl (lv_room (Nat.le_of_ble_eq_true rfl)) dX7_level_6 ⟨Nat.zero_le _, Nat.zero_le _⟩ ?_
  refine bb_ne (tgt := 16) hx hb dX7_level_9 (by decide) (fun c_9 => ?_) (fun c_9 => False.elim (by omega))
  refine lv_iload_n hx hb dX7_level_16 rfl (lv_at hl 2 rfl) ?_
  refine lv_i2l (v := (nI 0).toInt64) hx hb dX7_level_17 rfl ?_
  refine lv_lconst (v := 0) hx hb dX7_level_18 rfl ?_
  refine lv_ldc2 (own := RX7) (v := 4) hx hb hown (hts (.constantLong RX7 151 (4)) (by decide +kernel)) dX7_level_19 ?_
  refine cRS (As := [.long ((nI 0).toInt64), .long (0 : Int64), .long (4 : Int64)]) (rest := [.ref M]) (v := .int (zb ((0 : Int64).toInt ≤ ((nI 0).toInt64).toInt ∧ ((nI 0).toInt64).toInt ≤ (4 : Int64).toInt))) ⟨hx, hb, hml, hown, hts⟩ (c_X7_in l G ((nI 0).toInt64) (0 : Int64) (4 : Int64) ) (va_cwS 3 hts gX7_level_X7_in rfl rfl rfl (by decide +kernel) ⟨Nat.le_of_ble_eq_true rfl, Nat.le_of_ble_eq_true rfl⟩) (preS_of hK hP hD [] (by decide) rfl) rfl hl.1 rfl (lv_room (Nat.le_of_ble_eq_true rfl)) dX7_level_22 ⟨Nat.zero_le _, Nat.zero_le _⟩ ?_
  refine bb_eq (tgt := 32) hx hb dX7_level_25 (by decide) (fun c_25 => False.elim (by (rw [i2l_toInt, nI_i (by omega), show (0 : Int64).toInt = 0 from rfl, show (4 : Int64).toInt = 4 from rfl] at c_25; omega))) (fun c_25 => ?_)
  refine lv_iconst (v := nI 0) hx hb dX7_level_28 (by decide) ?_
  refine lv_goto (tgt := 33) hx hb dX7_level_29 (by decide) ?_
  refine cWV (As := [.int (nI 0)]) (rest := []) (st1 := [.int (zb (0 < 0))]) (w3 := [(M, .inr (4, [.int (nI 0), .ref mt, .int (nI sz), .ref mn, .ref mtr, .ref md, .int (nI ac), .ref mk, .ref mik, .ref na, .ref so])), (mn, .inl (G.2 0, 131, .inl (mr n (nI g) sk mm))), (na, .inl (G.2 0, 16, .inl nf)), (so, .inl (G.2 0, 16, .inl sf))]) ⟨hx, hb, hml, hown, hts⟩ (c_X7_refused l G M rf mt sz mn mtr md ac mk mik na so 0 (by first | omega | assumption)) (cwV 1 hts gX7_level_X7_refused rfl rfl rfl (by decide +kernel) ⟨Nat.le_of_ble_eq_true rfl, Nat.le_of_ble_eq_true rfl⟩) (preV_of hK hP hD [0] (by decide) rfl (ci := 4) (q0 := 0) rfl rfl rfl) rfl hl.1 rfl (lv_room (Nat.le_of_ble_eq_true rfl)) dX7_level_33 ⟨Nat.zero_le _, Nat.zero_le _⟩ hP hD hS [0] (by decide) rfl rfl (rfl) rfl (fun H locs hP hD hS => ?_)
  refine bb_eq (tgt := 41) hx hb dX7_level_36 (by decide) (fun c_36 => ?_) (fun c_36 => False.elim (by omega))
  refine lv_aload_n hx hb dX7_level_41 rfl (lv_at hl 0 rfl) ?_
  refine lv_aload_n hx hb dX7_level_42 rfl (lv_at hl 0 rfl) ?_
  refine va_get (D := G.1) (ci := 4) (v := .ref mn) (C := RX7) (T := TX7) (N := 11) hx hb hts in_c_X7_level_0_X7 hown hK.1 hP 0 rfl rfl 3 (by decide) (hts (.fieldLink RX7 13 "FloorPanelsModel" "now" "[I") (by decide +kernel)) (fun _ h9 => h9) rfl dX7_level_43 ?_
  refine cWV (As := [.ref mn]) (rest := []) (st1 := []) (w3 := [(M, .inr (4, [.int (nI 0), .ref mt, .int (nI sz), .ref mn, .ref mtr, .ref md, .int (nI ac), .ref mk, .ref mik, .ref na, .ref so])), (mn, .inl (G.2 0, 131, .inl (mr n (nI g) sk mm))), (na, .inl (G.2 0, 16, .inl (nmA sk (kdm mm) g 0 n nf))), (so, .inl (G.2 0, 16, .inl (soA sk (kdm mm) g 0 n sf)))]) ⟨hx, hb, hml, hown, hts⟩ (c_X7_name l G M 0 mt sz mn mtr md ac mk mik na so mn n g sk mm nf sf (by first | omega | assumption) (by first | omega | assumption) (by first | omega | assumption)) (cwV 1 hts gX7_level_X7_name rfl rfl rfl (by decide +kernel) ⟨Nat.le_of_ble_eq_true rfl, Nat.le_of_ble_eq_true rfl⟩) (preV_of hK hP hD [0, 1, 2, 3] (by decide) rfl (ci := 4) (q0 := 0) rfl rfl rfl) rfl hl.1 rfl (lv_room (Nat.le_of_ble_eq_true rfl)) dX7_level_46 ⟨Nat.zero_le _, Nat.zero_le _⟩ hP hD hS [0, 1, 2, 3] (by decide) rfl rfl (rfl) rfl (fun H locs hP hD hS => ?_)
  refine lv_iload_n hx hb dX7_level_49 rfl (lv_at hl 2 rfl) ?_
  refine b0_ne (tgt := 64) hx hb dX7_level_50 (by decide) (nI_i (by omega)) (fun c_50 => False.elim (by omega)) (fun c_50 => ?_)
  refine lv_aload_n hx hb dX7_level_53 rfl (lv_at hl 0 rfl) ?_
  refine va_get (D := G.1) (ci := 4) (v := .ref mn) (C := RX7) (T := TX7) (N := 11) hx hb hts in_c_X7_level_0_X7 hown hK.1 hP 0 rfl rfl 3 (by decide) (hts (.fieldLink RX7 13 "FloorPanelsModel" "now" "[I") (by decide +kernel)) (fun _ h9 => h9) rfl dX7_level_54 ?_
  refine lv_iconst (v := nI 3) hx hb dX7_level_57 (by decide) ?_
  refine lv_iload_n hx hb dX7_level_58 rfl (lv_at hl 1 rfl) ?_
  refine nv_iadd hx hb dX7_level_59 ?_
  refine nv_iald hx hb hK hP 1 rfl (by omega) (by decide) dX7_level_60 ?_
  rw [show (mr n (nI g) sk mm) (3 + lv) = (f lv) from (mr_j (by omega)).trans (h_R.1 _ h_lv)]
  refine lv_goto (tgt := 140) hx hb dX7_level_61 (by decide) ?_
  exact W_i hx hb hr hlk dX7_level_140 hP hS (rfl) (rfl)

theorem in_c_X7_level_1_X7 : ∀ w ∈ wsX70, w ∈ wsX7_level := by decide +kernel
set_option maxHeartbeats 4000000 in
set_option maxRecDepth 100000 in
theorem c_X7_level_1 (l : Launch) (G : GG) (M : Nat) (rf : Nat) (mt : Nat) (sz : Nat) (mn : Nat) (mtr : Nat) (md : Nat) (ac : Nat) (mk : Nat) (mik : Nat) (na : Nat) (so : Nat) (n : Nat) (g : Nat) (sk : Int32) (mm : Nat → Int32) (nf : Nat → Int32) (sf : Nat → Int32) (f : Nat → Int32) (lv : Nat) (h_n : n ≤ 16) (h_n1 : 1 ≤ n) (h_g : g < n) (h_k : mm (3 + g) = 0) (h_R : MRel n sk g f mm) (h_lv : lv < n) : Met l yX7_level wsX7_level ({ frames := 3, cells := 0, slots := 0, locals := 74 } : Room) (va_Pc [.ref M, .int (nI lv), .int (nI 1)] (PB G [(M, .inr (4, [.int (nI rf), .ref mt, .int (nI sz), .ref mn, .ref mtr, .ref md, .int (nI ac), .ref mk, .ref mik, .ref na, .ref so])), (mn, .inl (G.2 0, 131, .inl (mr n (nI g) sk mm))), (na, .inl (G.2 0, 16, .inl nf)), (so, .inl (G.2 0, 16, .inl sf))])) (QW G (some (.int (f (16 + lv)))) [(M, .inr (4, [.int (nI 0), .ref mt, .int (nI sz), .ref mn, .ref mtr, .ref md, .int (nI ac), .ref mk, .ref mik, .ref na, .ref so])), (mn, .inl (G.2 0, 131, .inl (mr n (nI g) sk mm))), (na, .inl (G.2 0, 16, .inl (nmA sk (kdm mm) g 0 n nf))), (so, .inl (G.2 0, 16, .inl (soA sk (kdm mm) g 0 n sf)))] (vA [(M, .inr (4, [.int (nI rf), .ref mt, .int (nI sz), .ref mn, .ref mtr, .ref md, .int (nI ac), .ref mk, .ref mik, .ref na, .ref so])), (mn, .inl (G.2 0, 131, .inl (mr n (nI g) sk mm))), (na, .inl (G.2 0, 16, .inl nf)), (so, .inl (G.2 0, 16, .inl sf))])) 0 0 (vA [(M, .inr (4, [.int (nI rf), .ref mt, .int (nI sz), .ref mn, .ref mtr, .ref md, .int (nI ac), .ref mk, .ref mik, .ref na, .ref so])), (mn, .inl (G.2 0, 131, .inl (mr n (nI g) sk mm))), (na, .inl (G.2 0, 16, .inl nf)), (so, .inl (G.2 0, 16, .inl sf))]) := by
  refine Met.go (cc := cX7_level) (maxL := 3) (ret := (some .int)) (by decide) rfl (Nat.le_of_ble_eq_true rfl) ?_
  intro p e s m below meth c ls hx hb hr hml hown hts hlk hP hK hD hS hl
  have hown : s.vm.findClass RX7 = some m.cls := hown
  have hl : lv_has ls 3 [(0, .ref M), (1, .int (nI lv)), (2, .int (nI 1))] := hl
  refine lv_aload_n hx hb dX7_level_0 rfl (lv_at hl 0 rfl) ?_
  refine lv_aload_n hx hb dX7_level_1 rfl (lv_at hl 0 rfl) ?_
  refine va_get (D := G.1) (ci := 4) (v := .ref mn) (C := RX7) (T := TX7) (N := 11) hx hb hts in_c_X7_level_1_X7 hown hK.1 hP 0 rfl rfl 3 (by decide) (hts (.fieldLink RX7 13 "FloorPanelsModel" "now" "[I") (by decide +kernel)) (fun _ h9 => h9) rfl dX7_level_2 ?_
  refine lv_iload_n hx hb dX7_level_5 rfl (lv_at hl 1 rfl) ?_
  refine cRS (As := [.ref mn, .int (nI lv)]) (rest := [.ref M]) (v := .int (zb (lv < n))) ⟨hx, hb, hml, hown, hts⟩ (c_X7_isLevel_n l G mn n g sk mm lv (by first | omega | assumption) (by first | omega | assumption) (by first | omega | assumption)) (va_cwS 2 hts gX7_level_X7_isLevel rfl rfl rfl (by decide +kernel) ⟨Nat.le_of_ble_eq_true rfl, Nat.le_of_ble_eq_true rfl⟩) (preS_of hK hP hD [1] (by decide) rfl) rfl hl.1 rfl (lv_room (Nat.le_of_ble_eq_true rfl)) dX7_level_6 ⟨Nat.zero_le _, Nat.zero_le _⟩ ?_
  refine bb_ne (tgt := 16) hx hb dX7_level_9 (by decide) (fun c_9 => ?_) (fun c_9 => False.elim (by omega))
  refine lv_iload_n hx hb dX7_level_16 rfl (lv_at hl 2 rfl) ?_
  refine lv_i2l (v := (nI 1).toInt64) hx hb dX7_level_17 rfl ?_
  refine lv_lconst (v := 0) hx hb dX7_level_18 rfl ?_
  refine lv_ldc2 (own := RX7) (v := 4) hx hb hown (hts (.constantLong RX7 151 (4)) (by decide +kernel)) dX7_level_19 ?_
  refine cRS (As := [.long ((nI 1).toInt64), .long (0 : Int64), .long (4 : Int64)]) (rest := [.ref M]) (v := .int (zb ((0 : Int64).toInt ≤ ((nI 1).toInt64).toInt ∧ ((nI 1).toInt64).toInt ≤ (4 : Int64).toInt))) ⟨hx, hb, hml, hown, hts⟩ (c_X7_in l G ((nI 1).toInt64) (0 : Int64) (4 : Int64) ) (va_cwS 3 hts gX7_level_X7_in rfl rfl rfl (by decide +kernel) ⟨Nat.le_of_ble_eq_true rfl, Nat.le_of_ble_eq_true rfl⟩) (preS_of hK hP hD [] (by decide) rfl) rfl hl.1 rfl (lv_room (Nat.le_of_ble_eq_true rfl)) dX7_level_22 ⟨Nat.zero_le _, Nat.zero_le _⟩ ?_
  refine bb_eq (tgt := 32) hx hb dX7_level_25 (by decide) (fun c_25 => False.elim (by (rw [i2l_toInt, nI_i (by omega), show (0 : Int64).toInt = 0 from rfl, show (4 : Int64).toInt = 4 from rfl] at c_25; omega))) (fun c_25 => ?_)
  refine lv_iconst (v := nI 0) hx hb dX7_level_28 (by decide) ?_
  refine lv_goto (tgt := 33) hx hb dX7_level_29 (by decide) ?_
  refine cWV (As := [.int (nI 0)]) (rest := []) (st1 := [.int (zb (0 < 0))]) (w3 := [(M, .inr (4, [.int (nI 0), .ref mt, .int (nI sz), .ref mn, .ref mtr, .ref md, .int (nI ac), .ref mk, .ref mik, .ref na, .ref so])), (mn, .inl (G.2 0, 131, .inl (mr n (nI g) sk mm))), (na, .inl (G.2 0, 16, .inl nf)), (so, .inl (G.2 0, 16, .inl sf))]) ⟨hx, hb, hml, hown, hts⟩ (c_X7_refused l G M rf mt sz mn mtr md ac mk mik na so 0 (by first | omega | assumption)) (cwV 1 hts gX7_level_X7_refused rfl rfl rfl (by decide +kernel) ⟨Nat.le_of_ble_eq_true rfl, Nat.le_of_ble_eq_true rfl⟩) (preV_of hK hP hD [0] (by decide) rfl (ci := 4) (q0 := 0) rfl rfl rfl) rfl hl.1 rfl (lv_room (Nat.le_of_ble_eq_true rfl)) dX7_level_33 ⟨Nat.zero_le _, Nat.zero_le _⟩ hP hD hS [0] (by decide) rfl rfl (rfl) rfl (fun H locs hP hD hS => ?_)
  refine bb_eq (tgt := 41) hx hb dX7_level_36 (by decide) (fun c_36 => ?_) (fun c_36 => False.elim (by omega))
  refine lv_aload_n hx hb dX7_level_41 rfl (lv_at hl 0 rfl) ?_
  refine lv_aload_n hx hb dX7_level_42 rfl (lv_at hl 0 rfl) ?_
  refine va_get (D := G.1) (ci := 4) (v := .ref mn) (C := RX7) (T := TX7) (N := 11) hx hb hts in_c_X7_level_1_X7 hown hK.1 hP 0 rfl rfl 3 (by decide) (hts (.fieldLink RX7 13 "FloorPanelsModel" "now" "[I") (by decide +kernel)) (fun _ h9 => h9) rfl dX7_level_43 ?_
  refine cWV (As := [.ref mn]) (rest := []) (st1 := []) (w3 := [(M, .inr (4, [.int (nI 0), .ref mt, .int (nI sz), .ref mn, .ref mtr, .ref md, .int (nI ac), .ref mk, .ref mik, .ref na, .ref so])), (mn, .inl (G.2 0, 131, .inl (mr n (nI g) sk mm))), (na, .inl (G.2 0, 16, .inl (nmA sk (kdm mm) g 0 n nf))), (so, .inl (G.2 0, 16, .inl (soA sk (kdm mm) g 0 n sf)))]) ⟨hx, hb, hml, hown, hts⟩ (c_X7_name l G M 0 mt sz mn mtr md ac mk mik na so mn n g sk mm nf sf (by first | omega | assumption) (by first | omega | assumption) (by first | omega | assumption)) (cwV 1 hts gX7_level_X7_name rfl rfl rfl (by decide +kernel) ⟨Nat.le_of_ble_eq_true rfl, Nat.le_of_ble_eq_true rfl⟩) (preV_of hK hP hD [0, 1, 2, 3] (by decide) rfl (ci := 4) (q0 := 0) rfl rfl rfl) rfl hl.1 rfl (lv_room (Nat.le_of_ble_eq_true rfl)) dX7_level_46 ⟨Nat.zero_le _, Nat.zero_le _⟩ hP hD hS [0, 1, 2, 3] (by decide) rfl rfl (rfl) rfl (fun H locs hP hD hS => ?_)
  refine lv_iload_n hx hb dX7_level_49 rfl (lv_at hl 2 rfl) ?_
  refine b0_ne (tgt := 64) hx hb dX7_level_50 (by decide) (nI_i (by omega)) (fun c_50 => ?_) (fun c_50 => False.elim (by omega))
  refine lv_iload_n hx hb dX7_level_64 rfl (lv_at hl 2 rfl) ?_
  refine lv_iconst (v := nI 1) hx hb dX7_level_65 (by decide) ?_
  refine bi_ne (tgt := 78) hx hb dX7_level_66 (by decide) (nI_i (by omega)) (nI_i (by omega)) (fun c_66 => False.elim (by omega)) (fun c_66 => ?_)
  refine lv_aload_n hx hb dX7_level_69 rfl (lv_at hl 0 rfl) ?_
  refine va_get (D := G.1) (ci := 4) (v := .ref na) (C := RX7) (T := TX7) (N := 11) hx hb hts in_c_X7_level_1_X7 hown hK.1 hP 0 rfl rfl 9 (by decide) (hts (.fieldLink RX7 29 "FloorPanelsModel" "names" "[I") (by decide +kernel)) (fun _ h9 => h9) rfl dX7_level_70 ?_
  refine lv_iload_n hx hb dX7_level_73 rfl (lv_at hl 1 rfl) ?_
  refine nv_iald hx hb hK hP 2 rfl (by omega) (by decide) dX7_level_74 ?_
  rw [show (nmA sk (kdm mm) g 0 n nf) lv = (f (16 + lv)) from h_R.nf h_lv]
  refine lv_goto (tgt := 140) hx hb dX7_level_75 (by decide) ?_
  exact W_i hx hb hr hlk dX7_level_140 hP hS (rfl) (rfl)

theorem in_c_X7_level_2_X7 : ∀ w ∈ wsX70, w ∈ wsX7_level := by decide +kernel
set_option maxHeartbeats 4000000 in
set_option maxRecDepth 100000 in
theorem c_X7_level_2 (l : Launch) (G : GG) (M : Nat) (rf : Nat) (mt : Nat) (sz : Nat) (mn : Nat) (mtr : Nat) (md : Nat) (ac : Nat) (mk : Nat) (mik : Nat) (na : Nat) (so : Nat) (n : Nat) (g : Nat) (sk : Int32) (mm : Nat → Int32) (nf : Nat → Int32) (sf : Nat → Int32) (f : Nat → Int32) (lv : Nat) (h_n : n ≤ 16) (h_n1 : 1 ≤ n) (h_g : g < n) (h_k : mm (3 + g) = 0) (h_R : MRel n sk g f mm) (h_lv : lv < n) : Met l yX7_level wsX7_level ({ frames := 3, cells := 0, slots := 0, locals := 74 } : Room) (va_Pc [.ref M, .int (nI lv), .int (nI 2)] (PB G [(M, .inr (4, [.int (nI rf), .ref mt, .int (nI sz), .ref mn, .ref mtr, .ref md, .int (nI ac), .ref mk, .ref mik, .ref na, .ref so])), (mn, .inl (G.2 0, 131, .inl (mr n (nI g) sk mm))), (na, .inl (G.2 0, 16, .inl nf)), (so, .inl (G.2 0, 16, .inl sf))])) (QW G (some (.int (f (32 + lv)))) [(M, .inr (4, [.int (nI 0), .ref mt, .int (nI sz), .ref mn, .ref mtr, .ref md, .int (nI ac), .ref mk, .ref mik, .ref na, .ref so])), (mn, .inl (G.2 0, 131, .inl (mr n (nI g) sk mm))), (na, .inl (G.2 0, 16, .inl (nmA sk (kdm mm) g 0 n nf))), (so, .inl (G.2 0, 16, .inl (soA sk (kdm mm) g 0 n sf)))] (vA [(M, .inr (4, [.int (nI rf), .ref mt, .int (nI sz), .ref mn, .ref mtr, .ref md, .int (nI ac), .ref mk, .ref mik, .ref na, .ref so])), (mn, .inl (G.2 0, 131, .inl (mr n (nI g) sk mm))), (na, .inl (G.2 0, 16, .inl nf)), (so, .inl (G.2 0, 16, .inl sf))])) 0 0 (vA [(M, .inr (4, [.int (nI rf), .ref mt, .int (nI sz), .ref mn, .ref mtr, .ref md, .int (nI ac), .ref mk, .ref mik, .ref na, .ref so])), (mn, .inl (G.2 0, 131, .inl (mr n (nI g) sk mm))), (na, .inl (G.2 0, 16, .inl nf)), (so, .inl (G.2 0, 16, .inl sf))]) := by
  refine Met.go (cc := cX7_level) (maxL := 3) (ret := (some .int)) (by decide) rfl (Nat.le_of_ble_eq_true rfl) ?_
  intro p e s m below meth c ls hx hb hr hml hown hts hlk hP hK hD hS hl
  have hown : s.vm.findClass RX7 = some m.cls := hown
  have hl : lv_has ls 3 [(0, .ref M), (1, .int (nI lv)), (2, .int (nI 2))] := hl
  refine lv_aload_n hx hb dX7_level_0 rfl (lv_at hl 0 rfl) ?_
  refine lv_aload_n hx hb dX7_level_1 rfl (lv_at hl 0 rfl) ?_
  refine va_get (D := G.1) (ci := 4) (v := .ref mn) (C := RX7) (T := TX7) (N := 11) hx hb hts in_c_X7_level_2_X7 hown hK.1 hP 0 rfl rfl 3 (by decide) (hts (.fieldLink RX7 13 "FloorPanelsModel" "now" "[I") (by decide +kernel)) (fun _ h9 => h9) rfl dX7_level_2 ?_
  refine lv_iload_n hx hb dX7_level_5 rfl (lv_at hl 1 rfl) ?_
  refine cRS (As := [.ref mn, .int (nI lv)]) (rest := [.ref M]) (v := .int (zb (lv < n))) ⟨hx, hb, hml, hown, hts⟩ (c_X7_isLevel_n l G mn n g sk mm lv (by first | omega | assumption) (by first | omega | assumption) (by first | omega | assumption)) (va_cwS 2 hts gX7_level_X7_isLevel rfl rfl rfl (by decide +kernel) ⟨Nat.le_of_ble_eq_true rfl, Nat.le_of_ble_eq_true rfl⟩) (preS_of hK hP hD [1] (by decide) rfl) rfl hl.1 rfl (lv_room (Nat.le_of_ble_eq_true rfl)) dX7_level_6 ⟨Nat.zero_le _, Nat.zero_le _⟩ ?_
  refine bb_ne (tgt := 16) hx hb dX7_level_9 (by decide) (fun c_9 => ?_) (fun c_9 => False.elim (by omega))
  refine lv_iload_n hx hb dX7_level_16 rfl (lv_at hl 2 rfl) ?_
  refine lv_i2l (v := (nI 2).toInt64) hx hb dX7_level_17 rfl ?_
  refine lv_lconst (v := 0) hx hb dX7_level_18 rfl ?_
  refine lv_ldc2 (own := RX7) (v := 4) hx hb hown (hts (.constantLong RX7 151 (4)) (by decide +kernel)) dX7_level_19 ?_
  refine cRS (As := [.long ((nI 2).toInt64), .long (0 : Int64), .long (4 : Int64)]) (rest := [.ref M]) (v := .int (zb ((0 : Int64).toInt ≤ ((nI 2).toInt64).toInt ∧ ((nI 2).toInt64).toInt ≤ (4 : Int64).toInt))) ⟨hx, hb, hml, hown, hts⟩ (c_X7_in l G ((nI 2).toInt64) (0 : Int64) (4 : Int64) ) (va_cwS 3 hts gX7_level_X7_in rfl rfl rfl (by decide +kernel) ⟨Nat.le_of_ble_eq_true rfl, Nat.le_of_ble_eq_true rfl⟩) (preS_of hK hP hD [] (by decide) rfl) rfl hl.1 rfl (lv_room (Nat.le_of_ble_eq_true rfl)) dX7_level_22 ⟨Nat.zero_le _, Nat.zero_le _⟩ ?_
  refine bb_eq (tgt := 32) hx hb dX7_level_25 (by decide) (fun c_25 => False.elim (by (rw [i2l_toInt, nI_i (by omega), show (0 : Int64).toInt = 0 from rfl, show (4 : Int64).toInt = 4 from rfl] at c_25; omega))) (fun c_25 => ?_)
  refine lv_iconst (v := nI 0) hx hb dX7_level_28 (by decide) ?_
  refine lv_goto (tgt := 33) hx hb dX7_level_29 (by decide) ?_
  refine cWV (As := [.int (nI 0)]) (rest := []) (st1 := [.int (zb (0 < 0))]) (w3 := [(M, .inr (4, [.int (nI 0), .ref mt, .int (nI sz), .ref mn, .ref mtr, .ref md, .int (nI ac), .ref mk, .ref mik, .ref na, .ref so])), (mn, .inl (G.2 0, 131, .inl (mr n (nI g) sk mm))), (na, .inl (G.2 0, 16, .inl nf)), (so, .inl (G.2 0, 16, .inl sf))]) ⟨hx, hb, hml, hown, hts⟩ (c_X7_refused l G M rf mt sz mn mtr md ac mk mik na so 0 (by first | omega | assumption)) (cwV 1 hts gX7_level_X7_refused rfl rfl rfl (by decide +kernel) ⟨Nat.le_of_ble_eq_true rfl, Nat.le_of_ble_eq_true rfl⟩) (preV_of hK hP hD [0] (by decide) rfl (ci := 4) (q0 := 0) rfl rfl rfl) rfl hl.1 rfl (lv_room (Nat.le_of_ble_eq_true rfl)) dX7_level_33 ⟨Nat.zero_le _, Nat.zero_le _⟩ hP hD hS [0] (by decide) rfl rfl (rfl) rfl (fun H locs hP hD hS => ?_)
  refine bb_eq (tgt := 41) hx hb dX7_level_36 (by decide) (fun c_36 => ?_) (fun c_36 => False.elim (by omega))
  refine lv_aload_n hx hb dX7_level_41 rfl (lv_at hl 0 rfl) ?_
  refine lv_aload_n hx hb dX7_level_42 rfl (lv_at hl 0 rfl) ?_
  refine va_get (D := G.1) (ci := 4) (v := .ref mn) (C := RX7) (T := TX7) (N := 11) hx hb hts in_c_X7_level_2_X7 hown hK.1 hP 0 rfl rfl 3 (by decide) (hts (.fieldLink RX7 13 "FloorPanelsModel" "now" "[I") (by decide +kernel)) (fun _ h9 => h9) rfl dX7_level_43 ?_
  refine cWV (As := [.ref mn]) (rest := []) (st1 := []) (w3 := [(M, .inr (4, [.int (nI 0), .ref mt, .int (nI sz), .ref mn, .ref mtr, .ref md, .int (nI ac), .ref mk, .ref mik, .ref na, .ref so])), (mn, .inl (G.2 0, 131, .inl (mr n (nI g) sk mm))), (na, .inl (G.2 0, 16, .inl (nmA sk (kdm mm) g 0 n nf))), (so, .inl (G.2 0, 16, .inl (soA sk (kdm mm) g 0 n sf)))]) ⟨hx, hb, hml, hown, hts⟩ (c_X7_name l G M 0 mt sz mn mtr md ac mk mik na so mn n g sk mm nf sf (by first | omega | assumption) (by first | omega | assumption) (by first | omega | assumption)) (cwV 1 hts gX7_level_X7_name rfl rfl rfl (by decide +kernel) ⟨Nat.le_of_ble_eq_true rfl, Nat.le_of_ble_eq_true rfl⟩) (preV_of hK hP hD [0, 1, 2, 3] (by decide) rfl (ci := 4) (q0 := 0) rfl rfl rfl) rfl hl.1 rfl (lv_room (Nat.le_of_ble_eq_true rfl)) dX7_level_46 ⟨Nat.zero_le _, Nat.zero_le _⟩ hP hD hS [0, 1, 2, 3] (by decide) rfl rfl (rfl) rfl (fun H locs hP hD hS => ?_)
  refine lv_iload_n hx hb dX7_level_49 rfl (lv_at hl 2 rfl) ?_
  refine b0_ne (tgt := 64) hx hb dX7_level_50 (by decide) (nI_i (by omega)) (fun c_50 => ?_) (fun c_50 => False.elim (by omega))
  refine lv_iload_n hx hb dX7_level_64 rfl (lv_at hl 2 rfl) ?_
  refine lv_iconst (v := nI 1) hx hb dX7_level_65 (by decide) ?_
  refine bi_ne (tgt := 78) hx hb dX7_level_66 (by decide) (nI_i (by omega)) (nI_i (by omega)) (fun c_66 => ?_) (fun c_66 => False.elim (by omega))
  refine lv_iload_n hx hb dX7_level_78 rfl (lv_at hl 2 rfl) ?_
  refine lv_iconst (v := nI 2) hx hb dX7_level_79 (by decide) ?_
  refine bi_ne (tgt := 95) hx hb dX7_level_80 (by decide) (nI_i (by omega)) (nI_i (by omega)) (fun c_80 => False.elim (by omega)) (fun c_80 => ?_)
  refine lv_aload_n hx hb dX7_level_83 rfl (lv_at hl 0 rfl) ?_
  refine va_get (D := G.1) (ci := 4) (v := .ref mn) (C := RX7) (T := TX7) (N := 11) hx hb hts in_c_X7_level_2_X7 hown hK.1 hP 0 rfl rfl 3 (by decide) (hts (.fieldLink RX7 13 "FloorPanelsModel" "now" "[I") (by decide +kernel)) (fun _ h9 => h9) rfl dX7_level_84 ?_
  refine lv_bipush (v := nI 19) hx hb dX7_level_87 (by decide) ?_
  refine lv_iload_n hx hb dX7_level_89 rfl (lv_at hl 1 rfl) ?_
  refine nv_iadd hx hb dX7_level_90 ?_
  refine nv_iald hx hb hK hP 1 rfl (by omega) (by decide) dX7_level_91 ?_
  rw [show (mr n (nI g) sk mm) (19 + lv) = (f (32 + lv)) from (mr_j (by omega)).trans (h_R.2.2.1 _ h_lv)]
  refine lv_goto (tgt := 140) hx hb dX7_level_92 (by decide) ?_
  exact W_i hx hb hr hlk dX7_level_140 hP hS (rfl) (rfl)

theorem in_c_X7_level_3_X7 : ∀ w ∈ wsX70, w ∈ wsX7_level := by decide +kernel
set_option maxHeartbeats 4000000 in
set_option maxRecDepth 100000 in
theorem c_X7_level_3 (l : Launch) (G : GG) (M : Nat) (rf : Nat) (mt : Nat) (sz : Nat) (mn : Nat) (mtr : Nat) (md : Nat) (ac : Nat) (mk : Nat) (mik : Nat) (na : Nat) (so : Nat) (n : Nat) (g : Nat) (sk : Int32) (mm : Nat → Int32) (nf : Nat → Int32) (sf : Nat → Int32) (f : Nat → Int32) (lv : Nat) (h_n : n ≤ 16) (h_n1 : 1 ≤ n) (h_g : g < n) (h_k : mm (3 + g) = 0) (h_R : MRel n sk g f mm) (h_lv : lv < n) : Met l yX7_level wsX7_level ({ frames := 3, cells := 0, slots := 0, locals := 74 } : Room) (va_Pc [.ref M, .int (nI lv), .int (nI 3)] (PB G [(M, .inr (4, [.int (nI rf), .ref mt, .int (nI sz), .ref mn, .ref mtr, .ref md, .int (nI ac), .ref mk, .ref mik, .ref na, .ref so])), (mn, .inl (G.2 0, 131, .inl (mr n (nI g) sk mm))), (na, .inl (G.2 0, 16, .inl nf)), (so, .inl (G.2 0, 16, .inl sf))])) (QW G (some (.int (zb (f (32 + lv) = f (16 + lv))))) [(M, .inr (4, [.int (nI 0), .ref mt, .int (nI sz), .ref mn, .ref mtr, .ref md, .int (nI ac), .ref mk, .ref mik, .ref na, .ref so])), (mn, .inl (G.2 0, 131, .inl (mr n (nI g) sk mm))), (na, .inl (G.2 0, 16, .inl (nmA sk (kdm mm) g 0 n nf))), (so, .inl (G.2 0, 16, .inl (soA sk (kdm mm) g 0 n sf)))] (vA [(M, .inr (4, [.int (nI rf), .ref mt, .int (nI sz), .ref mn, .ref mtr, .ref md, .int (nI ac), .ref mk, .ref mik, .ref na, .ref so])), (mn, .inl (G.2 0, 131, .inl (mr n (nI g) sk mm))), (na, .inl (G.2 0, 16, .inl nf)), (so, .inl (G.2 0, 16, .inl sf))])) 0 0 (vA [(M, .inr (4, [.int (nI rf), .ref mt, .int (nI sz), .ref mn, .ref mtr, .ref md, .int (nI ac), .ref mk, .ref mik, .ref na, .ref so])), (mn, .inl (G.2 0, 131, .inl (mr n (nI g) sk mm))), (na, .inl (G.2 0, 16, .inl nf)), (so, .inl (G.2 0, 16, .inl sf))]) := by
  refine Met.go (cc := cX7_level) (maxL := 3) (ret := (some .int)) (by decide) rfl (Nat.le_of_ble_eq_true rfl) ?_
  intro p e s m below meth c ls hx hb hr hml hown hts hlk hP hK hD hS hl
  have hown : s.vm.findClass RX7 = some m.cls := hown
  have hl : lv_has ls 3 [(0, .ref M), (1, .int (nI lv)), (2, .int (nI 3))] := hl
  refine lv_aload_n hx hb dX7_level_0 rfl (lv_at hl 0 rfl) ?_
  refine lv_aload_n hx hb dX7_level_1 rfl (lv_at hl 0 rfl) ?_
  refine va_get (D := G.1) (ci := 4) (v := .ref mn) (C := RX7) (T := TX7) (N := 11) hx hb hts in_c_X7_level_3_X7 hown hK.1 hP 0 rfl rfl 3 (by decide) (hts (.fieldLink RX7 13 "FloorPanelsModel" "now" "[I") (by decide +kernel)) (fun _ h9 => h9) rfl dX7_level_2 ?_
  refine lv_iload_n hx hb dX7_level_5 rfl (lv_at hl 1 rfl) ?_
  refine cRS (As := [.ref mn, .int (nI lv)]) (rest := [.ref M]) (v := .int (zb (lv < n))) ⟨hx, hb, hml, hown, hts⟩ (c_X7_isLevel_n l G mn n g sk mm lv (by first | omega | assumption) (by first | omega | assumption) (by first | omega | assumption)) (va_cwS 2 hts gX7_level_X7_isLevel rfl rfl rfl (by decide +kernel) ⟨Nat.le_of_ble_eq_true rfl, Nat.le_of_ble_eq_true rfl⟩) (preS_of hK hP hD [1] (by decide) rfl) rfl hl.1 rfl (lv_room (Nat.le_of_ble_eq_true rfl)) dX7_level_6 ⟨Nat.zero_le _, Nat.zero_le _⟩ ?_
  refine bb_ne (tgt := 16) hx hb dX7_level_9 (by decide) (fun c_9 => ?_) (fun c_9 => False.elim (by omega))
  refine lv_iload_n hx hb dX7_level_16 rfl (lv_at hl 2 rfl) ?_
  refine lv_i2l (v := (nI 3).toInt64) hx hb dX7_level_17 rfl ?_
  refine lv_lconst (v := 0) hx hb dX7_level_18 rfl ?_
  refine lv_ldc2 (own := RX7) (v := 4) hx hb hown (hts (.constantLong RX7 151 (4)) (by decide +kernel)) dX7_level_19 ?_
  refine cRS (As := [.long ((nI 3).toInt64), .long (0 : Int64), .long (4 : Int64)]) (rest := [.ref M]) (v := .int (zb ((0 : Int64).toInt ≤ ((nI 3).toInt64).toInt ∧ ((nI 3).toInt64).toInt ≤ (4 : Int64).toInt))) ⟨hx, hb, hml, hown, hts⟩ (c_X7_in l G ((nI 3).toInt64) (0 : Int64) (4 : Int64) ) (va_cwS 3 hts gX7_level_X7_in rfl rfl rfl (by decide +kernel) ⟨Nat.le_of_ble_eq_true rfl, Nat.le_of_ble_eq_true rfl⟩) (preS_of hK hP hD [] (by decide) rfl) rfl hl.1 rfl (lv_room (Nat.le_of_ble_eq_true rfl)) dX7_level_22 ⟨Nat.zero_le _, Nat.zero_le _⟩ ?_
  refine bb_eq (tgt := 32) hx hb dX7_level_25 (by decide) (fun c_25 => False.elim (by (rw [i2l_toInt, nI_i (by omega), show (0 : Int64).toInt = 0 from rfl, show (4 : Int64).toInt = 4 from rfl] at c_25; omega))) (fun c_25 => ?_)
  refine lv_iconst (v := nI 0) hx hb dX7_level_28 (by decide) ?_
  refine lv_goto (tgt := 33) hx hb dX7_level_29 (by decide) ?_
  refine cWV (As := [.int (nI 0)]) (rest := []) (st1 := [.int (zb (0 < 0))]) (w3 := [(M, .inr (4, [.int (nI 0), .ref mt, .int (nI sz), .ref mn, .ref mtr, .ref md, .int (nI ac), .ref mk, .ref mik, .ref na, .ref so])), (mn, .inl (G.2 0, 131, .inl (mr n (nI g) sk mm))), (na, .inl (G.2 0, 16, .inl nf)), (so, .inl (G.2 0, 16, .inl sf))]) ⟨hx, hb, hml, hown, hts⟩ (c_X7_refused l G M rf mt sz mn mtr md ac mk mik na so 0 (by first | omega | assumption)) (cwV 1 hts gX7_level_X7_refused rfl rfl rfl (by decide +kernel) ⟨Nat.le_of_ble_eq_true rfl, Nat.le_of_ble_eq_true rfl⟩) (preV_of hK hP hD [0] (by decide) rfl (ci := 4) (q0 := 0) rfl rfl rfl) rfl hl.1 rfl (lv_room (Nat.le_of_ble_eq_true rfl)) dX7_level_33 ⟨Nat.zero_le _, Nat.zero_le _⟩ hP hD hS [0] (by decide) rfl rfl (rfl) rfl (fun H locs hP hD hS => ?_)
  refine bb_eq (tgt := 41) hx hb dX7_level_36 (by decide) (fun c_36 => ?_) (fun c_36 => False.elim (by omega))
  refine lv_aload_n hx hb dX7_level_41 rfl (lv_at hl 0 rfl) ?_
  refine lv_aload_n hx hb dX7_level_42 rfl (lv_at hl 0 rfl) ?_
  refine va_get (D := G.1) (ci := 4) (v := .ref mn) (C := RX7) (T := TX7) (N := 11) hx hb hts in_c_X7_level_3_X7 hown hK.1 hP 0 rfl rfl 3 (by decide) (hts (.fieldLink RX7 13 "FloorPanelsModel" "now" "[I") (by decide +kernel)) (fun _ h9 => h9) rfl dX7_level_43 ?_
  refine cWV (As := [.ref mn]) (rest := []) (st1 := []) (w3 := [(M, .inr (4, [.int (nI 0), .ref mt, .int (nI sz), .ref mn, .ref mtr, .ref md, .int (nI ac), .ref mk, .ref mik, .ref na, .ref so])), (mn, .inl (G.2 0, 131, .inl (mr n (nI g) sk mm))), (na, .inl (G.2 0, 16, .inl (nmA sk (kdm mm) g 0 n nf))), (so, .inl (G.2 0, 16, .inl (soA sk (kdm mm) g 0 n sf)))]) ⟨hx, hb, hml, hown, hts⟩ (c_X7_name l G M 0 mt sz mn mtr md ac mk mik na so mn n g sk mm nf sf (by first | omega | assumption) (by first | omega | assumption) (by first | omega | assumption)) (cwV 1 hts gX7_level_X7_name rfl rfl rfl (by decide +kernel) ⟨Nat.le_of_ble_eq_true rfl, Nat.le_of_ble_eq_true rfl⟩) (preV_of hK hP hD [0, 1, 2, 3] (by decide) rfl (ci := 4) (q0 := 0) rfl rfl rfl) rfl hl.1 rfl (lv_room (Nat.le_of_ble_eq_true rfl)) dX7_level_46 ⟨Nat.zero_le _, Nat.zero_le _⟩ hP hD hS [0, 1, 2, 3] (by decide) rfl rfl (rfl) rfl (fun H locs hP hD hS => ?_)
  refine lv_iload_n hx hb dX7_level_49 rfl (lv_at hl 2 rfl) ?_
  refine b0_ne (tgt := 64) hx hb dX7_level_50 (by decide) (nI_i (by omega)) (fun c_50 => ?_) (fun c_50 => False.elim (by omega))
  refine lv_iload_n hx hb dX7_level_64 rfl (lv_at hl 2 rfl) ?_
  refine lv_iconst (v := nI 1) hx hb dX7_level_65 (by decide) ?_
  refine bi_ne (tgt := 78) hx hb dX7_level_66 (by decide) (nI_i (by omega)) (nI_i (by omega)) (fun c_66 => ?_) (fun c_66 => False.elim (by omega))
  refine lv_iload_n hx hb dX7_level_78 rfl (lv_at hl 2 rfl) ?_
  refine lv_iconst (v := nI 2) hx hb dX7_level_79 (by decide) ?_
  refine bi_ne (tgt := 95) hx hb dX7_level_80 (by decide) (nI_i (by omega)) (nI_i (by omega)) (fun c_80 => ?_) (fun c_80 => False.elim (by omega))
  refine lv_iload_n hx hb dX7_level_95 rfl (lv_at hl 2 rfl) ?_
  refine lv_iconst (v := nI 3) hx hb dX7_level_96 (by decide) ?_
  refine bi_ne (tgt := 126) hx hb dX7_level_97 (by decide) (nI_i (by omega)) (nI_i (by omega)) (fun c_97 => False.elim (by omega)) (fun c_97 => ?_)
  refine lv_aload_n hx hb dX7_level_100 rfl (lv_at hl 0 rfl) ?_
  refine va_get (D := G.1) (ci := 4) (v := .ref mn) (C := RX7) (T := TX7) (N := 11) hx hb hts in_c_X7_level_3_X7 hown hK.1 hP 0 rfl rfl 3 (by decide) (hts (.fieldLink RX7 13 "FloorPanelsModel" "now" "[I") (by decide +kernel)) (fun _ h9 => h9) rfl dX7_level_101 ?_
  refine lv_bipush (v := nI 19) hx hb dX7_level_104 (by decide) ?_
  refine lv_iload_n hx hb dX7_level_106 rfl (lv_at hl 1 rfl) ?_
  refine nv_iadd hx hb dX7_level_107 ?_
  refine nv_iald hx hb hK hP 1 rfl (by omega) (by decide) dX7_level_108 ?_
  rw [show (mr n (nI g) sk mm) (19 + lv) = (f (32 + lv)) from (mr_j (by omega)).trans (h_R.2.2.1 _ h_lv)]
  refine lv_aload_n hx hb dX7_level_109 rfl (lv_at hl 0 rfl) ?_
  refine va_get (D := G.1) (ci := 4) (v := .ref na) (C := RX7) (T := TX7) (N := 11) hx hb hts in_c_X7_level_3_X7 hown hK.1 hP 0 rfl rfl 9 (by decide) (hts (.fieldLink RX7 29 "FloorPanelsModel" "names" "[I") (by decide +kernel)) (fun _ h9 => h9) rfl dX7_level_110 ?_
  refine lv_iload_n hx hb dX7_level_113 rfl (lv_at hl 1 rfl) ?_
  refine nv_iald hx hb hK hP 2 rfl (by omega) (by decide) dX7_level_114 ?_
  rw [show (nmA sk (kdm mm) g 0 n nf) lv = (f (16 + lv)) from h_R.nf h_lv]
  refine lv_icmp_ne (tgt := 122) hx hb dX7_level_115 (by decide) (fun c_115 => ?_) (fun c_115 => ?_)
  ·
    refine lv_iconst (v := zb (f (32 + lv) = f (16 + lv))) hx hb dX7_level_122 (zb_f c_115).symm ?_
    refine lv_goto (tgt := 140) hx hb dX7_level_123 (by decide) ?_
    exact W_i hx hb hr hlk dX7_level_140 hP hS (rfl) (rfl)
  ·
    refine lv_iconst (v := zb (f (32 + lv) = f (16 + lv))) hx hb dX7_level_118 (zb_t c_115).symm ?_
    refine lv_goto (tgt := 140) hx hb dX7_level_119 (by decide) ?_
    exact W_i hx hb hr hlk dX7_level_140 hP hS (rfl) (rfl)

theorem in_c_X7_level_4_X7 : ∀ w ∈ wsX70, w ∈ wsX7_level := by decide +kernel
set_option maxHeartbeats 4000000 in
set_option maxRecDepth 100000 in
theorem c_X7_level_4 (l : Launch) (G : GG) (M : Nat) (rf : Nat) (mt : Nat) (sz : Nat) (mn : Nat) (mtr : Nat) (md : Nat) (ac : Nat) (mk : Nat) (mik : Nat) (na : Nat) (so : Nat) (n : Nat) (g : Nat) (sk : Int32) (mm : Nat → Int32) (nf : Nat → Int32) (sf : Nat → Int32) (f : Nat → Int32) (lv : Nat) (h_n : n ≤ 16) (h_n1 : 1 ≤ n) (h_g : g < n) (h_k : mm (3 + g) = 0) (h_R : MRel n sk g f mm) (h_lv : lv < n) : Met l yX7_level wsX7_level ({ frames := 3, cells := 0, slots := 0, locals := 74 } : Room) (va_Pc [.ref M, .int (nI lv), .int (nI 4)] (PB G [(M, .inr (4, [.int (nI rf), .ref mt, .int (nI sz), .ref mn, .ref mtr, .ref md, .int (nI ac), .ref mk, .ref mik, .ref na, .ref so])), (mn, .inl (G.2 0, 131, .inl (mr n (nI g) sk mm))), (na, .inl (G.2 0, 16, .inl nf)), (so, .inl (G.2 0, 16, .inl sf))])) (QW G (some (.int (nI (lk f n lv)))) [(M, .inr (4, [.int (nI 0), .ref mt, .int (nI sz), .ref mn, .ref mtr, .ref md, .int (nI ac), .ref mk, .ref mik, .ref na, .ref so])), (mn, .inl (G.2 0, 131, .inl (mr n (nI g) sk mm))), (na, .inl (G.2 0, 16, .inl (nmA sk (kdm mm) g 0 n nf))), (so, .inl (G.2 0, 16, .inl (soA sk (kdm mm) g 0 n sf)))] (vA [(M, .inr (4, [.int (nI rf), .ref mt, .int (nI sz), .ref mn, .ref mtr, .ref md, .int (nI ac), .ref mk, .ref mik, .ref na, .ref so])), (mn, .inl (G.2 0, 131, .inl (mr n (nI g) sk mm))), (na, .inl (G.2 0, 16, .inl nf)), (so, .inl (G.2 0, 16, .inl sf))])) 0 0 (vA [(M, .inr (4, [.int (nI rf), .ref mt, .int (nI sz), .ref mn, .ref mtr, .ref md, .int (nI ac), .ref mk, .ref mik, .ref na, .ref so])), (mn, .inl (G.2 0, 131, .inl (mr n (nI g) sk mm))), (na, .inl (G.2 0, 16, .inl nf)), (so, .inl (G.2 0, 16, .inl sf))]) := by
  refine Met.go (cc := cX7_level) (maxL := 3) (ret := (some .int)) (by decide) rfl (Nat.le_of_ble_eq_true rfl) ?_
  intro p e s m below meth c ls hx hb hr hml hown hts hlk hP hK hD hS hl
  have hown : s.vm.findClass RX7 = some m.cls := hown
  have hl : lv_has ls 3 [(0, .ref M), (1, .int (nI lv)), (2, .int (nI 4))] := hl
  refine lv_aload_n hx hb dX7_level_0 rfl (lv_at hl 0 rfl) ?_
  refine lv_aload_n hx hb dX7_level_1 rfl (lv_at hl 0 rfl) ?_
  refine va_get (D := G.1) (ci := 4) (v := .ref mn) (C := RX7) (T := TX7) (N := 11) hx hb hts in_c_X7_level_4_X7 hown hK.1 hP 0 rfl rfl 3 (by decide) (hts (.fieldLink RX7 13 "FloorPanelsModel" "now" "[I") (by decide +kernel)) (fun _ h9 => h9) rfl dX7_level_2 ?_
  refine lv_iload_n hx hb dX7_level_5 rfl (lv_at hl 1 rfl) ?_
  refine cRS (As := [.ref mn, .int (nI lv)]) (rest := [.ref M]) (v := .int (zb (lv < n))) ⟨hx, hb, hml, hown, hts⟩ (c_X7_isLevel_n l G mn n g sk mm lv (by first | omega | assumption) (by first | omega | assumption) (by first | omega | assumption)) (va_cwS 2 hts gX7_level_X7_isLevel rfl rfl rfl (by decide +kernel) ⟨Nat.le_of_ble_eq_true rfl, Nat.le_of_ble_eq_true rfl⟩) (preS_of hK hP hD [1] (by decide) rfl) rfl hl.1 rfl (lv_room (Nat.le_of_ble_eq_true rfl)) dX7_level_6 ⟨Nat.zero_le _, Nat.zero_le _⟩ ?_
  refine bb_ne (tgt := 16) hx hb dX7_level_9 (by decide) (fun c_9 => ?_) (fun c_9 => False.elim (by omega))
  refine lv_iload_n hx hb dX7_level_16 rfl (lv_at hl 2 rfl) ?_
  refine lv_i2l (v := (nI 4).toInt64) hx hb dX7_level_17 rfl ?_
  refine lv_lconst (v := 0) hx hb dX7_level_18 rfl ?_
  refine lv_ldc2 (own := RX7) (v := 4) hx hb hown (hts (.constantLong RX7 151 (4)) (by decide +kernel)) dX7_level_19 ?_
  refine cRS (As := [.long ((nI 4).toInt64), .long (0 : Int64), .long (4 : Int64)]) (rest := [.ref M]) (v := .int (zb ((0 : Int64).toInt ≤ ((nI 4).toInt64).toInt ∧ ((nI 4).toInt64).toInt ≤ (4 : Int64).toInt))) ⟨hx, hb, hml, hown, hts⟩ (c_X7_in l G ((nI 4).toInt64) (0 : Int64) (4 : Int64) ) (va_cwS 3 hts gX7_level_X7_in rfl rfl rfl (by decide +kernel) ⟨Nat.le_of_ble_eq_true rfl, Nat.le_of_ble_eq_true rfl⟩) (preS_of hK hP hD [] (by decide) rfl) rfl hl.1 rfl (lv_room (Nat.le_of_ble_eq_true rfl)) dX7_level_22 ⟨Nat.zero_le _, Nat.zero_le _⟩ ?_
  refine bb_eq (tgt := 32) hx hb dX7_level_25 (by decide) (fun c_25 => False.elim (by (rw [i2l_toInt, nI_i (by omega), show (0 : Int64).toInt = 0 from rfl, show (4 : Int64).toInt = 4 from rfl] at c_25; omega))) (fun c_25 => ?_)
  refine lv_iconst (v := nI 0) hx hb dX7_level_28 (by decide) ?_
  refine lv_goto (tgt := 33) hx hb dX7_level_29 (by decide) ?_
  refine cWV (As := [.int (nI 0)]) (rest := []) (st1 := [.int (zb (0 < 0))]) (w3 := [(M, .inr (4, [.int (nI 0), .ref mt, .int (nI sz), .ref mn, .ref mtr, .ref md, .int (nI ac), .ref mk, .ref mik, .ref na, .ref so])), (mn, .inl (G.2 0, 131, .inl (mr n (nI g) sk mm))), (na, .inl (G.2 0, 16, .inl nf)), (so, .inl (G.2 0, 16, .inl sf))]) ⟨hx, hb, hml, hown, hts⟩ (c_X7_refused l G M rf mt sz mn mtr md ac mk mik na so 0 (by first | omega | assumption)) (cwV 1 hts gX7_level_X7_refused rfl rfl rfl (by decide +kernel) ⟨Nat.le_of_ble_eq_true rfl, Nat.le_of_ble_eq_true rfl⟩) (preV_of hK hP hD [0] (by decide) rfl (ci := 4) (q0 := 0) rfl rfl rfl) rfl hl.1 rfl (lv_room (Nat.le_of_ble_eq_true rfl)) dX7_level_33 ⟨Nat.zero_le _, Nat.zero_le _⟩ hP hD hS [0] (by decide) rfl rfl (rfl) rfl (fun H locs hP hD hS => ?_)
  refine bb_eq (tgt := 41) hx hb dX7_level_36 (by decide) (fun c_36 => ?_) (fun c_36 => False.elim (by omega))
  refine lv_aload_n hx hb dX7_level_41 rfl (lv_at hl 0 rfl) ?_
  refine lv_aload_n hx hb dX7_level_42 rfl (lv_at hl 0 rfl) ?_
  refine va_get (D := G.1) (ci := 4) (v := .ref mn) (C := RX7) (T := TX7) (N := 11) hx hb hts in_c_X7_level_4_X7 hown hK.1 hP 0 rfl rfl 3 (by decide) (hts (.fieldLink RX7 13 "FloorPanelsModel" "now" "[I") (by decide +kernel)) (fun _ h9 => h9) rfl dX7_level_43 ?_
  refine cWV (As := [.ref mn]) (rest := []) (st1 := []) (w3 := [(M, .inr (4, [.int (nI 0), .ref mt, .int (nI sz), .ref mn, .ref mtr, .ref md, .int (nI ac), .ref mk, .ref mik, .ref na, .ref so])), (mn, .inl (G.2 0, 131, .inl (mr n (nI g) sk mm))), (na, .inl (G.2 0, 16, .inl (nmA sk (kdm mm) g 0 n nf))), (so, .inl (G.2 0, 16, .inl (soA sk (kdm mm) g 0 n sf)))]) ⟨hx, hb, hml, hown, hts⟩ (c_X7_name l G M 0 mt sz mn mtr md ac mk mik na so mn n g sk mm nf sf (by first | omega | assumption) (by first | omega | assumption) (by first | omega | assumption)) (cwV 1 hts gX7_level_X7_name rfl rfl rfl (by decide +kernel) ⟨Nat.le_of_ble_eq_true rfl, Nat.le_of_ble_eq_true rfl⟩) (preV_of hK hP hD [0, 1, 2, 3] (by decide) rfl (ci := 4) (q0 := 0) rfl rfl rfl) rfl hl.1 rfl (lv_room (Nat.le_of_ble_eq_true rfl)) dX7_level_46 ⟨Nat.zero_le _, Nat.zero_le _⟩ hP hD hS [0, 1, 2, 3] (by decide) rfl rfl (rfl) rfl (fun H locs hP hD hS => ?_)
  refine lv_iload_n hx hb dX7_level_49 rfl (lv_at hl 2 rfl) ?_
  refine b0_ne (tgt := 64) hx hb dX7_level_50 (by decide) (nI_i (by omega)) (fun c_50 => ?_) (fun c_50 => False.elim (by omega))
  refine lv_iload_n hx hb dX7_level_64 rfl (lv_at hl 2 rfl) ?_
  refine lv_iconst (v := nI 1) hx hb dX7_level_65 (by decide) ?_
  refine bi_ne (tgt := 78) hx hb dX7_level_66 (by decide) (nI_i (by omega)) (nI_i (by omega)) (fun c_66 => ?_) (fun c_66 => False.elim (by omega))
  refine lv_iload_n hx hb dX7_level_78 rfl (lv_at hl 2 rfl) ?_
  refine lv_iconst (v := nI 2) hx hb dX7_level_79 (by decide) ?_
  refine bi_ne (tgt := 95) hx hb dX7_level_80 (by decide) (nI_i (by omega)) (nI_i (by omega)) (fun c_80 => ?_) (fun c_80 => False.elim (by omega))
  refine lv_iload_n hx hb dX7_level_95 rfl (lv_at hl 2 rfl) ?_
  refine lv_iconst (v := nI 3) hx hb dX7_level_96 (by decide) ?_
  refine bi_ne (tgt := 126) hx hb dX7_level_97 (by decide) (nI_i (by omega)) (nI_i (by omega)) (fun c_97 => ?_) (fun c_97 => False.elim (by omega))
  refine lv_aload_n hx hb dX7_level_126 rfl (lv_at hl 0 rfl) ?_
  refine lv_aload_n hx hb dX7_level_127 rfl (lv_at hl 0 rfl) ?_
  refine va_get (D := G.1) (ci := 4) (v := .ref mn) (C := RX7) (T := TX7) (N := 11) hx hb hts in_c_X7_level_4_X7 hown hK.1 hP 0 rfl rfl 3 (by decide) (hts (.fieldLink RX7 13 "FloorPanelsModel" "now" "[I") (by decide +kernel)) (fun _ h9 => h9) rfl dX7_level_128 ?_
  refine lv_aload_n hx hb dX7_level_131 rfl (lv_at hl 0 rfl) ?_
  refine va_get (D := G.1) (ci := 4) (v := .ref na) (C := RX7) (T := TX7) (N := 11) hx hb hts in_c_X7_level_4_X7 hown hK.1 hP 0 rfl rfl 9 (by decide) (hts (.fieldLink RX7 29 "FloorPanelsModel" "names" "[I") (by decide +kernel)) (fun _ h9 => h9) rfl dX7_level_132 ?_
  refine lv_iload_n hx hb dX7_level_135 rfl (lv_at hl 1 rfl) ?_
  refine nv_iald hx hb hK hP 2 rfl (by omega) (by decide) dX7_level_136 ?_
  rw [show (nmA sk (kdm mm) g 0 n nf) lv = (f (16 + lv)) from h_R.nf h_lv]
  refine cRV (As := [.ref mn, .int (f (16 + lv))]) (rest := []) (v := .int (nI (ct (fun x_ => ¬ (f (16 + lv)) = -1 ∧ (nmA sk (kdm mm) g 0 n nf) x_ = (f (16 + lv))) n))) ⟨hx, hb, hml, hown, hts⟩ (c_X7_alike l G M 0 mt sz mn mtr md ac mk mik na so mn n g sk mm (nmA sk (kdm mm) g 0 n nf) (f (16 + lv)) (by first | omega | assumption)) (cwV 2 hts gX7_level_X7_alike rfl rfl rfl (by decide +kernel) ⟨Nat.le_of_ble_eq_true rfl, Nat.le_of_ble_eq_true rfl⟩) (preV_of hK hP hD [0, 1, 2] (by decide) rfl (ci := 4) (q0 := 0) rfl rfl rfl) rfl hl.1 rfl (lv_room (Nat.le_of_ble_eq_true rfl)) dX7_level_137 ⟨Nat.zero_le _, Nat.zero_le _⟩ ?_
  rw [show (nI (ct (fun x_ => ¬ (f (16 + lv)) = -1 ∧ (nmA sk (kdm mm) g 0 n nf) x_ = (f (16 + lv))) n)) = nI (lk f n lv) from congrArg nI (lk_A h_R)]
  exact W_i hx hb hr hlk dX7_level_140 hP hS (rfl) (rfl)

theorem in_n_X7_level_l_X7 : ∀ w ∈ wsX70, w ∈ wsX7_level := by decide +kernel
set_option maxHeartbeats 4000000 in
set_option maxRecDepth 100000 in
theorem n_X7_level_l (l : Launch) (G : GG) (M : Nat) (rf : Nat) (mt : Nat) (sz : Nat) (mn : Nat) (mtr : Nat) (md : Nat) (ac : Nat) (mk : Nat) (mik : Nat) (na : Nat) (so : Nat) (n : Nat) (g : Nat) (sk : Int32) (mm : Nat → Int32) (z : Int32) (w : Int32) (h_n : n ≤ 16) (h_n1 : 1 ≤ n) (h_nol : ¬ (0 ≤ z.toInt ∧ z.toInt < (n : Int))) : Met l yX7_level wsX7_level ({ frames := 2, cells := 0, slots := 0, locals := 46 } : Room) (va_Pc [.ref M, .int z, .int w] (PB G [(M, .inr (4, [.int (nI rf), .ref mt, .int (nI sz), .ref mn, .ref mtr, .ref md, .int (nI ac), .ref mk, .ref mik, .ref na, .ref so])), (mn, .inl (G.2 0, 131, .inl (mr n (nI g) sk mm)))])) (QW G (some (.int (nI 0))) [(M, .inr (4, [.int (nI 1), .ref mt, .int (nI sz), .ref mn, .ref mtr, .ref md, .int (nI ac), .ref mk, .ref mik, .ref na, .ref so])), (mn, .inl (G.2 0, 131, .inl (mr n (nI g) sk mm)))] (vA [(M, .inr (4, [.int (nI rf), .ref mt, .int (nI sz), .ref mn, .ref mtr, .ref md, .int (nI ac), .ref mk, .ref mik, .ref na, .ref so])), (mn, .inl (G.2 0, 131, .inl (mr n (nI g) sk mm)))])) 0 0 (vA [(M, .inr (4, [.int (nI rf), .ref mt, .int (nI sz), .ref mn, .ref mtr, .ref md, .int (nI ac), .ref mk, .ref mik, .ref na, .ref so])), (mn, .inl (G.2 0, 131, .inl (mr n (nI g) sk mm)))]) := by
  refine Met.go (cc := cX7_level) (maxL := 3) (ret := (some .int)) (by decide) rfl (Nat.le_of_ble_eq_true rfl) ?_
  intro p e s m below meth c ls hx hb hr hml hown hts hlk hP hK hD hS hl
  have hown : s.vm.findClass RX7 = some m.cls := hown
  have hl : lv_has ls 3 [(0, .ref M), (1, .int z), (2, .int w)] := hl
  refine lv_aload_n hx hb dX7_level_0 rfl (lv_at hl 0 rfl) ?_
  refine lv_aload_n hx hb dX7_level_1 rfl (lv_at hl 0 rfl) ?_
  refine va_get (D := G.1) (ci := 4) (v := .ref mn) (C := RX7) (T := TX7) (N := 11) hx hb hts in_n_X7_level_l_X7 hown hK.1 hP 0 rfl rfl 3 (by decide) (hts (.fieldLink RX7 13 "FloorPanelsModel" "now" "[I") (by decide +kernel)) (fun _ h9 => h9) rfl dX7_level_2 ?_
  refine lv_iload_n hx hb dX7_level_5 rfl (lv_at hl 1 rfl) ?_
  refine cRS (As := [.ref mn, .int z]) (rest := [.ref M]) (v := .int (zb (0 ≤ z.toInt ∧ z.toInt < (n : Int)))) ⟨hx, hb, hml, hown, hts⟩ (c_X7_isLevel l G mn n g sk mm z (by first | omega | assumption) (by first | omega | assumption)) (va_cwS 2 hts gX7_level_X7_isLevel rfl rfl rfl (by decide +kernel) ⟨Nat.le_of_ble_eq_true rfl, Nat.le_of_ble_eq_true rfl⟩) (preS_of hK hP hD [1] (by decide) rfl) rfl hl.1 rfl (lv_room (Nat.le_of_ble_eq_true rfl)) dX7_level_6 ⟨Nat.zero_le _, Nat.zero_le _⟩ ?_
  refine bb_ne (tgt := 16) hx hb dX7_level_9 (by decide) (fun c_9 => False.elim (by omega)) (fun c_9 => ?_)
  refine lv_iconst (v := nI 1) hx hb dX7_level_12 (by decide) ?_
  refine lv_goto (tgt := 33) hx hb dX7_level_13 (by decide) ?_
  refine cWV (As := [.int (nI 1)]) (rest := []) (st1 := [.int (zb (0 < 1))]) (w3 := [(M, .inr (4, [.int (nI 1), .ref mt, .int (nI sz), .ref mn, .ref mtr, .ref md, .int (nI ac), .ref mk, .ref mik, .ref na, .ref so])), (mn, .inl (G.2 0, 131, .inl (mr n (nI g) sk mm)))]) ⟨hx, hb, hml, hown, hts⟩ (c_X7_refused l G M rf mt sz mn mtr md ac mk mik na so 1 (by first | omega | assumption)) (cwV 1 hts gX7_level_X7_refused rfl rfl rfl (by decide +kernel) ⟨Nat.le_of_ble_eq_true rfl, Nat.le_of_ble_eq_true rfl⟩) (preV_of hK hP hD [0] (by decide) rfl (ci := 4) (q0 := 0) rfl rfl rfl) rfl hl.1 rfl (lv_room (Nat.le_of_ble_eq_true rfl)) dX7_level_33 ⟨Nat.zero_le _, Nat.zero_le _⟩ hP hD hS [0] (by decide) rfl rfl (rfl) rfl (fun H locs hP hD hS => ?_)
  refine bb_eq (tgt := 41) hx hb dX7_level_36 (by decide) (fun c_36 => False.elim (by omega)) (fun c_36 => ?_)
  refine lv_iconst (v := nI 0) hx hb dX7_level_39 (by decide) ?_
  exact W_i hx hb hr hlk dX7_level_40 hP hS (rfl) (rfl)

theorem in_n_X7_level_w_X7 : ∀ w ∈ wsX70, w ∈ wsX7_level := by decide +kernel
set_option maxHeartbeats 4000000 in
set_option maxRecDepth 100000 in
theorem n_X7_level_w (l : Launch) (G : GG) (M : Nat) (rf : Nat) (mt : Nat) (sz : Nat) (mn : Nat) (mtr : Nat) (md : Nat) (ac : Nat) (mk : Nat) (mik : Nat) (na : Nat) (so : Nat) (n : Nat) (g : Nat) (sk : Int32) (mm : Nat → Int32) (lv : Nat) (w : Int32) (h_n : n ≤ 16) (h_n1 : 1 ≤ n) (h_lv : lv < n) (h_now : ¬ (0 ≤ w.toInt ∧ w.toInt ≤ 4)) : Met l yX7_level wsX7_level ({ frames := 2, cells := 0, slots := 0, locals := 46 } : Room) (va_Pc [.ref M, .int (nI lv), .int w] (PB G [(M, .inr (4, [.int (nI rf), .ref mt, .int (nI sz), .ref mn, .ref mtr, .ref md, .int (nI ac), .ref mk, .ref mik, .ref na, .ref so])), (mn, .inl (G.2 0, 131, .inl (mr n (nI g) sk mm)))])) (QW G (some (.int (nI 0))) [(M, .inr (4, [.int (nI 2), .ref mt, .int (nI sz), .ref mn, .ref mtr, .ref md, .int (nI ac), .ref mk, .ref mik, .ref na, .ref so])), (mn, .inl (G.2 0, 131, .inl (mr n (nI g) sk mm)))] (vA [(M, .inr (4, [.int (nI rf), .ref mt, .int (nI sz), .ref mn, .ref mtr, .ref md, .int (nI ac), .ref mk, .ref mik, .ref na, .ref so])), (mn, .inl (G.2 0, 131, .inl (mr n (nI g) sk mm)))])) 0 0 (vA [(M, .inr (4, [.int (nI rf), .ref mt, .int (nI sz), .ref mn, .ref mtr, .ref md, .int (nI ac), .ref mk, .ref mik, .ref na, .ref so])), (mn, .inl (G.2 0, 131, .inl (mr n (nI g) sk mm)))]) := by
  refine Met.go (cc := cX7_level) (maxL := 3) (ret := (some .int)) (by decide) rfl (Nat.le_of_ble_eq_true rfl) ?_
  intro p e s m below meth c ls hx hb hr hml hown hts hlk hP hK hD hS hl
  have hown : s.vm.findClass RX7 = some m.cls := hown
  have hl : lv_has ls 3 [(0, .ref M), (1, .int (nI lv)), (2, .int w)] := hl
  refine lv_aload_n hx hb dX7_level_0 rfl (lv_at hl 0 rfl) ?_
  refine lv_aload_n hx hb dX7_level_1 rfl (lv_at hl 0 rfl) ?_
  refine va_get (D := G.1) (ci := 4) (v := .ref mn) (C := RX7) (T := TX7) (N := 11) hx hb hts in_n_X7_level_w_X7 hown hK.1 hP 0 rfl rfl 3 (by decide) (hts (.fieldLink RX7 13 "FloorPanelsModel" "now" "[I") (by decide +kernel)) (fun _ h9 => h9) rfl dX7_level_2 ?_
  refine lv_iload_n hx hb dX7_level_5 rfl (lv_at hl 1 rfl) ?_
  refine cRS (As := [.ref mn, .int (nI lv)]) (rest := [.ref M]) (v := .int (zb (lv < n))) ⟨hx, hb, hml, hown, hts⟩ (c_X7_isLevel_n l G mn n g sk mm lv (by first | omega | assumption) (by first | omega | assumption) (by first | omega | assumption)) (va_cwS 2 hts gX7_level_X7_isLevel rfl rfl rfl (by decide +kernel) ⟨Nat.le_of_ble_eq_true rfl, Nat.le_of_ble_eq_true rfl⟩) (preS_of hK hP hD [1] (by decide) rfl) rfl hl.1 rfl (lv_room (Nat.le_of_ble_eq_true rfl)) dX7_level_6 ⟨Nat.zero_le _, Nat.zero_le _⟩ ?_
  refine bb_ne (tgt := 16) hx hb dX7_level_9 (by decide) (fun c_9 => ?_) (fun c_9 => False.elim (by omega))
  refine lv_iload_n hx hb dX7_level_16 rfl (lv_at hl 2 rfl) ?_
  refine lv_i2l (v := (w).toInt64) hx hb dX7_level_17 rfl ?_
  refine lv_lconst (v := 0) hx hb dX7_level_18 rfl ?_
  refine lv_ldc2 (own := RX7) (v := 4) hx hb hown (hts (.constantLong RX7 151 (4)) (by decide +kernel)) dX7_level_19 ?_
  refine cRS (As := [.long ((w).toInt64), .long (0 : Int64), .long (4 : Int64)]) (rest := [.ref M]) (v := .int (zb ((0 : Int64).toInt ≤ ((w).toInt64).toInt ∧ ((w).toInt64).toInt ≤ (4 : Int64).toInt))) ⟨hx, hb, hml, hown, hts⟩ (c_X7_in l G ((w).toInt64) (0 : Int64) (4 : Int64) ) (va_cwS 3 hts gX7_level_X7_in rfl rfl rfl (by decide +kernel) ⟨Nat.le_of_ble_eq_true rfl, Nat.le_of_ble_eq_true rfl⟩) (preS_of hK hP hD [] (by decide) rfl) rfl hl.1 rfl (lv_room (Nat.le_of_ble_eq_true rfl)) dX7_level_22 ⟨Nat.zero_le _, Nat.zero_le _⟩ ?_
  refine bb_eq (tgt := 32) hx hb dX7_level_25 (by decide) (fun c_25 => ?_) (fun c_25 => False.elim (by (rw [i2l_toInt, show (0 : Int64).toInt = 0 from rfl, show (4 : Int64).toInt = 4 from rfl] at c_25; omega)))
  refine lv_iconst (v := nI 2) hx hb dX7_level_32 (by decide) ?_
  refine cWV (As := [.int (nI 2)]) (rest := []) (st1 := [.int (zb (0 < 2))]) (w3 := [(M, .inr (4, [.int (nI 2), .ref mt, .int (nI sz), .ref mn, .ref mtr, .ref md, .int (nI ac), .ref mk, .ref mik, .ref na, .ref so])), (mn, .inl (G.2 0, 131, .inl (mr n (nI g) sk mm)))]) ⟨hx, hb, hml, hown, hts⟩ (c_X7_refused l G M rf mt sz mn mtr md ac mk mik na so 2 (by first | omega | assumption)) (cwV 1 hts gX7_level_X7_refused rfl rfl rfl (by decide +kernel) ⟨Nat.le_of_ble_eq_true rfl, Nat.le_of_ble_eq_true rfl⟩) (preV_of hK hP hD [0] (by decide) rfl (ci := 4) (q0 := 0) rfl rfl rfl) rfl hl.1 rfl (lv_room (Nat.le_of_ble_eq_true rfl)) dX7_level_33 ⟨Nat.zero_le _, Nat.zero_le _⟩ hP hD hS [0] (by decide) rfl rfl (rfl) rfl (fun H locs hP hD hS => ?_)
  refine bb_eq (tgt := 41) hx hb dX7_level_36 (by decide) (fun c_36 => False.elim (by omega)) (fun c_36 => ?_)
  refine lv_iconst (v := nI 0) hx hb dX7_level_39 (by decide) ?_
  exact W_i hx hb hr hlk dX7_level_40 hP hS (rfl) (rfl)

theorem in_c_X7_button_0_X7 : ∀ w ∈ wsX70, w ∈ wsX7_button := by decide +kernel
set_option maxHeartbeats 4000000 in
set_option maxRecDepth 100000 in
theorem c_X7_button_0 (l : Launch) (G : GG) (M : Nat) (rf : Nat) (mt : Nat) (sz : Nat) (mn : Nat) (mtr : Nat) (md : Nat) (ac : Nat) (mk : Nat) (mik : Nat) (na : Nat) (so : Nat) (n : Nat) (g : Nat) (sk : Int32) (mm : Nat → Int32) (nf : Nat → Int32) (sf : Nat → Int32) (f : Nat → Int32) (ca : Nat) (lv : Nat) (h_n : n ≤ 16) (h_n1 : 1 ≤ n) (h_g : g < n) (h_k : mm (3 + g) = 0) (h_R : MRel n sk g f mm) (h_ca : ca < 3) (h_lv : lv < n) : Met l yX7_button wsX7_button ({ frames := 3, cells := 0, slots := 0, locals := 74 } : Room) (va_Pc [.ref M, .int (nI ca), .int (nI lv), .int (nI 0)] (PB G [(M, .inr (4, [.int (nI rf), .ref mt, .int (nI sz), .ref mn, .ref mtr, .ref md, .int (nI ac), .ref mk, .ref mik, .ref na, .ref so])), (mn, .inl (G.2 0, 131, .inl (mr n (nI g) sk mm))), (na, .inl (G.2 0, 16, .inl nf)), (so, .inl (G.2 0, 16, .inl sf))])) (QW G (some (.int (f ((3 + ca) * 16 + lv)))) [(M, .inr (4, [.int (nI 0), .ref mt, .int (nI sz), .ref mn, .ref mtr, .ref md, .int (nI ac), .ref mk, .ref mik, .ref na, .ref so])), (mn, .inl (G.2 0, 131, .inl (mr n (nI g) sk mm))), (na, .inl (G.2 0, 16, .inl (nmA sk (kdm mm) g 0 n nf))), (so, .inl (G.2 0, 16, .inl (soA sk (kdm mm) g 0 n sf)))] (vA [(M, .inr (4, [.int (nI rf), .ref mt, .int (nI sz), .ref mn, .ref mtr, .ref md, .int (nI ac), .ref mk, .ref mik, .ref na, .ref so])), (mn, .inl (G.2 0, 131, .inl (mr n (nI g) sk mm))), (na, .inl (G.2 0, 16, .inl nf)), (so, .inl (G.2 0, 16, .inl sf))])) 0 0 (vA [(M, .inr (4, [.int (nI rf), .ref mt, .int (nI sz), .ref mn, .ref mtr, .ref md, .int (nI ac), .ref mk, .ref mik, .ref na, .ref so])), (mn, .inl (G.2 0, 131, .inl (mr n (nI g) sk mm))), (na, .inl (G.2 0, 16, .inl nf)), (so, .inl (G.2 0, 16, .inl sf))]) := by
  refine Met.go (cc := cX7_button) (maxL := 4) (ret := (some .int)) (by decide) rfl (Nat.le_of_ble_eq_true rfl) ?_
  intro p e s m below meth c ls hx hb hr hml hown hts hlk hP hK hD hS hl
  have hown : s.vm.findClass RX7 = some m.cls := hown
  have hl : lv_has ls 4 [(0, .ref M), (1, .int (nI ca)), (2, .int (nI lv)), (3, .int (nI 0))] := hl
  refine lv_aload_n hx hb dX7_button_0 rfl (lv_at hl 0 rfl) ?_
  refine lv_iload_n hx hb dX7_button_1 rfl (lv_at hl 1 rfl) ?_
  refine cRS (As := [.int (nI ca)]) (rest := [.ref M]) (v := .int (zb (ca < 3))) ⟨hx, hb, hml, hown, hts⟩ (c_X7_isCar_n l G ca (by first | omega | assumption)) (va_cwS 1 hts gX7_button_X7_isCar rfl rfl rfl (by decide +kernel) ⟨Nat.le_of_ble_eq_true rfl, Nat.le_of_ble_eq_true rfl⟩) (preS_of hK hP hD [] (by decide) rfl) rfl hl.1 rfl (lv_room (Nat.le_of_ble_eq_true rfl)) dX7_button_2 ⟨Nat.zero_le _, Nat.zero_le _⟩ ?_
  refine bb_eq (tgt := 19) hx hb dX7_button_5 (by decide) (fun c_5 => False.elim (by omega)) (fun c_5 => ?_)
  refine lv_aload_n hx hb dX7_button_8 rfl (lv_at hl 0 rfl) ?_
  refine va_get (D := G.1) (ci := 4) (v := .ref mn) (C := RX7) (T := TX7) (N := 11) hx hb hts in_c_X7_button_0_X7 hown hK.1 hP 0 rfl rfl 3 (by decide) (hts (.fieldLink RX7 13 "FloorPanelsModel" "now" "[I") (by decide +kernel)) (fun _ h9 => h9) rfl dX7_button_9 ?_
  refine lv_iload_n hx hb dX7_button_12 rfl (lv_at hl 2 rfl) ?_
  refine cRS (As := [.ref mn, .int (nI lv)]) (rest := [.ref M]) (v := .int (zb (lv < n))) ⟨hx, hb, hml, hown, hts⟩ (c_X7_isLevel_n l G mn n g sk mm lv (by first | omega | assumption) (by first | omega | assumption) (by first | omega | assumption)) (va_cwS 2 hts gX7_button_X7_isLevel rfl rfl rfl (by decide +kernel) ⟨Nat.le_of_ble_eq_true rfl, Nat.le_of_ble_eq_true rfl⟩) (preS_of hK hP hD [1] (by decide) rfl) rfl hl.1 rfl (lv_room (Nat.le_of_ble_eq_true rfl)) dX7_button_13 ⟨Nat.zero_le _, Nat.zero_le _⟩ ?_
  refine bb_ne (tgt := 23) hx hb dX7_button_16 (by decide) (fun c_16 => ?_) (fun c_16 => False.elim (by omega))
  refine lv_iload_n hx hb dX7_button_23 rfl (lv_at hl 3 rfl) ?_
  refine lv_i2l (v := (nI 0).toInt64) hx hb dX7_button_24 rfl ?_
  refine lv_lconst (v := 0) hx hb dX7_button_25 rfl ?_
  refine lv_ldc2 (own := RX7) (v := 2) hx hb hown (hts (.constantLong RX7 51 (2)) (by decide +kernel)) dX7_button_26 ?_
  refine cRS (As := [.long ((nI 0).toInt64), .long (0 : Int64), .long (2 : Int64)]) (rest := [.ref M]) (v := .int (zb ((0 : Int64).toInt ≤ ((nI 0).toInt64).toInt ∧ ((nI 0).toInt64).toInt ≤ (2 : Int64).toInt))) ⟨hx, hb, hml, hown, hts⟩ (c_X7_in l G ((nI 0).toInt64) (0 : Int64) (2 : Int64) ) (va_cwS 3 hts gX7_button_X7_in rfl rfl rfl (by decide +kernel) ⟨Nat.le_of_ble_eq_true rfl, Nat.le_of_ble_eq_true rfl⟩) (preS_of hK hP hD [] (by decide) rfl) rfl hl.1 rfl (lv_room (Nat.le_of_ble_eq_true rfl)) dX7_button_29 ⟨Nat.zero_le _, Nat.zero_le _⟩ ?_
  refine bb_eq (tgt := 39) hx hb dX7_button_32 (by decide) (fun c_32 => False.elim (by (rw [i2l_toInt, nI_i (by omega), show (0 : Int64).toInt = 0 from rfl, show (2 : Int64).toInt = 2 from rfl] at c_32; omega))) (fun c_32 => ?_)
  refine lv_iconst (v := nI 0) hx hb dX7_button_35 (by decide) ?_
  refine lv_goto (tgt := 40) hx hb dX7_button_36 (by decide) ?_
  refine cWV (As := [.int (nI 0)]) (rest := []) (st1 := [.int (zb (0 < 0))]) (w3 := [(M, .inr (4, [.int (nI 0), .ref mt, .int (nI sz), .ref mn, .ref mtr, .ref md, .int (nI ac), .ref mk, .ref mik, .ref na, .ref so])), (mn, .inl (G.2 0, 131, .inl (mr n (nI g) sk mm))), (na, .inl (G.2 0, 16, .inl nf)), (so, .inl (G.2 0, 16, .inl sf))]) ⟨hx, hb, hml, hown, hts⟩ (c_X7_refused l G M rf mt sz mn mtr md ac mk mik na so 0 (by first | omega | assumption)) (cwV 1 hts gX7_button_X7_refused rfl rfl rfl (by decide +kernel) ⟨Nat.le_of_ble_eq_true rfl, Nat.le_of_ble_eq_true rfl⟩) (preV_of hK hP hD [0] (by decide) rfl (ci := 4) (q0 := 0) rfl rfl rfl) rfl hl.1 rfl (lv_room (Nat.le_of_ble_eq_true rfl)) dX7_button_40 ⟨Nat.zero_le _, Nat.zero_le _⟩ hP hD hS [0] (by decide) rfl rfl (rfl) rfl (fun H locs hP hD hS => ?_)
  refine bb_eq (tgt := 48) hx hb dX7_button_43 (by decide) (fun c_43 => ?_) (fun c_43 => False.elim (by omega))
  refine lv_aload_n hx hb dX7_button_48 rfl (lv_at hl 0 rfl) ?_
  refine lv_aload_n hx hb dX7_button_49 rfl (lv_at hl 0 rfl) ?_
  refine va_get (D := G.1) (ci := 4) (v := .ref mn) (C := RX7) (T := TX7) (N := 11) hx hb hts in_c_X7_button_0_X7 hown hK.1 hP 0 rfl rfl 3 (by decide) (hts (.fieldLink RX7 13 "FloorPanelsModel" "now" "[I") (by decide +kernel)) (fun _ h9 => h9) rfl dX7_button_50 ?_
  refine cWV (As := [.ref mn]) (rest := []) (st1 := []) (w3 := [(M, .inr (4, [.int (nI 0), .ref mt, .int (nI sz), .ref mn, .ref mtr, .ref md, .int (nI ac), .ref mk, .ref mik, .ref na, .ref so])), (mn, .inl (G.2 0, 131, .inl (mr n (nI g) sk mm))), (na, .inl (G.2 0, 16, .inl (nmA sk (kdm mm) g 0 n nf))), (so, .inl (G.2 0, 16, .inl (soA sk (kdm mm) g 0 n sf)))]) ⟨hx, hb, hml, hown, hts⟩ (c_X7_name l G M 0 mt sz mn mtr md ac mk mik na so mn n g sk mm nf sf (by first | omega | assumption) (by first | omega | assumption) (by first | omega | assumption)) (cwV 1 hts gX7_button_X7_name rfl rfl rfl (by decide +kernel) ⟨Nat.le_of_ble_eq_true rfl, Nat.le_of_ble_eq_true rfl⟩) (preV_of hK hP hD [0, 1, 2, 3] (by decide) rfl (ci := 4) (q0 := 0) rfl rfl rfl) rfl hl.1 rfl (lv_room (Nat.le_of_ble_eq_true rfl)) dX7_button_53 ⟨Nat.zero_le _, Nat.zero_le _⟩ hP hD hS [0, 1, 2, 3] (by decide) rfl rfl (rfl) rfl (fun H locs hP hD hS => ?_)
  refine lv_iload_n hx hb dX7_button_56 rfl (lv_at hl 3 rfl) ?_
  refine b0_ne (tgt := 72) hx hb dX7_button_57 (by decide) (nI_i (by omega)) (fun c_57 => False.elim (by omega)) (fun c_57 => ?_)
  refine lv_aload_n hx hb dX7_button_60 rfl (lv_at hl 0 rfl) ?_
  refine va_get (D := G.1) (ci := 4) (v := .ref mn) (C := RX7) (T := TX7) (N := 11) hx hb hts in_c_X7_button_0_X7 hown hK.1 hP 0 rfl rfl 3 (by decide) (hts (.fieldLink RX7 13 "FloorPanelsModel" "now" "[I") (by decide +kernel)) (fun _ h9 => h9) rfl dX7_button_61 ?_
  refine lv_iload_n hx hb dX7_button_64 rfl (lv_at hl 1 rfl) ?_
  refine lv_iload_n hx hb dX7_button_65 rfl (lv_at hl 2 rfl) ?_
  refine cRS (As := [.ref mn, .int (nI ca), .int (nI lv)]) (rest := []) (v := .int (mm (35 + 16 * ca + lv))) ⟨hx, hb, hml, hown, hts⟩ (c_X7_says l G mn n g sk mm ca lv (by first | omega | assumption) (by first | omega | assumption)) (va_cwS 3 hts gX7_button_X7_says rfl rfl rfl (by decide +kernel) ⟨Nat.le_of_ble_eq_true rfl, Nat.le_of_ble_eq_true rfl⟩) (preS_of hK hP hD [1] (by decide) rfl) rfl hl.1 rfl (lv_room (Nat.le_of_ble_eq_true rfl)) dX7_button_66 ⟨Nat.zero_le _, Nat.zero_le _⟩ ?_
  rw [show ((mm (35 + 16 * ca + lv))) = (f ((3 + ca) * 16 + lv)) from h_R.2.2.2.1 _ h_ca _ h_lv]
  refine lv_goto (tgt := 120) hx hb dX7_button_69 (by decide) ?_
  exact W_i hx hb hr hlk dX7_button_120 hP hS (rfl) (rfl)

theorem in_c_X7_button_1_X7 : ∀ w ∈ wsX70, w ∈ wsX7_button := by decide +kernel
set_option maxHeartbeats 4000000 in
set_option maxRecDepth 100000 in
theorem c_X7_button_1 (l : Launch) (G : GG) (M : Nat) (rf : Nat) (mt : Nat) (sz : Nat) (mn : Nat) (mtr : Nat) (md : Nat) (ac : Nat) (mk : Nat) (mik : Nat) (na : Nat) (so : Nat) (n : Nat) (g : Nat) (sk : Int32) (mm : Nat → Int32) (nf : Nat → Int32) (sf : Nat → Int32) (f : Nat → Int32) (ca : Nat) (lv : Nat) (h_n : n ≤ 16) (h_n1 : 1 ≤ n) (h_g : g < n) (h_k : mm (3 + g) = 0) (h_R : MRel n sk g f mm) (h_ca : ca < 3) (h_lv : lv < n) : Met l yX7_button wsX7_button ({ frames := 3, cells := 0, slots := 0, locals := 74 } : Room) (va_Pc [.ref M, .int (nI ca), .int (nI lv), .int (nI 1)] (PB G [(M, .inr (4, [.int (nI rf), .ref mt, .int (nI sz), .ref mn, .ref mtr, .ref md, .int (nI ac), .ref mk, .ref mik, .ref na, .ref so])), (mn, .inl (G.2 0, 131, .inl (mr n (nI g) sk mm))), (na, .inl (G.2 0, 16, .inl nf)), (so, .inl (G.2 0, 16, .inl sf))])) (QW G (some (.int (zb (f ((3 + ca) * 16 + lv) = f (16 + lv))))) [(M, .inr (4, [.int (nI 0), .ref mt, .int (nI sz), .ref mn, .ref mtr, .ref md, .int (nI ac), .ref mk, .ref mik, .ref na, .ref so])), (mn, .inl (G.2 0, 131, .inl (mr n (nI g) sk mm))), (na, .inl (G.2 0, 16, .inl (nmA sk (kdm mm) g 0 n nf))), (so, .inl (G.2 0, 16, .inl (soA sk (kdm mm) g 0 n sf)))] (vA [(M, .inr (4, [.int (nI rf), .ref mt, .int (nI sz), .ref mn, .ref mtr, .ref md, .int (nI ac), .ref mk, .ref mik, .ref na, .ref so])), (mn, .inl (G.2 0, 131, .inl (mr n (nI g) sk mm))), (na, .inl (G.2 0, 16, .inl nf)), (so, .inl (G.2 0, 16, .inl sf))])) 0 0 (vA [(M, .inr (4, [.int (nI rf), .ref mt, .int (nI sz), .ref mn, .ref mtr, .ref md, .int (nI ac), .ref mk, .ref mik, .ref na, .ref so])), (mn, .inl (G.2 0, 131, .inl (mr n (nI g) sk mm))), (na, .inl (G.2 0, 16, .inl nf)), (so, .inl (G.2 0, 16, .inl sf))]) := by
  refine Met.go (cc := cX7_button) (maxL := 4) (ret := (some .int)) (by decide) rfl (Nat.le_of_ble_eq_true rfl) ?_
  intro p e s m below meth c ls hx hb hr hml hown hts hlk hP hK hD hS hl
  have hown : s.vm.findClass RX7 = some m.cls := hown
  have hl : lv_has ls 4 [(0, .ref M), (1, .int (nI ca)), (2, .int (nI lv)), (3, .int (nI 1))] := hl
  refine lv_aload_n hx hb dX7_button_0 rfl (lv_at hl 0 rfl) ?_
  refine lv_iload_n hx hb dX7_button_1 rfl (lv_at hl 1 rfl) ?_
  refine cRS (As := [.int (nI ca)]) (rest := [.ref M]) (v := .int (zb (ca < 3))) ⟨hx, hb, hml, hown, hts⟩ (c_X7_isCar_n l G ca (by first | omega | assumption)) (va_cwS 1 hts gX7_button_X7_isCar rfl rfl rfl (by decide +kernel) ⟨Nat.le_of_ble_eq_true rfl, Nat.le_of_ble_eq_true rfl⟩) (preS_of hK hP hD [] (by decide) rfl) rfl hl.1 rfl (lv_room (Nat.le_of_ble_eq_true rfl)) dX7_button_2 ⟨Nat.zero_le _, Nat.zero_le _⟩ ?_
  refine bb_eq (tgt := 19) hx hb dX7_button_5 (by decide) (fun c_5 => False.elim (by omega)) (fun c_5 => ?_)
  refine lv_aload_n hx hb dX7_button_8 rfl (lv_at hl 0 rfl) ?_
  refine va_get (D := G.1) (ci := 4) (v := .ref mn) (C := RX7) (T := TX7) (N := 11) hx hb hts in_c_X7_button_1_X7 hown hK.1 hP 0 rfl rfl 3 (by decide) (hts (.fieldLink RX7 13 "FloorPanelsModel" "now" "[I") (by decide +kernel)) (fun _ h9 => h9) rfl dX7_button_9 ?_
  refine lv_iload_n hx hb dX7_button_12 rfl (lv_at hl 2 rfl) ?_
  refine cRS (As := [.ref mn, .int (nI lv)]) (rest := [.ref M]) (v := .int (zb (lv < n))) ⟨hx, hb, hml, hown, hts⟩ (c_X7_isLevel_n l G mn n g sk mm lv (by first | omega | assumption) (by first | omega | assumption) (by first | omega | assumption)) (va_cwS 2 hts gX7_button_X7_isLevel rfl rfl rfl (by decide +kernel) ⟨Nat.le_of_ble_eq_true rfl, Nat.le_of_ble_eq_true rfl⟩) (preS_of hK hP hD [1] (by decide) rfl) rfl hl.1 rfl (lv_room (Nat.le_of_ble_eq_true rfl)) dX7_button_13 ⟨Nat.zero_le _, Nat.zero_le _⟩ ?_
  refine bb_ne (tgt := 23) hx hb dX7_button_16 (by decide) (fun c_16 => ?_) (fun c_16 => False.elim (by omega))
  refine lv_iload_n hx hb dX7_button_23 rfl (lv_at hl 3 rfl) ?_
  refine lv_i2l (v := (nI 1).toInt64) hx hb dX7_button_24 rfl ?_
  refine lv_lconst (v := 0) hx hb dX7_button_25 rfl ?_
  refine lv_ldc2 (own := RX7) (v := 2) hx hb hown (hts (.constantLong RX7 51 (2)) (by decide +kernel)) dX7_button_26 ?_
  refine cRS (As := [.long ((nI 1).toInt64), .long (0 : Int64), .long (2 : Int64)]) (rest := [.ref M]) (v := .int (zb ((0 : Int64).toInt ≤ ((nI 1).toInt64).toInt ∧ ((nI 1).toInt64).toInt ≤ (2 : Int64).toInt))) ⟨hx, hb, hml, hown, hts⟩ (c_X7_in l G ((nI 1).toInt64) (0 : Int64) (2 : Int64) ) (va_cwS 3 hts gX7_button_X7_in rfl rfl rfl (by decide +kernel) ⟨Nat.le_of_ble_eq_true rfl, Nat.le_of_ble_eq_true rfl⟩) (preS_of hK hP hD [] (by decide) rfl) rfl hl.1 rfl (lv_room (Nat.le_of_ble_eq_true rfl)) dX7_button_29 ⟨Nat.zero_le _, Nat.zero_le _⟩ ?_
  refine bb_eq (tgt := 39) hx hb dX7_button_32 (by decide) (fun c_32 => False.elim (by (rw [i2l_toInt, nI_i (by omega), show (0 : Int64).toInt = 0 from rfl, show (2 : Int64).toInt = 2 from rfl] at c_32; omega))) (fun c_32 => ?_)
  refine lv_iconst (v := nI 0) hx hb dX7_button_35 (by decide) ?_
  refine lv_goto (tgt := 40) hx hb dX7_button_36 (by decide) ?_
  refine cWV (As := [.int (nI 0)]) (rest := []) (st1 := [.int (zb (0 < 0))]) (w3 := [(M, .inr (4, [.int (nI 0), .ref mt, .int (nI sz), .ref mn, .ref mtr, .ref md, .int (nI ac), .ref mk, .ref mik, .ref na, .ref so])), (mn, .inl (G.2 0, 131, .inl (mr n (nI g) sk mm))), (na, .inl (G.2 0, 16, .inl nf)), (so, .inl (G.2 0, 16, .inl sf))]) ⟨hx, hb, hml, hown, hts⟩ (c_X7_refused l G M rf mt sz mn mtr md ac mk mik na so 0 (by first | omega | assumption)) (cwV 1 hts gX7_button_X7_refused rfl rfl rfl (by decide +kernel) ⟨Nat.le_of_ble_eq_true rfl, Nat.le_of_ble_eq_true rfl⟩) (preV_of hK hP hD [0] (by decide) rfl (ci := 4) (q0 := 0) rfl rfl rfl) rfl hl.1 rfl (lv_room (Nat.le_of_ble_eq_true rfl)) dX7_button_40 ⟨Nat.zero_le _, Nat.zero_le _⟩ hP hD hS [0] (by decide) rfl rfl (rfl) rfl (fun H locs hP hD hS => ?_)
  refine bb_eq (tgt := 48) hx hb dX7_button_43 (by decide) (fun c_43 => ?_) (fun c_43 => False.elim (by omega))
  refine lv_aload_n hx hb dX7_button_48 rfl (lv_at hl 0 rfl) ?_
  refine lv_aload_n hx hb dX7_button_49 rfl (lv_at hl 0 rfl) ?_
  refine va_get (D := G.1) (ci := 4) (v := .ref mn) (C := RX7) (T := TX7) (N := 11) hx hb hts in_c_X7_button_1_X7 hown hK.1 hP 0 rfl rfl 3 (by decide) (hts (.fieldLink RX7 13 "FloorPanelsModel" "now" "[I") (by decide +kernel)) (fun _ h9 => h9) rfl dX7_button_50 ?_
  refine cWV (As := [.ref mn]) (rest := []) (st1 := []) (w3 := [(M, .inr (4, [.int (nI 0), .ref mt, .int (nI sz), .ref mn, .ref mtr, .ref md, .int (nI ac), .ref mk, .ref mik, .ref na, .ref so])), (mn, .inl (G.2 0, 131, .inl (mr n (nI g) sk mm))), (na, .inl (G.2 0, 16, .inl (nmA sk (kdm mm) g 0 n nf))), (so, .inl (G.2 0, 16, .inl (soA sk (kdm mm) g 0 n sf)))]) ⟨hx, hb, hml, hown, hts⟩ (c_X7_name l G M 0 mt sz mn mtr md ac mk mik na so mn n g sk mm nf sf (by first | omega | assumption) (by first | omega | assumption) (by first | omega | assumption)) (cwV 1 hts gX7_button_X7_name rfl rfl rfl (by decide +kernel) ⟨Nat.le_of_ble_eq_true rfl, Nat.le_of_ble_eq_true rfl⟩) (preV_of hK hP hD [0, 1, 2, 3] (by decide) rfl (ci := 4) (q0 := 0) rfl rfl rfl) rfl hl.1 rfl (lv_room (Nat.le_of_ble_eq_true rfl)) dX7_button_53 ⟨Nat.zero_le _, Nat.zero_le _⟩ hP hD hS [0, 1, 2, 3] (by decide) rfl rfl (rfl) rfl (fun H locs hP hD hS => ?_)
  refine lv_iload_n hx hb dX7_button_56 rfl (lv_at hl 3 rfl) ?_
  refine b0_ne (tgt := 72) hx hb dX7_button_57 (by decide) (nI_i (by omega)) (fun c_57 => ?_) (fun c_57 => False.elim (by omega))
  refine lv_iload_n hx hb dX7_button_72 rfl (lv_at hl 3 rfl) ?_
  refine lv_iconst (v := nI 1) hx hb dX7_button_73 (by decide) ?_
  refine bi_ne (tgt := 103) hx hb dX7_button_74 (by decide) (nI_i (by omega)) (nI_i (by omega)) (fun c_74 => False.elim (by omega)) (fun c_74 => ?_)
  refine lv_aload_n hx hb dX7_button_77 rfl (lv_at hl 0 rfl) ?_
  refine va_get (D := G.1) (ci := 4) (v := .ref mn) (C := RX7) (T := TX7) (N := 11) hx hb hts in_c_X7_button_1_X7 hown hK.1 hP 0 rfl rfl 3 (by decide) (hts (.fieldLink RX7 13 "FloorPanelsModel" "now" "[I") (by decide +kernel)) (fun _ h9 => h9) rfl dX7_button_78 ?_
  refine lv_iload_n hx hb dX7_button_81 rfl (lv_at hl 1 rfl) ?_
  refine lv_iload_n hx hb dX7_button_82 rfl (lv_at hl 2 rfl) ?_
  refine cRS (As := [.ref mn, .int (nI ca), .int (nI lv)]) (rest := []) (v := .int (mm (35 + 16 * ca + lv))) ⟨hx, hb, hml, hown, hts⟩ (c_X7_says l G mn n g sk mm ca lv (by first | omega | assumption) (by first | omega | assumption)) (va_cwS 3 hts gX7_button_X7_says rfl rfl rfl (by decide +kernel) ⟨Nat.le_of_ble_eq_true rfl, Nat.le_of_ble_eq_true rfl⟩) (preS_of hK hP hD [1] (by decide) rfl) rfl hl.1 rfl (lv_room (Nat.le_of_ble_eq_true rfl)) dX7_button_83 ⟨Nat.zero_le _, Nat.zero_le _⟩ ?_
  rw [show ((mm (35 + 16 * ca + lv))) = (f ((3 + ca) * 16 + lv)) from h_R.2.2.2.1 _ h_ca _ h_lv]
  refine lv_aload_n hx hb dX7_button_86 rfl (lv_at hl 0 rfl) ?_
  refine va_get (D := G.1) (ci := 4) (v := .ref na) (C := RX7) (T := TX7) (N := 11) hx hb hts in_c_X7_button_1_X7 hown hK.1 hP 0 rfl rfl 9 (by decide) (hts (.fieldLink RX7 29 "FloorPanelsModel" "names" "[I") (by decide +kernel)) (fun _ h9 => h9) rfl dX7_button_87 ?_
  refine lv_iload_n hx hb dX7_button_90 rfl (lv_at hl 2 rfl) ?_
  refine nv_iald hx hb hK hP 2 rfl (by omega) (by decide) dX7_button_91 ?_
  rw [show (nmA sk (kdm mm) g 0 n nf) lv = (f (16 + lv)) from h_R.nf h_lv]
  refine lv_icmp_ne (tgt := 99) hx hb dX7_button_92 (by decide) (fun c_92 => ?_) (fun c_92 => ?_)
  ·
    refine lv_iconst (v := zb (f ((3 + ca) * 16 + lv) = f (16 + lv))) hx hb dX7_button_99 (zb_f c_92).symm ?_
    refine lv_goto (tgt := 120) hx hb dX7_button_100 (by decide) ?_
    exact W_i hx hb hr hlk dX7_button_120 hP hS (rfl) (rfl)
  ·
    refine lv_iconst (v := zb (f ((3 + ca) * 16 + lv) = f (16 + lv))) hx hb dX7_button_95 (zb_t c_92).symm ?_
    refine lv_goto (tgt := 120) hx hb dX7_button_96 (by decide) ?_
    exact W_i hx hb hr hlk dX7_button_120 hP hS (rfl) (rfl)

theorem in_c_X7_button_2_X7 : ∀ w ∈ wsX70, w ∈ wsX7_button := by decide +kernel
set_option maxHeartbeats 4000000 in
set_option maxRecDepth 100000 in
theorem c_X7_button_2 (l : Launch) (G : GG) (M : Nat) (rf : Nat) (mt : Nat) (sz : Nat) (mn : Nat) (mtr : Nat) (md : Nat) (ac : Nat) (mk : Nat) (mik : Nat) (na : Nat) (so : Nat) (n : Nat) (g : Nat) (sk : Int32) (mm : Nat → Int32) (nf : Nat → Int32) (sf : Nat → Int32) (f : Nat → Int32) (ca : Nat) (lv : Nat) (h_n : n ≤ 16) (h_n1 : 1 ≤ n) (h_g : g < n) (h_k : mm (3 + g) = 0) (h_R : MRel n sk g f mm) (h_ca : ca < 3) (h_lv : lv < n) : Met l yX7_button wsX7_button ({ frames := 3, cells := 0, slots := 0, locals := 74 } : Room) (va_Pc [.ref M, .int (nI ca), .int (nI lv), .int (nI 2)] (PB G [(M, .inr (4, [.int (nI rf), .ref mt, .int (nI sz), .ref mn, .ref mtr, .ref md, .int (nI ac), .ref mk, .ref mik, .ref na, .ref so])), (mn, .inl (G.2 0, 131, .inl (mr n (nI g) sk mm))), (na, .inl (G.2 0, 16, .inl nf)), (so, .inl (G.2 0, 16, .inl sf))])) (QW G (some (.int (zb (f ((6 + ca) * 16 + lv) = 1)))) [(M, .inr (4, [.int (nI 0), .ref mt, .int (nI sz), .ref mn, .ref mtr, .ref md, .int (nI ac), .ref mk, .ref mik, .ref na, .ref so])), (mn, .inl (G.2 0, 131, .inl (mr n (nI g) sk mm))), (na, .inl (G.2 0, 16, .inl (nmA sk (kdm mm) g 0 n nf))), (so, .inl (G.2 0, 16, .inl (soA sk (kdm mm) g 0 n sf)))] (vA [(M, .inr (4, [.int (nI rf), .ref mt, .int (nI sz), .ref mn, .ref mtr, .ref md, .int (nI ac), .ref mk, .ref mik, .ref na, .ref so])), (mn, .inl (G.2 0, 131, .inl (mr n (nI g) sk mm))), (na, .inl (G.2 0, 16, .inl nf)), (so, .inl (G.2 0, 16, .inl sf))])) 0 0 (vA [(M, .inr (4, [.int (nI rf), .ref mt, .int (nI sz), .ref mn, .ref mtr, .ref md, .int (nI ac), .ref mk, .ref mik, .ref na, .ref so])), (mn, .inl (G.2 0, 131, .inl (mr n (nI g) sk mm))), (na, .inl (G.2 0, 16, .inl nf)), (so, .inl (G.2 0, 16, .inl sf))]) := by
  refine Met.go (cc := cX7_button) (maxL := 4) (ret := (some .int)) (by decide) rfl (Nat.le_of_ble_eq_true rfl) ?_
  intro p e s m below meth c ls hx hb hr hml hown hts hlk hP hK hD hS hl
  have hown : s.vm.findClass RX7 = some m.cls := hown
  have hl : lv_has ls 4 [(0, .ref M), (1, .int (nI ca)), (2, .int (nI lv)), (3, .int (nI 2))] := hl
  refine lv_aload_n hx hb dX7_button_0 rfl (lv_at hl 0 rfl) ?_
  refine lv_iload_n hx hb dX7_button_1 rfl (lv_at hl 1 rfl) ?_
  refine cRS (As := [.int (nI ca)]) (rest := [.ref M]) (v := .int (zb (ca < 3))) ⟨hx, hb, hml, hown, hts⟩ (c_X7_isCar_n l G ca (by first | omega | assumption)) (va_cwS 1 hts gX7_button_X7_isCar rfl rfl rfl (by decide +kernel) ⟨Nat.le_of_ble_eq_true rfl, Nat.le_of_ble_eq_true rfl⟩) (preS_of hK hP hD [] (by decide) rfl) rfl hl.1 rfl (lv_room (Nat.le_of_ble_eq_true rfl)) dX7_button_2 ⟨Nat.zero_le _, Nat.zero_le _⟩ ?_
  refine bb_eq (tgt := 19) hx hb dX7_button_5 (by decide) (fun c_5 => False.elim (by omega)) (fun c_5 => ?_)
  refine lv_aload_n hx hb dX7_button_8 rfl (lv_at hl 0 rfl) ?_
  refine va_get (D := G.1) (ci := 4) (v := .ref mn) (C := RX7) (T := TX7) (N := 11) hx hb hts in_c_X7_button_2_X7 hown hK.1 hP 0 rfl rfl 3 (by decide) (hts (.fieldLink RX7 13 "FloorPanelsModel" "now" "[I") (by decide +kernel)) (fun _ h9 => h9) rfl dX7_button_9 ?_
  refine lv_iload_n hx hb dX7_button_12 rfl (lv_at hl 2 rfl) ?_
  refine cRS (As := [.ref mn, .int (nI lv)]) (rest := [.ref M]) (v := .int (zb (lv < n))) ⟨hx, hb, hml, hown, hts⟩ (c_X7_isLevel_n l G mn n g sk mm lv (by first | omega | assumption) (by first | omega | assumption) (by first | omega | assumption)) (va_cwS 2 hts gX7_button_X7_isLevel rfl rfl rfl (by decide +kernel) ⟨Nat.le_of_ble_eq_true rfl, Nat.le_of_ble_eq_true rfl⟩) (preS_of hK hP hD [1] (by decide) rfl) rfl hl.1 rfl (lv_room (Nat.le_of_ble_eq_true rfl)) dX7_button_13 ⟨Nat.zero_le _, Nat.zero_le _⟩ ?_
  refine bb_ne (tgt := 23) hx hb dX7_button_16 (by decide) (fun c_16 => ?_) (fun c_16 => False.elim (by omega))
  refine lv_iload_n hx hb dX7_button_23 rfl (lv_at hl 3 rfl) ?_
  refine lv_i2l (v := (nI 2).toInt64) hx hb dX7_button_24 rfl ?_
  refine lv_lconst (v := 0) hx hb dX7_button_25 rfl ?_
  refine lv_ldc2 (own := RX7) (v := 2) hx hb hown (hts (.constantLong RX7 51 (2)) (by decide +kernel)) dX7_button_26 ?_
  refine cRS (As := [.long ((nI 2).toInt64), .long (0 : Int64), .long (2 : Int64)]) (rest := [.ref M]) (v := .int (zb ((0 : Int64).toInt ≤ ((nI 2).toInt64).toInt ∧ ((nI 2).toInt64).toInt ≤ (2 : Int64).toInt))) ⟨hx, hb, hml, hown, hts⟩ (c_X7_in l G ((nI 2).toInt64) (0 : Int64) (2 : Int64) ) (va_cwS 3 hts gX7_button_X7_in rfl rfl rfl (by decide +kernel) ⟨Nat.le_of_ble_eq_true rfl, Nat.le_of_ble_eq_true rfl⟩) (preS_of hK hP hD [] (by decide) rfl) rfl hl.1 rfl (lv_room (Nat.le_of_ble_eq_true rfl)) dX7_button_29 ⟨Nat.zero_le _, Nat.zero_le _⟩ ?_
  refine bb_eq (tgt := 39) hx hb dX7_button_32 (by decide) (fun c_32 => False.elim (by (rw [i2l_toInt, nI_i (by omega), show (0 : Int64).toInt = 0 from rfl, show (2 : Int64).toInt = 2 from rfl] at c_32; omega))) (fun c_32 => ?_)
  refine lv_iconst (v := nI 0) hx hb dX7_button_35 (by decide) ?_
  refine lv_goto (tgt := 40) hx hb dX7_button_36 (by decide) ?_
  refine cWV (As := [.int (nI 0)]) (rest := []) (st1 := [.int (zb (0 < 0))]) (w3 := [(M, .inr (4, [.int (nI 0), .ref mt, .int (nI sz), .ref mn, .ref mtr, .ref md, .int (nI ac), .ref mk, .ref mik, .ref na, .ref so])), (mn, .inl (G.2 0, 131, .inl (mr n (nI g) sk mm))), (na, .inl (G.2 0, 16, .inl nf)), (so, .inl (G.2 0, 16, .inl sf))]) ⟨hx, hb, hml, hown, hts⟩ (c_X7_refused l G M rf mt sz mn mtr md ac mk mik na so 0 (by first | omega | assumption)) (cwV 1 hts gX7_button_X7_refused rfl rfl rfl (by decide +kernel) ⟨Nat.le_of_ble_eq_true rfl, Nat.le_of_ble_eq_true rfl⟩) (preV_of hK hP hD [0] (by decide) rfl (ci := 4) (q0 := 0) rfl rfl rfl) rfl hl.1 rfl (lv_room (Nat.le_of_ble_eq_true rfl)) dX7_button_40 ⟨Nat.zero_le _, Nat.zero_le _⟩ hP hD hS [0] (by decide) rfl rfl (rfl) rfl (fun H locs hP hD hS => ?_)
  refine bb_eq (tgt := 48) hx hb dX7_button_43 (by decide) (fun c_43 => ?_) (fun c_43 => False.elim (by omega))
  refine lv_aload_n hx hb dX7_button_48 rfl (lv_at hl 0 rfl) ?_
  refine lv_aload_n hx hb dX7_button_49 rfl (lv_at hl 0 rfl) ?_
  refine va_get (D := G.1) (ci := 4) (v := .ref mn) (C := RX7) (T := TX7) (N := 11) hx hb hts in_c_X7_button_2_X7 hown hK.1 hP 0 rfl rfl 3 (by decide) (hts (.fieldLink RX7 13 "FloorPanelsModel" "now" "[I") (by decide +kernel)) (fun _ h9 => h9) rfl dX7_button_50 ?_
  refine cWV (As := [.ref mn]) (rest := []) (st1 := []) (w3 := [(M, .inr (4, [.int (nI 0), .ref mt, .int (nI sz), .ref mn, .ref mtr, .ref md, .int (nI ac), .ref mk, .ref mik, .ref na, .ref so])), (mn, .inl (G.2 0, 131, .inl (mr n (nI g) sk mm))), (na, .inl (G.2 0, 16, .inl (nmA sk (kdm mm) g 0 n nf))), (so, .inl (G.2 0, 16, .inl (soA sk (kdm mm) g 0 n sf)))]) ⟨hx, hb, hml, hown, hts⟩ (c_X7_name l G M 0 mt sz mn mtr md ac mk mik na so mn n g sk mm nf sf (by first | omega | assumption) (by first | omega | assumption) (by first | omega | assumption)) (cwV 1 hts gX7_button_X7_name rfl rfl rfl (by decide +kernel) ⟨Nat.le_of_ble_eq_true rfl, Nat.le_of_ble_eq_true rfl⟩) (preV_of hK hP hD [0, 1, 2, 3] (by decide) rfl (ci := 4) (q0 := 0) rfl rfl rfl) rfl hl.1 rfl (lv_room (Nat.le_of_ble_eq_true rfl)) dX7_button_53 ⟨Nat.zero_le _, Nat.zero_le _⟩ hP hD hS [0, 1, 2, 3] (by decide) rfl rfl (rfl) rfl (fun H locs hP hD hS => ?_)
  refine lv_iload_n hx hb dX7_button_56 rfl (lv_at hl 3 rfl) ?_
  refine b0_ne (tgt := 72) hx hb dX7_button_57 (by decide) (nI_i (by omega)) (fun c_57 => ?_) (fun c_57 => False.elim (by omega))
  refine lv_iload_n hx hb dX7_button_72 rfl (lv_at hl 3 rfl) ?_
  refine lv_iconst (v := nI 1) hx hb dX7_button_73 (by decide) ?_
  refine bi_ne (tgt := 103) hx hb dX7_button_74 (by decide) (nI_i (by omega)) (nI_i (by omega)) (fun c_74 => ?_) (fun c_74 => False.elim (by omega))
  refine lv_aload_n hx hb dX7_button_103 rfl (lv_at hl 0 rfl) ?_
  refine va_get (D := G.1) (ci := 4) (v := .ref mn) (C := RX7) (T := TX7) (N := 11) hx hb hts in_c_X7_button_2_X7 hown hK.1 hP 0 rfl rfl 3 (by decide) (hts (.fieldLink RX7 13 "FloorPanelsModel" "now" "[I") (by decide +kernel)) (fun _ h9 => h9) rfl dX7_button_104 ?_
  refine lv_iload_n hx hb dX7_button_107 rfl (lv_at hl 1 rfl) ?_
  refine lv_iload_n hx hb dX7_button_108 rfl (lv_at hl 2 rfl) ?_
  refine cRS (As := [.ref mn, .int (nI ca), .int (nI lv)]) (rest := []) (v := .int (zb (mm (83 + 16 * ca + lv) = 1))) ⟨hx, hb, hml, hown, hts⟩ (c_X7_serves l G mn n g sk mm ca lv (by first | omega | assumption) (by first | omega | assumption)) (va_cwS 3 hts gX7_button_X7_serves rfl rfl rfl (by decide +kernel) ⟨Nat.le_of_ble_eq_true rfl, Nat.le_of_ble_eq_true rfl⟩) (preS_of hK hP hD [1] (by decide) rfl) rfl hl.1 rfl (lv_room (Nat.le_of_ble_eq_true rfl)) dX7_button_109 ⟨Nat.zero_le _, Nat.zero_le _⟩ ?_
  rw [show (zb (mm (83 + 16 * ca + lv) = 1)) = zb (f ((6 + ca) * 16 + lv) = 1) from by rw [h_R.2.2.2.2 _ h_ca _ h_lv]]
  refine bb_eq (tgt := 119) hx hb dX7_button_112 (by decide) (fun c_112 => ?_) (fun c_112 => ?_)
  ·
    refine lv_iconst (v := zb (f ((6 + ca) * 16 + lv) = 1)) hx hb dX7_button_119 (zb_f c_112).symm ?_
    exact W_i hx hb hr hlk dX7_button_120 hP hS (rfl) (rfl)
  ·
    refine lv_iconst (v := zb (f ((6 + ca) * 16 + lv) = 1)) hx hb dX7_button_115 (zb_t c_112).symm ?_
    refine lv_goto (tgt := 120) hx hb dX7_button_116 (by decide) ?_
    exact W_i hx hb hr hlk dX7_button_120 hP hS (rfl) (rfl)

set_option maxHeartbeats 4000000 in
set_option maxRecDepth 100000 in
theorem n_X7_button_c (l : Launch) (G : GG) (M : Nat) (rf : Nat) (mt : Nat) (sz : Nat) (mn : Nat) (mtr : Nat) (md : Nat) (ac : Nat) (mk : Nat) (mik : Nat) (na : Nat) (so : Nat) (n : Nat) (g : Nat) (sk : Int32) (mm : Nat → Int32) (y : Int32) (z : Int32) (w : Int32) (h_noc : ¬ (0 ≤ y.toInt ∧ y.toInt < 3)) : Met l yX7_button wsX7_button ({ frames := 2, cells := 0, slots := 0, locals := 45 } : Room) (va_Pc [.ref M, .int y, .int z, .int w] (PB G [(M, .inr (4, [.int (nI rf), .ref mt, .int (nI sz), .ref mn, .ref mtr, .ref md, .int (nI ac), .ref mk, .ref mik, .ref na, .ref so])), (mn, .inl (G.2 0, 131, .inl (mr n (nI g) sk mm)))])) (QW G (some (.int (nI 0))) [(M, .inr (4, [.int (nI 1), .ref mt, .int (nI sz), .ref mn, .ref mtr, .ref md, .int (nI ac), .ref mk, .ref mik, .ref na, .ref so])), (mn, .inl (G.2 0, 131, .inl (mr n (nI g) sk mm)))] (vA [(M, .inr (4, [.int (nI rf), .ref mt, .int (nI sz), .ref mn, .ref mtr, .ref md, .int (nI ac), .ref mk, .ref mik, .ref na, .ref so])), (mn, .inl (G.2 0, 131, .inl (mr n (nI g) sk mm)))])) 0 0 (vA [(M, .inr (4, [.int (nI rf), .ref mt, .int (nI sz), .ref mn, .ref mtr, .ref md, .int (nI ac), .ref mk, .ref mik, .ref na, .ref so])), (mn, .inl (G.2 0, 131, .inl (mr n (nI g) sk mm)))]) := by
  refine Met.go (cc := cX7_button) (maxL := 4) (ret := (some .int)) (by decide) rfl (Nat.le_of_ble_eq_true rfl) ?_
  intro p e s m below meth c ls hx hb hr hml hown hts hlk hP hK hD hS hl
  have hown : s.vm.findClass RX7 = some m.cls := hown
  have hl : lv_has ls 4 [(0, .ref M), (1, .int y), (2, .int z), (3, .int w)] := hl
  refine lv_aload_n hx hb dX7_button_0 rfl (lv_at hl 0 rfl) ?_
  refine lv_iload_n hx hb dX7_button_1 rfl (lv_at hl 1 rfl) ?_
  refine cRS (As := [.int y]) (rest := [.ref M]) (v := .int (zb (0 ≤ y.toInt ∧ y.toInt < 3))) ⟨hx, hb, hml, hown, hts⟩ (c_X7_isCar l G y ) (va_cwS 1 hts gX7_button_X7_isCar rfl rfl rfl (by decide +kernel) ⟨Nat.le_of_ble_eq_true rfl, Nat.le_of_ble_eq_true rfl⟩) (preS_of hK hP hD [] (by decide) rfl) rfl hl.1 rfl (lv_room (Nat.le_of_ble_eq_true rfl)) dX7_button_2 ⟨Nat.zero_le _, Nat.zero_le _⟩ ?_
  refine bb_eq (tgt := 19) hx hb dX7_button_5 (by decide) (fun c_5 => ?_) (fun c_5 => False.elim (by omega))
  refine lv_iconst (v := nI 1) hx hb dX7_button_19 (by decide) ?_
  refine lv_goto (tgt := 40) hx hb dX7_button_20 (by decide) ?_
  refine cWV (As := [.int (nI 1)]) (rest := []) (st1 := [.int (zb (0 < 1))]) (w3 := [(M, .inr (4, [.int (nI 1), .ref mt, .int (nI sz), .ref mn, .ref mtr, .ref md, .int (nI ac), .ref mk, .ref mik, .ref na, .ref so])), (mn, .inl (G.2 0, 131, .inl (mr n (nI g) sk mm)))]) ⟨hx, hb, hml, hown, hts⟩ (c_X7_refused l G M rf mt sz mn mtr md ac mk mik na so 1 (by first | omega | assumption)) (cwV 1 hts gX7_button_X7_refused rfl rfl rfl (by decide +kernel) ⟨Nat.le_of_ble_eq_true rfl, Nat.le_of_ble_eq_true rfl⟩) (preV_of hK hP hD [0] (by decide) rfl (ci := 4) (q0 := 0) rfl rfl rfl) rfl hl.1 rfl (lv_room (Nat.le_of_ble_eq_true rfl)) dX7_button_40 ⟨Nat.zero_le _, Nat.zero_le _⟩ hP hD hS [0] (by decide) rfl rfl (rfl) rfl (fun H locs hP hD hS => ?_)
  refine bb_eq (tgt := 48) hx hb dX7_button_43 (by decide) (fun c_43 => False.elim (by omega)) (fun c_43 => ?_)
  refine lv_iconst (v := nI 0) hx hb dX7_button_46 (by decide) ?_
  exact W_i hx hb hr hlk dX7_button_47 hP hS (rfl) (rfl)

theorem in_n_X7_button_l_X7 : ∀ w ∈ wsX70, w ∈ wsX7_button := by decide +kernel
set_option maxHeartbeats 4000000 in
set_option maxRecDepth 100000 in
theorem n_X7_button_l (l : Launch) (G : GG) (M : Nat) (rf : Nat) (mt : Nat) (sz : Nat) (mn : Nat) (mtr : Nat) (md : Nat) (ac : Nat) (mk : Nat) (mik : Nat) (na : Nat) (so : Nat) (n : Nat) (g : Nat) (sk : Int32) (mm : Nat → Int32) (ca : Nat) (z : Int32) (w : Int32) (h_n : n ≤ 16) (h_n1 : 1 ≤ n) (h_ca : ca < 3) (h_nol : ¬ (0 ≤ z.toInt ∧ z.toInt < (n : Int))) : Met l yX7_button wsX7_button ({ frames := 2, cells := 0, slots := 0, locals := 46 } : Room) (va_Pc [.ref M, .int (nI ca), .int z, .int w] (PB G [(M, .inr (4, [.int (nI rf), .ref mt, .int (nI sz), .ref mn, .ref mtr, .ref md, .int (nI ac), .ref mk, .ref mik, .ref na, .ref so])), (mn, .inl (G.2 0, 131, .inl (mr n (nI g) sk mm)))])) (QW G (some (.int (nI 0))) [(M, .inr (4, [.int (nI 1), .ref mt, .int (nI sz), .ref mn, .ref mtr, .ref md, .int (nI ac), .ref mk, .ref mik, .ref na, .ref so])), (mn, .inl (G.2 0, 131, .inl (mr n (nI g) sk mm)))] (vA [(M, .inr (4, [.int (nI rf), .ref mt, .int (nI sz), .ref mn, .ref mtr, .ref md, .int (nI ac), .ref mk, .ref mik, .ref na, .ref so])), (mn, .inl (G.2 0, 131, .inl (mr n (nI g) sk mm)))])) 0 0 (vA [(M, .inr (4, [.int (nI rf), .ref mt, .int (nI sz), .ref mn, .ref mtr, .ref md, .int (nI ac), .ref mk, .ref mik, .ref na, .ref so])), (mn, .inl (G.2 0, 131, .inl (mr n (nI g) sk mm)))]) := by
  refine Met.go (cc := cX7_button) (maxL := 4) (ret := (some .int)) (by decide) rfl (Nat.le_of_ble_eq_true rfl) ?_
  intro p e s m below meth c ls hx hb hr hml hown hts hlk hP hK hD hS hl
  have hown : s.vm.findClass RX7 = some m.cls := hown
  have hl : lv_has ls 4 [(0, .ref M), (1, .int (nI ca)), (2, .int z), (3, .int w)] := hl
  refine lv_aload_n hx hb dX7_button_0 rfl (lv_at hl 0 rfl) ?_
  refine lv_iload_n hx hb dX7_button_1 rfl (lv_at hl 1 rfl) ?_
  refine cRS (As := [.int (nI ca)]) (rest := [.ref M]) (v := .int (zb (ca < 3))) ⟨hx, hb, hml, hown, hts⟩ (c_X7_isCar_n l G ca (by first | omega | assumption)) (va_cwS 1 hts gX7_button_X7_isCar rfl rfl rfl (by decide +kernel) ⟨Nat.le_of_ble_eq_true rfl, Nat.le_of_ble_eq_true rfl⟩) (preS_of hK hP hD [] (by decide) rfl) rfl hl.1 rfl (lv_room (Nat.le_of_ble_eq_true rfl)) dX7_button_2 ⟨Nat.zero_le _, Nat.zero_le _⟩ ?_
  refine bb_eq (tgt := 19) hx hb dX7_button_5 (by decide) (fun c_5 => False.elim (by omega)) (fun c_5 => ?_)
  refine lv_aload_n hx hb dX7_button_8 rfl (lv_at hl 0 rfl) ?_
  refine va_get (D := G.1) (ci := 4) (v := .ref mn) (C := RX7) (T := TX7) (N := 11) hx hb hts in_n_X7_button_l_X7 hown hK.1 hP 0 rfl rfl 3 (by decide) (hts (.fieldLink RX7 13 "FloorPanelsModel" "now" "[I") (by decide +kernel)) (fun _ h9 => h9) rfl dX7_button_9 ?_
  refine lv_iload_n hx hb dX7_button_12 rfl (lv_at hl 2 rfl) ?_
  refine cRS (As := [.ref mn, .int z]) (rest := [.ref M]) (v := .int (zb (0 ≤ z.toInt ∧ z.toInt < (n : Int)))) ⟨hx, hb, hml, hown, hts⟩ (c_X7_isLevel l G mn n g sk mm z (by first | omega | assumption) (by first | omega | assumption)) (va_cwS 2 hts gX7_button_X7_isLevel rfl rfl rfl (by decide +kernel) ⟨Nat.le_of_ble_eq_true rfl, Nat.le_of_ble_eq_true rfl⟩) (preS_of hK hP hD [1] (by decide) rfl) rfl hl.1 rfl (lv_room (Nat.le_of_ble_eq_true rfl)) dX7_button_13 ⟨Nat.zero_le _, Nat.zero_le _⟩ ?_
  refine bb_ne (tgt := 23) hx hb dX7_button_16 (by decide) (fun c_16 => False.elim (by omega)) (fun c_16 => ?_)
  refine lv_iconst (v := nI 1) hx hb dX7_button_19 (by decide) ?_
  refine lv_goto (tgt := 40) hx hb dX7_button_20 (by decide) ?_
  refine cWV (As := [.int (nI 1)]) (rest := []) (st1 := [.int (zb (0 < 1))]) (w3 := [(M, .inr (4, [.int (nI 1), .ref mt, .int (nI sz), .ref mn, .ref mtr, .ref md, .int (nI ac), .ref mk, .ref mik, .ref na, .ref so])), (mn, .inl (G.2 0, 131, .inl (mr n (nI g) sk mm)))]) ⟨hx, hb, hml, hown, hts⟩ (c_X7_refused l G M rf mt sz mn mtr md ac mk mik na so 1 (by first | omega | assumption)) (cwV 1 hts gX7_button_X7_refused rfl rfl rfl (by decide +kernel) ⟨Nat.le_of_ble_eq_true rfl, Nat.le_of_ble_eq_true rfl⟩) (preV_of hK hP hD [0] (by decide) rfl (ci := 4) (q0 := 0) rfl rfl rfl) rfl hl.1 rfl (lv_room (Nat.le_of_ble_eq_true rfl)) dX7_button_40 ⟨Nat.zero_le _, Nat.zero_le _⟩ hP hD hS [0] (by decide) rfl rfl (rfl) rfl (fun H locs hP hD hS => ?_)
  refine bb_eq (tgt := 48) hx hb dX7_button_43 (by decide) (fun c_43 => False.elim (by omega)) (fun c_43 => ?_)
  refine lv_iconst (v := nI 0) hx hb dX7_button_46 (by decide) ?_
  exact W_i hx hb hr hlk dX7_button_47 hP hS (rfl) (rfl)

theorem in_n_X7_button_w_X7 : ∀ w ∈ wsX70, w ∈ wsX7_button := by decide +kernel
set_option maxHeartbeats 4000000 in
set_option maxRecDepth 100000 in
theorem n_X7_button_w (l : Launch) (G : GG) (M : Nat) (rf : Nat) (mt : Nat) (sz : Nat) (mn : Nat) (mtr : Nat) (md : Nat) (ac : Nat) (mk : Nat) (mik : Nat) (na : Nat) (so : Nat) (n : Nat) (g : Nat) (sk : Int32) (mm : Nat → Int32) (ca : Nat) (lv : Nat) (w : Int32) (h_n : n ≤ 16) (h_n1 : 1 ≤ n) (h_ca : ca < 3) (h_lv : lv < n) (h_now : ¬ (0 ≤ w.toInt ∧ w.toInt ≤ 2)) : Met l yX7_button wsX7_button ({ frames := 2, cells := 0, slots := 0, locals := 46 } : Room) (va_Pc [.ref M, .int (nI ca), .int (nI lv), .int w] (PB G [(M, .inr (4, [.int (nI rf), .ref mt, .int (nI sz), .ref mn, .ref mtr, .ref md, .int (nI ac), .ref mk, .ref mik, .ref na, .ref so])), (mn, .inl (G.2 0, 131, .inl (mr n (nI g) sk mm)))])) (QW G (some (.int (nI 0))) [(M, .inr (4, [.int (nI 2), .ref mt, .int (nI sz), .ref mn, .ref mtr, .ref md, .int (nI ac), .ref mk, .ref mik, .ref na, .ref so])), (mn, .inl (G.2 0, 131, .inl (mr n (nI g) sk mm)))] (vA [(M, .inr (4, [.int (nI rf), .ref mt, .int (nI sz), .ref mn, .ref mtr, .ref md, .int (nI ac), .ref mk, .ref mik, .ref na, .ref so])), (mn, .inl (G.2 0, 131, .inl (mr n (nI g) sk mm)))])) 0 0 (vA [(M, .inr (4, [.int (nI rf), .ref mt, .int (nI sz), .ref mn, .ref mtr, .ref md, .int (nI ac), .ref mk, .ref mik, .ref na, .ref so])), (mn, .inl (G.2 0, 131, .inl (mr n (nI g) sk mm)))]) := by
  refine Met.go (cc := cX7_button) (maxL := 4) (ret := (some .int)) (by decide) rfl (Nat.le_of_ble_eq_true rfl) ?_
  intro p e s m below meth c ls hx hb hr hml hown hts hlk hP hK hD hS hl
  have hown : s.vm.findClass RX7 = some m.cls := hown
  have hl : lv_has ls 4 [(0, .ref M), (1, .int (nI ca)), (2, .int (nI lv)), (3, .int w)] := hl
  refine lv_aload_n hx hb dX7_button_0 rfl (lv_at hl 0 rfl) ?_
  refine lv_iload_n hx hb dX7_button_1 rfl (lv_at hl 1 rfl) ?_
  refine cRS (As := [.int (nI ca)]) (rest := [.ref M]) (v := .int (zb (ca < 3))) ⟨hx, hb, hml, hown, hts⟩ (c_X7_isCar_n l G ca (by first | omega | assumption)) (va_cwS 1 hts gX7_button_X7_isCar rfl rfl rfl (by decide +kernel) ⟨Nat.le_of_ble_eq_true rfl, Nat.le_of_ble_eq_true rfl⟩) (preS_of hK hP hD [] (by decide) rfl) rfl hl.1 rfl (lv_room (Nat.le_of_ble_eq_true rfl)) dX7_button_2 ⟨Nat.zero_le _, Nat.zero_le _⟩ ?_
  refine bb_eq (tgt := 19) hx hb dX7_button_5 (by decide) (fun c_5 => False.elim (by omega)) (fun c_5 => ?_)
  refine lv_aload_n hx hb dX7_button_8 rfl (lv_at hl 0 rfl) ?_
  refine va_get (D := G.1) (ci := 4) (v := .ref mn) (C := RX7) (T := TX7) (N := 11) hx hb hts in_n_X7_button_w_X7 hown hK.1 hP 0 rfl rfl 3 (by decide) (hts (.fieldLink RX7 13 "FloorPanelsModel" "now" "[I") (by decide +kernel)) (fun _ h9 => h9) rfl dX7_button_9 ?_
  refine lv_iload_n hx hb dX7_button_12 rfl (lv_at hl 2 rfl) ?_
  refine cRS (As := [.ref mn, .int (nI lv)]) (rest := [.ref M]) (v := .int (zb (lv < n))) ⟨hx, hb, hml, hown, hts⟩ (c_X7_isLevel_n l G mn n g sk mm lv (by first | omega | assumption) (by first | omega | assumption) (by first | omega | assumption)) (va_cwS 2 hts gX7_button_X7_isLevel rfl rfl rfl (by decide +kernel) ⟨Nat.le_of_ble_eq_true rfl, Nat.le_of_ble_eq_true rfl⟩) (preS_of hK hP hD [1] (by decide) rfl) rfl hl.1 rfl (lv_room (Nat.le_of_ble_eq_true rfl)) dX7_button_13 ⟨Nat.zero_le _, Nat.zero_le _⟩ ?_
  refine bb_ne (tgt := 23) hx hb dX7_button_16 (by decide) (fun c_16 => ?_) (fun c_16 => False.elim (by omega))
  refine lv_iload_n hx hb dX7_button_23 rfl (lv_at hl 3 rfl) ?_
  refine lv_i2l (v := (w).toInt64) hx hb dX7_button_24 rfl ?_
  refine lv_lconst (v := 0) hx hb dX7_button_25 rfl ?_
  refine lv_ldc2 (own := RX7) (v := 2) hx hb hown (hts (.constantLong RX7 51 (2)) (by decide +kernel)) dX7_button_26 ?_
  refine cRS (As := [.long ((w).toInt64), .long (0 : Int64), .long (2 : Int64)]) (rest := [.ref M]) (v := .int (zb ((0 : Int64).toInt ≤ ((w).toInt64).toInt ∧ ((w).toInt64).toInt ≤ (2 : Int64).toInt))) ⟨hx, hb, hml, hown, hts⟩ (c_X7_in l G ((w).toInt64) (0 : Int64) (2 : Int64) ) (va_cwS 3 hts gX7_button_X7_in rfl rfl rfl (by decide +kernel) ⟨Nat.le_of_ble_eq_true rfl, Nat.le_of_ble_eq_true rfl⟩) (preS_of hK hP hD [] (by decide) rfl) rfl hl.1 rfl (lv_room (Nat.le_of_ble_eq_true rfl)) dX7_button_29 ⟨Nat.zero_le _, Nat.zero_le _⟩ ?_
  refine bb_eq (tgt := 39) hx hb dX7_button_32 (by decide) (fun c_32 => ?_) (fun c_32 => False.elim (by (rw [i2l_toInt, show (0 : Int64).toInt = 0 from rfl, show (2 : Int64).toInt = 2 from rfl] at c_32; omega)))
  refine lv_iconst (v := nI 2) hx hb dX7_button_39 (by decide) ?_
  refine cWV (As := [.int (nI 2)]) (rest := []) (st1 := [.int (zb (0 < 2))]) (w3 := [(M, .inr (4, [.int (nI 2), .ref mt, .int (nI sz), .ref mn, .ref mtr, .ref md, .int (nI ac), .ref mk, .ref mik, .ref na, .ref so])), (mn, .inl (G.2 0, 131, .inl (mr n (nI g) sk mm)))]) ⟨hx, hb, hml, hown, hts⟩ (c_X7_refused l G M rf mt sz mn mtr md ac mk mik na so 2 (by first | omega | assumption)) (cwV 1 hts gX7_button_X7_refused rfl rfl rfl (by decide +kernel) ⟨Nat.le_of_ble_eq_true rfl, Nat.le_of_ble_eq_true rfl⟩) (preV_of hK hP hD [0] (by decide) rfl (ci := 4) (q0 := 0) rfl rfl rfl) rfl hl.1 rfl (lv_room (Nat.le_of_ble_eq_true rfl)) dX7_button_40 ⟨Nat.zero_le _, Nat.zero_le _⟩ hP hD hS [0] (by decide) rfl rfl (rfl) rfl (fun H locs hP hD hS => ?_)
  refine bb_eq (tgt := 48) hx hb dX7_button_43 (by decide) (fun c_43 => False.elim (by omega)) (fun c_43 => ?_)
  refine lv_iconst (v := nI 0) hx hb dX7_button_46 (by decide) ?_
  exact W_i hx hb hr hlk dX7_button_47 hP hS (rfl) (rfl)

theorem in_c_X7_isSkipped_X7 : ∀ w ∈ wsX70, w ∈ wsX7_isSkipped := by decide +kernel
set_option maxHeartbeats 4000000 in
set_option maxRecDepth 100000 in
theorem c_X7_isSkipped (l : Launch) (G : GG) (M : Nat) (rf : Nat) (mt : Nat) (sz : Nat) (mn : Nat) (mtr : Nat) (md : Nat) (ac : Nat) (mk : Nat) (mik : Nat) (na : Nat) (so : Nat) (n : Nat) (g : Nat) (sk : Int32) (mm : Nat → Int32) (q : Nat) (h_q : 1 ≤ q ∧ q ≤ 30) : Met l yX7_isSkipped wsX7_isSkipped ({ frames := 2, cells := 0, slots := 0, locals := 45 } : Room) (va_Pc [.ref M, .int (nI q)] (PB G [(M, .inr (4, [.int (nI rf), .ref mt, .int (nI sz), .ref mn, .ref mtr, .ref md, .int (nI ac), .ref mk, .ref mik, .ref na, .ref so])), (mn, .inl (G.2 0, 131, .inl (mr n (nI g) sk mm)))])) (QW G (some (.int (zb (bt sk q = true)))) [(M, .inr (4, [.int (nI 0), .ref mt, .int (nI sz), .ref mn, .ref mtr, .ref md, .int (nI ac), .ref mk, .ref mik, .ref na, .ref so])), (mn, .inl (G.2 0, 131, .inl (mr n (nI g) sk mm)))] (vA [(M, .inr (4, [.int (nI rf), .ref mt, .int (nI sz), .ref mn, .ref mtr, .ref md, .int (nI ac), .ref mk, .ref mik, .ref na, .ref so])), (mn, .inl (G.2 0, 131, .inl (mr n (nI g) sk mm)))])) 0 0 (vA [(M, .inr (4, [.int (nI rf), .ref mt, .int (nI sz), .ref mn, .ref mtr, .ref md, .int (nI ac), .ref mk, .ref mik, .ref na, .ref so])), (mn, .inl (G.2 0, 131, .inl (mr n (nI g) sk mm)))]) := by
  refine Met.go (cc := cX7_isSkipped) (maxL := 2) (ret := (some .boolean)) (by decide) rfl (Nat.le_of_ble_eq_true rfl) ?_
  intro p e s m below meth c ls hx hb hr hml hown hts hlk hP hK hD hS hl
  have hown : s.vm.findClass RX7 = some m.cls := hown
  have hl : lv_has ls 2 [(0, .ref M), (1, .int (nI q))] := hl
  refine lv_aload_n hx hb dX7_isSkipped_0 rfl (lv_at hl 0 rfl) ?_
  refine lv_iload_n hx hb dX7_isSkipped_1 rfl (lv_at hl 1 rfl) ?_
  refine cRS (As := [.int (nI q)]) (rest := [.ref M]) (v := .int (zb (1 ≤ q ∧ q ≤ 30))) ⟨hx, hb, hml, hown, hts⟩ (c_X7_isStorey_n l G q (by first | omega | assumption)) (va_cwS 1 hts gX7_isSkipped_X7_isStorey rfl rfl rfl (by decide +kernel) ⟨Nat.le_of_ble_eq_true rfl, Nat.le_of_ble_eq_true rfl⟩) (preS_of hK hP hD [] (by decide) rfl) rfl hl.1 rfl (lv_room (Nat.le_of_ble_eq_true rfl)) dX7_isSkipped_2 ⟨Nat.zero_le _, Nat.zero_le _⟩ ?_
  refine bb_eq (tgt := 12) hx hb dX7_isSkipped_5 (by decide) (fun c_5 => False.elim (by omega)) (fun c_5 => ?_)
  refine lv_iconst (v := nI 0) hx hb dX7_isSkipped_8 (by decide) ?_
  refine lv_goto (tgt := 13) hx hb dX7_isSkipped_9 (by decide) ?_
  refine cWV (As := [.int (nI 0)]) (rest := []) (st1 := [.int (zb (0 < 0))]) (w3 := [(M, .inr (4, [.int (nI 0), .ref mt, .int (nI sz), .ref mn, .ref mtr, .ref md, .int (nI ac), .ref mk, .ref mik, .ref na, .ref so])), (mn, .inl (G.2 0, 131, .inl (mr n (nI g) sk mm)))]) ⟨hx, hb, hml, hown, hts⟩ (c_X7_refused l G M rf mt sz mn mtr md ac mk mik na so 0 (by first | omega | assumption)) (cwV 1 hts gX7_isSkipped_X7_refused rfl rfl rfl (by decide +kernel) ⟨Nat.le_of_ble_eq_true rfl, Nat.le_of_ble_eq_true rfl⟩) (preV_of hK hP hD [0] (by decide) rfl (ci := 4) (q0 := 0) rfl rfl rfl) rfl hl.1 rfl (lv_room (Nat.le_of_ble_eq_true rfl)) dX7_isSkipped_13 ⟨Nat.zero_le _, Nat.zero_le _⟩ hP hD hS [0] (by decide) rfl rfl (rfl) rfl (fun H locs hP hD hS => ?_)
  refine bb_eq (tgt := 21) hx hb dX7_isSkipped_16 (by decide) (fun c_16 => ?_) (fun c_16 => False.elim (by omega))
  refine lv_aload_n hx hb dX7_isSkipped_21 rfl (lv_at hl 0 rfl) ?_
  refine va_get (D := G.1) (ci := 4) (v := .ref mn) (C := RX7) (T := TX7) (N := 11) hx hb hts in_c_X7_isSkipped_X7 hown hK.1 hP 0 rfl rfl 3 (by decide) (hts (.fieldLink RX7 13 "FloorPanelsModel" "now" "[I") (by decide +kernel)) (fun _ h9 => h9) rfl dX7_isSkipped_22 ?_
  refine lv_iload_n hx hb dX7_isSkipped_25 rfl (lv_at hl 1 rfl) ?_
  refine cRS (As := [.ref mn, .int (nI q)]) (rest := []) (v := .int (zb (q ≤ 30 ∧ bt sk q = true))) ⟨hx, hb, hml, hown, hts⟩ (c_X7_skips l G mn n g sk mm q (by first | omega | assumption)) (va_cwS 2 hts gX7_isSkipped_X7_skips rfl rfl rfl (by decide +kernel) ⟨Nat.le_of_ble_eq_true rfl, Nat.le_of_ble_eq_true rfl⟩) (preS_of hK hP hD [1] (by decide) rfl) rfl hl.1 rfl (lv_room (Nat.le_of_ble_eq_true rfl)) dX7_isSkipped_26 ⟨Nat.zero_le _, Nat.zero_le _⟩ ?_
  rw [show (zb (q ≤ 30 ∧ bt sk q = true)) = zb (bt sk q = true) from zb_c ⟨fun z_ => z_.2, fun z_ => ⟨h_q.2, z_⟩⟩]
  exact W_z hx hb hr hlk dX7_isSkipped_29 hP hS (rfl) (rfl) zb_nar

set_option maxHeartbeats 4000000 in
set_option maxRecDepth 100000 in
theorem n_X7_isSkipped (l : Launch) (G : GG) (M : Nat) (rf : Nat) (mt : Nat) (sz : Nat) (mn : Nat) (mtr : Nat) (md : Nat) (ac : Nat) (mk : Nat) (mik : Nat) (na : Nat) (so : Nat) (n : Nat) (g : Nat) (sk : Int32) (mm : Nat → Int32) (y : Int32) (h_nos : ¬ (1 ≤ y.toInt ∧ y.toInt ≤ 30)) : Met l yX7_isSkipped wsX7_isSkipped ({ frames := 2, cells := 0, slots := 0, locals := 45 } : Room) (va_Pc [.ref M, .int y] (PB G [(M, .inr (4, [.int (nI rf), .ref mt, .int (nI sz), .ref mn, .ref mtr, .ref md, .int (nI ac), .ref mk, .ref mik, .ref na, .ref so])), (mn, .inl (G.2 0, 131, .inl (mr n (nI g) sk mm)))])) (QW G (some (.int (zb False))) [(M, .inr (4, [.int (nI 1), .ref mt, .int (nI sz), .ref mn, .ref mtr, .ref md, .int (nI ac), .ref mk, .ref mik, .ref na, .ref so])), (mn, .inl (G.2 0, 131, .inl (mr n (nI g) sk mm)))] (vA [(M, .inr (4, [.int (nI rf), .ref mt, .int (nI sz), .ref mn, .ref mtr, .ref md, .int (nI ac), .ref mk, .ref mik, .ref na, .ref so])), (mn, .inl (G.2 0, 131, .inl (mr n (nI g) sk mm)))])) 0 0 (vA [(M, .inr (4, [.int (nI rf), .ref mt, .int (nI sz), .ref mn, .ref mtr, .ref md, .int (nI ac), .ref mk, .ref mik, .ref na, .ref so])), (mn, .inl (G.2 0, 131, .inl (mr n (nI g) sk mm)))]) := by
  refine Met.go (cc := cX7_isSkipped) (maxL := 2) (ret := (some .boolean)) (by decide) rfl (Nat.le_of_ble_eq_true rfl) ?_
  intro p e s m below meth c ls hx hb hr hml hown hts hlk hP hK hD hS hl
  have hown : s.vm.findClass RX7 = some m.cls := hown
  have hl : lv_has ls 2 [(0, .ref M), (1, .int y)] := hl
  refine lv_aload_n hx hb dX7_isSkipped_0 rfl (lv_at hl 0 rfl) ?_
  refine lv_iload_n hx hb dX7_isSkipped_1 rfl (lv_at hl 1 rfl) ?_
  refine cRS (As := [.int y]) (rest := [.ref M]) (v := .int (zb (1 ≤ y.toInt ∧ y.toInt ≤ 30))) ⟨hx, hb, hml, hown, hts⟩ (c_X7_isStorey l G y ) (va_cwS 1 hts gX7_isSkipped_X7_isStorey rfl rfl rfl (by decide +kernel) ⟨Nat.le_of_ble_eq_true rfl, Nat.le_of_ble_eq_true rfl⟩) (preS_of hK hP hD [] (by decide) rfl) rfl hl.1 rfl (lv_room (Nat.le_of_ble_eq_true rfl)) dX7_isSkipped_2 ⟨Nat.zero_le _, Nat.zero_le _⟩ ?_
  refine bb_eq (tgt := 12) hx hb dX7_isSkipped_5 (by decide) (fun c_5 => ?_) (fun c_5 => False.elim (by omega))
  refine lv_iconst (v := nI 1) hx hb dX7_isSkipped_12 (by decide) ?_
  refine cWV (As := [.int (nI 1)]) (rest := []) (st1 := [.int (zb (0 < 1))]) (w3 := [(M, .inr (4, [.int (nI 1), .ref mt, .int (nI sz), .ref mn, .ref mtr, .ref md, .int (nI ac), .ref mk, .ref mik, .ref na, .ref so])), (mn, .inl (G.2 0, 131, .inl (mr n (nI g) sk mm)))]) ⟨hx, hb, hml, hown, hts⟩ (c_X7_refused l G M rf mt sz mn mtr md ac mk mik na so 1 (by first | omega | assumption)) (cwV 1 hts gX7_isSkipped_X7_refused rfl rfl rfl (by decide +kernel) ⟨Nat.le_of_ble_eq_true rfl, Nat.le_of_ble_eq_true rfl⟩) (preV_of hK hP hD [0] (by decide) rfl (ci := 4) (q0 := 0) rfl rfl rfl) rfl hl.1 rfl (lv_room (Nat.le_of_ble_eq_true rfl)) dX7_isSkipped_13 ⟨Nat.zero_le _, Nat.zero_le _⟩ hP hD hS [0] (by decide) rfl rfl (rfl) rfl (fun H locs hP hD hS => ?_)
  refine bb_eq (tgt := 21) hx hb dX7_isSkipped_16 (by decide) (fun c_16 => False.elim (by omega)) (fun c_16 => ?_)
  refine lv_iconst (v := nI 0) hx hb dX7_isSkipped_19 (by decide) ?_
  exact W_z hx hb hr hlk dX7_isSkipped_20 hP hS ((zb_f (fun z_ => z_)).symm) (rfl) zb_nar

theorem in_c_X7_named_X7 : ∀ w ∈ wsX70, w ∈ wsX7_named := by decide +kernel
set_option maxHeartbeats 4000000 in
set_option maxRecDepth 100000 in
theorem c_X7_named (l : Launch) (G : GG) (M : Nat) (rf : Nat) (mt : Nat) (sz : Nat) (mn : Nat) (mtr : Nat) (md : Nat) (ac : Nat) (mk : Nat) (mik : Nat) (na : Nat) (so : Nat) (n : Nat) (g : Nat) (sk : Int32) (mm : Nat → Int32) (nf : Nat → Int32) (sf : Nat → Int32) (f : Nat → Int32) (nv : Int32) (k : Nat) (h_n : n ≤ 16) (h_n1 : 1 ≤ n) (h_g : g < n) (h_k : mm (3 + g) = 0) (h_R : MRel n sk g f mm) (h_k : k < 2147483648) : Met l yX7_named wsX7_named ({ frames := 3, cells := 0, slots := 0, locals := 74 } : Room) (va_Pc [.ref M, .int nv, .int (nI k)] (PB G [(M, .inr (4, [.int (nI rf), .ref mt, .int (nI sz), .ref mn, .ref mtr, .ref md, .int (nI ac), .ref mk, .ref mik, .ref na, .ref so])), (mn, .inl (G.2 0, 131, .inl (mr n (nI g) sk mm))), (na, .inl (G.2 0, 16, .inl nf)), (so, .inl (G.2 0, 16, .inl sf))])) (QW G (some (.int (kth (fun x_ => ¬ f (16 + x_) = -1 ∧ f (16 + x_) = nv) n 0 k))) [(M, .inr (4, [.int (nI 0), .ref mt, .int (nI sz), .ref mn, .ref mtr, .ref md, .int (nI ac), .ref mk, .ref mik, .ref na, .ref so])), (mn, .inl (G.2 0, 131, .inl (mr n (nI g) sk mm))), (na, .inl (G.2 0, 16, .inl (nmA sk (kdm mm) g 0 n nf))), (so, .inl (G.2 0, 16, .inl (soA sk (kdm mm) g 0 n sf)))] (vA [(M, .inr (4, [.int (nI rf), .ref mt, .int (nI sz), .ref mn, .ref mtr, .ref md, .int (nI ac), .ref mk, .ref mik, .ref na, .ref so])), (mn, .inl (G.2 0, 131, .inl (mr n (nI g) sk mm))), (na, .inl (G.2 0, 16, .inl nf)), (so, .inl (G.2 0, 16, .inl sf))])) 0 0 (vA [(M, .inr (4, [.int (nI rf), .ref mt, .int (nI sz), .ref mn, .ref mtr, .ref md, .int (nI ac), .ref mk, .ref mik, .ref na, .ref so])), (mn, .inl (G.2 0, 131, .inl (mr n (nI g) sk mm))), (na, .inl (G.2 0, 16, .inl nf)), (so, .inl (G.2 0, 16, .inl sf))]) := by
  refine Met.go (cc := cX7_named) (maxL := 5) (ret := (some .int)) (by decide) rfl (Nat.le_of_ble_eq_true rfl) ?_
  intro p e s m below meth c ls hx hb hr hml hown hts hlk hP hK hD hS hl
  have hown : s.vm.findClass RX7 = some m.cls := hown
  have hl : lv_has ls 5 [(0, .ref M), (1, .int nv), (2, .int (nI k))] := hl
  refine lv_aload_n hx hb dX7_named_0 rfl (lv_at hl 0 rfl) ?_
  refine lv_iload_n hx hb dX7_named_1 rfl (lv_at hl 2 rfl) ?_
  refine b0_lt (tgt := 9) hx hb dX7_named_2 (by decide) (nI_i (by omega)) (fun c_2 => False.elim (by omega)) (fun c_2 => ?_)
  refine lv_iconst (v := nI 0) hx hb dX7_named_5 (by decide) ?_
  refine lv_goto (tgt := 10) hx hb dX7_named_6 (by decide) ?_
  refine cWV (As := [.int (nI 0)]) (rest := []) (st1 := [.int (zb (0 < 0))]) (w3 := [(M, .inr (4, [.int (nI 0), .ref mt, .int (nI sz), .ref mn, .ref mtr, .ref md, .int (nI ac), .ref mk, .ref mik, .ref na, .ref so])), (mn, .inl (G.2 0, 131, .inl (mr n (nI g) sk mm))), (na, .inl (G.2 0, 16, .inl nf)), (so, .inl (G.2 0, 16, .inl sf))]) ⟨hx, hb, hml, hown, hts⟩ (c_X7_refused l G M rf mt sz mn mtr md ac mk mik na so 0 (by first | omega | assumption)) (cwV 1 hts gX7_named_X7_refused rfl rfl rfl (by decide +kernel) ⟨Nat.le_of_ble_eq_true rfl, Nat.le_of_ble_eq_true rfl⟩) (preV_of hK hP hD [0] (by decide) rfl (ci := 4) (q0 := 0) rfl rfl rfl) rfl hl.1 rfl (lv_room (Nat.le_of_ble_eq_true rfl)) dX7_named_10 ⟨Nat.zero_le _, Nat.zero_le _⟩ hP hD hS [0] (by decide) rfl rfl (rfl) rfl (fun H locs hP hD hS => ?_)
  refine bb_eq (tgt := 18) hx hb dX7_named_13 (by decide) (fun c_13 => ?_) (fun c_13 => False.elim (by omega))
  refine lv_aload_n hx hb dX7_named_18 rfl (lv_at hl 0 rfl) ?_
  refine lv_aload_n hx hb dX7_named_19 rfl (lv_at hl 0 rfl) ?_
  refine va_get (D := G.1) (ci := 4) (v := .ref mn) (C := RX7) (T := TX7) (N := 11) hx hb hts in_c_X7_named_X7 hown hK.1 hP 0 rfl rfl 3 (by decide) (hts (.fieldLink RX7 13 "FloorPanelsModel" "now" "[I") (by decide +kernel)) (fun _ h9 => h9) rfl dX7_named_20 ?_
  refine cWV (As := [.ref mn]) (rest := []) (st1 := []) (w3 := [(M, .inr (4, [.int (nI 0), .ref mt, .int (nI sz), .ref mn, .ref mtr, .ref md, .int (nI ac), .ref mk, .ref mik, .ref na, .ref so])), (mn, .inl (G.2 0, 131, .inl (mr n (nI g) sk mm))), (na, .inl (G.2 0, 16, .inl (nmA sk (kdm mm) g 0 n nf))), (so, .inl (G.2 0, 16, .inl (soA sk (kdm mm) g 0 n sf)))]) ⟨hx, hb, hml, hown, hts⟩ (c_X7_name l G M 0 mt sz mn mtr md ac mk mik na so mn n g sk mm nf sf (by first | omega | assumption) (by first | omega | assumption) (by first | omega | assumption)) (cwV 1 hts gX7_named_X7_name rfl rfl rfl (by decide +kernel) ⟨Nat.le_of_ble_eq_true rfl, Nat.le_of_ble_eq_true rfl⟩) (preV_of hK hP hD [0, 1, 2, 3] (by decide) rfl (ci := 4) (q0 := 0) rfl rfl rfl) rfl hl.1 rfl (lv_room (Nat.le_of_ble_eq_true rfl)) dX7_named_23 ⟨Nat.zero_le _, Nat.zero_le _⟩ hP hD hS [0, 1, 2, 3] (by decide) rfl rfl (rfl) rfl (fun H locs hP hD hS => ?_)
  refine lv_iload_n hx hb dX7_named_26 rfl (lv_at hl 2 rfl) ?_
  refine lv_istore_n (lv' := [(3, .int (nI k)), (0, .ref M), (1, .int nv), (2, .int (nI k))]) hx hb dX7_named_27 rfl hl (by decide) rfl (fun ls hl => ?_)
  refine lv_iconst (v := nI 0) hx hb dX7_named_28 (by decide) ?_
  refine lv_istore (lv' := [(4, .int (nI 0)), (3, .int (nI k)), (0, .ref M), (1, .int nv), (2, .int (nI k))]) hx hb dX7_named_29 hl (by decide) rfl (fun ls hl => ?_)
  have loop_31 : ∀ (k_ : Nat) (i : Nat) (q : Nat) (h_i : i ≤ n) (h_q : q ≤ k) (h_e : kth (fun x_ => ¬ f (16 + x_) = -1 ∧ f (16 + x_) = nv) n 0 k = kth (fun x_ => ¬ f (16 + x_) = -1 ∧ f (16 + x_) = nv) (n - i) i q) (_ : n - i < k_) (H : Heap) (locs : List Loc) (_ : VP G [(M, .inr (4, [.int (nI 0), .ref mt, .int (nI sz), .ref mn, .ref mtr, .ref md, .int (nI ac), .ref mk, .ref mik, .ref na, .ref so])), (mn, .inl (G.2 0, 131, .inl (mr n (nI g) sk mm))), (na, .inl (G.2 0, 16, .inl (nmA sk (kdm mm) g 0 n nf))), (so, .inl (G.2 0, 16, .inl (soA sk (kdm mm) g 0 n sf)))] H) (_ : va_D (vA [(M, .inr (4, [.int (nI rf), .ref mt, .int (nI sz), .ref mn, .ref mtr, .ref md, .int (nI ac), .ref mk, .ref mik, .ref na, .ref so])), (mn, .inl (G.2 0, 131, .inl (mr n (nI g) sk mm))), (na, .inl (G.2 0, 16, .inl nf)), (so, .inl (G.2 0, 16, .inl sf))]) [(M, .inr (4, [.int (nI 0), .ref mt, .int (nI sz), .ref mn, .ref mtr, .ref md, .int (nI ac), .ref mk, .ref mik, .ref na, .ref so])), (mn, .inl (G.2 0, 131, .inl (mr n (nI g) sk mm))), (na, .inl (G.2 0, 16, .inl (nmA sk (kdm mm) g 0 n nf))), (so, .inl (G.2 0, 16, .inl (soA sk (kdm mm) g 0 n sf)))]) (_ : va_S (vA [(M, .inr (4, [.int (nI rf), .ref mt, .int (nI sz), .ref mn, .ref mtr, .ref md, .int (nI ac), .ref mk, .ref mik, .ref na, .ref so])), (mn, .inl (G.2 0, 131, .inl (mr n (nI g) sk mm))), (na, .inl (G.2 0, 16, .inl nf)), (so, .inl (G.2 0, 16, .inl sf))]) s.heap H locs) (ls : Array Slot), lv_has ls 5 [(4, .int (nI i)), (3, .int (nI q)), (0, .ref M), (1, .int nv), (2, .int (nI k))] → W p l e ({ frames := 3, cells := 0, slots := 0, locals := 74 } : Room) s m ([.ref M, .int nv, .int (nI k)] : List Value).toArray below meth c H locs 0 0 (MQ below (QW G (some (.int (kth (fun x_ => ¬ f (16 + x_) = -1 ∧ f (16 + x_) = nv) n 0 k))) [(M, .inr (4, [.int (nI 0), .ref mt, .int (nI sz), .ref mn, .ref mtr, .ref md, .int (nI ac), .ref mk, .ref mik, .ref na, .ref so])), (mn, .inl (G.2 0, 131, .inl (mr n (nI g) sk mm))), (na, .inl (G.2 0, 16, .inl (nmA sk (kdm mm) g 0 n nf))), (so, .inl (G.2 0, 16, .inl (soA sk (kdm mm) g 0 n sf)))] (vA [(M, .inr (4, [.int (nI rf), .ref mt, .int (nI sz), .ref mn, .ref mtr, .ref md, .int (nI ac), .ref mk, .ref mik, .ref na, .ref so])), (mn, .inl (G.2 0, 131, .inl (mr n (nI g) sk mm))), (na, .inl (G.2 0, 16, .inl nf)), (so, .inl (G.2 0, 16, .inl sf))])) ([.ref M, .int nv, .int (nI k)] : List Value).toArray s 0 0 (vA [(M, .inr (4, [.int (nI rf), .ref mt, .int (nI sz), .ref mn, .ref mtr, .ref md, .int (nI ac), .ref mk, .ref mik, .ref na, .ref so])), (mn, .inl (G.2 0, 131, .inl (mr n (nI g) sk mm))), (na, .inl (G.2 0, 16, .inl nf)), (so, .inl (G.2 0, 16, .inl sf))])) (F0 m 31 ls []) := by
    intro k_
    induction k_ with
    | zero => intro i q h_i h_q h_e hk_; exact absurd hk_ (Nat.not_lt_zero _)
    | succ k_ ih_31 =>
      intro i q h_i h_q h_e hk_ H locs hP hD hS ls hl
      refine lv_iload hx hb dX7_named_31 (lv_at hl 0 rfl) ?_
      refine lv_aload_n hx hb dX7_named_33 rfl (lv_at hl 2 rfl) ?_
      refine va_get (D := G.1) (ci := 4) (v := .ref mn) (C := RX7) (T := TX7) (N := 11) hx hb hts in_c_X7_named_X7 hown hK.1 hP 0 rfl rfl 3 (by decide) (hts (.fieldLink RX7 13 "FloorPanelsModel" "now" "[I") (by decide +kernel)) (fun _ h9 => h9) rfl dX7_named_34 ?_
      refine lv_iconst (v := nI 0) hx hb dX7_named_37 (by decide) ?_
      refine nv_iald hx hb hK hP 1 rfl (by omega) (by decide) dX7_named_38 ?_
      rw [show (mr n (nI g) sk mm) 0 = nI n from mr_0]
      refine bi_ge (tgt := 74) hx hb dX7_named_39 (by decide) (nI_i (by omega)) (nI_i (by omega)) (fun c_39 => ?_) (fun c_39 => ?_)
      ·
        refine lv_iconst (v := (-1)) hx hb dX7_named_74 (by decide) ?_
        exact W_i hx hb hr hlk dX7_named_75 hP hS (by rw [h_e, show n - i = 0 by omega]; rfl) (rfl)
      ·
        refine lv_iload_n hx hb dX7_named_42 rfl (lv_at hl 3 rfl) ?_
        refine lv_iconst (v := (-1)) hx hb dX7_named_43 (by decide) ?_
        refine lv_icmp_eq (tgt := 68) hx hb dX7_named_44 (by decide) (fun c_44 => ?_) (fun c_44 => ?_)
        ·
          refine lv_iinc (v := nI (i + 1)) (lv' := [(4, .int (nI (i + 1))), (3, .int (nI q)), (0, .ref M), (1, .int nv), (2, .int (nI k))]) hx hb dX7_named_68 hl (k := 0) rfl (inc_n _ 1) (by decide) rfl (fun ls hl => ?_)
          refine lv_goto (tgt := 31) hx hb dX7_named_71 (by decide) ?_
          exact ih_31 (i + 1) q (by first | omega | assumption) (by first | omega | assumption) (by rw [h_e, show n - i = n - (i + 1) + 1 by omega]; first | exact kth_n (fun z_ => z_.1 (z_.2.trans (by assumption))) | exact kth_n (fun z_ => absurd z_.2 (by assumption)) | (rw [kth_s ⟨fun z_ => (show ¬ nv = -1 from by assumption) ((show f (16 + i) = nv from by assumption).symm.trans z_), by assumption⟩ (by omega)])) (by omega) _ _ hP hD hS ls (lv_sub hl [0, 1, 2, 3, 4] (by rfl))
        ·
          refine lv_aload_n hx hb dX7_named_47 rfl (lv_at hl 2 rfl) ?_
          refine va_get (D := G.1) (ci := 4) (v := .ref na) (C := RX7) (T := TX7) (N := 11) hx hb hts in_c_X7_named_X7 hown hK.1 hP 0 rfl rfl 9 (by decide) (hts (.fieldLink RX7 29 "FloorPanelsModel" "names" "[I") (by decide +kernel)) (fun _ h9 => h9) rfl dX7_named_48 ?_
          refine lv_iload hx hb dX7_named_51 (lv_at hl 0 rfl) ?_
          refine nv_iald hx hb hK hP 2 rfl (by omega) (by decide) dX7_named_53 ?_
          rw [show (nmA sk (kdm mm) g 0 n nf) i = (f (16 + i)) from h_R.nf (by omega)]
          refine lv_iload_n hx hb dX7_named_54 rfl (lv_at hl 3 rfl) ?_
          refine lv_icmp_ne (tgt := 68) hx hb dX7_named_55 (by decide) (fun c_55 => ?_) (fun c_55 => ?_)
          ·
            refine lv_iinc (v := nI (i + 1)) (lv' := [(4, .int (nI (i + 1))), (3, .int (nI q)), (0, .ref M), (1, .int nv), (2, .int (nI k))]) hx hb dX7_named_68 hl (k := 0) rfl (inc_n _ 1) (by decide) rfl (fun ls hl => ?_)
            refine lv_goto (tgt := 31) hx hb dX7_named_71 (by decide) ?_
            exact ih_31 (i + 1) q (by first | omega | assumption) (by first | omega | assumption) (by rw [h_e, show n - i = n - (i + 1) + 1 by omega]; first | exact kth_n (fun z_ => z_.1 (z_.2.trans (by assumption))) | exact kth_n (fun z_ => absurd z_.2 (by assumption)) | (rw [kth_s ⟨fun z_ => (show ¬ nv = -1 from by assumption) ((show f (16 + i) = nv from by assumption).symm.trans z_), by assumption⟩ (by omega)])) (by omega) _ _ hP hD hS ls (lv_sub hl [0, 1, 2, 3, 4] (by rfl))
          ·
            refine lv_iload_n hx hb dX7_named_58 rfl (lv_at hl 1 rfl) ?_
            refine b0_ne (tgt := 65) hx hb dX7_named_59 (by decide) (nI_i (by omega)) (fun c_59 => ?_) (fun c_59 => ?_)
            ·
              refine lv_iinc (v := nI (q - 1)) (lv' := [(3, .int (nI (q - 1))), (4, .int (nI i)), (0, .ref M), (1, .int nv), (2, .int (nI k))]) hx hb dX7_named_65 hl (k := 1) rfl (dec_n (by omega)) (by decide) rfl (fun ls hl => ?_)
              refine lv_iinc (v := nI (i + 1)) (lv' := [(4, .int (nI (i + 1))), (3, .int (nI (q - 1))), (0, .ref M), (1, .int nv), (2, .int (nI k))]) hx hb dX7_named_68 hl (k := 1) rfl (inc_n _ 1) (by decide) rfl (fun ls hl => ?_)
              refine lv_goto (tgt := 31) hx hb dX7_named_71 (by decide) ?_
              exact ih_31 (i + 1) (q - 1) (by first | omega | assumption) (by first | omega | assumption) (by rw [h_e, show n - i = n - (i + 1) + 1 by omega]; first | exact kth_n (fun z_ => z_.1 (z_.2.trans (by assumption))) | exact kth_n (fun z_ => absurd z_.2 (by assumption)) | (rw [kth_s ⟨fun z_ => (show ¬ nv = -1 from by assumption) ((show f (16 + i) = nv from by assumption).symm.trans z_), by assumption⟩ (by omega)])) (by omega) _ _ hP hD hS ls (lv_sub hl [0, 1, 2, 3, 4] (by rfl))
            ·
              refine lv_iload hx hb dX7_named_62 (lv_at hl 0 rfl) ?_
              exact W_i hx hb hr hlk dX7_named_64 hP hS (by rw [h_e, show n - i = n - (i + 1) + 1 by omega, show q = 0 by omega, kth_0 ⟨fun z_ => (show ¬ nv = -1 from by assumption) ((show f (16 + i) = nv from by assumption).symm.trans z_), by assumption⟩]) (rfl)
  exact loop_31 (n - 0 + 1) 0 k (by first | omega | assumption) (by first | omega | assumption) rfl (Nat.lt_succ_self _) _ _ hP hD hS ls (lv_sub hl [0, 1, 2, 3, 4] (by rfl))

set_option maxHeartbeats 4000000 in
set_option maxRecDepth 100000 in
theorem n_X7_named (l : Launch) (G : GG) (M : Nat) (rf : Nat) (mt : Nat) (sz : Nat) (mn : Nat) (mtr : Nat) (md : Nat) (ac : Nat) (mk : Nat) (mik : Nat) (na : Nat) (so : Nat) (n : Nat) (g : Nat) (sk : Int32) (mm : Nat → Int32) (nv : Int32) (y : Int32) (h_nok : y.toInt < 0) : Met l yX7_named wsX7_named ({ frames := 1, cells := 0, slots := 0, locals := 21 } : Room) (va_Pc [.ref M, .int nv, .int y] (PB G [(M, .inr (4, [.int (nI rf), .ref mt, .int (nI sz), .ref mn, .ref mtr, .ref md, .int (nI ac), .ref mk, .ref mik, .ref na, .ref so])), (mn, .inl (G.2 0, 131, .inl (mr n (nI g) sk mm)))])) (QW G (some (.int (nI 0))) [(M, .inr (4, [.int (nI 1), .ref mt, .int (nI sz), .ref mn, .ref mtr, .ref md, .int (nI ac), .ref mk, .ref mik, .ref na, .ref so])), (mn, .inl (G.2 0, 131, .inl (mr n (nI g) sk mm)))] (vA [(M, .inr (4, [.int (nI rf), .ref mt, .int (nI sz), .ref mn, .ref mtr, .ref md, .int (nI ac), .ref mk, .ref mik, .ref na, .ref so])), (mn, .inl (G.2 0, 131, .inl (mr n (nI g) sk mm)))])) 0 0 (vA [(M, .inr (4, [.int (nI rf), .ref mt, .int (nI sz), .ref mn, .ref mtr, .ref md, .int (nI ac), .ref mk, .ref mik, .ref na, .ref so])), (mn, .inl (G.2 0, 131, .inl (mr n (nI g) sk mm)))]) := by
  refine Met.go (cc := cX7_named) (maxL := 5) (ret := (some .int)) (by decide) rfl (Nat.le_of_ble_eq_true rfl) ?_
  intro p e s m below meth c ls hx hb hr hml hown hts hlk hP hK hD hS hl
  have hown : s.vm.findClass RX7 = some m.cls := hown
  have hl : lv_has ls 5 [(0, .ref M), (1, .int nv), (2, .int y)] := hl
  refine lv_aload_n hx hb dX7_named_0 rfl (lv_at hl 0 rfl) ?_
  refine lv_iload_n hx hb dX7_named_1 rfl (lv_at hl 2 rfl) ?_
  refine b0_lt (tgt := 9) hx hb dX7_named_2 (by decide) (toI_r _) (fun c_2 => ?_) (fun c_2 => False.elim (by omega))
  refine lv_iconst (v := nI 1) hx hb dX7_named_9 (by decide) ?_
  refine cWV (As := [.int (nI 1)]) (rest := []) (st1 := [.int (zb (0 < 1))]) (w3 := [(M, .inr (4, [.int (nI 1), .ref mt, .int (nI sz), .ref mn, .ref mtr, .ref md, .int (nI ac), .ref mk, .ref mik, .ref na, .ref so])), (mn, .inl (G.2 0, 131, .inl (mr n (nI g) sk mm)))]) ⟨hx, hb, hml, hown, hts⟩ (c_X7_refused l G M rf mt sz mn mtr md ac mk mik na so 1 (by first | omega | assumption)) (cwV 1 hts gX7_named_X7_refused rfl rfl rfl (by decide +kernel) ⟨Nat.le_of_ble_eq_true rfl, Nat.le_of_ble_eq_true rfl⟩) (preV_of hK hP hD [0] (by decide) rfl (ci := 4) (q0 := 0) rfl rfl rfl) rfl hl.1 rfl (lv_room (Nat.le_of_ble_eq_true rfl)) dX7_named_10 ⟨Nat.zero_le _, Nat.zero_le _⟩ hP hD hS [0] (by decide) rfl rfl (rfl) rfl (fun H locs hP hD hS => ?_)
  refine bb_eq (tgt := 18) hx hb dX7_named_13 (by decide) (fun c_13 => False.elim (by omega)) (fun c_13 => ?_)
  refine lv_iconst (v := nI 0) hx hb dX7_named_16 (by decide) ?_
  exact W_i hx hb hr hlk dX7_named_17 hP hS (rfl) (rfl)

