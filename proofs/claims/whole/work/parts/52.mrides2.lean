theorem in_c_X7_goes_X7 : ∀ w ∈ wsX70, w ∈ wsX7_goes := by decide +kernel
set_option maxHeartbeats 4000000 in
set_option maxRecDepth 100000 in
theorem c_X7_goes (l : Launch) (G : GG) (M : Nat) (rf : Nat) (mt : Nat) (sz : Nat) (mn : Nat) (mtr : Nat) (md : Nat) (ac : Nat) (mk : Nat) (mik : Nat) (na : Nat) (so : Nat) (n : Nat) (g : Nat) (sk : Int32) (mm : Nat → Int32) (nf : Nat → Int32) (sf : Nat → Int32) (f : Nat → Int32) (ca : Nat) (fr : Nat) (nv : Int32) (h_n : n ≤ 16) (h_n1 : 1 ≤ n) (h_g : g < n) (h_k : mm (3 + g) = 0) (h_R : MRel n sk g f mm) (h_ca : ca < 3) (h_fr : fr < n) : Met l yX7_goes wsX7_goes ({ frames := 3, cells := 0, slots := 0, locals := 74 } : Room) (va_Pc [.ref M, .int (nI ca), .int (nI fr), .int nv] (PB G [(M, .inr (4, [.int (nI rf), .ref mt, .int (nI sz), .ref mn, .ref mtr, .ref md, .int (nI ac), .ref mk, .ref mik, .ref na, .ref so])), (mn, .inl (G.2 0, 131, .inl (mr n (nI g) sk mm))), (na, .inl (G.2 0, 16, .inl nf)), (so, .inl (G.2 0, 16, .inl sf))])) (QW G (some (.int (dst f n ca fr nv))) [(M, .inr (4, [.int (nI 0), .ref mt, .int (nI sz), .ref mn, .ref mtr, .ref md, .int (nI ac), .ref mk, .ref mik, .ref na, .ref so])), (mn, .inl (G.2 0, 131, .inl (mr n (nI g) sk mm))), (na, .inl (G.2 0, 16, .inl (nmA sk (kdm mm) g 0 n nf))), (so, .inl (G.2 0, 16, .inl (soA sk (kdm mm) g 0 n sf)))] (vA [(M, .inr (4, [.int (nI rf), .ref mt, .int (nI sz), .ref mn, .ref mtr, .ref md, .int (nI ac), .ref mk, .ref mik, .ref na, .ref so])), (mn, .inl (G.2 0, 131, .inl (mr n (nI g) sk mm))), (na, .inl (G.2 0, 16, .inl nf)), (so, .inl (G.2 0, 16, .inl sf))])) 0 0 (vA [(M, .inr (4, [.int (nI rf), .ref mt, .int (nI sz), .ref mn, .ref mtr, .ref md, .int (nI ac), .ref mk, .ref mik, .ref na, .ref so])), (mn, .inl (G.2 0, 131, .inl (mr n (nI g) sk mm))), (na, .inl (G.2 0, 16, .inl nf)), (so, .inl (G.2 0, 16, .inl sf))]) := by
  refine Met.go (cc := cX7_goes) (maxL := 4) (ret := (some .int)) (by decide) rfl (Nat.le_of_ble_eq_true rfl) ?_
  intro p e s m below meth c ls hx hb hr hml hown hts hlk hP hK hD hS hl
  have hown : s.vm.findClass RX7 = some m.cls := hown
  have hl : lv_has ls 4 [(0, .ref M), (1, .int (nI ca)), (2, .int (nI fr)), (3, .int nv)] := hl
  refine lv_aload_n hx hb dX7_goes_0 rfl (lv_at hl 0 rfl) ?_
  refine lv_iload_n hx hb dX7_goes_1 rfl (lv_at hl 1 rfl) ?_
  refine cRS (As := [.int (nI ca)]) (rest := [.ref M]) (v := .int (zb (ca < 3))) ⟨hx, hb, hml, hown, hts⟩ (c_X7_isCar_n l G ca (by first | omega | assumption)) (va_cwS 1 hts gX7_goes_X7_isCar rfl rfl rfl (by decide +kernel) ⟨Nat.le_of_ble_eq_true rfl, Nat.le_of_ble_eq_true rfl⟩) (preS_of hK hP hD [] (by decide) rfl) rfl hl.1 rfl (lv_room (Nat.le_of_ble_eq_true rfl)) dX7_goes_2 ⟨Nat.zero_le _, Nat.zero_le _⟩ ?_
  refine bb_eq (tgt := 23) hx hb dX7_goes_5 (by decide) (fun c_5 => False.elim (by omega)) (fun c_5 => ?_)
  refine lv_aload_n hx hb dX7_goes_8 rfl (lv_at hl 0 rfl) ?_
  refine va_get (D := G.1) (ci := 4) (v := .ref mn) (C := RX7) (T := TX7) (N := 11) hx hb hts in_c_X7_goes_X7 hown hK.1 hP 0 rfl rfl 3 (by decide) (hts (.fieldLink RX7 13 "FloorPanelsModel" "now" "[I") (by decide +kernel)) (fun _ h9 => h9) rfl dX7_goes_9 ?_
  refine lv_iload_n hx hb dX7_goes_12 rfl (lv_at hl 2 rfl) ?_
  refine cRS (As := [.ref mn, .int (nI fr)]) (rest := [.ref M]) (v := .int (zb (fr < n))) ⟨hx, hb, hml, hown, hts⟩ (c_X7_isLevel_n l G mn n g sk mm fr (by first | omega | assumption) (by first | omega | assumption) (by first | omega | assumption)) (va_cwS 2 hts gX7_goes_X7_isLevel rfl rfl rfl (by decide +kernel) ⟨Nat.le_of_ble_eq_true rfl, Nat.le_of_ble_eq_true rfl⟩) (preS_of hK hP hD [1] (by decide) rfl) rfl hl.1 rfl (lv_room (Nat.le_of_ble_eq_true rfl)) dX7_goes_13 ⟨Nat.zero_le _, Nat.zero_le _⟩ ?_
  refine bb_eq (tgt := 23) hx hb dX7_goes_16 (by decide) (fun c_16 => False.elim (by omega)) (fun c_16 => ?_)
  refine lv_iconst (v := nI 0) hx hb dX7_goes_19 (by decide) ?_
  refine lv_goto (tgt := 24) hx hb dX7_goes_20 (by decide) ?_
  refine cWV (As := [.int (nI 0)]) (rest := []) (st1 := [.int (zb (0 < 0))]) (w3 := [(M, .inr (4, [.int (nI 0), .ref mt, .int (nI sz), .ref mn, .ref mtr, .ref md, .int (nI ac), .ref mk, .ref mik, .ref na, .ref so])), (mn, .inl (G.2 0, 131, .inl (mr n (nI g) sk mm))), (na, .inl (G.2 0, 16, .inl nf)), (so, .inl (G.2 0, 16, .inl sf))]) ⟨hx, hb, hml, hown, hts⟩ (c_X7_refused l G M rf mt sz mn mtr md ac mk mik na so 0 (by first | omega | assumption)) (cwV 1 hts gX7_goes_X7_refused rfl rfl rfl (by decide +kernel) ⟨Nat.le_of_ble_eq_true rfl, Nat.le_of_ble_eq_true rfl⟩) (preV_of hK hP hD [0] (by decide) rfl (ci := 4) (q0 := 0) rfl rfl rfl) rfl hl.1 rfl (lv_room (Nat.le_of_ble_eq_true rfl)) dX7_goes_24 ⟨Nat.zero_le _, Nat.zero_le _⟩ hP hD hS [0] (by decide) rfl rfl (rfl) rfl (fun H locs hP hD hS => ?_)
  refine bb_eq (tgt := 32) hx hb dX7_goes_27 (by decide) (fun c_27 => ?_) (fun c_27 => False.elim (by omega))
  refine lv_aload_n hx hb dX7_goes_32 rfl (lv_at hl 0 rfl) ?_
  refine lv_aload_n hx hb dX7_goes_33 rfl (lv_at hl 0 rfl) ?_
  refine va_get (D := G.1) (ci := 4) (v := .ref mn) (C := RX7) (T := TX7) (N := 11) hx hb hts in_c_X7_goes_X7 hown hK.1 hP 0 rfl rfl 3 (by decide) (hts (.fieldLink RX7 13 "FloorPanelsModel" "now" "[I") (by decide +kernel)) (fun _ h9 => h9) rfl dX7_goes_34 ?_
  refine cWV (As := [.ref mn]) (rest := []) (st1 := []) (w3 := [(M, .inr (4, [.int (nI 0), .ref mt, .int (nI sz), .ref mn, .ref mtr, .ref md, .int (nI ac), .ref mk, .ref mik, .ref na, .ref so])), (mn, .inl (G.2 0, 131, .inl (mr n (nI g) sk mm))), (na, .inl (G.2 0, 16, .inl (nmA sk (kdm mm) g 0 n nf))), (so, .inl (G.2 0, 16, .inl (soA sk (kdm mm) g 0 n sf)))]) ⟨hx, hb, hml, hown, hts⟩ (c_X7_name l G M 0 mt sz mn mtr md ac mk mik na so mn n g sk mm nf sf (by first | omega | assumption) (by first | omega | assumption) (by first | omega | assumption)) (cwV 1 hts gX7_goes_X7_name rfl rfl rfl (by decide +kernel) ⟨Nat.le_of_ble_eq_true rfl, Nat.le_of_ble_eq_true rfl⟩) (preV_of hK hP hD [0, 1, 2, 3] (by decide) rfl (ci := 4) (q0 := 0) rfl rfl rfl) rfl hl.1 rfl (lv_room (Nat.le_of_ble_eq_true rfl)) dX7_goes_37 ⟨Nat.zero_le _, Nat.zero_le _⟩ hP hD hS [0, 1, 2, 3] (by decide) rfl rfl (rfl) rfl (fun H locs hP hD hS => ?_)
  refine lv_aload_n hx hb dX7_goes_40 rfl (lv_at hl 0 rfl) ?_
  refine lv_iload_n hx hb dX7_goes_41 rfl (lv_at hl 1 rfl) ?_
  refine lv_iload_n hx hb dX7_goes_42 rfl (lv_at hl 2 rfl) ?_
  refine lv_iload_n hx hb dX7_goes_43 rfl (lv_at hl 3 rfl) ?_
  refine cRV (As := [.int (nI ca), .int (nI fr), .int nv]) (rest := []) (v := .int (dst f n ca fr nv)) ⟨hx, hb, hml, hown, hts⟩ (c_X7_ride l G M 0 mt sz mn mtr md ac mk mik na so n g sk mm (nmA sk (kdm mm) g 0 n nf) f ca fr nv (by first | omega | assumption) (by first | omega | assumption) (fun x_ hx_ => h_R.nf hx_) (by first | omega | assumption) (by first | omega | assumption)) (cwV 3 hts gX7_goes_X7_ride rfl rfl rfl (by decide +kernel) ⟨Nat.le_of_ble_eq_true rfl, Nat.le_of_ble_eq_true rfl⟩) (preV_of hK hP hD [0, 1, 2] (by decide) rfl (ci := 4) (q0 := 0) rfl rfl rfl) rfl hl.1 rfl (lv_room (Nat.le_of_ble_eq_true rfl)) dX7_goes_44 ⟨Nat.zero_le _, Nat.zero_le _⟩ ?_
  exact W_i hx hb hr hlk dX7_goes_47 hP hS (rfl) (rfl)

set_option maxHeartbeats 4000000 in
set_option maxRecDepth 100000 in
theorem n_X7_goes_c (l : Launch) (G : GG) (M : Nat) (rf : Nat) (mt : Nat) (sz : Nat) (mn : Nat) (mtr : Nat) (md : Nat) (ac : Nat) (mk : Nat) (mik : Nat) (na : Nat) (so : Nat) (n : Nat) (g : Nat) (sk : Int32) (mm : Nat → Int32) (y : Int32) (z : Int32) (w : Int32) (h_noc : ¬ (0 ≤ y.toInt ∧ y.toInt < 3)) : Met l yX7_goes wsX7_goes ({ frames := 2, cells := 0, slots := 0, locals := 45 } : Room) (va_Pc [.ref M, .int y, .int z, .int w] (PB G [(M, .inr (4, [.int (nI rf), .ref mt, .int (nI sz), .ref mn, .ref mtr, .ref md, .int (nI ac), .ref mk, .ref mik, .ref na, .ref so])), (mn, .inl (G.2 0, 131, .inl (mr n (nI g) sk mm)))])) (QW G (some (.int (nI 0))) [(M, .inr (4, [.int (nI 1), .ref mt, .int (nI sz), .ref mn, .ref mtr, .ref md, .int (nI ac), .ref mk, .ref mik, .ref na, .ref so])), (mn, .inl (G.2 0, 131, .inl (mr n (nI g) sk mm)))] (vA [(M, .inr (4, [.int (nI rf), .ref mt, .int (nI sz), .ref mn, .ref mtr, .ref md, .int (nI ac), .ref mk, .ref mik, .ref na, .ref so])), (mn, .inl (G.2 0, 131, .inl (mr n (nI g) sk mm)))])) 0 0 (vA [(M, .inr (4, [.int (nI rf), .ref mt, .int (nI sz), .ref mn, .ref mtr, .ref md, .int (nI ac), .ref mk, .ref mik, .ref na, .ref so])), (mn, .inl (G.2 0, 131, .inl (mr n (nI g) sk mm)))]) := by
  refine Met.go (cc := cX7_goes) (maxL := 4) (ret := (some .int)) (by decide) rfl (Nat.le_of_ble_eq_true rfl) ?_
  intro p e s m below meth c ls hx hb hr hml hown hts hlk hP hK hD hS hl
  have hown : s.vm.findClass RX7 = some m.cls := hown
  have hl : lv_has ls 4 [(0, .ref M), (1, .int y), (2, .int z), (3, .int w)] := hl
  refine lv_aload_n hx hb dX7_goes_0 rfl (lv_at hl 0 rfl) ?_
  refine lv_iload_n hx hb dX7_goes_1 rfl (lv_at hl 1 rfl) ?_
  refine cRS (As := [.int y]) (rest := [.ref M]) (v := .int (zb (0 ≤ y.toInt ∧ y.toInt < 3))) ⟨hx, hb, hml, hown, hts⟩ (c_X7_isCar l G y ) (va_cwS 1 hts gX7_goes_X7_isCar rfl rfl rfl (by decide +kernel) ⟨Nat.le_of_ble_eq_true rfl, Nat.le_of_ble_eq_true rfl⟩) (preS_of hK hP hD [] (by decide) rfl) rfl hl.1 rfl (lv_room (Nat.le_of_ble_eq_true rfl)) dX7_goes_2 ⟨Nat.zero_le _, Nat.zero_le _⟩ ?_
  refine bb_eq (tgt := 23) hx hb dX7_goes_5 (by decide) (fun c_5 => ?_) (fun c_5 => False.elim (by omega))
  refine lv_iconst (v := nI 1) hx hb dX7_goes_23 (by decide) ?_
  refine cWV (As := [.int (nI 1)]) (rest := []) (st1 := [.int (zb (0 < 1))]) (w3 := [(M, .inr (4, [.int (nI 1), .ref mt, .int (nI sz), .ref mn, .ref mtr, .ref md, .int (nI ac), .ref mk, .ref mik, .ref na, .ref so])), (mn, .inl (G.2 0, 131, .inl (mr n (nI g) sk mm)))]) ⟨hx, hb, hml, hown, hts⟩ (c_X7_refused l G M rf mt sz mn mtr md ac mk mik na so 1 (by first | omega | assumption)) (cwV 1 hts gX7_goes_X7_refused rfl rfl rfl (by decide +kernel) ⟨Nat.le_of_ble_eq_true rfl, Nat.le_of_ble_eq_true rfl⟩) (preV_of hK hP hD [0] (by decide) rfl (ci := 4) (q0 := 0) rfl rfl rfl) rfl hl.1 rfl (lv_room (Nat.le_of_ble_eq_true rfl)) dX7_goes_24 ⟨Nat.zero_le _, Nat.zero_le _⟩ hP hD hS [0] (by decide) rfl rfl (rfl) rfl (fun H locs hP hD hS => ?_)
  refine bb_eq (tgt := 32) hx hb dX7_goes_27 (by decide) (fun c_27 => False.elim (by omega)) (fun c_27 => ?_)
  refine lv_iconst (v := nI 0) hx hb dX7_goes_30 (by decide) ?_
  exact W_i hx hb hr hlk dX7_goes_31 hP hS (rfl) (rfl)

theorem in_n_X7_goes_l_X7 : ∀ w ∈ wsX70, w ∈ wsX7_goes := by decide +kernel
set_option maxHeartbeats 4000000 in
set_option maxRecDepth 100000 in
theorem n_X7_goes_l (l : Launch) (G : GG) (M : Nat) (rf : Nat) (mt : Nat) (sz : Nat) (mn : Nat) (mtr : Nat) (md : Nat) (ac : Nat) (mk : Nat) (mik : Nat) (na : Nat) (so : Nat) (n : Nat) (g : Nat) (sk : Int32) (mm : Nat → Int32) (ca : Nat) (z : Int32) (w : Int32) (h_n : n ≤ 16) (h_n1 : 1 ≤ n) (h_ca : ca < 3) (h_nol : ¬ (0 ≤ z.toInt ∧ z.toInt < (n : Int))) : Met l yX7_goes wsX7_goes ({ frames := 2, cells := 0, slots := 0, locals := 46 } : Room) (va_Pc [.ref M, .int (nI ca), .int z, .int w] (PB G [(M, .inr (4, [.int (nI rf), .ref mt, .int (nI sz), .ref mn, .ref mtr, .ref md, .int (nI ac), .ref mk, .ref mik, .ref na, .ref so])), (mn, .inl (G.2 0, 131, .inl (mr n (nI g) sk mm)))])) (QW G (some (.int (nI 0))) [(M, .inr (4, [.int (nI 1), .ref mt, .int (nI sz), .ref mn, .ref mtr, .ref md, .int (nI ac), .ref mk, .ref mik, .ref na, .ref so])), (mn, .inl (G.2 0, 131, .inl (mr n (nI g) sk mm)))] (vA [(M, .inr (4, [.int (nI rf), .ref mt, .int (nI sz), .ref mn, .ref mtr, .ref md, .int (nI ac), .ref mk, .ref mik, .ref na, .ref so])), (mn, .inl (G.2 0, 131, .inl (mr n (nI g) sk mm)))])) 0 0 (vA [(M, .inr (4, [.int (nI rf), .ref mt, .int (nI sz), .ref mn, .ref mtr, .ref md, .int (nI ac), .ref mk, .ref mik, .ref na, .ref so])), (mn, .inl (G.2 0, 131, .inl (mr n (nI g) sk mm)))]) := by
  refine Met.go (cc := cX7_goes) (maxL := 4) (ret := (some .int)) (by decide) rfl (Nat.le_of_ble_eq_true rfl) ?_
  intro p e s m below meth c ls hx hb hr hml hown hts hlk hP hK hD hS hl
  have hown : s.vm.findClass RX7 = some m.cls := hown
  have hl : lv_has ls 4 [(0, .ref M), (1, .int (nI ca)), (2, .int z), (3, .int w)] := hl
  refine lv_aload_n hx hb dX7_goes_0 rfl (lv_at hl 0 rfl) ?_
  refine lv_iload_n hx hb dX7_goes_1 rfl (lv_at hl 1 rfl) ?_
  refine cRS (As := [.int (nI ca)]) (rest := [.ref M]) (v := .int (zb (ca < 3))) ⟨hx, hb, hml, hown, hts⟩ (c_X7_isCar_n l G ca (by first | omega | assumption)) (va_cwS 1 hts gX7_goes_X7_isCar rfl rfl rfl (by decide +kernel) ⟨Nat.le_of_ble_eq_true rfl, Nat.le_of_ble_eq_true rfl⟩) (preS_of hK hP hD [] (by decide) rfl) rfl hl.1 rfl (lv_room (Nat.le_of_ble_eq_true rfl)) dX7_goes_2 ⟨Nat.zero_le _, Nat.zero_le _⟩ ?_
  refine bb_eq (tgt := 23) hx hb dX7_goes_5 (by decide) (fun c_5 => False.elim (by omega)) (fun c_5 => ?_)
  refine lv_aload_n hx hb dX7_goes_8 rfl (lv_at hl 0 rfl) ?_
  refine va_get (D := G.1) (ci := 4) (v := .ref mn) (C := RX7) (T := TX7) (N := 11) hx hb hts in_n_X7_goes_l_X7 hown hK.1 hP 0 rfl rfl 3 (by decide) (hts (.fieldLink RX7 13 "FloorPanelsModel" "now" "[I") (by decide +kernel)) (fun _ h9 => h9) rfl dX7_goes_9 ?_
  refine lv_iload_n hx hb dX7_goes_12 rfl (lv_at hl 2 rfl) ?_
  refine cRS (As := [.ref mn, .int z]) (rest := [.ref M]) (v := .int (zb (0 ≤ z.toInt ∧ z.toInt < (n : Int)))) ⟨hx, hb, hml, hown, hts⟩ (c_X7_isLevel l G mn n g sk mm z (by first | omega | assumption) (by first | omega | assumption)) (va_cwS 2 hts gX7_goes_X7_isLevel rfl rfl rfl (by decide +kernel) ⟨Nat.le_of_ble_eq_true rfl, Nat.le_of_ble_eq_true rfl⟩) (preS_of hK hP hD [1] (by decide) rfl) rfl hl.1 rfl (lv_room (Nat.le_of_ble_eq_true rfl)) dX7_goes_13 ⟨Nat.zero_le _, Nat.zero_le _⟩ ?_
  refine bb_eq (tgt := 23) hx hb dX7_goes_16 (by decide) (fun c_16 => ?_) (fun c_16 => False.elim (by omega))
  refine lv_iconst (v := nI 1) hx hb dX7_goes_23 (by decide) ?_
  refine cWV (As := [.int (nI 1)]) (rest := []) (st1 := [.int (zb (0 < 1))]) (w3 := [(M, .inr (4, [.int (nI 1), .ref mt, .int (nI sz), .ref mn, .ref mtr, .ref md, .int (nI ac), .ref mk, .ref mik, .ref na, .ref so])), (mn, .inl (G.2 0, 131, .inl (mr n (nI g) sk mm)))]) ⟨hx, hb, hml, hown, hts⟩ (c_X7_refused l G M rf mt sz mn mtr md ac mk mik na so 1 (by first | omega | assumption)) (cwV 1 hts gX7_goes_X7_refused rfl rfl rfl (by decide +kernel) ⟨Nat.le_of_ble_eq_true rfl, Nat.le_of_ble_eq_true rfl⟩) (preV_of hK hP hD [0] (by decide) rfl (ci := 4) (q0 := 0) rfl rfl rfl) rfl hl.1 rfl (lv_room (Nat.le_of_ble_eq_true rfl)) dX7_goes_24 ⟨Nat.zero_le _, Nat.zero_le _⟩ hP hD hS [0] (by decide) rfl rfl (rfl) rfl (fun H locs hP hD hS => ?_)
  refine bb_eq (tgt := 32) hx hb dX7_goes_27 (by decide) (fun c_27 => False.elim (by omega)) (fun c_27 => ?_)
  refine lv_iconst (v := nI 0) hx hb dX7_goes_30 (by decide) ?_
  exact W_i hx hb hr hlk dX7_goes_31 hP hS (rfl) (rfl)

theorem in_c_X7_astray_X7 : ∀ w ∈ wsX70, w ∈ wsX7_astray := by decide +kernel
set_option maxHeartbeats 4000000 in
set_option maxRecDepth 100000 in
theorem c_X7_astray (l : Launch) (G : GG) (M : Nat) (rf : Nat) (mt : Nat) (sz : Nat) (mn : Nat) (mtr : Nat) (md : Nat) (ac : Nat) (mk : Nat) (mik : Nat) (na : Nat) (so : Nat) (n : Nat) (g : Nat) (sk : Int32) (mm : Nat → Int32) (nf : Nat → Int32) (sf : Nat → Int32) (f : Nat → Int32) (ca : Nat) (h_n : n ≤ 16) (h_n1 : 1 ≤ n) (h_g : g < n) (h_k : mm (3 + g) = 0) (h_R : MRel n sk g f mm) (h_ca : ca < 3) : Met l yX7_astray wsX7_astray ({ frames := 4, cells := 0, slots := 0, locals := 92 } : Room) (va_Pc [.ref M, .int (nI ca)] (PB G [(M, .inr (4, [.int (nI rf), .ref mt, .int (nI sz), .ref mn, .ref mtr, .ref md, .int (nI ac), .ref mk, .ref mik, .ref na, .ref so])), (mn, .inl (G.2 0, 131, .inl (mr n (nI g) sk mm))), (na, .inl (G.2 0, 16, .inl nf)), (so, .inl (G.2 0, 16, .inl sf))])) (QW G (some (.int (nI (ast f n ca n)))) [(M, .inr (4, [.int (nI 0), .ref mt, .int (nI sz), .ref mn, .ref mtr, .ref md, .int (nI ac), .ref mk, .ref mik, .ref na, .ref so])), (mn, .inl (G.2 0, 131, .inl (mr n (nI g) sk mm))), (na, .inl (G.2 0, 16, .inl (nmA sk (kdm mm) g 0 n nf))), (so, .inl (G.2 0, 16, .inl (soA sk (kdm mm) g 0 n sf)))] (vA [(M, .inr (4, [.int (nI rf), .ref mt, .int (nI sz), .ref mn, .ref mtr, .ref md, .int (nI ac), .ref mk, .ref mik, .ref na, .ref so])), (mn, .inl (G.2 0, 131, .inl (mr n (nI g) sk mm))), (na, .inl (G.2 0, 16, .inl nf)), (so, .inl (G.2 0, 16, .inl sf))])) 0 0 (vA [(M, .inr (4, [.int (nI rf), .ref mt, .int (nI sz), .ref mn, .ref mtr, .ref md, .int (nI ac), .ref mk, .ref mik, .ref na, .ref so])), (mn, .inl (G.2 0, 131, .inl (mr n (nI g) sk mm))), (na, .inl (G.2 0, 16, .inl nf)), (so, .inl (G.2 0, 16, .inl sf))]) := by
  refine Met.go (cc := cX7_astray) (maxL := 2) (ret := (some .int)) (by decide) rfl (Nat.le_of_ble_eq_true rfl) ?_
  intro p e s m below meth c ls hx hb hr hml hown hts hlk hP hK hD hS hl
  have hown : s.vm.findClass RX7 = some m.cls := hown
  have hl : lv_has ls 2 [(0, .ref M), (1, .int (nI ca))] := hl
  refine lv_aload_n hx hb dX7_astray_0 rfl (lv_at hl 0 rfl) ?_
  refine lv_iload_n hx hb dX7_astray_1 rfl (lv_at hl 1 rfl) ?_
  refine cRS (As := [.int (nI ca)]) (rest := [.ref M]) (v := .int (zb (ca < 3))) ⟨hx, hb, hml, hown, hts⟩ (c_X7_isCar_n l G ca (by first | omega | assumption)) (va_cwS 1 hts gX7_astray_X7_isCar rfl rfl rfl (by decide +kernel) ⟨Nat.le_of_ble_eq_true rfl, Nat.le_of_ble_eq_true rfl⟩) (preS_of hK hP hD [] (by decide) rfl) rfl hl.1 rfl (lv_room (Nat.le_of_ble_eq_true rfl)) dX7_astray_2 ⟨Nat.zero_le _, Nat.zero_le _⟩ ?_
  refine bb_eq (tgt := 12) hx hb dX7_astray_5 (by decide) (fun c_5 => False.elim (by omega)) (fun c_5 => ?_)
  refine lv_iconst (v := nI 0) hx hb dX7_astray_8 (by decide) ?_
  refine lv_goto (tgt := 13) hx hb dX7_astray_9 (by decide) ?_
  refine cWV (As := [.int (nI 0)]) (rest := []) (st1 := [.int (zb (0 < 0))]) (w3 := [(M, .inr (4, [.int (nI 0), .ref mt, .int (nI sz), .ref mn, .ref mtr, .ref md, .int (nI ac), .ref mk, .ref mik, .ref na, .ref so])), (mn, .inl (G.2 0, 131, .inl (mr n (nI g) sk mm))), (na, .inl (G.2 0, 16, .inl nf)), (so, .inl (G.2 0, 16, .inl sf))]) ⟨hx, hb, hml, hown, hts⟩ (c_X7_refused l G M rf mt sz mn mtr md ac mk mik na so 0 (by first | omega | assumption)) (cwV 1 hts gX7_astray_X7_refused rfl rfl rfl (by decide +kernel) ⟨Nat.le_of_ble_eq_true rfl, Nat.le_of_ble_eq_true rfl⟩) (preV_of hK hP hD [0] (by decide) rfl (ci := 4) (q0 := 0) rfl rfl rfl) rfl hl.1 rfl (lv_room (Nat.le_of_ble_eq_true rfl)) dX7_astray_13 ⟨Nat.zero_le _, Nat.zero_le _⟩ hP hD hS [0] (by decide) rfl rfl (rfl) rfl (fun H locs hP hD hS => ?_)
  refine bb_eq (tgt := 21) hx hb dX7_astray_16 (by decide) (fun c_16 => ?_) (fun c_16 => False.elim (by omega))
  refine lv_aload_n hx hb dX7_astray_21 rfl (lv_at hl 0 rfl) ?_
  refine lv_aload_n hx hb dX7_astray_22 rfl (lv_at hl 0 rfl) ?_
  refine va_get (D := G.1) (ci := 4) (v := .ref mn) (C := RX7) (T := TX7) (N := 11) hx hb hts in_c_X7_astray_X7 hown hK.1 hP 0 rfl rfl 3 (by decide) (hts (.fieldLink RX7 13 "FloorPanelsModel" "now" "[I") (by decide +kernel)) (fun _ h9 => h9) rfl dX7_astray_23 ?_
  refine cWV (As := [.ref mn]) (rest := []) (st1 := []) (w3 := [(M, .inr (4, [.int (nI 0), .ref mt, .int (nI sz), .ref mn, .ref mtr, .ref md, .int (nI ac), .ref mk, .ref mik, .ref na, .ref so])), (mn, .inl (G.2 0, 131, .inl (mr n (nI g) sk mm))), (na, .inl (G.2 0, 16, .inl (nmA sk (kdm mm) g 0 n nf))), (so, .inl (G.2 0, 16, .inl (soA sk (kdm mm) g 0 n sf)))]) ⟨hx, hb, hml, hown, hts⟩ (c_X7_name l G M 0 mt sz mn mtr md ac mk mik na so mn n g sk mm nf sf (by first | omega | assumption) (by first | omega | assumption) (by first | omega | assumption)) (cwV 1 hts gX7_astray_X7_name rfl rfl rfl (by decide +kernel) ⟨Nat.le_of_ble_eq_true rfl, Nat.le_of_ble_eq_true rfl⟩) (preV_of hK hP hD [0, 1, 2, 3] (by decide) rfl (ci := 4) (q0 := 0) rfl rfl rfl) rfl hl.1 rfl (lv_room (Nat.le_of_ble_eq_true rfl)) dX7_astray_26 ⟨Nat.zero_le _, Nat.zero_le _⟩ hP hD hS [0, 1, 2, 3] (by decide) rfl rfl (rfl) rfl (fun H locs hP hD hS => ?_)
  refine lv_aload_n hx hb dX7_astray_29 rfl (lv_at hl 0 rfl) ?_
  refine lv_iload_n hx hb dX7_astray_30 rfl (lv_at hl 1 rfl) ?_
  refine cRV (As := [.int (nI ca)]) (rest := []) (v := .int (nI (ast f n ca n))) ⟨hx, hb, hml, hown, hts⟩ (c_X7_strays l G M 0 mt sz mn mtr md ac mk mik na so n g sk mm (nmA sk (kdm mm) g 0 n nf) f ca (by first | omega | assumption) (by first | omega | assumption) (fun x_ hx_ => h_R.nf hx_) (by first | omega | assumption)) (cwV 1 hts gX7_astray_X7_strays rfl rfl rfl (by decide +kernel) ⟨Nat.le_of_ble_eq_true rfl, Nat.le_of_ble_eq_true rfl⟩) (preV_of hK hP hD [0, 1, 2] (by decide) rfl (ci := 4) (q0 := 0) rfl rfl rfl) rfl hl.1 rfl (lv_room (Nat.le_of_ble_eq_true rfl)) dX7_astray_31 ⟨Nat.zero_le _, Nat.zero_le _⟩ ?_
  exact W_i hx hb hr hlk dX7_astray_34 hP hS (rfl) (rfl)

set_option maxHeartbeats 4000000 in
set_option maxRecDepth 100000 in
theorem n_X7_astray_c (l : Launch) (G : GG) (M : Nat) (rf : Nat) (mt : Nat) (sz : Nat) (mn : Nat) (mtr : Nat) (md : Nat) (ac : Nat) (mk : Nat) (mik : Nat) (na : Nat) (so : Nat) (n : Nat) (g : Nat) (sk : Int32) (mm : Nat → Int32) (y : Int32) (h_noc : ¬ (0 ≤ y.toInt ∧ y.toInt < 3)) : Met l yX7_astray wsX7_astray ({ frames := 2, cells := 0, slots := 0, locals := 45 } : Room) (va_Pc [.ref M, .int y] (PB G [(M, .inr (4, [.int (nI rf), .ref mt, .int (nI sz), .ref mn, .ref mtr, .ref md, .int (nI ac), .ref mk, .ref mik, .ref na, .ref so])), (mn, .inl (G.2 0, 131, .inl (mr n (nI g) sk mm)))])) (QW G (some (.int (nI 0))) [(M, .inr (4, [.int (nI 1), .ref mt, .int (nI sz), .ref mn, .ref mtr, .ref md, .int (nI ac), .ref mk, .ref mik, .ref na, .ref so])), (mn, .inl (G.2 0, 131, .inl (mr n (nI g) sk mm)))] (vA [(M, .inr (4, [.int (nI rf), .ref mt, .int (nI sz), .ref mn, .ref mtr, .ref md, .int (nI ac), .ref mk, .ref mik, .ref na, .ref so])), (mn, .inl (G.2 0, 131, .inl (mr n (nI g) sk mm)))])) 0 0 (vA [(M, .inr (4, [.int (nI rf), .ref mt, .int (nI sz), .ref mn, .ref mtr, .ref md, .int (nI ac), .ref mk, .ref mik, .ref na, .ref so])), (mn, .inl (G.2 0, 131, .inl (mr n (nI g) sk mm)))]) := by
  refine Met.go (cc := cX7_astray) (maxL := 2) (ret := (some .int)) (by decide) rfl (Nat.le_of_ble_eq_true rfl) ?_
  intro p e s m below meth c ls hx hb hr hml hown hts hlk hP hK hD hS hl
  have hown : s.vm.findClass RX7 = some m.cls := hown
  have hl : lv_has ls 2 [(0, .ref M), (1, .int y)] := hl
  refine lv_aload_n hx hb dX7_astray_0 rfl (lv_at hl 0 rfl) ?_
  refine lv_iload_n hx hb dX7_astray_1 rfl (lv_at hl 1 rfl) ?_
  refine cRS (As := [.int y]) (rest := [.ref M]) (v := .int (zb (0 ≤ y.toInt ∧ y.toInt < 3))) ⟨hx, hb, hml, hown, hts⟩ (c_X7_isCar l G y ) (va_cwS 1 hts gX7_astray_X7_isCar rfl rfl rfl (by decide +kernel) ⟨Nat.le_of_ble_eq_true rfl, Nat.le_of_ble_eq_true rfl⟩) (preS_of hK hP hD [] (by decide) rfl) rfl hl.1 rfl (lv_room (Nat.le_of_ble_eq_true rfl)) dX7_astray_2 ⟨Nat.zero_le _, Nat.zero_le _⟩ ?_
  refine bb_eq (tgt := 12) hx hb dX7_astray_5 (by decide) (fun c_5 => ?_) (fun c_5 => False.elim (by omega))
  refine lv_iconst (v := nI 1) hx hb dX7_astray_12 (by decide) ?_
  refine cWV (As := [.int (nI 1)]) (rest := []) (st1 := [.int (zb (0 < 1))]) (w3 := [(M, .inr (4, [.int (nI 1), .ref mt, .int (nI sz), .ref mn, .ref mtr, .ref md, .int (nI ac), .ref mk, .ref mik, .ref na, .ref so])), (mn, .inl (G.2 0, 131, .inl (mr n (nI g) sk mm)))]) ⟨hx, hb, hml, hown, hts⟩ (c_X7_refused l G M rf mt sz mn mtr md ac mk mik na so 1 (by first | omega | assumption)) (cwV 1 hts gX7_astray_X7_refused rfl rfl rfl (by decide +kernel) ⟨Nat.le_of_ble_eq_true rfl, Nat.le_of_ble_eq_true rfl⟩) (preV_of hK hP hD [0] (by decide) rfl (ci := 4) (q0 := 0) rfl rfl rfl) rfl hl.1 rfl (lv_room (Nat.le_of_ble_eq_true rfl)) dX7_astray_13 ⟨Nat.zero_le _, Nat.zero_le _⟩ hP hD hS [0] (by decide) rfl rfl (rfl) rfl (fun H locs hP hD hS => ?_)
  refine bb_eq (tgt := 21) hx hb dX7_astray_16 (by decide) (fun c_16 => False.elim (by omega)) (fun c_16 => ?_)
  refine lv_iconst (v := nI 0) hx hb dX7_astray_19 (by decide) ?_
  exact W_i hx hb hr hlk dX7_astray_20 hP hS (rfl) (rfl)

theorem in_c_X7_worst_X7 : ∀ w ∈ wsX70, w ∈ wsX7_worst := by decide +kernel
set_option maxHeartbeats 4000000 in
set_option maxRecDepth 100000 in
theorem c_X7_worst (l : Launch) (G : GG) (M : Nat) (rf : Nat) (mt : Nat) (sz : Nat) (mn : Nat) (mtr : Nat) (md : Nat) (ac : Nat) (mk : Nat) (mik : Nat) (na : Nat) (so : Nat) (n : Nat) (g : Nat) (sk : Int32) (mm : Nat → Int32) (nf : Nat → Int32) (sf : Nat → Int32) (f : Nat → Int32) (h_n : n ≤ 16) (h_n1 : 1 ≤ n) (h_g : g < n) (h_k : mm (3 + g) = 0) (h_R : MRel n sk g f mm) : Met l yX7_worst wsX7_worst ({ frames := 4, cells := 0, slots := 0, locals := 92 } : Room) (va_Pc [.ref M] (PB G [(M, .inr (4, [.int (nI rf), .ref mt, .int (nI sz), .ref mn, .ref mtr, .ref md, .int (nI ac), .ref mk, .ref mik, .ref na, .ref so])), (mn, .inl (G.2 0, 131, .inl (mr n (nI g) sk mm))), (na, .inl (G.2 0, 16, .inl nf)), (so, .inl (G.2 0, 16, .inl sf))])) (QW G (some (.int (nI (wst (ast f n 0 n) (ast f n 1 n) (ast f n 2 n))))) [(M, .inr (4, [.int (nI 0), .ref mt, .int (nI sz), .ref mn, .ref mtr, .ref md, .int (nI ac), .ref mk, .ref mik, .ref na, .ref so])), (mn, .inl (G.2 0, 131, .inl (mr n (nI g) sk mm))), (na, .inl (G.2 0, 16, .inl (nmA sk (kdm mm) g 0 n nf))), (so, .inl (G.2 0, 16, .inl (soA sk (kdm mm) g 0 n sf)))] (vA [(M, .inr (4, [.int (nI rf), .ref mt, .int (nI sz), .ref mn, .ref mtr, .ref md, .int (nI ac), .ref mk, .ref mik, .ref na, .ref so])), (mn, .inl (G.2 0, 131, .inl (mr n (nI g) sk mm))), (na, .inl (G.2 0, 16, .inl nf)), (so, .inl (G.2 0, 16, .inl sf))])) 0 0 (vA [(M, .inr (4, [.int (nI rf), .ref mt, .int (nI sz), .ref mn, .ref mtr, .ref md, .int (nI ac), .ref mk, .ref mik, .ref na, .ref so])), (mn, .inl (G.2 0, 131, .inl (mr n (nI g) sk mm))), (na, .inl (G.2 0, 16, .inl nf)), (so, .inl (G.2 0, 16, .inl sf))]) := by
  refine Met.go (cc := cX7_worst) (maxL := 3) (ret := (some .int)) (by decide) rfl (Nat.le_of_ble_eq_true rfl) ?_
  intro p e s m below meth c ls hx hb hr hml hown hts hlk hP hK hD hS hl
  have hown : s.vm.findClass RX7 = some m.cls := hown
  have hl : lv_has ls 3 [(0, .ref M)] := hl
  refine lv_aload_n hx hb dX7_worst_0 rfl (lv_at hl 0 rfl) ?_
  refine lv_iconst (v := nI 0) hx hb dX7_worst_1 (by decide) ?_
  refine va_put (D := G.1) (ci := 4) (v := .int (nI 0)) (ty := .int) (C := RX7) (T := TX7) (N := 11) hx hb hts in_c_X7_worst_X7 tyX7 tyX7_ok nmX7 hown hK.1 hP hD hS 0 rfl rfl 0 (by decide) (hts (.fieldLink RX7 43 "FloorPanelsModel" "refusal" "I") (by decide +kernel)) (fun _ h9 => h9) rfl (by decide +kernel) rfl rfl (Nat.le_of_ble_eq_true rfl) dX7_worst_2 (fun H locs hP hD hS => ?_)
  have hP : VP G [(M, .inr (4, [.int (nI 0), .ref mt, .int (nI sz), .ref mn, .ref mtr, .ref md, .int (nI ac), .ref mk, .ref mik, .ref na, .ref so])), (mn, .inl (G.2 0, 131, .inl (mr n (nI g) sk mm))), (na, .inl (G.2 0, 16, .inl nf)), (so, .inl (G.2 0, 16, .inl sf))] H := hP
  have hD : va_D _ [(M, .inr (4, [.int (nI 0), .ref mt, .int (nI sz), .ref mn, .ref mtr, .ref md, .int (nI ac), .ref mk, .ref mik, .ref na, .ref so])), (mn, .inl (G.2 0, 131, .inl (mr n (nI g) sk mm))), (na, .inl (G.2 0, 16, .inl nf)), (so, .inl (G.2 0, 16, .inl sf))] := hD
  refine lv_aload_n hx hb dX7_worst_5 rfl (lv_at hl 0 rfl) ?_
  refine lv_aload_n hx hb dX7_worst_6 rfl (lv_at hl 0 rfl) ?_
  refine va_get (D := G.1) (ci := 4) (v := .ref mn) (C := RX7) (T := TX7) (N := 11) hx hb hts in_c_X7_worst_X7 hown hK.1 hP 0 rfl rfl 3 (by decide) (hts (.fieldLink RX7 13 "FloorPanelsModel" "now" "[I") (by decide +kernel)) (fun _ h9 => h9) rfl dX7_worst_7 ?_
  refine cWV (As := [.ref mn]) (rest := []) (st1 := []) (w3 := [(M, .inr (4, [.int (nI 0), .ref mt, .int (nI sz), .ref mn, .ref mtr, .ref md, .int (nI ac), .ref mk, .ref mik, .ref na, .ref so])), (mn, .inl (G.2 0, 131, .inl (mr n (nI g) sk mm))), (na, .inl (G.2 0, 16, .inl (nmA sk (kdm mm) g 0 n nf))), (so, .inl (G.2 0, 16, .inl (soA sk (kdm mm) g 0 n sf)))]) ⟨hx, hb, hml, hown, hts⟩ (c_X7_name l G M 0 mt sz mn mtr md ac mk mik na so mn n g sk mm nf sf (by first | omega | assumption) (by first | omega | assumption) (by first | omega | assumption)) (cwV 1 hts gX7_worst_X7_name rfl rfl rfl (by decide +kernel) ⟨Nat.le_of_ble_eq_true rfl, Nat.le_of_ble_eq_true rfl⟩) (preV_of hK hP hD [0, 1, 2, 3] (by decide) rfl (ci := 4) (q0 := 0) rfl rfl rfl) rfl hl.1 rfl (lv_room (Nat.le_of_ble_eq_true rfl)) dX7_worst_10 ⟨Nat.zero_le _, Nat.zero_le _⟩ hP hD hS [0, 1, 2, 3] (by decide) rfl rfl (rfl) rfl (fun H locs hP hD hS => ?_)
  have h_a0 := ast_le f 0 h_n n
  have h_a1 := ast_le f 1 h_n n
  have h_a2 := ast_le f 2 h_n n
  refine lv_iconst (v := nI 0) hx hb dX7_worst_13 (by decide) ?_
  refine lv_istore_n (lv' := [(1, .int (nI 0)), (0, .ref M)]) hx hb dX7_worst_14 rfl hl (by decide) rfl (fun ls hl => ?_)
  refine lv_iconst (v := nI 1) hx hb dX7_worst_15 (by decide) ?_
  refine lv_istore_n (lv' := [(2, .int (nI 1)), (1, .int (nI 0)), (0, .ref M)]) hx hb dX7_worst_16 rfl hl (by decide) rfl (fun ls hl => ?_)
  refine lv_iload_n hx hb dX7_worst_17 rfl (lv_at hl 0 rfl) ?_
  refine lv_iconst (v := nI 3) hx hb dX7_worst_18 (by decide) ?_
  refine bi_ge (tgt := 47) hx hb dX7_worst_19 (by decide) (nI_i (by omega)) (nI_i (by omega)) (fun c_19 => False.elim (by omega)) (fun c_19 => ?_)
  refine lv_aload_n hx hb dX7_worst_22 rfl (lv_at hl 2 rfl) ?_
  refine lv_iload_n hx hb dX7_worst_23 rfl (lv_at hl 0 rfl) ?_
  refine cRV (As := [.int (nI 1)]) (rest := []) (v := .int (nI (ast f n 1 n))) ⟨hx, hb, hml, hown, hts⟩ (c_X7_strays l G M 0 mt sz mn mtr md ac mk mik na so n g sk mm (nmA sk (kdm mm) g 0 n nf) f 1 (by first | omega | assumption) (by first | omega | assumption) (fun x_ hx_ => h_R.nf hx_) (by first | omega | assumption)) (cwV 1 hts gX7_worst_X7_strays rfl rfl rfl (by decide +kernel) ⟨Nat.le_of_ble_eq_true rfl, Nat.le_of_ble_eq_true rfl⟩) (preV_of hK hP hD [0, 1, 2] (by decide) rfl (ci := 4) (q0 := 0) rfl rfl rfl) rfl hl.1 rfl (lv_room (Nat.le_of_ble_eq_true rfl)) dX7_worst_24 ⟨Nat.zero_le _, Nat.zero_le _⟩ ?_
  refine lv_aload_n hx hb dX7_worst_27 rfl (lv_at hl 2 rfl) ?_
  refine lv_iload_n hx hb dX7_worst_28 rfl (lv_at hl 1 rfl) ?_
  refine cRV (As := [.int (nI 0)]) (rest := [.int (nI (ast f n 1 n))]) (v := .int (nI (ast f n 0 n))) ⟨hx, hb, hml, hown, hts⟩ (c_X7_strays l G M 0 mt sz mn mtr md ac mk mik na so n g sk mm (nmA sk (kdm mm) g 0 n nf) f 0 (by first | omega | assumption) (by first | omega | assumption) (fun x_ hx_ => h_R.nf hx_) (by first | omega | assumption)) (cwV 1 hts gX7_worst_X7_strays rfl rfl rfl (by decide +kernel) ⟨Nat.le_of_ble_eq_true rfl, Nat.le_of_ble_eq_true rfl⟩) (preV_of hK hP hD [0, 1, 2] (by decide) rfl (ci := 4) (q0 := 0) rfl rfl rfl) rfl hl.1 rfl (lv_room (Nat.le_of_ble_eq_true rfl)) dX7_worst_29 ⟨Nat.zero_le _, Nat.zero_le _⟩ ?_
  refine bi_le (tgt := 39) hx hb dX7_worst_32 (by decide) (nI_i (by omega)) (nI_i (by omega)) (fun c_32 => ?_) (fun c_32 => ?_)
  ·
    refine lv_iload_n hx hb dX7_worst_39 rfl (lv_at hl 1 rfl) ?_
    refine lv_istore_n (lv' := [(1, .int (nI 0)), (2, .int (nI 1)), (0, .ref M)]) hx hb dX7_worst_40 rfl hl (by decide) rfl (fun ls hl => ?_)
    refine lv_iinc (v := nI (1 + 1)) (lv' := [(2, .int (nI (1 + 1))), (1, .int (nI 0)), (0, .ref M)]) hx hb dX7_worst_41 hl (k := 1) rfl (inc_n _ 1) (by decide) rfl (fun ls hl => ?_)
    refine lv_goto (tgt := 17) hx hb dX7_worst_44 (by decide) ?_
    refine lv_iload_n hx hb dX7_worst_17 rfl (lv_at hl 0 rfl) ?_
    refine lv_iconst (v := nI 3) hx hb dX7_worst_18 (by decide) ?_
    refine bi_ge (tgt := 47) hx hb dX7_worst_19 (by decide) (nI_i (by omega)) (nI_i (by omega)) (fun c_19 => False.elim (by omega)) (fun c_19 => ?_)
    refine lv_aload_n hx hb dX7_worst_22 rfl (lv_at hl 2 rfl) ?_
    refine lv_iload_n hx hb dX7_worst_23 rfl (lv_at hl 0 rfl) ?_
    refine cRV (As := [.int (nI (1 + 1))]) (rest := []) (v := .int (nI (ast f n 2 n))) ⟨hx, hb, hml, hown, hts⟩ (c_X7_strays l G M 0 mt sz mn mtr md ac mk mik na so n g sk mm (nmA sk (kdm mm) g 0 n nf) f (1 + 1) (by first | omega | assumption) (by first | omega | assumption) (fun x_ hx_ => h_R.nf hx_) (by first | omega | assumption)) (cwV 1 hts gX7_worst_X7_strays rfl rfl rfl (by decide +kernel) ⟨Nat.le_of_ble_eq_true rfl, Nat.le_of_ble_eq_true rfl⟩) (preV_of hK hP hD [0, 1, 2] (by decide) rfl (ci := 4) (q0 := 0) rfl rfl rfl) rfl hl.1 rfl (lv_room (Nat.le_of_ble_eq_true rfl)) dX7_worst_24 ⟨Nat.zero_le _, Nat.zero_le _⟩ ?_
    refine lv_aload_n hx hb dX7_worst_27 rfl (lv_at hl 2 rfl) ?_
    refine lv_iload_n hx hb dX7_worst_28 rfl (lv_at hl 1 rfl) ?_
    refine cRV (As := [.int (nI 0)]) (rest := [.int (nI (ast f n 2 n))]) (v := .int (nI (ast f n 0 n))) ⟨hx, hb, hml, hown, hts⟩ (c_X7_strays l G M 0 mt sz mn mtr md ac mk mik na so n g sk mm (nmA sk (kdm mm) g 0 n nf) f 0 (by first | omega | assumption) (by first | omega | assumption) (fun x_ hx_ => h_R.nf hx_) (by first | omega | assumption)) (cwV 1 hts gX7_worst_X7_strays rfl rfl rfl (by decide +kernel) ⟨Nat.le_of_ble_eq_true rfl, Nat.le_of_ble_eq_true rfl⟩) (preV_of hK hP hD [0, 1, 2] (by decide) rfl (ci := 4) (q0 := 0) rfl rfl rfl) rfl hl.1 rfl (lv_room (Nat.le_of_ble_eq_true rfl)) dX7_worst_29 ⟨Nat.zero_le _, Nat.zero_le _⟩ ?_
    refine bi_le (tgt := 39) hx hb dX7_worst_32 (by decide) (nI_i (by omega)) (nI_i (by omega)) (fun c_32 => ?_) (fun c_32 => ?_)
    ·
      refine lv_iload_n hx hb dX7_worst_39 rfl (lv_at hl 1 rfl) ?_
      refine lv_istore_n (lv' := [(1, .int (nI 0)), (2, .int (nI (1 + 1))), (0, .ref M)]) hx hb dX7_worst_40 rfl hl (by decide) rfl (fun ls hl => ?_)
      refine lv_iinc (v := nI (1 + 1 + 1)) (lv' := [(2, .int (nI (1 + 1 + 1))), (1, .int (nI 0)), (0, .ref M)]) hx hb dX7_worst_41 hl (k := 1) rfl (inc_n _ 1) (by decide) rfl (fun ls hl => ?_)
      refine lv_goto (tgt := 17) hx hb dX7_worst_44 (by decide) ?_
      refine lv_iload_n hx hb dX7_worst_17 rfl (lv_at hl 0 rfl) ?_
      refine lv_iconst (v := nI 3) hx hb dX7_worst_18 (by decide) ?_
      refine bi_ge (tgt := 47) hx hb dX7_worst_19 (by decide) (nI_i (by omega)) (nI_i (by omega)) (fun c_19 => ?_) (fun c_19 => False.elim (by omega))
      refine lv_iload_n hx hb dX7_worst_47 rfl (lv_at hl 1 rfl) ?_
      exact W_i hx hb hr hlk dX7_worst_48 hP hS ((wst_ok (by omega)).symm) (rfl)
    ·
      refine lv_iload_n hx hb dX7_worst_35 rfl (lv_at hl 0 rfl) ?_
      refine lv_goto (tgt := 40) hx hb dX7_worst_36 (by decide) ?_
      refine lv_istore_n (lv' := [(1, .int (nI (1 + 1))), (2, .int (nI (1 + 1))), (0, .ref M)]) hx hb dX7_worst_40 rfl hl (by decide) rfl (fun ls hl => ?_)
      refine lv_iinc (v := nI (1 + 1 + 1)) (lv' := [(2, .int (nI (1 + 1 + 1))), (1, .int (nI (1 + 1))), (0, .ref M)]) hx hb dX7_worst_41 hl (k := 1) rfl (inc_n _ 1) (by decide) rfl (fun ls hl => ?_)
      refine lv_goto (tgt := 17) hx hb dX7_worst_44 (by decide) ?_
      refine lv_iload_n hx hb dX7_worst_17 rfl (lv_at hl 0 rfl) ?_
      refine lv_iconst (v := nI 3) hx hb dX7_worst_18 (by decide) ?_
      refine bi_ge (tgt := 47) hx hb dX7_worst_19 (by decide) (nI_i (by omega)) (nI_i (by omega)) (fun c_19 => ?_) (fun c_19 => False.elim (by omega))
      refine lv_iload_n hx hb dX7_worst_47 rfl (lv_at hl 1 rfl) ?_
      exact W_i hx hb hr hlk dX7_worst_48 hP hS ((wst_ok (by omega)).symm) (rfl)
  ·
    refine lv_iload_n hx hb dX7_worst_35 rfl (lv_at hl 0 rfl) ?_
    refine lv_goto (tgt := 40) hx hb dX7_worst_36 (by decide) ?_
    refine lv_istore_n (lv' := [(1, .int (nI 1)), (2, .int (nI 1)), (0, .ref M)]) hx hb dX7_worst_40 rfl hl (by decide) rfl (fun ls hl => ?_)
    refine lv_iinc (v := nI (1 + 1)) (lv' := [(2, .int (nI (1 + 1))), (1, .int (nI 1)), (0, .ref M)]) hx hb dX7_worst_41 hl (k := 1) rfl (inc_n _ 1) (by decide) rfl (fun ls hl => ?_)
    refine lv_goto (tgt := 17) hx hb dX7_worst_44 (by decide) ?_
    refine lv_iload_n hx hb dX7_worst_17 rfl (lv_at hl 0 rfl) ?_
    refine lv_iconst (v := nI 3) hx hb dX7_worst_18 (by decide) ?_
    refine bi_ge (tgt := 47) hx hb dX7_worst_19 (by decide) (nI_i (by omega)) (nI_i (by omega)) (fun c_19 => False.elim (by omega)) (fun c_19 => ?_)
    refine lv_aload_n hx hb dX7_worst_22 rfl (lv_at hl 2 rfl) ?_
    refine lv_iload_n hx hb dX7_worst_23 rfl (lv_at hl 0 rfl) ?_
    refine cRV (As := [.int (nI (1 + 1))]) (rest := []) (v := .int (nI (ast f n 2 n))) ⟨hx, hb, hml, hown, hts⟩ (c_X7_strays l G M 0 mt sz mn mtr md ac mk mik na so n g sk mm (nmA sk (kdm mm) g 0 n nf) f (1 + 1) (by first | omega | assumption) (by first | omega | assumption) (fun x_ hx_ => h_R.nf hx_) (by first | omega | assumption)) (cwV 1 hts gX7_worst_X7_strays rfl rfl rfl (by decide +kernel) ⟨Nat.le_of_ble_eq_true rfl, Nat.le_of_ble_eq_true rfl⟩) (preV_of hK hP hD [0, 1, 2] (by decide) rfl (ci := 4) (q0 := 0) rfl rfl rfl) rfl hl.1 rfl (lv_room (Nat.le_of_ble_eq_true rfl)) dX7_worst_24 ⟨Nat.zero_le _, Nat.zero_le _⟩ ?_
    refine lv_aload_n hx hb dX7_worst_27 rfl (lv_at hl 2 rfl) ?_
    refine lv_iload_n hx hb dX7_worst_28 rfl (lv_at hl 1 rfl) ?_
    refine cRV (As := [.int (nI 1)]) (rest := [.int (nI (ast f n 2 n))]) (v := .int (nI (ast f n 1 n))) ⟨hx, hb, hml, hown, hts⟩ (c_X7_strays l G M 0 mt sz mn mtr md ac mk mik na so n g sk mm (nmA sk (kdm mm) g 0 n nf) f 1 (by first | omega | assumption) (by first | omega | assumption) (fun x_ hx_ => h_R.nf hx_) (by first | omega | assumption)) (cwV 1 hts gX7_worst_X7_strays rfl rfl rfl (by decide +kernel) ⟨Nat.le_of_ble_eq_true rfl, Nat.le_of_ble_eq_true rfl⟩) (preV_of hK hP hD [0, 1, 2] (by decide) rfl (ci := 4) (q0 := 0) rfl rfl rfl) rfl hl.1 rfl (lv_room (Nat.le_of_ble_eq_true rfl)) dX7_worst_29 ⟨Nat.zero_le _, Nat.zero_le _⟩ ?_
    refine bi_le (tgt := 39) hx hb dX7_worst_32 (by decide) (nI_i (by omega)) (nI_i (by omega)) (fun c_32 => ?_) (fun c_32 => ?_)
    ·
      refine lv_iload_n hx hb dX7_worst_39 rfl (lv_at hl 1 rfl) ?_
      refine lv_istore_n (lv' := [(1, .int (nI 1)), (2, .int (nI (1 + 1))), (0, .ref M)]) hx hb dX7_worst_40 rfl hl (by decide) rfl (fun ls hl => ?_)
      refine lv_iinc (v := nI (1 + 1 + 1)) (lv' := [(2, .int (nI (1 + 1 + 1))), (1, .int (nI 1)), (0, .ref M)]) hx hb dX7_worst_41 hl (k := 1) rfl (inc_n _ 1) (by decide) rfl (fun ls hl => ?_)
      refine lv_goto (tgt := 17) hx hb dX7_worst_44 (by decide) ?_
      refine lv_iload_n hx hb dX7_worst_17 rfl (lv_at hl 0 rfl) ?_
      refine lv_iconst (v := nI 3) hx hb dX7_worst_18 (by decide) ?_
      refine bi_ge (tgt := 47) hx hb dX7_worst_19 (by decide) (nI_i (by omega)) (nI_i (by omega)) (fun c_19 => ?_) (fun c_19 => False.elim (by omega))
      refine lv_iload_n hx hb dX7_worst_47 rfl (lv_at hl 1 rfl) ?_
      exact W_i hx hb hr hlk dX7_worst_48 hP hS ((wst_ok (by omega)).symm) (rfl)
    ·
      refine lv_iload_n hx hb dX7_worst_35 rfl (lv_at hl 0 rfl) ?_
      refine lv_goto (tgt := 40) hx hb dX7_worst_36 (by decide) ?_
      refine lv_istore_n (lv' := [(1, .int (nI (1 + 1))), (2, .int (nI (1 + 1))), (0, .ref M)]) hx hb dX7_worst_40 rfl hl (by decide) rfl (fun ls hl => ?_)
      refine lv_iinc (v := nI (1 + 1 + 1)) (lv' := [(2, .int (nI (1 + 1 + 1))), (1, .int (nI (1 + 1))), (0, .ref M)]) hx hb dX7_worst_41 hl (k := 1) rfl (inc_n _ 1) (by decide) rfl (fun ls hl => ?_)
      refine lv_goto (tgt := 17) hx hb dX7_worst_44 (by decide) ?_
      refine lv_iload_n hx hb dX7_worst_17 rfl (lv_at hl 0 rfl) ?_
      refine lv_iconst (v := nI 3) hx hb dX7_worst_18 (by decide) ?_
      refine bi_ge (tgt := 47) hx hb dX7_worst_19 (by decide) (nI_i (by omega)) (nI_i (by omega)) (fun c_19 => ?_) (fun c_19 => False.elim (by omega))
      refine lv_iload_n hx hb dX7_worst_47 rfl (lv_at hl 1 rfl) ?_
      exact W_i hx hb hr hlk dX7_worst_48 hP hS ((wst_ok (by omega)).symm) (rfl)

theorem in_c_X7_rides_X7 : ∀ w ∈ wsX70, w ∈ wsX7_rides := by decide +kernel
set_option maxHeartbeats 4000000 in
set_option maxRecDepth 100000 in
theorem c_X7_rides (l : Launch) (G : GG) (M : Nat) (rf : Nat) (mt : Nat) (sz : Nat) (mn : Nat) (mtr : Nat) (md : Nat) (ac : Nat) (mk : Nat) (mik : Nat) (na : Nat) (so : Nat) (n : Nat) (g : Nat) (sk : Int32) (mm : Nat → Int32) (nf : Nat → Int32) (sf : Nat → Int32) (f : Nat → Int32) (fr : Nat) (to : Nat) (h_n : n ≤ 16) (h_n1 : 1 ≤ n) (h_g : g < n) (h_k : mm (3 + g) = 0) (h_R : MRel n sk g f mm) (h_fr : fr < n) (h_to : to < n) : Met l yX7_rides wsX7_rides ({ frames := 4, cells := 0, slots := 0, locals := 91 } : Room) (va_Pc [.ref M, .int (nI fr), .int (nI to)] (PB G [(M, .inr (4, [.int (nI rf), .ref mt, .int (nI sz), .ref mn, .ref mtr, .ref md, .int (nI ac), .ref mk, .ref mik, .ref na, .ref so])), (mn, .inl (G.2 0, 131, .inl (mr n (nI g) sk mm))), (na, .inl (G.2 0, 16, .inl nf)), (so, .inl (G.2 0, 16, .inl sf))])) (QW G (some (.int (fwF f n to 16 0 (bitv fr)))) [(M, .inr (4, [.int (nI 0), .ref mt, .int (nI sz), .ref mn, .ref mtr, .ref md, .int (nI ac), .ref mk, .ref mik, .ref na, .ref so])), (mn, .inl (G.2 0, 131, .inl (mr n (nI g) sk mm))), (na, .inl (G.2 0, 16, .inl (nmA sk (kdm mm) g 0 n nf))), (so, .inl (G.2 0, 16, .inl (soA sk (kdm mm) g 0 n sf)))] (vA [(M, .inr (4, [.int (nI rf), .ref mt, .int (nI sz), .ref mn, .ref mtr, .ref md, .int (nI ac), .ref mk, .ref mik, .ref na, .ref so])), (mn, .inl (G.2 0, 131, .inl (mr n (nI g) sk mm))), (na, .inl (G.2 0, 16, .inl nf)), (so, .inl (G.2 0, 16, .inl sf))])) 0 0 (vA [(M, .inr (4, [.int (nI rf), .ref mt, .int (nI sz), .ref mn, .ref mtr, .ref md, .int (nI ac), .ref mk, .ref mik, .ref na, .ref so])), (mn, .inl (G.2 0, 131, .inl (mr n (nI g) sk mm))), (na, .inl (G.2 0, 16, .inl nf)), (so, .inl (G.2 0, 16, .inl sf))]) := by
  refine Met.go (cc := cX7_rides) (maxL := 8) (ret := (some .int)) (by decide) rfl (Nat.le_of_ble_eq_true rfl) ?_
  intro p e s m below meth c ls hx hb hr hml hown hts hlk hP hK hD hS hl
  have hown : s.vm.findClass RX7 = some m.cls := hown
  have hl : lv_has ls 8 [(0, .ref M), (1, .int (nI fr)), (2, .int (nI to))] := hl
  refine lv_aload_n hx hb dX7_rides_0 rfl (lv_at hl 0 rfl) ?_
  refine lv_aload_n hx hb dX7_rides_1 rfl (lv_at hl 0 rfl) ?_
  refine va_get (D := G.1) (ci := 4) (v := .ref mn) (C := RX7) (T := TX7) (N := 11) hx hb hts in_c_X7_rides_X7 hown hK.1 hP 0 rfl rfl 3 (by decide) (hts (.fieldLink RX7 13 "FloorPanelsModel" "now" "[I") (by decide +kernel)) (fun _ h9 => h9) rfl dX7_rides_2 ?_
  refine lv_iload_n hx hb dX7_rides_5 rfl (lv_at hl 1 rfl) ?_
  refine cRS (As := [.ref mn, .int (nI fr)]) (rest := [.ref M]) (v := .int (zb (fr < n))) ⟨hx, hb, hml, hown, hts⟩ (c_X7_isLevel_n l G mn n g sk mm fr (by first | omega | assumption) (by first | omega | assumption) (by first | omega | assumption)) (va_cwS 2 hts gX7_rides_X7_isLevel rfl rfl rfl (by decide +kernel) ⟨Nat.le_of_ble_eq_true rfl, Nat.le_of_ble_eq_true rfl⟩) (preS_of hK hP hD [1] (by decide) rfl) rfl hl.1 rfl (lv_room (Nat.le_of_ble_eq_true rfl)) dX7_rides_6 ⟨Nat.zero_le _, Nat.zero_le _⟩ ?_
  refine bb_eq (tgt := 27) hx hb dX7_rides_9 (by decide) (fun c_9 => False.elim (by omega)) (fun c_9 => ?_)
  refine lv_aload_n hx hb dX7_rides_12 rfl (lv_at hl 0 rfl) ?_
  refine va_get (D := G.1) (ci := 4) (v := .ref mn) (C := RX7) (T := TX7) (N := 11) hx hb hts in_c_X7_rides_X7 hown hK.1 hP 0 rfl rfl 3 (by decide) (hts (.fieldLink RX7 13 "FloorPanelsModel" "now" "[I") (by decide +kernel)) (fun _ h9 => h9) rfl dX7_rides_13 ?_
  refine lv_iload_n hx hb dX7_rides_16 rfl (lv_at hl 2 rfl) ?_
  refine cRS (As := [.ref mn, .int (nI to)]) (rest := [.ref M]) (v := .int (zb (to < n))) ⟨hx, hb, hml, hown, hts⟩ (c_X7_isLevel_n l G mn n g sk mm to (by first | omega | assumption) (by first | omega | assumption) (by first | omega | assumption)) (va_cwS 2 hts gX7_rides_X7_isLevel rfl rfl rfl (by decide +kernel) ⟨Nat.le_of_ble_eq_true rfl, Nat.le_of_ble_eq_true rfl⟩) (preS_of hK hP hD [1] (by decide) rfl) rfl hl.1 rfl (lv_room (Nat.le_of_ble_eq_true rfl)) dX7_rides_17 ⟨Nat.zero_le _, Nat.zero_le _⟩ ?_
  refine bb_eq (tgt := 27) hx hb dX7_rides_20 (by decide) (fun c_20 => False.elim (by omega)) (fun c_20 => ?_)
  refine lv_iconst (v := nI 0) hx hb dX7_rides_23 (by decide) ?_
  refine lv_goto (tgt := 28) hx hb dX7_rides_24 (by decide) ?_
  refine cWV (As := [.int (nI 0)]) (rest := []) (st1 := [.int (zb (0 < 0))]) (w3 := [(M, .inr (4, [.int (nI 0), .ref mt, .int (nI sz), .ref mn, .ref mtr, .ref md, .int (nI ac), .ref mk, .ref mik, .ref na, .ref so])), (mn, .inl (G.2 0, 131, .inl (mr n (nI g) sk mm))), (na, .inl (G.2 0, 16, .inl nf)), (so, .inl (G.2 0, 16, .inl sf))]) ⟨hx, hb, hml, hown, hts⟩ (c_X7_refused l G M rf mt sz mn mtr md ac mk mik na so 0 (by first | omega | assumption)) (cwV 1 hts gX7_rides_X7_refused rfl rfl rfl (by decide +kernel) ⟨Nat.le_of_ble_eq_true rfl, Nat.le_of_ble_eq_true rfl⟩) (preV_of hK hP hD [0] (by decide) rfl (ci := 4) (q0 := 0) rfl rfl rfl) rfl hl.1 rfl (lv_room (Nat.le_of_ble_eq_true rfl)) dX7_rides_28 ⟨Nat.zero_le _, Nat.zero_le _⟩ hP hD hS [0] (by decide) rfl rfl (rfl) rfl (fun H locs hP hD hS => ?_)
  refine bb_eq (tgt := 36) hx hb dX7_rides_31 (by decide) (fun c_31 => ?_) (fun c_31 => False.elim (by omega))
  refine lv_aload_n hx hb dX7_rides_36 rfl (lv_at hl 0 rfl) ?_
  refine lv_aload_n hx hb dX7_rides_37 rfl (lv_at hl 0 rfl) ?_
  refine va_get (D := G.1) (ci := 4) (v := .ref mn) (C := RX7) (T := TX7) (N := 11) hx hb hts in_c_X7_rides_X7 hown hK.1 hP 0 rfl rfl 3 (by decide) (hts (.fieldLink RX7 13 "FloorPanelsModel" "now" "[I") (by decide +kernel)) (fun _ h9 => h9) rfl dX7_rides_38 ?_
  refine cWV (As := [.ref mn]) (rest := []) (st1 := []) (w3 := [(M, .inr (4, [.int (nI 0), .ref mt, .int (nI sz), .ref mn, .ref mtr, .ref md, .int (nI ac), .ref mk, .ref mik, .ref na, .ref so])), (mn, .inl (G.2 0, 131, .inl (mr n (nI g) sk mm))), (na, .inl (G.2 0, 16, .inl (nmA sk (kdm mm) g 0 n nf))), (so, .inl (G.2 0, 16, .inl (soA sk (kdm mm) g 0 n sf)))]) ⟨hx, hb, hml, hown, hts⟩ (c_X7_name l G M 0 mt sz mn mtr md ac mk mik na so mn n g sk mm nf sf (by first | omega | assumption) (by first | omega | assumption) (by first | omega | assumption)) (cwV 1 hts gX7_rides_X7_name rfl rfl rfl (by decide +kernel) ⟨Nat.le_of_ble_eq_true rfl, Nat.le_of_ble_eq_true rfl⟩) (preV_of hK hP hD [0, 1, 2, 3] (by decide) rfl (ci := 4) (q0 := 0) rfl rfl rfl) rfl hl.1 rfl (lv_room (Nat.le_of_ble_eq_true rfl)) dX7_rides_41 ⟨Nat.zero_le _, Nat.zero_le _⟩ hP hD hS [0, 1, 2, 3] (by decide) rfl rfl (rfl) rfl (fun H locs hP hD hS => ?_)
  refine lv_iconst (v := nI 1) hx hb dX7_rides_44 (by decide) ?_
  refine lv_iload_n hx hb dX7_rides_45 rfl (lv_at hl 1 rfl) ?_
  refine lv_ishl hx hb dX7_rides_46 ?_
  rw [show (nI 1) <<< ((nI fr) &&& 31) = (bitv fr) from rfl]
  refine lv_istore_n (lv' := [(3, .int (bitv fr)), (0, .ref M), (1, .int (nI fr)), (2, .int (nI to))]) hx hb dX7_rides_47 rfl hl (by decide) rfl (fun ls hl => ?_)
  refine lv_iconst (v := nI 0) hx hb dX7_rides_48 (by decide) ?_
  refine lv_istore (lv' := [(4, .int (nI 0)), (3, .int (bitv fr)), (0, .ref M), (1, .int (nI fr)), (2, .int (nI to))]) hx hb dX7_rides_49 hl (by decide) rfl (fun ls hl => ?_)
  have loop_51 : ∀ (k_ : Nat) (i : Nat) (M_ : Int32) (h_i : i ≤ 16) (h_e : fwM f n to 16 0 (bitv fr) = fwM f n to (16 - i) i M_) (_ : 16 - i < k_) (H : Heap) (locs : List Loc) (_ : VP G [(M, .inr (4, [.int (nI 0), .ref mt, .int (nI sz), .ref mn, .ref mtr, .ref md, .int (nI ac), .ref mk, .ref mik, .ref na, .ref so])), (mn, .inl (G.2 0, 131, .inl (mr n (nI g) sk mm))), (na, .inl (G.2 0, 16, .inl (nmA sk (kdm mm) g 0 n nf))), (so, .inl (G.2 0, 16, .inl (soA sk (kdm mm) g 0 n sf)))] H) (_ : va_D (vA [(M, .inr (4, [.int (nI rf), .ref mt, .int (nI sz), .ref mn, .ref mtr, .ref md, .int (nI ac), .ref mk, .ref mik, .ref na, .ref so])), (mn, .inl (G.2 0, 131, .inl (mr n (nI g) sk mm))), (na, .inl (G.2 0, 16, .inl nf)), (so, .inl (G.2 0, 16, .inl sf))]) [(M, .inr (4, [.int (nI 0), .ref mt, .int (nI sz), .ref mn, .ref mtr, .ref md, .int (nI ac), .ref mk, .ref mik, .ref na, .ref so])), (mn, .inl (G.2 0, 131, .inl (mr n (nI g) sk mm))), (na, .inl (G.2 0, 16, .inl (nmA sk (kdm mm) g 0 n nf))), (so, .inl (G.2 0, 16, .inl (soA sk (kdm mm) g 0 n sf)))]) (_ : va_S (vA [(M, .inr (4, [.int (nI rf), .ref mt, .int (nI sz), .ref mn, .ref mtr, .ref md, .int (nI ac), .ref mk, .ref mik, .ref na, .ref so])), (mn, .inl (G.2 0, 131, .inl (mr n (nI g) sk mm))), (na, .inl (G.2 0, 16, .inl nf)), (so, .inl (G.2 0, 16, .inl sf))]) s.heap H locs) (ls : Array Slot), lv_has ls 8 [(4, .int (nI i)), (3, .int M_), (0, .ref M), (1, .int (nI fr)), (2, .int (nI to))] → W p l e ({ frames := 4, cells := 0, slots := 0, locals := 91 } : Room) s m ([.ref M, .int (nI fr), .int (nI to)] : List Value).toArray below meth c H locs 0 0 (MQ below (QW G (some (.int (fwF f n to 16 0 (bitv fr)))) [(M, .inr (4, [.int (nI 0), .ref mt, .int (nI sz), .ref mn, .ref mtr, .ref md, .int (nI ac), .ref mk, .ref mik, .ref na, .ref so])), (mn, .inl (G.2 0, 131, .inl (mr n (nI g) sk mm))), (na, .inl (G.2 0, 16, .inl (nmA sk (kdm mm) g 0 n nf))), (so, .inl (G.2 0, 16, .inl (soA sk (kdm mm) g 0 n sf)))] (vA [(M, .inr (4, [.int (nI rf), .ref mt, .int (nI sz), .ref mn, .ref mtr, .ref md, .int (nI ac), .ref mk, .ref mik, .ref na, .ref so])), (mn, .inl (G.2 0, 131, .inl (mr n (nI g) sk mm))), (na, .inl (G.2 0, 16, .inl nf)), (so, .inl (G.2 0, 16, .inl sf))])) ([.ref M, .int (nI fr), .int (nI to)] : List Value).toArray s 0 0 (vA [(M, .inr (4, [.int (nI rf), .ref mt, .int (nI sz), .ref mn, .ref mtr, .ref md, .int (nI ac), .ref mk, .ref mik, .ref na, .ref so])), (mn, .inl (G.2 0, 131, .inl (mr n (nI g) sk mm))), (na, .inl (G.2 0, 16, .inl nf)), (so, .inl (G.2 0, 16, .inl sf))])) (F0 m 51 ls []) := by
    intro k_
    induction k_ with
    | zero => intro i M_ h_i h_e hk_; exact absurd hk_ (Nat.not_lt_zero _)
    | succ k_ ih_51 =>
      intro i M_ h_i h_e hk_ H locs hP hD hS ls hl
      refine lv_iload hx hb dX7_rides_51 (lv_at hl 0 rfl) ?_
      refine lv_bipush (v := nI 16) hx hb dX7_rides_53 (by decide) ?_
      refine bi_ge (tgt := 163) hx hb dX7_rides_55 (by decide) (nI_i (by omega)) (nI_i (by omega)) (fun c_55 => ?_) (fun c_55 => ?_)
      ·
        refine lv_iconst (v := (-1)) hx hb dX7_rides_163 (by decide) ?_
        exact W_i hx hb hr hlk dX7_rides_164 hP hS (by rw [← fwM_F, h_e, show 16 - i = 0 by omega]; rfl) (rfl)
      ·
        refine lv_iload_n hx hb dX7_rides_58 rfl (lv_at hl 1 rfl) ?_
        refine lv_iload_n hx hb dX7_rides_59 rfl (lv_at hl 4 rfl) ?_
        refine lv_ishr hx hb dX7_rides_60 ?_
        refine lv_iconst (v := nI 1) hx hb dX7_rides_61 (by decide) ?_
        refine lv_iand hx hb dX7_rides_62 ?_
        refine lv_iconst (v := nI 1) hx hb dX7_rides_63 (by decide) ?_
        refine lv_icmp_ne (tgt := 70) hx hb dX7_rides_64 (by decide) (fun c_64 => ?_) (fun c_64 => ?_)
        ·
          have h_b : ¬ bt M_ to = true := fun z_ => c_64 ((sk_s M_ (by omega)).mpr z_)
          refine lv_iload_n hx hb dX7_rides_70 rfl (lv_at hl 1 rfl) ?_
          refine lv_istore (lv' := [(5, .int M_), (4, .int (nI i)), (3, .int M_), (0, .ref M), (1, .int (nI fr)), (2, .int (nI to))]) hx hb dX7_rides_71 hl (by decide) rfl (fun ls hl => ?_)
          refine lv_iconst (v := nI 0) hx hb dX7_rides_73 (by decide) ?_
          refine lv_istore (lv' := [(6, .int (nI 0)), (5, .int M_), (4, .int (nI i)), (3, .int M_), (0, .ref M), (1, .int (nI fr)), (2, .int (nI to))]) hx hb dX7_rides_74 hl (by decide) rfl (fun ls hl => ?_)
          have loop_76 : ∀ (k_ : Nat) (a : Nat) (X_ : Int32) (h_a : a ≤ n) (h_J : mrJ f n M_ a 0 X_) (_ : n - a < k_) (H : Heap) (locs : List Loc) (_ : VP G [(M, .inr (4, [.int (nI 0), .ref mt, .int (nI sz), .ref mn, .ref mtr, .ref md, .int (nI ac), .ref mk, .ref mik, .ref na, .ref so])), (mn, .inl (G.2 0, 131, .inl (mr n (nI g) sk mm))), (na, .inl (G.2 0, 16, .inl (nmA sk (kdm mm) g 0 n nf))), (so, .inl (G.2 0, 16, .inl (soA sk (kdm mm) g 0 n sf)))] H) (_ : va_D (vA [(M, .inr (4, [.int (nI rf), .ref mt, .int (nI sz), .ref mn, .ref mtr, .ref md, .int (nI ac), .ref mk, .ref mik, .ref na, .ref so])), (mn, .inl (G.2 0, 131, .inl (mr n (nI g) sk mm))), (na, .inl (G.2 0, 16, .inl nf)), (so, .inl (G.2 0, 16, .inl sf))]) [(M, .inr (4, [.int (nI 0), .ref mt, .int (nI sz), .ref mn, .ref mtr, .ref md, .int (nI ac), .ref mk, .ref mik, .ref na, .ref so])), (mn, .inl (G.2 0, 131, .inl (mr n (nI g) sk mm))), (na, .inl (G.2 0, 16, .inl (nmA sk (kdm mm) g 0 n nf))), (so, .inl (G.2 0, 16, .inl (soA sk (kdm mm) g 0 n sf)))]) (_ : va_S (vA [(M, .inr (4, [.int (nI rf), .ref mt, .int (nI sz), .ref mn, .ref mtr, .ref md, .int (nI ac), .ref mk, .ref mik, .ref na, .ref so])), (mn, .inl (G.2 0, 131, .inl (mr n (nI g) sk mm))), (na, .inl (G.2 0, 16, .inl nf)), (so, .inl (G.2 0, 16, .inl sf))]) s.heap H locs) (ls : Array Slot), lv_has ls 8 [(6, .int (nI a)), (5, .int X_), (4, .int (nI i)), (3, .int M_), (0, .ref M), (1, .int (nI fr)), (2, .int (nI to))] → W p l e ({ frames := 4, cells := 0, slots := 0, locals := 91 } : Room) s m ([.ref M, .int (nI fr), .int (nI to)] : List Value).toArray below meth c H locs 0 0 (MQ below (QW G (some (.int (fwF f n to 16 0 (bitv fr)))) [(M, .inr (4, [.int (nI 0), .ref mt, .int (nI sz), .ref mn, .ref mtr, .ref md, .int (nI ac), .ref mk, .ref mik, .ref na, .ref so])), (mn, .inl (G.2 0, 131, .inl (mr n (nI g) sk mm))), (na, .inl (G.2 0, 16, .inl (nmA sk (kdm mm) g 0 n nf))), (so, .inl (G.2 0, 16, .inl (soA sk (kdm mm) g 0 n sf)))] (vA [(M, .inr (4, [.int (nI rf), .ref mt, .int (nI sz), .ref mn, .ref mtr, .ref md, .int (nI ac), .ref mk, .ref mik, .ref na, .ref so])), (mn, .inl (G.2 0, 131, .inl (mr n (nI g) sk mm))), (na, .inl (G.2 0, 16, .inl nf)), (so, .inl (G.2 0, 16, .inl sf))])) ([.ref M, .int (nI fr), .int (nI to)] : List Value).toArray s 0 0 (vA [(M, .inr (4, [.int (nI rf), .ref mt, .int (nI sz), .ref mn, .ref mtr, .ref md, .int (nI ac), .ref mk, .ref mik, .ref na, .ref so])), (mn, .inl (G.2 0, 131, .inl (mr n (nI g) sk mm))), (na, .inl (G.2 0, 16, .inl nf)), (so, .inl (G.2 0, 16, .inl sf))])) (F0 m 76 ls []) := by
            intro k_
            induction k_ with
            | zero => intro a X_ h_a h_J hk_; exact absurd hk_ (Nat.not_lt_zero _)
            | succ k_ ih_76 =>
              intro a X_ h_a h_J hk_ H locs hP hD hS ls hl
              refine lv_iload hx hb dX7_rides_76 (lv_at hl 0 rfl) ?_
              refine lv_aload_n hx hb dX7_rides_78 rfl (lv_at hl 4 rfl) ?_
              refine va_get (D := G.1) (ci := 4) (v := .ref mn) (C := RX7) (T := TX7) (N := 11) hx hb hts in_c_X7_rides_X7 hown hK.1 hP 0 rfl rfl 3 (by decide) (hts (.fieldLink RX7 13 "FloorPanelsModel" "now" "[I") (by decide +kernel)) (fun _ h9 => h9) rfl dX7_rides_79 ?_
              refine lv_iconst (v := nI 0) hx hb dX7_rides_82 (by decide) ?_
              refine nv_iald hx hb hK hP 1 rfl (by omega) (by decide) dX7_rides_83 ?_
              rw [show (mr n (nI g) sk mm) 0 = nI n from mr_0]
              refine bi_ge (tgt := 154) hx hb dX7_rides_84 (by decide) (nI_i (by omega)) (nI_i (by omega)) (fun c_84 => ?_) (fun c_84 => ?_)
              ·
                refine lv_iload hx hb dX7_rides_154 (lv_at hl 1 rfl) ?_
                refine lv_istore_n (lv' := [(3, .int X_), (6, .int (nI a)), (5, .int X_), (4, .int (nI i)), (0, .ref M), (1, .int (nI fr)), (2, .int (nI to))]) hx hb dX7_rides_156 rfl hl (by decide) rfl (fun ls hl => ?_)
                refine lv_iinc (v := nI (i + 1)) (lv' := [(4, .int (nI (i + 1))), (3, .int X_), (6, .int (nI a)), (5, .int X_), (0, .ref M), (1, .int (nI fr)), (2, .int (nI to))]) hx hb dX7_rides_157 hl (k := 3) rfl (inc_n _ 1) (by decide) rfl (fun ls hl => ?_)
                refine lv_goto (tgt := 51) hx hb dX7_rides_160 (by decide) ?_
                exact ih_51 (i + 1) X_ (by first | omega | assumption) (by rw [h_e, show 16 - i = 16 - (i + 1) + 1 by omega, fwM_f h_b, ← mrJ_end h_J (by omega) rfl h_n]) (by omega) _ _ hP hD hS ls (lv_sub hl [0, 1, 4, 5, 6] (by rfl))
              ·
                refine lv_iconst (v := nI 0) hx hb dX7_rides_87 (by decide) ?_
                refine lv_istore (lv' := [(7, .int (nI 0)), (6, .int (nI a)), (5, .int X_), (4, .int (nI i)), (3, .int M_), (0, .ref M), (1, .int (nI fr)), (2, .int (nI to))]) hx hb dX7_rides_88 hl (by decide) rfl (fun ls hl => ?_)
                have loop_90 : ∀ (k_ : Nat) (b : Nat) (X2 : Int32) (h_b3 : b ≤ n) (h_J2 : mrJ f n M_ a b X2) (_ : n - b < k_) (H : Heap) (locs : List Loc) (_ : VP G [(M, .inr (4, [.int (nI 0), .ref mt, .int (nI sz), .ref mn, .ref mtr, .ref md, .int (nI ac), .ref mk, .ref mik, .ref na, .ref so])), (mn, .inl (G.2 0, 131, .inl (mr n (nI g) sk mm))), (na, .inl (G.2 0, 16, .inl (nmA sk (kdm mm) g 0 n nf))), (so, .inl (G.2 0, 16, .inl (soA sk (kdm mm) g 0 n sf)))] H) (_ : va_D (vA [(M, .inr (4, [.int (nI rf), .ref mt, .int (nI sz), .ref mn, .ref mtr, .ref md, .int (nI ac), .ref mk, .ref mik, .ref na, .ref so])), (mn, .inl (G.2 0, 131, .inl (mr n (nI g) sk mm))), (na, .inl (G.2 0, 16, .inl nf)), (so, .inl (G.2 0, 16, .inl sf))]) [(M, .inr (4, [.int (nI 0), .ref mt, .int (nI sz), .ref mn, .ref mtr, .ref md, .int (nI ac), .ref mk, .ref mik, .ref na, .ref so])), (mn, .inl (G.2 0, 131, .inl (mr n (nI g) sk mm))), (na, .inl (G.2 0, 16, .inl (nmA sk (kdm mm) g 0 n nf))), (so, .inl (G.2 0, 16, .inl (soA sk (kdm mm) g 0 n sf)))]) (_ : va_S (vA [(M, .inr (4, [.int (nI rf), .ref mt, .int (nI sz), .ref mn, .ref mtr, .ref md, .int (nI ac), .ref mk, .ref mik, .ref na, .ref so])), (mn, .inl (G.2 0, 131, .inl (mr n (nI g) sk mm))), (na, .inl (G.2 0, 16, .inl nf)), (so, .inl (G.2 0, 16, .inl sf))]) s.heap H locs) (ls : Array Slot), lv_has ls 8 [(7, .int (nI b)), (6, .int (nI a)), (5, .int X2), (4, .int (nI i)), (3, .int M_), (0, .ref M), (1, .int (nI fr)), (2, .int (nI to))] → W p l e ({ frames := 4, cells := 0, slots := 0, locals := 91 } : Room) s m ([.ref M, .int (nI fr), .int (nI to)] : List Value).toArray below meth c H locs 0 0 (MQ below (QW G (some (.int (fwF f n to 16 0 (bitv fr)))) [(M, .inr (4, [.int (nI 0), .ref mt, .int (nI sz), .ref mn, .ref mtr, .ref md, .int (nI ac), .ref mk, .ref mik, .ref na, .ref so])), (mn, .inl (G.2 0, 131, .inl (mr n (nI g) sk mm))), (na, .inl (G.2 0, 16, .inl (nmA sk (kdm mm) g 0 n nf))), (so, .inl (G.2 0, 16, .inl (soA sk (kdm mm) g 0 n sf)))] (vA [(M, .inr (4, [.int (nI rf), .ref mt, .int (nI sz), .ref mn, .ref mtr, .ref md, .int (nI ac), .ref mk, .ref mik, .ref na, .ref so])), (mn, .inl (G.2 0, 131, .inl (mr n (nI g) sk mm))), (na, .inl (G.2 0, 16, .inl nf)), (so, .inl (G.2 0, 16, .inl sf))])) ([.ref M, .int (nI fr), .int (nI to)] : List Value).toArray s 0 0 (vA [(M, .inr (4, [.int (nI rf), .ref mt, .int (nI sz), .ref mn, .ref mtr, .ref md, .int (nI ac), .ref mk, .ref mik, .ref na, .ref so])), (mn, .inl (G.2 0, 131, .inl (mr n (nI g) sk mm))), (na, .inl (G.2 0, 16, .inl nf)), (so, .inl (G.2 0, 16, .inl sf))])) (F0 m 90 ls []) := by
                  intro k_
                  induction k_ with
                  | zero => intro b X2 h_b3 h_J2 hk_; exact absurd hk_ (Nat.not_lt_zero _)
                  | succ k_ ih_90 =>
                    intro b X2 h_b3 h_J2 hk_ H locs hP hD hS ls hl
                    refine lv_iload hx hb dX7_rides_90 (lv_at hl 0 rfl) ?_
                    refine lv_aload_n hx hb dX7_rides_92 rfl (lv_at hl 5 rfl) ?_
                    refine va_get (D := G.1) (ci := 4) (v := .ref mn) (C := RX7) (T := TX7) (N := 11) hx hb hts in_c_X7_rides_X7 hown hK.1 hP 0 rfl rfl 3 (by decide) (hts (.fieldLink RX7 13 "FloorPanelsModel" "now" "[I") (by decide +kernel)) (fun _ h9 => h9) rfl dX7_rides_93 ?_
                    refine lv_iconst (v := nI 0) hx hb dX7_rides_96 (by decide) ?_
                    refine nv_iald hx hb hK hP 1 rfl (by omega) (by decide) dX7_rides_97 ?_
                    rw [show (mr n (nI g) sk mm) 0 = nI n from mr_0]
                    refine bi_ge (tgt := 148) hx hb dX7_rides_98 (by decide) (nI_i (by omega)) (nI_i (by omega)) (fun c_98 => ?_) (fun c_98 => ?_)
                    ·
                      refine lv_iinc (v := nI (a + 1)) (lv' := [(6, .int (nI (a + 1))), (7, .int (nI b)), (5, .int X2), (4, .int (nI i)), (3, .int M_), (0, .ref M), (1, .int (nI fr)), (2, .int (nI to))]) hx hb dX7_rides_148 hl (k := 1) rfl (inc_n _ 1) (by decide) rfl (fun ls hl => ?_)
                      refine lv_goto (tgt := 76) hx hb dX7_rides_151 (by decide) ?_
                      exact ih_76 (a + 1) X2 (by first | omega | assumption) (mrJ_row h_J2 (by omega)) (by omega) _ _ hP hD hS ls (lv_sub hl [0, 2, 3, 4, 5, 6, 7] (by rfl))
                    ·
                      refine lv_iload hx hb dX7_rides_101 (lv_at hl 2 rfl) ?_
                      refine lv_iload_n hx hb dX7_rides_103 rfl (lv_at hl 4 rfl) ?_
                      refine lv_iload hx hb dX7_rides_104 (lv_at hl 1 rfl) ?_
                      refine lv_ishr hx hb dX7_rides_106 ?_
                      refine lv_iconst (v := nI 1) hx hb dX7_rides_107 (by decide) ?_
                      refine lv_iand hx hb dX7_rides_108 ?_
                      refine lv_iconst (v := nI 1) hx hb dX7_rides_109 (by decide) ?_
                      refine lv_icmp_ne (tgt := 138) hx hb dX7_rides_110 (by decide) (fun c_110 => ?_) (fun c_110 => ?_)
                      ·
                        have h_b1 : ¬ bt M_ a = true := fun z_ => c_110 ((sk_s M_ (by omega)).mpr z_)
                        refine lv_iconst (v := nI 0) hx hb dX7_rides_138 (by decide) ?_
                        refine lv_ior hx hb dX7_rides_139 ?_
                        rw [show X2 ||| (nI 0) = X2 from orz X2]
                        refine lv_istore (lv' := [(5, .int X2), (7, .int (nI b)), (6, .int (nI a)), (4, .int (nI i)), (3, .int M_), (0, .ref M), (1, .int (nI fr)), (2, .int (nI to))]) hx hb dX7_rides_140 hl (by decide) rfl (fun ls hl => ?_)
                        refine lv_iinc (v := nI (b + 1)) (lv' := [(7, .int (nI (b + 1))), (5, .int X2), (6, .int (nI a)), (4, .int (nI i)), (3, .int M_), (0, .ref M), (1, .int (nI fr)), (2, .int (nI to))]) hx hb dX7_rides_142 hl (k := 1) rfl (inc_n _ 1) (by decide) rfl (fun ls hl => ?_)
                        refine lv_goto (tgt := 90) hx hb dX7_rides_145 (by decide) ?_
                        exact ih_90 (b + 1) X2 (by first | omega | assumption) (by first | exact mrJ_yes h_J2 (by omega) h_n h_b1 (by omega) (by assumption) | exact mrJ_no h_J2 (fun z_ => h_b1 z_.1) | exact mrJ_no h_J2 (fun z_ => z_.2.1 (by omega)) | exact mrJ_no h_J2 (fun z_ => (show ¬ lds f n a b from by assumption) z_.2.2)) (by omega) _ _ hP hD hS ls (lv_sub hl [0, 2, 1, 3, 4, 5, 6, 7] (by rfl))
                      ·
                        have h_b1 : bt M_ a = true := (sk_s M_ (by omega)).mp c_110
                        refine lv_iload hx hb dX7_rides_113 (lv_at hl 1 rfl) ?_
                        refine lv_iload hx hb dX7_rides_115 (lv_at hl 0 rfl) ?_
                        refine bi_eq (tgt := 138) hx hb dX7_rides_117 (by decide) (nI_i (by omega)) (nI_i (by omega)) (fun c_117 => ?_) (fun c_117 => ?_)
                        ·
                          refine lv_iconst (v := nI 0) hx hb dX7_rides_138 (by decide) ?_
                          refine lv_ior hx hb dX7_rides_139 ?_
                          rw [show X2 ||| (nI 0) = X2 from orz X2]
                          refine lv_istore (lv' := [(5, .int X2), (7, .int (nI b)), (6, .int (nI a)), (4, .int (nI i)), (3, .int M_), (0, .ref M), (1, .int (nI fr)), (2, .int (nI to))]) hx hb dX7_rides_140 hl (by decide) rfl (fun ls hl => ?_)
                          refine lv_iinc (v := nI (b + 1)) (lv' := [(7, .int (nI (b + 1))), (5, .int X2), (6, .int (nI a)), (4, .int (nI i)), (3, .int M_), (0, .ref M), (1, .int (nI fr)), (2, .int (nI to))]) hx hb dX7_rides_142 hl (k := 1) rfl (inc_n _ 1) (by decide) rfl (fun ls hl => ?_)
                          refine lv_goto (tgt := 90) hx hb dX7_rides_145 (by decide) ?_
                          exact ih_90 (b + 1) X2 (by first | omega | assumption) (by first | exact mrJ_yes h_J2 (by omega) h_n h_b1 (by omega) (by assumption) | exact mrJ_no h_J2 (fun z_ => h_b1 z_.1) | exact mrJ_no h_J2 (fun z_ => z_.2.1 (by omega)) | exact mrJ_no h_J2 (fun z_ => (show ¬ lds f n a b from by assumption) z_.2.2)) (by omega) _ _ hP hD hS ls (lv_sub hl [0, 2, 1, 3, 4, 5, 6, 7] (by rfl))
                        ·
                          refine lv_aload_n hx hb dX7_rides_120 rfl (lv_at hl 5 rfl) ?_
                          refine lv_iload hx hb dX7_rides_121 (lv_at hl 1 rfl) ?_
                          refine lv_iload hx hb dX7_rides_123 (lv_at hl 0 rfl) ?_
                          refine cRV (As := [.int (nI a), .int (nI b)]) (rest := [.int X2]) (v := .int (zb (lds f n a b))) ⟨hx, hb, hml, hown, hts⟩ (c_X7_leads l G M 0 mt sz mn mtr md ac mk mik na so n g sk mm (nmA sk (kdm mm) g 0 n nf) f a b (by first | omega | assumption) (by first | omega | assumption) (fun x_ hx_ => h_R.nf hx_) (by first | omega | assumption) (by first | omega | assumption)) (cwV 2 hts gX7_rides_X7_leads rfl rfl rfl (by decide +kernel) ⟨Nat.le_of_ble_eq_true rfl, Nat.le_of_ble_eq_true rfl⟩) (preV_of hK hP hD [0, 1, 2] (by decide) rfl (ci := 4) (q0 := 0) rfl rfl rfl) rfl hl.1 rfl (lv_room (Nat.le_of_ble_eq_true rfl)) dX7_rides_125 ⟨Nat.zero_le _, Nat.zero_le _⟩ ?_
                          refine bb_eq (tgt := 138) hx hb dX7_rides_128 (by decide) (fun c_128 => ?_) (fun c_128 => ?_)
                          ·
                            refine lv_iconst (v := nI 0) hx hb dX7_rides_138 (by decide) ?_
                            refine lv_ior hx hb dX7_rides_139 ?_
                            rw [show X2 ||| (nI 0) = X2 from orz X2]
                            refine lv_istore (lv' := [(5, .int X2), (7, .int (nI b)), (6, .int (nI a)), (4, .int (nI i)), (3, .int M_), (0, .ref M), (1, .int (nI fr)), (2, .int (nI to))]) hx hb dX7_rides_140 hl (by decide) rfl (fun ls hl => ?_)
                            refine lv_iinc (v := nI (b + 1)) (lv' := [(7, .int (nI (b + 1))), (5, .int X2), (6, .int (nI a)), (4, .int (nI i)), (3, .int M_), (0, .ref M), (1, .int (nI fr)), (2, .int (nI to))]) hx hb dX7_rides_142 hl (k := 1) rfl (inc_n _ 1) (by decide) rfl (fun ls hl => ?_)
                            refine lv_goto (tgt := 90) hx hb dX7_rides_145 (by decide) ?_
                            exact ih_90 (b + 1) X2 (by first | omega | assumption) (by first | exact mrJ_yes h_J2 (by omega) h_n h_b1 (by omega) (by assumption) | exact mrJ_no h_J2 (fun z_ => h_b1 z_.1) | exact mrJ_no h_J2 (fun z_ => z_.2.1 (by omega)) | exact mrJ_no h_J2 (fun z_ => (show ¬ lds f n a b from by assumption) z_.2.2)) (by omega) _ _ hP hD hS ls (lv_sub hl [0, 2, 1, 3, 4, 5, 6, 7] (by rfl))
                          ·
                            refine lv_iconst (v := nI 1) hx hb dX7_rides_131 (by decide) ?_
                            refine lv_iload hx hb dX7_rides_132 (lv_at hl 0 rfl) ?_
                            refine lv_ishl hx hb dX7_rides_134 ?_
                            rw [show (nI 1) <<< ((nI b) &&& 31) = (bitv b) from rfl]
                            refine lv_goto (tgt := 139) hx hb dX7_rides_135 (by decide) ?_
                            refine lv_ior hx hb dX7_rides_139 ?_
                            refine lv_istore (lv' := [(5, .int (X2 ||| (bitv b))), (7, .int (nI b)), (6, .int (nI a)), (4, .int (nI i)), (3, .int M_), (0, .ref M), (1, .int (nI fr)), (2, .int (nI to))]) hx hb dX7_rides_140 hl (by decide) rfl (fun ls hl => ?_)
                            refine lv_iinc (v := nI (b + 1)) (lv' := [(7, .int (nI (b + 1))), (5, .int (X2 ||| (bitv b))), (6, .int (nI a)), (4, .int (nI i)), (3, .int M_), (0, .ref M), (1, .int (nI fr)), (2, .int (nI to))]) hx hb dX7_rides_142 hl (k := 1) rfl (inc_n _ 1) (by decide) rfl (fun ls hl => ?_)
                            refine lv_goto (tgt := 90) hx hb dX7_rides_145 (by decide) ?_
                            exact ih_90 (b + 1) (X2 ||| (bitv b)) (by first | omega | assumption) (by first | exact mrJ_yes h_J2 (by omega) h_n h_b1 (by omega) (by assumption) | exact mrJ_no h_J2 (fun z_ => h_b1 z_.1) | exact mrJ_no h_J2 (fun z_ => z_.2.1 (by omega)) | exact mrJ_no h_J2 (fun z_ => (show ¬ lds f n a b from by assumption) z_.2.2)) (by omega) _ _ hP hD hS ls (lv_sub hl [0, 2, 1, 3, 4, 5, 6, 7] (by rfl))
                exact loop_90 (n - 0 + 1) 0 X_ (by first | omega | assumption) h_J (Nat.lt_succ_self _) _ _ hP hD hS ls (lv_sub hl [0, 1, 2, 3, 4, 5, 6, 7] (by rfl))
          exact loop_76 (n - 0 + 1) 0 M_ (by first | omega | assumption) mrJ_0 (Nat.lt_succ_self _) _ _ hP hD hS ls (lv_sub hl [0, 1, 2, 3, 4, 5, 6] (by rfl))
        ·
          have h_b : bt M_ to = true := (sk_s M_ (by omega)).mp c_64
          refine lv_iload hx hb dX7_rides_67 (lv_at hl 0 rfl) ?_
          exact W_i hx hb hr hlk dX7_rides_69 hP hS (by rw [← fwM_F, h_e, show 16 - i = 16 - (i + 1) + 1 by omega, fwM_t h_b]) (rfl)
  exact loop_51 (16 - 0 + 1) 0 (bitv fr) (by first | omega | assumption) rfl (Nat.lt_succ_self _) _ _ hP hD hS ls (lv_sub hl [0, 1, 2, 3, 4] (by rfl))

theorem in_n_X7_rides_l_X7 : ∀ w ∈ wsX70, w ∈ wsX7_rides := by decide +kernel
set_option maxHeartbeats 4000000 in
set_option maxRecDepth 100000 in
theorem n_X7_rides_l (l : Launch) (G : GG) (M : Nat) (rf : Nat) (mt : Nat) (sz : Nat) (mn : Nat) (mtr : Nat) (md : Nat) (ac : Nat) (mk : Nat) (mik : Nat) (na : Nat) (so : Nat) (n : Nat) (g : Nat) (sk : Int32) (mm : Nat → Int32) (z : Int32) (w : Int32) (h_n : n ≤ 16) (h_n1 : 1 ≤ n) (h_nol : ¬ (0 ≤ z.toInt ∧ z.toInt < (n : Int))) : Met l yX7_rides wsX7_rides ({ frames := 2, cells := 0, slots := 0, locals := 46 } : Room) (va_Pc [.ref M, .int z, .int w] (PB G [(M, .inr (4, [.int (nI rf), .ref mt, .int (nI sz), .ref mn, .ref mtr, .ref md, .int (nI ac), .ref mk, .ref mik, .ref na, .ref so])), (mn, .inl (G.2 0, 131, .inl (mr n (nI g) sk mm)))])) (QW G (some (.int (nI 0))) [(M, .inr (4, [.int (nI 1), .ref mt, .int (nI sz), .ref mn, .ref mtr, .ref md, .int (nI ac), .ref mk, .ref mik, .ref na, .ref so])), (mn, .inl (G.2 0, 131, .inl (mr n (nI g) sk mm)))] (vA [(M, .inr (4, [.int (nI rf), .ref mt, .int (nI sz), .ref mn, .ref mtr, .ref md, .int (nI ac), .ref mk, .ref mik, .ref na, .ref so])), (mn, .inl (G.2 0, 131, .inl (mr n (nI g) sk mm)))])) 0 0 (vA [(M, .inr (4, [.int (nI rf), .ref mt, .int (nI sz), .ref mn, .ref mtr, .ref md, .int (nI ac), .ref mk, .ref mik, .ref na, .ref so])), (mn, .inl (G.2 0, 131, .inl (mr n (nI g) sk mm)))]) := by
  refine Met.go (cc := cX7_rides) (maxL := 8) (ret := (some .int)) (by decide) rfl (Nat.le_of_ble_eq_true rfl) ?_
  intro p e s m below meth c ls hx hb hr hml hown hts hlk hP hK hD hS hl
  have hown : s.vm.findClass RX7 = some m.cls := hown
  have hl : lv_has ls 8 [(0, .ref M), (1, .int z), (2, .int w)] := hl
  refine lv_aload_n hx hb dX7_rides_0 rfl (lv_at hl 0 rfl) ?_
  refine lv_aload_n hx hb dX7_rides_1 rfl (lv_at hl 0 rfl) ?_
  refine va_get (D := G.1) (ci := 4) (v := .ref mn) (C := RX7) (T := TX7) (N := 11) hx hb hts in_n_X7_rides_l_X7 hown hK.1 hP 0 rfl rfl 3 (by decide) (hts (.fieldLink RX7 13 "FloorPanelsModel" "now" "[I") (by decide +kernel)) (fun _ h9 => h9) rfl dX7_rides_2 ?_
  refine lv_iload_n hx hb dX7_rides_5 rfl (lv_at hl 1 rfl) ?_
  refine cRS (As := [.ref mn, .int z]) (rest := [.ref M]) (v := .int (zb (0 ≤ z.toInt ∧ z.toInt < (n : Int)))) ⟨hx, hb, hml, hown, hts⟩ (c_X7_isLevel l G mn n g sk mm z (by first | omega | assumption) (by first | omega | assumption)) (va_cwS 2 hts gX7_rides_X7_isLevel rfl rfl rfl (by decide +kernel) ⟨Nat.le_of_ble_eq_true rfl, Nat.le_of_ble_eq_true rfl⟩) (preS_of hK hP hD [1] (by decide) rfl) rfl hl.1 rfl (lv_room (Nat.le_of_ble_eq_true rfl)) dX7_rides_6 ⟨Nat.zero_le _, Nat.zero_le _⟩ ?_
  refine bb_eq (tgt := 27) hx hb dX7_rides_9 (by decide) (fun c_9 => ?_) (fun c_9 => False.elim (by omega))
  refine lv_iconst (v := nI 1) hx hb dX7_rides_27 (by decide) ?_
  refine cWV (As := [.int (nI 1)]) (rest := []) (st1 := [.int (zb (0 < 1))]) (w3 := [(M, .inr (4, [.int (nI 1), .ref mt, .int (nI sz), .ref mn, .ref mtr, .ref md, .int (nI ac), .ref mk, .ref mik, .ref na, .ref so])), (mn, .inl (G.2 0, 131, .inl (mr n (nI g) sk mm)))]) ⟨hx, hb, hml, hown, hts⟩ (c_X7_refused l G M rf mt sz mn mtr md ac mk mik na so 1 (by first | omega | assumption)) (cwV 1 hts gX7_rides_X7_refused rfl rfl rfl (by decide +kernel) ⟨Nat.le_of_ble_eq_true rfl, Nat.le_of_ble_eq_true rfl⟩) (preV_of hK hP hD [0] (by decide) rfl (ci := 4) (q0 := 0) rfl rfl rfl) rfl hl.1 rfl (lv_room (Nat.le_of_ble_eq_true rfl)) dX7_rides_28 ⟨Nat.zero_le _, Nat.zero_le _⟩ hP hD hS [0] (by decide) rfl rfl (rfl) rfl (fun H locs hP hD hS => ?_)
  refine bb_eq (tgt := 36) hx hb dX7_rides_31 (by decide) (fun c_31 => False.elim (by omega)) (fun c_31 => ?_)
  refine lv_iconst (v := nI 0) hx hb dX7_rides_34 (by decide) ?_
  exact W_i hx hb hr hlk dX7_rides_35 hP hS (rfl) (rfl)

theorem in_n_X7_rides_m_X7 : ∀ w ∈ wsX70, w ∈ wsX7_rides := by decide +kernel
set_option maxHeartbeats 4000000 in
set_option maxRecDepth 100000 in
theorem n_X7_rides_m (l : Launch) (G : GG) (M : Nat) (rf : Nat) (mt : Nat) (sz : Nat) (mn : Nat) (mtr : Nat) (md : Nat) (ac : Nat) (mk : Nat) (mik : Nat) (na : Nat) (so : Nat) (n : Nat) (g : Nat) (sk : Int32) (mm : Nat → Int32) (lv : Nat) (z : Int32) (h_n : n ≤ 16) (h_n1 : 1 ≤ n) (h_lv : lv < n) (h_nol : ¬ (0 ≤ z.toInt ∧ z.toInt < (n : Int))) : Met l yX7_rides wsX7_rides ({ frames := 2, cells := 0, slots := 0, locals := 46 } : Room) (va_Pc [.ref M, .int (nI lv), .int z] (PB G [(M, .inr (4, [.int (nI rf), .ref mt, .int (nI sz), .ref mn, .ref mtr, .ref md, .int (nI ac), .ref mk, .ref mik, .ref na, .ref so])), (mn, .inl (G.2 0, 131, .inl (mr n (nI g) sk mm)))])) (QW G (some (.int (nI 0))) [(M, .inr (4, [.int (nI 1), .ref mt, .int (nI sz), .ref mn, .ref mtr, .ref md, .int (nI ac), .ref mk, .ref mik, .ref na, .ref so])), (mn, .inl (G.2 0, 131, .inl (mr n (nI g) sk mm)))] (vA [(M, .inr (4, [.int (nI rf), .ref mt, .int (nI sz), .ref mn, .ref mtr, .ref md, .int (nI ac), .ref mk, .ref mik, .ref na, .ref so])), (mn, .inl (G.2 0, 131, .inl (mr n (nI g) sk mm)))])) 0 0 (vA [(M, .inr (4, [.int (nI rf), .ref mt, .int (nI sz), .ref mn, .ref mtr, .ref md, .int (nI ac), .ref mk, .ref mik, .ref na, .ref so])), (mn, .inl (G.2 0, 131, .inl (mr n (nI g) sk mm)))]) := by
  refine Met.go (cc := cX7_rides) (maxL := 8) (ret := (some .int)) (by decide) rfl (Nat.le_of_ble_eq_true rfl) ?_
  intro p e s m below meth c ls hx hb hr hml hown hts hlk hP hK hD hS hl
  have hown : s.vm.findClass RX7 = some m.cls := hown
  have hl : lv_has ls 8 [(0, .ref M), (1, .int (nI lv)), (2, .int z)] := hl
  refine lv_aload_n hx hb dX7_rides_0 rfl (lv_at hl 0 rfl) ?_
  refine lv_aload_n hx hb dX7_rides_1 rfl (lv_at hl 0 rfl) ?_
  refine va_get (D := G.1) (ci := 4) (v := .ref mn) (C := RX7) (T := TX7) (N := 11) hx hb hts in_n_X7_rides_m_X7 hown hK.1 hP 0 rfl rfl 3 (by decide) (hts (.fieldLink RX7 13 "FloorPanelsModel" "now" "[I") (by decide +kernel)) (fun _ h9 => h9) rfl dX7_rides_2 ?_
  refine lv_iload_n hx hb dX7_rides_5 rfl (lv_at hl 1 rfl) ?_
  refine cRS (As := [.ref mn, .int (nI lv)]) (rest := [.ref M]) (v := .int (zb (lv < n))) ⟨hx, hb, hml, hown, hts⟩ (c_X7_isLevel_n l G mn n g sk mm lv (by first | omega | assumption) (by first | omega | assumption) (by first | omega | assumption)) (va_cwS 2 hts gX7_rides_X7_isLevel rfl rfl rfl (by decide +kernel) ⟨Nat.le_of_ble_eq_true rfl, Nat.le_of_ble_eq_true rfl⟩) (preS_of hK hP hD [1] (by decide) rfl) rfl hl.1 rfl (lv_room (Nat.le_of_ble_eq_true rfl)) dX7_rides_6 ⟨Nat.zero_le _, Nat.zero_le _⟩ ?_
  refine bb_eq (tgt := 27) hx hb dX7_rides_9 (by decide) (fun c_9 => False.elim (by omega)) (fun c_9 => ?_)
  refine lv_aload_n hx hb dX7_rides_12 rfl (lv_at hl 0 rfl) ?_
  refine va_get (D := G.1) (ci := 4) (v := .ref mn) (C := RX7) (T := TX7) (N := 11) hx hb hts in_n_X7_rides_m_X7 hown hK.1 hP 0 rfl rfl 3 (by decide) (hts (.fieldLink RX7 13 "FloorPanelsModel" "now" "[I") (by decide +kernel)) (fun _ h9 => h9) rfl dX7_rides_13 ?_
  refine lv_iload_n hx hb dX7_rides_16 rfl (lv_at hl 2 rfl) ?_
  refine cRS (As := [.ref mn, .int z]) (rest := [.ref M]) (v := .int (zb (0 ≤ z.toInt ∧ z.toInt < (n : Int)))) ⟨hx, hb, hml, hown, hts⟩ (c_X7_isLevel l G mn n g sk mm z (by first | omega | assumption) (by first | omega | assumption)) (va_cwS 2 hts gX7_rides_X7_isLevel rfl rfl rfl (by decide +kernel) ⟨Nat.le_of_ble_eq_true rfl, Nat.le_of_ble_eq_true rfl⟩) (preS_of hK hP hD [1] (by decide) rfl) rfl hl.1 rfl (lv_room (Nat.le_of_ble_eq_true rfl)) dX7_rides_17 ⟨Nat.zero_le _, Nat.zero_le _⟩ ?_
  refine bb_eq (tgt := 27) hx hb dX7_rides_20 (by decide) (fun c_20 => ?_) (fun c_20 => False.elim (by omega))
  refine lv_iconst (v := nI 1) hx hb dX7_rides_27 (by decide) ?_
  refine cWV (As := [.int (nI 1)]) (rest := []) (st1 := [.int (zb (0 < 1))]) (w3 := [(M, .inr (4, [.int (nI 1), .ref mt, .int (nI sz), .ref mn, .ref mtr, .ref md, .int (nI ac), .ref mk, .ref mik, .ref na, .ref so])), (mn, .inl (G.2 0, 131, .inl (mr n (nI g) sk mm)))]) ⟨hx, hb, hml, hown, hts⟩ (c_X7_refused l G M rf mt sz mn mtr md ac mk mik na so 1 (by first | omega | assumption)) (cwV 1 hts gX7_rides_X7_refused rfl rfl rfl (by decide +kernel) ⟨Nat.le_of_ble_eq_true rfl, Nat.le_of_ble_eq_true rfl⟩) (preV_of hK hP hD [0] (by decide) rfl (ci := 4) (q0 := 0) rfl rfl rfl) rfl hl.1 rfl (lv_room (Nat.le_of_ble_eq_true rfl)) dX7_rides_28 ⟨Nat.zero_le _, Nat.zero_le _⟩ hP hD hS [0] (by decide) rfl rfl (rfl) rfl (fun H locs hP hD hS => ?_)
  refine bb_eq (tgt := 36) hx hb dX7_rides_31 (by decide) (fun c_31 => False.elim (by omega)) (fun c_31 => ?_)
  refine lv_iconst (v := nI 0) hx hb dX7_rides_34 (by decide) ?_
  exact W_i hx hb hr hlk dX7_rides_35 hP hS (rfl) (rfl)

