theorem in_c_X2_length_X2 : ∀ w ∈ wsX20, w ∈ wsX2_length := by decide +kernel
set_option maxHeartbeats 4000000 in
set_option maxRecDepth 100000 in
theorem c_X2_length (l : Launch) (G : GG) (tx : Nat) (ch : Nat) (sz : Nat)  : Met l yX2_length wsX2_length ({ frames := 0, cells := 0, slots := 0, locals := 0 } : Room) (va_Pc [.ref tx] (PB G [(tx, .inr (2, [.ref ch, .int (nI sz)]))])) (QR (some (.int (nI sz)))) 0 0 (fun _ => False) := by
  refine Met.go (cc := cX2_length) (maxL := 1) (ret := (some .int)) (by decide) rfl (Nat.le_of_ble_eq_true rfl) ?_
  intro p e s m below meth c ls hx hb hr hml hown hts hlk hP hK hD hS hl
  have hown : s.vm.findClass RX2 = some m.cls := hown
  have hl : lv_has ls 1 [(0, .ref tx)] := hl
  refine lv_aload_n hx hb dX2_length_0 rfl (lv_at hl 0 rfl) ?_
  refine va_get (D := G.1) (ci := 2) (v := .int (nI sz)) (C := RX2) (T := TX2) (N := 2) hx hb hts in_c_X2_length_X2 hown hK.1 hP 0 rfl rfl 1 (by decide) (hts (.fieldLink RX2 15 "FloorPanels$HouseText" "length" "I") (by decide +kernel)) (fun _ h9 => h9) rfl dX2_length_1 ?_
  exact R_i hx hb hr hlk dX2_length_4 (rfl)

theorem in_c_X2_isFull_X2 : ∀ w ∈ wsX20, w ∈ wsX2_isFull := by decide +kernel
set_option maxHeartbeats 4000000 in
set_option maxRecDepth 100000 in
theorem c_X2_isFull (l : Launch) (G : GG) (tx : Nat) (ch : Nat) (sz : Nat) (h_sz : sz ≤ 60) : Met l yX2_isFull wsX2_isFull ({ frames := 0, cells := 0, slots := 0, locals := 0 } : Room) (va_Pc [.ref tx] (PB G [(tx, .inr (2, [.ref ch, .int (nI sz)]))])) (QR (some (.int (zb (sz = 60))))) 0 0 (fun _ => False) := by
  refine Met.go (cc := cX2_isFull) (maxL := 1) (ret := (some .boolean)) (by decide) rfl (Nat.le_of_ble_eq_true rfl) ?_
  intro p e s m below meth c ls hx hb hr hml hown hts hlk hP hK hD hS hl
  have hown : s.vm.findClass RX2 = some m.cls := hown
  have hl : lv_has ls 1 [(0, .ref tx)] := hl
  refine lv_aload_n hx hb dX2_isFull_0 rfl (lv_at hl 0 rfl) ?_
  refine va_get (D := G.1) (ci := 2) (v := .int (nI sz)) (C := RX2) (T := TX2) (N := 2) hx hb hts in_c_X2_isFull_X2 hown hK.1 hP 0 rfl rfl 1 (by decide) (hts (.fieldLink RX2 15 "FloorPanels$HouseText" "length" "I") (by decide +kernel)) (fun _ h9 => h9) rfl dX2_isFull_1 ?_
  refine lv_bipush (v := nI 60) hx hb dX2_isFull_4 (by decide) ?_
  refine bi_lt (tgt := 13) hx hb dX2_isFull_6 (by decide) (nI_i (by omega)) (nI_i (by omega)) (fun c_6 => ?_) (fun c_6 => ?_)
  ·
    refine lv_iconst (v := nI 0) hx hb dX2_isFull_13 (by decide) ?_
    exact R_z hx hb hr hlk dX2_isFull_14 ((zb_f (by first | omega | assumption | exact ⟨by assumption, by assumption⟩ | exact fun z_ => z_ (by assumption) | exact fun z_ => absurd z_.1 (by assumption) | exact fun z_ => absurd z_.2 (by assumption) | exact fun z_ => z_.1 (by assumption) | exact fun z_ => z_.2 (by assumption))).symm) zb_nar
  ·
    refine lv_iconst (v := nI 1) hx hb dX2_isFull_9 (by decide) ?_
    refine lv_goto (tgt := 14) hx hb dX2_isFull_10 (by decide) ?_
    exact R_z hx hb hr hlk dX2_isFull_14 ((zb_t (by first | omega | assumption | exact ⟨by assumption, by assumption⟩ | exact fun z_ => z_ (by assumption) | exact fun z_ => absurd z_.1 (by assumption) | exact fun z_ => absurd z_.2 (by assumption) | exact fun z_ => z_.1 (by assumption) | exact fun z_ => z_.2 (by assumption))).symm) zb_nar

theorem in_c_X2_write_X2 : ∀ w ∈ wsX20, w ∈ wsX2_write := by decide +kernel
set_option maxHeartbeats 4000000 in
set_option maxRecDepth 100000 in
theorem c_X2_write (l : Launch) (G : GG) (tx : Nat) (ch : Nat) (sz : Nat) (cd : Nat → Nat) (k : Nat) (h_sz : sz < 60) (h_k : k < 256) : Met l yX2_write wsX2_write ({ frames := 1, cells := 0, slots := 0, locals := 20 } : Room) (va_Pc [.ref tx, .int (nI k)] (PB G [(tx, .inr (2, [.ref ch, .int (nI sz)])), (ch, .inl (G.2 1, 60, .inl (cdI cd)))])) (QW G (none) [(tx, .inr (2, [.ref ch, .int (nI (sz + 1))])), (ch, .inl (G.2 1, 60, .inl (cdI (fun j_ => if j_ = sz then k else cd j_))))] (vA [(tx, .inr (2, [.ref ch, .int (nI sz)])), (ch, .inl (G.2 1, 60, .inl (cdI cd)))])) 0 0 (vA [(tx, .inr (2, [.ref ch, .int (nI sz)])), (ch, .inl (G.2 1, 60, .inl (cdI cd)))]) := by
  refine Met.go (cc := cX2_write) (maxL := 2) (ret := none) (by decide) rfl (Nat.le_of_ble_eq_true rfl) ?_
  intro p e s m below meth c ls hx hb hr hml hown hts hlk hP hK hD hS hl
  have hown : s.vm.findClass RX2 = some m.cls := hown
  have hl : lv_has ls 2 [(0, .ref tx), (1, .int (nI k))] := hl
  refine lv_aload_n hx hb dX2_write_0 rfl (lv_at hl 0 rfl) ?_
  refine cRV (As := []) (rest := []) (v := .int (zb (sz = 60))) ⟨hx, hb, hml, hown, hts⟩ (c_X2_isFull l G tx ch sz (by first | omega | assumption)) (cwV 0 hts gX2_write_X2_isFull rfl rfl rfl (by decide +kernel) ⟨Nat.le_of_ble_eq_true rfl, Nat.le_of_ble_eq_true rfl⟩) (preV_of hK hP hD [0] (by decide) rfl (ci := 2) (q0 := 0) rfl rfl rfl) rfl hl.1 rfl (lv_room (Nat.le_of_ble_eq_true rfl)) dX2_write_1 ⟨Nat.zero_le _, Nat.zero_le _⟩ ?_
  refine bb_ne (tgt := 27) hx hb dX2_write_4 (by decide) (fun c_4 => False.elim (by omega)) (fun c_4 => ?_)
  refine lv_aload_n hx hb dX2_write_7 rfl (lv_at hl 0 rfl) ?_
  refine va_get (D := G.1) (ci := 2) (v := .ref ch) (C := RX2) (T := TX2) (N := 2) hx hb hts in_c_X2_write_X2 hown hK.1 hP 0 rfl rfl 0 (by decide) (hts (.fieldLink RX2 11 "FloorPanels$HouseText" "characters" "[C") (by decide +kernel)) (fun _ h9 => h9) rfl dX2_write_8 ?_
  refine lv_aload_n hx hb dX2_write_11 rfl (lv_at hl 0 rfl) ?_
  refine va_get (D := G.1) (ci := 2) (v := .int (nI sz)) (C := RX2) (T := TX2) (N := 2) hx hb hts in_c_X2_write_X2 hown hK.1 hP 0 rfl rfl 1 (by decide) (hts (.fieldLink RX2 15 "FloorPanels$HouseText" "length" "I") (by decide +kernel)) (fun _ h9 => h9) rfl dX2_write_12 ?_
  refine lv_iload_n hx hb dX2_write_15 rfl (lv_at hl 1 rfl) ?_
  refine nv_cast hx hb hK hP hD hS 1 rfl (v := nI k) (nar_c h_k) (by omega) (by decide) dX2_write_16 (w3 := [(tx, .inr (2, [.ref ch, .int (nI sz)])), (ch, .inl (G.2 1, 60, .inl (cdI (fun j_ => if j_ = sz then k else cd j_))))]) (by rw [cdI_u]; rfl) (fun H locs hP hD hS => ?_)
  refine lv_aload_n hx hb dX2_write_17 rfl (lv_at hl 0 rfl) ?_
  refine lv_dup hx hb dX2_write_18 rfl ?_
  refine va_get (D := G.1) (ci := 2) (v := .int (nI sz)) (C := RX2) (T := TX2) (N := 2) hx hb hts in_c_X2_write_X2 hown hK.1 hP 0 rfl rfl 1 (by decide) (hts (.fieldLink RX2 15 "FloorPanels$HouseText" "length" "I") (by decide +kernel)) (fun _ h9 => h9) rfl dX2_write_19 ?_
  refine lv_iconst (v := nI 1) hx hb dX2_write_22 (by decide) ?_
  refine nv_iadd hx hb dX2_write_23 ?_
  refine va_put (D := G.1) (ci := 2) (v := .int (nI (sz + 1))) (ty := .int) (C := RX2) (T := TX2) (N := 2) hx hb hts in_c_X2_write_X2 tyX2 tyX2_ok nmX2 hown hK.1 hP hD hS 0 rfl rfl 1 (by decide) (hts (.fieldLink RX2 15 "FloorPanels$HouseText" "length" "I") (by decide +kernel)) (fun _ h9 => h9) rfl (by decide +kernel) rfl rfl (Nat.le_of_ble_eq_true rfl) dX2_write_24 (fun H locs hP hD hS => ?_)
  have hP : VP G [(tx, .inr (2, [.ref ch, .int (nI (sz + 1))])), (ch, .inl (G.2 1, 60, .inl (cdI (fun j_ => if j_ = sz then k else cd j_))))] H := hP
  have hD : va_D _ [(tx, .inr (2, [.ref ch, .int (nI (sz + 1))])), (ch, .inl (G.2 1, 60, .inl (cdI (fun j_ => if j_ = sz then k else cd j_))))] := hD
  exact W_v hx hb hr hlk dX2_write_27 hP hS (rfl)

theorem in_c_X2_wipe_X2 : ∀ w ∈ wsX20, w ∈ wsX2_wipe := by decide +kernel
set_option maxHeartbeats 4000000 in
set_option maxRecDepth 100000 in
theorem c_X2_wipe (l : Launch) (G : GG) (tx : Nat) (ch : Nat) (sz : Nat)  : Met l yX2_wipe wsX2_wipe ({ frames := 0, cells := 0, slots := 0, locals := 0 } : Room) (va_Pc [.ref tx] (PB G [(tx, .inr (2, [.ref ch, .int (nI sz)]))])) (QW G (none) [(tx, .inr (2, [.ref ch, .int (nI 0)]))] (vA [(tx, .inr (2, [.ref ch, .int (nI sz)]))])) 0 0 (vA [(tx, .inr (2, [.ref ch, .int (nI sz)]))]) := by
  refine Met.go (cc := cX2_wipe) (maxL := 1) (ret := none) (by decide) rfl (Nat.le_of_ble_eq_true rfl) ?_
  intro p e s m below meth c ls hx hb hr hml hown hts hlk hP hK hD hS hl
  have hown : s.vm.findClass RX2 = some m.cls := hown
  have hl : lv_has ls 1 [(0, .ref tx)] := hl
  refine lv_aload_n hx hb dX2_wipe_0 rfl (lv_at hl 0 rfl) ?_
  refine lv_iconst (v := nI 0) hx hb dX2_wipe_1 (by decide) ?_
  refine va_put (D := G.1) (ci := 2) (v := .int (nI 0)) (ty := .int) (C := RX2) (T := TX2) (N := 2) hx hb hts in_c_X2_wipe_X2 tyX2 tyX2_ok nmX2 hown hK.1 hP hD hS 0 rfl rfl 1 (by decide) (hts (.fieldLink RX2 15 "FloorPanels$HouseText" "length" "I") (by decide +kernel)) (fun _ h9 => h9) rfl (by decide +kernel) rfl rfl (Nat.le_of_ble_eq_true rfl) dX2_wipe_2 (fun H locs hP hD hS => ?_)
  have hP : VP G [(tx, .inr (2, [.ref ch, .int (nI 0)]))] H := hP
  have hD : va_D _ [(tx, .inr (2, [.ref ch, .int (nI 0)]))] := hD
  exact W_v hx hb hr hlk dX2_wipe_5 hP hS (rfl)

theorem in_c_X2_character_X2 : ∀ w ∈ wsX20, w ∈ wsX2_character := by decide +kernel
set_option maxHeartbeats 4000000 in
set_option maxRecDepth 100000 in
theorem c_X2_character (l : Launch) (G : GG) (tx : Nat) (ch : Nat) (sz : Nat) (cd : Nat → Nat) (i : Nat) (h_i : i < sz) (h_sz : sz ≤ 60) (h_cd : ∀ j_, cd j_ < 256) : Met l yX2_character wsX2_character ({ frames := 0, cells := 0, slots := 0, locals := 0 } : Room) (va_Pc [.ref tx, .int (nI i)] (PB G [(tx, .inr (2, [.ref ch, .int (nI sz)])), (ch, .inl (G.2 1, 60, .inl (cdI cd)))])) (QR (some (.int (nI (cd i))))) 0 0 (fun _ => False) := by
  refine Met.go (cc := cX2_character) (maxL := 2) (ret := (some .char)) (by decide) rfl (Nat.le_of_ble_eq_true rfl) ?_
  intro p e s m below meth c ls hx hb hr hml hown hts hlk hP hK hD hS hl
  have hown : s.vm.findClass RX2 = some m.cls := hown
  have hl : lv_has ls 2 [(0, .ref tx), (1, .int (nI i))] := hl
  refine lv_iload_n hx hb dX2_character_0 rfl (lv_at hl 1 rfl) ?_
  refine b0_lt (tgt := 27) hx hb dX2_character_1 (by decide) (nI_i (by omega)) (fun c_1 => False.elim (by omega)) (fun c_1 => ?_)
  refine lv_iload_n hx hb dX2_character_4 rfl (lv_at hl 1 rfl) ?_
  refine lv_aload_n hx hb dX2_character_5 rfl (lv_at hl 0 rfl) ?_
  refine va_get (D := G.1) (ci := 2) (v := .int (nI sz)) (C := RX2) (T := TX2) (N := 2) hx hb hts in_c_X2_character_X2 hown hK.1 hP 0 rfl rfl 1 (by decide) (hts (.fieldLink RX2 15 "FloorPanels$HouseText" "length" "I") (by decide +kernel)) (fun _ h9 => h9) rfl dX2_character_6 ?_
  refine bi_ge (tgt := 27) hx hb dX2_character_9 (by decide) (nI_i (by omega)) (nI_i (by omega)) (fun c_9 => False.elim (by omega)) (fun c_9 => ?_)
  refine lv_iload_n hx hb dX2_character_12 rfl (lv_at hl 1 rfl) ?_
  refine lv_bipush (v := nI 60) hx hb dX2_character_13 (by decide) ?_
  refine bi_ge (tgt := 27) hx hb dX2_character_15 (by decide) (nI_i (by omega)) (nI_i (by omega)) (fun c_15 => False.elim (by omega)) (fun c_15 => ?_)
  refine lv_aload_n hx hb dX2_character_18 rfl (lv_at hl 0 rfl) ?_
  refine va_get (D := G.1) (ci := 2) (v := .ref ch) (C := RX2) (T := TX2) (N := 2) hx hb hts in_c_X2_character_X2 hown hK.1 hP 0 rfl rfl 0 (by decide) (hts (.fieldLink RX2 11 "FloorPanels$HouseText" "characters" "[C") (by decide +kernel)) (fun _ h9 => h9) rfl dX2_character_19 ?_
  refine lv_iload_n hx hb dX2_character_22 rfl (lv_at hl 1 rfl) ?_
  refine nv_cald hx hb hK hP 1 rfl (by omega) (by decide) dX2_character_23 ?_
  rw [show (cdI cd) i = nI (cd i) from rfl]
  have h_c := h_cd i
  refine lv_goto (tgt := 28) hx hb dX2_character_24 (by decide) ?_
  exact R_z hx hb hr hlk dX2_character_28 (rfl) (congrArg Value.int (nar_c (h_cd i)))

theorem in_c_X2_character_o_X2 : ∀ w ∈ wsX20, w ∈ wsX2_character := by decide +kernel
set_option maxHeartbeats 4000000 in
set_option maxRecDepth 100000 in
theorem c_X2_character_o (l : Launch) (G : GG) (tx : Nat) (ch : Nat) (sz : Nat) (i : Nat) (h_i : sz ≤ i) (h_sz : sz ≤ 60) (h_i2 : i ≤ 60) : Met l yX2_character wsX2_character ({ frames := 0, cells := 0, slots := 0, locals := 0 } : Room) (va_Pc [.ref tx, .int (nI i)] (PB G [(tx, .inr (2, [.ref ch, .int (nI sz)]))])) (QR (some (.int (nI 0)))) 0 0 (fun _ => False) := by
  refine Met.go (cc := cX2_character) (maxL := 2) (ret := (some .char)) (by decide) rfl (Nat.le_of_ble_eq_true rfl) ?_
  intro p e s m below meth c ls hx hb hr hml hown hts hlk hP hK hD hS hl
  have hown : s.vm.findClass RX2 = some m.cls := hown
  have hl : lv_has ls 2 [(0, .ref tx), (1, .int (nI i))] := hl
  refine lv_iload_n hx hb dX2_character_0 rfl (lv_at hl 1 rfl) ?_
  refine b0_lt (tgt := 27) hx hb dX2_character_1 (by decide) (nI_i (by omega)) (fun c_1 => False.elim (by omega)) (fun c_1 => ?_)
  refine lv_iload_n hx hb dX2_character_4 rfl (lv_at hl 1 rfl) ?_
  refine lv_aload_n hx hb dX2_character_5 rfl (lv_at hl 0 rfl) ?_
  refine va_get (D := G.1) (ci := 2) (v := .int (nI sz)) (C := RX2) (T := TX2) (N := 2) hx hb hts in_c_X2_character_o_X2 hown hK.1 hP 0 rfl rfl 1 (by decide) (hts (.fieldLink RX2 15 "FloorPanels$HouseText" "length" "I") (by decide +kernel)) (fun _ h9 => h9) rfl dX2_character_6 ?_
  refine bi_ge (tgt := 27) hx hb dX2_character_9 (by decide) (nI_i (by omega)) (nI_i (by omega)) (fun c_9 => ?_) (fun c_9 => False.elim (by omega))
  refine lv_iconst (v := nI 0) hx hb dX2_character_27 (by decide) ?_
  exact R_z hx hb hr hlk dX2_character_28 (rfl) rfl

theorem in_c_X7_append_X7 : ∀ w ∈ wsX70, w ∈ wsX7_append := by decide +kernel
set_option maxHeartbeats 4000000 in
set_option maxRecDepth 100000 in
theorem c_X7_append (l : Launch) (G : GG) (M : Nat) (rf : Nat) (mt : Nat) (sz : Nat) (mn : Nat) (mtr : Nat) (md : Nat) (ac : Nat) (mk : Nat) (mik : Nat) (na : Nat) (so : Nat) (cd : Nat → Nat) (k : Nat) (h_sz : sz < 60) (h_k : k < 256) : Met l yX7_append wsX7_append ({ frames := 1, cells := 0, slots := 0, locals := 25 } : Room) (va_Pc [.ref M, .int (nI k)] (PB G [(M, .inr (4, [.int (nI rf), .ref mt, .int (nI sz), .ref mn, .ref mtr, .ref md, .int (nI ac), .ref mk, .ref mik, .ref na, .ref so])), (mt, .inl (G.2 0, 60, .inl (cdI cd)))])) (QW G (some (.int (nI (sz + 1)))) [(M, .inr (4, [.int (nI 0), .ref mt, .int (nI (sz + 1)), .ref mn, .ref mtr, .ref md, .int (nI ac), .ref mk, .ref mik, .ref na, .ref so])), (mt, .inl (G.2 0, 60, .inl (cdI (fun j_ => if j_ = sz then k else cd j_))))] (vA [(M, .inr (4, [.int (nI rf), .ref mt, .int (nI sz), .ref mn, .ref mtr, .ref md, .int (nI ac), .ref mk, .ref mik, .ref na, .ref so])), (mt, .inl (G.2 0, 60, .inl (cdI cd)))])) 0 0 (vA [(M, .inr (4, [.int (nI rf), .ref mt, .int (nI sz), .ref mn, .ref mtr, .ref md, .int (nI ac), .ref mk, .ref mik, .ref na, .ref so])), (mt, .inl (G.2 0, 60, .inl (cdI cd)))]) := by
  refine Met.go (cc := cX7_append) (maxL := 2) (ret := (some .int)) (by decide) rfl (Nat.le_of_ble_eq_true rfl) ?_
  intro p e s m below meth c ls hx hb hr hml hown hts hlk hP hK hD hS hl
  have hown : s.vm.findClass RX7 = some m.cls := hown
  have hl : lv_has ls 2 [(0, .ref M), (1, .int (nI k))] := hl
  refine lv_aload_n hx hb dX7_append_0 rfl (lv_at hl 0 rfl) ?_
  refine lv_iload_n hx hb dX7_append_1 rfl (lv_at hl 1 rfl) ?_
  refine lv_i2l (v := (nI k).toInt64) hx hb dX7_append_2 rfl ?_
  refine lv_lconst (v := 0) hx hb dX7_append_3 rfl ?_
  refine lv_ldc2 (own := RX7) (v := 255) hx hb hown (hts (.constantLong RX7 101 (255)) (by decide +kernel)) dX7_append_4 ?_
  refine cRS (As := [.long ((nI k).toInt64), .long (0 : Int64), .long (255 : Int64)]) (rest := [.ref M]) (v := .int (zb ((0 : Int64).toInt ≤ ((nI k).toInt64).toInt ∧ ((nI k).toInt64).toInt ≤ (255 : Int64).toInt))) ⟨hx, hb, hml, hown, hts⟩ (c_X7_in l G ((nI k).toInt64) (0 : Int64) (255 : Int64) ) (va_cwS 3 hts gX7_append_X7_in rfl rfl rfl (by decide +kernel) ⟨Nat.le_of_ble_eq_true rfl, Nat.le_of_ble_eq_true rfl⟩) (preS_of hK hP hD [] (by decide) rfl) rfl hl.1 rfl (lv_room (Nat.le_of_ble_eq_true rfl)) dX7_append_7 ⟨Nat.zero_le _, Nat.zero_le _⟩ ?_
  refine bb_ne (tgt := 17) hx hb dX7_append_10 (by decide) (fun c_10 => ?_) (fun c_10 => False.elim (by (rw [i2l_toInt, nI_i (by omega), show (0 : Int64).toInt = 0 from rfl, show (255 : Int64).toInt = 255 from rfl] at c_10; omega)))
  refine lv_aload_n hx hb dX7_append_17 rfl (lv_at hl 0 rfl) ?_
  refine va_get (D := G.1) (ci := 4) (v := .int (nI sz)) (C := RX7) (T := TX7) (N := 11) hx hb hts in_c_X7_append_X7 hown hK.1 hP 0 rfl rfl 2 (by decide) (hts (.fieldLink RX7 103 "FloorPanelsModel" "size" "I") (by decide +kernel)) (fun _ h9 => h9) rfl dX7_append_18 ?_
  refine lv_bipush (v := nI 60) hx hb dX7_append_21 (by decide) ?_
  refine bi_ne (tgt := 30) hx hb dX7_append_23 (by decide) (nI_i (by omega)) (nI_i (by omega)) (fun c_23 => ?_) (fun c_23 => False.elim (by omega))
  refine lv_iconst (v := nI 0) hx hb dX7_append_30 (by decide) ?_
  refine cWV (As := [.int (nI 0)]) (rest := []) (st1 := [.int (zb (0 < 0))]) (w3 := [(M, .inr (4, [.int (nI 0), .ref mt, .int (nI sz), .ref mn, .ref mtr, .ref md, .int (nI ac), .ref mk, .ref mik, .ref na, .ref so])), (mt, .inl (G.2 0, 60, .inl (cdI cd)))]) ⟨hx, hb, hml, hown, hts⟩ (c_X7_refused l G M rf mt sz mn mtr md ac mk mik na so 0 (by first | omega | assumption)) (cwV 1 hts gX7_append_X7_refused rfl rfl rfl (by decide +kernel) ⟨Nat.le_of_ble_eq_true rfl, Nat.le_of_ble_eq_true rfl⟩) (preV_of hK hP hD [0] (by decide) rfl (ci := 4) (q0 := 0) rfl rfl rfl) rfl hl.1 rfl (lv_room (Nat.le_of_ble_eq_true rfl)) dX7_append_31 ⟨Nat.zero_le _, Nat.zero_le _⟩ hP hD hS [0] (by decide) rfl rfl (rfl) rfl (fun H locs hP hD hS => ?_)
  refine bb_eq (tgt := 39) hx hb dX7_append_34 (by decide) (fun c_34 => ?_) (fun c_34 => False.elim (by omega))
  refine lv_aload_n hx hb dX7_append_39 rfl (lv_at hl 0 rfl) ?_
  refine va_get (D := G.1) (ci := 4) (v := .ref mt) (C := RX7) (T := TX7) (N := 11) hx hb hts in_c_X7_append_X7 hown hK.1 hP 0 rfl rfl 1 (by decide) (hts (.fieldLink RX7 7 "FloorPanelsModel" "text" "[I") (by decide +kernel)) (fun _ h9 => h9) rfl dX7_append_40 ?_
  refine lv_aload_n hx hb dX7_append_43 rfl (lv_at hl 0 rfl) ?_
  refine va_get (D := G.1) (ci := 4) (v := .int (nI sz)) (C := RX7) (T := TX7) (N := 11) hx hb hts in_c_X7_append_X7 hown hK.1 hP 0 rfl rfl 2 (by decide) (hts (.fieldLink RX7 103 "FloorPanelsModel" "size" "I") (by decide +kernel)) (fun _ h9 => h9) rfl dX7_append_44 ?_
  refine lv_iload_n hx hb dX7_append_47 rfl (lv_at hl 1 rfl) ?_
  refine nv_iast hx hb hK hP hD hS 1 rfl (v := nI k) rfl (by omega) (by decide) dX7_append_48 (w3 := [(M, .inr (4, [.int (nI 0), .ref mt, .int (nI sz), .ref mn, .ref mtr, .ref md, .int (nI ac), .ref mk, .ref mik, .ref na, .ref so])), (mt, .inl (G.2 0, 60, .inl (cdI (fun j_ => if j_ = sz then k else cd j_))))]) (by rw [cdI_u]; rfl) (fun H locs hP hD hS => ?_)
  refine lv_aload_n hx hb dX7_append_49 rfl (lv_at hl 0 rfl) ?_
  refine lv_dup hx hb dX7_append_50 rfl ?_
  refine va_get (D := G.1) (ci := 4) (v := .int (nI sz)) (C := RX7) (T := TX7) (N := 11) hx hb hts in_c_X7_append_X7 hown hK.1 hP 0 rfl rfl 2 (by decide) (hts (.fieldLink RX7 103 "FloorPanelsModel" "size" "I") (by decide +kernel)) (fun _ h9 => h9) rfl dX7_append_51 ?_
  refine lv_iconst (v := nI 1) hx hb dX7_append_54 (by decide) ?_
  refine nv_iadd hx hb dX7_append_55 ?_
  refine va_put (D := G.1) (ci := 4) (v := .int (nI (sz + 1))) (ty := .int) (C := RX7) (T := TX7) (N := 11) hx hb hts in_c_X7_append_X7 tyX7 tyX7_ok nmX7 hown hK.1 hP hD hS 0 rfl rfl 2 (by decide) (hts (.fieldLink RX7 103 "FloorPanelsModel" "size" "I") (by decide +kernel)) (fun _ h9 => h9) rfl (by decide +kernel) rfl rfl (Nat.le_of_ble_eq_true rfl) dX7_append_56 (fun H locs hP hD hS => ?_)
  have hP : VP G [(M, .inr (4, [.int (nI 0), .ref mt, .int (nI (sz + 1)), .ref mn, .ref mtr, .ref md, .int (nI ac), .ref mk, .ref mik, .ref na, .ref so])), (mt, .inl (G.2 0, 60, .inl (cdI (fun j_ => if j_ = sz then k else cd j_))))] H := hP
  have hD : va_D _ [(M, .inr (4, [.int (nI 0), .ref mt, .int (nI (sz + 1)), .ref mn, .ref mtr, .ref md, .int (nI ac), .ref mk, .ref mik, .ref na, .ref so])), (mt, .inl (G.2 0, 60, .inl (cdI (fun j_ => if j_ = sz then k else cd j_))))] := hD
  refine lv_aload_n hx hb dX7_append_59 rfl (lv_at hl 0 rfl) ?_
  refine va_get (D := G.1) (ci := 4) (v := .int (nI (sz + 1))) (C := RX7) (T := TX7) (N := 11) hx hb hts in_c_X7_append_X7 hown hK.1 hP 0 rfl rfl 2 (by decide) (hts (.fieldLink RX7 103 "FloorPanelsModel" "size" "I") (by decide +kernel)) (fun _ h9 => h9) rfl dX7_append_60 ?_
  exact W_i hx hb hr hlk dX7_append_63 hP hS (rfl) (rfl)

set_option maxHeartbeats 4000000 in
set_option maxRecDepth 100000 in
theorem n_X7_append_c (l : Launch) (G : GG) (M : Nat) (rf : Nat) (mt : Nat) (sz : Nat) (mn : Nat) (mtr : Nat) (md : Nat) (ac : Nat) (mk : Nat) (mik : Nat) (na : Nat) (so : Nat) (y : Int32) (h_nok : ¬ (0 ≤ y.toInt ∧ y.toInt ≤ 255)) : Met l yX7_append wsX7_append ({ frames := 1, cells := 0, slots := 0, locals := 25 } : Room) (va_Pc [.ref M, .int y] (PB G [(M, .inr (4, [.int (nI rf), .ref mt, .int (nI sz), .ref mn, .ref mtr, .ref md, .int (nI ac), .ref mk, .ref mik, .ref na, .ref so]))])) (QW G (some (.int (nI 0))) [(M, .inr (4, [.int (nI 1), .ref mt, .int (nI sz), .ref mn, .ref mtr, .ref md, .int (nI ac), .ref mk, .ref mik, .ref na, .ref so]))] (vA [(M, .inr (4, [.int (nI rf), .ref mt, .int (nI sz), .ref mn, .ref mtr, .ref md, .int (nI ac), .ref mk, .ref mik, .ref na, .ref so]))])) 0 0 (vA [(M, .inr (4, [.int (nI rf), .ref mt, .int (nI sz), .ref mn, .ref mtr, .ref md, .int (nI ac), .ref mk, .ref mik, .ref na, .ref so]))]) := by
  refine Met.go (cc := cX7_append) (maxL := 2) (ret := (some .int)) (by decide) rfl (Nat.le_of_ble_eq_true rfl) ?_
  intro p e s m below meth c ls hx hb hr hml hown hts hlk hP hK hD hS hl
  have hown : s.vm.findClass RX7 = some m.cls := hown
  have hl : lv_has ls 2 [(0, .ref M), (1, .int y)] := hl
  refine lv_aload_n hx hb dX7_append_0 rfl (lv_at hl 0 rfl) ?_
  refine lv_iload_n hx hb dX7_append_1 rfl (lv_at hl 1 rfl) ?_
  refine lv_i2l (v := (y).toInt64) hx hb dX7_append_2 rfl ?_
  refine lv_lconst (v := 0) hx hb dX7_append_3 rfl ?_
  refine lv_ldc2 (own := RX7) (v := 255) hx hb hown (hts (.constantLong RX7 101 (255)) (by decide +kernel)) dX7_append_4 ?_
  refine cRS (As := [.long ((y).toInt64), .long (0 : Int64), .long (255 : Int64)]) (rest := [.ref M]) (v := .int (zb ((0 : Int64).toInt ≤ ((y).toInt64).toInt ∧ ((y).toInt64).toInt ≤ (255 : Int64).toInt))) ⟨hx, hb, hml, hown, hts⟩ (c_X7_in l G ((y).toInt64) (0 : Int64) (255 : Int64) ) (va_cwS 3 hts gX7_append_X7_in rfl rfl rfl (by decide +kernel) ⟨Nat.le_of_ble_eq_true rfl, Nat.le_of_ble_eq_true rfl⟩) (preS_of hK hP hD [] (by decide) rfl) rfl hl.1 rfl (lv_room (Nat.le_of_ble_eq_true rfl)) dX7_append_7 ⟨Nat.zero_le _, Nat.zero_le _⟩ ?_
  refine bb_ne (tgt := 17) hx hb dX7_append_10 (by decide) (fun c_10 => False.elim (by (rw [i2l_toInt, show (0 : Int64).toInt = 0 from rfl, show (255 : Int64).toInt = 255 from rfl] at c_10; omega))) (fun c_10 => ?_)
  refine lv_iconst (v := nI 1) hx hb dX7_append_13 (by decide) ?_
  refine lv_goto (tgt := 31) hx hb dX7_append_14 (by decide) ?_
  refine cWV (As := [.int (nI 1)]) (rest := []) (st1 := [.int (zb (0 < 1))]) (w3 := [(M, .inr (4, [.int (nI 1), .ref mt, .int (nI sz), .ref mn, .ref mtr, .ref md, .int (nI ac), .ref mk, .ref mik, .ref na, .ref so]))]) ⟨hx, hb, hml, hown, hts⟩ (c_X7_refused l G M rf mt sz mn mtr md ac mk mik na so 1 (by first | omega | assumption)) (cwV 1 hts gX7_append_X7_refused rfl rfl rfl (by decide +kernel) ⟨Nat.le_of_ble_eq_true rfl, Nat.le_of_ble_eq_true rfl⟩) (preV_of hK hP hD [0] (by decide) rfl (ci := 4) (q0 := 0) rfl rfl rfl) rfl hl.1 rfl (lv_room (Nat.le_of_ble_eq_true rfl)) dX7_append_31 ⟨Nat.zero_le _, Nat.zero_le _⟩ hP hD hS [0] (by decide) rfl rfl (rfl) rfl (fun H locs hP hD hS => ?_)
  refine bb_eq (tgt := 39) hx hb dX7_append_34 (by decide) (fun c_34 => False.elim (by omega)) (fun c_34 => ?_)
  refine lv_iconst (v := nI 0) hx hb dX7_append_37 (by decide) ?_
  exact W_i hx hb hr hlk dX7_append_38 hP hS (rfl) (rfl)

theorem in_n_X7_append_f_X7 : ∀ w ∈ wsX70, w ∈ wsX7_append := by decide +kernel
set_option maxHeartbeats 4000000 in
set_option maxRecDepth 100000 in
theorem n_X7_append_f (l : Launch) (G : GG) (M : Nat) (rf : Nat) (mt : Nat) (sz : Nat) (mn : Nat) (mtr : Nat) (md : Nat) (ac : Nat) (mk : Nat) (mik : Nat) (na : Nat) (so : Nat) (k : Nat) (h_sz : sz = 60) (h_k : k < 256) : Met l yX7_append wsX7_append ({ frames := 1, cells := 0, slots := 0, locals := 25 } : Room) (va_Pc [.ref M, .int (nI k)] (PB G [(M, .inr (4, [.int (nI rf), .ref mt, .int (nI sz), .ref mn, .ref mtr, .ref md, .int (nI ac), .ref mk, .ref mik, .ref na, .ref so]))])) (QW G (some (.int (nI 0))) [(M, .inr (4, [.int (nI 2), .ref mt, .int (nI sz), .ref mn, .ref mtr, .ref md, .int (nI ac), .ref mk, .ref mik, .ref na, .ref so]))] (vA [(M, .inr (4, [.int (nI rf), .ref mt, .int (nI sz), .ref mn, .ref mtr, .ref md, .int (nI ac), .ref mk, .ref mik, .ref na, .ref so]))])) 0 0 (vA [(M, .inr (4, [.int (nI rf), .ref mt, .int (nI sz), .ref mn, .ref mtr, .ref md, .int (nI ac), .ref mk, .ref mik, .ref na, .ref so]))]) := by
  refine Met.go (cc := cX7_append) (maxL := 2) (ret := (some .int)) (by decide) rfl (Nat.le_of_ble_eq_true rfl) ?_
  intro p e s m below meth c ls hx hb hr hml hown hts hlk hP hK hD hS hl
  have hown : s.vm.findClass RX7 = some m.cls := hown
  have hl : lv_has ls 2 [(0, .ref M), (1, .int (nI k))] := hl
  refine lv_aload_n hx hb dX7_append_0 rfl (lv_at hl 0 rfl) ?_
  refine lv_iload_n hx hb dX7_append_1 rfl (lv_at hl 1 rfl) ?_
  refine lv_i2l (v := (nI k).toInt64) hx hb dX7_append_2 rfl ?_
  refine lv_lconst (v := 0) hx hb dX7_append_3 rfl ?_
  refine lv_ldc2 (own := RX7) (v := 255) hx hb hown (hts (.constantLong RX7 101 (255)) (by decide +kernel)) dX7_append_4 ?_
  refine cRS (As := [.long ((nI k).toInt64), .long (0 : Int64), .long (255 : Int64)]) (rest := [.ref M]) (v := .int (zb ((0 : Int64).toInt ≤ ((nI k).toInt64).toInt ∧ ((nI k).toInt64).toInt ≤ (255 : Int64).toInt))) ⟨hx, hb, hml, hown, hts⟩ (c_X7_in l G ((nI k).toInt64) (0 : Int64) (255 : Int64) ) (va_cwS 3 hts gX7_append_X7_in rfl rfl rfl (by decide +kernel) ⟨Nat.le_of_ble_eq_true rfl, Nat.le_of_ble_eq_true rfl⟩) (preS_of hK hP hD [] (by decide) rfl) rfl hl.1 rfl (lv_room (Nat.le_of_ble_eq_true rfl)) dX7_append_7 ⟨Nat.zero_le _, Nat.zero_le _⟩ ?_
  refine bb_ne (tgt := 17) hx hb dX7_append_10 (by decide) (fun c_10 => ?_) (fun c_10 => False.elim (by (rw [i2l_toInt, nI_i (by omega), show (0 : Int64).toInt = 0 from rfl, show (255 : Int64).toInt = 255 from rfl] at c_10; omega)))
  refine lv_aload_n hx hb dX7_append_17 rfl (lv_at hl 0 rfl) ?_
  refine va_get (D := G.1) (ci := 4) (v := .int (nI sz)) (C := RX7) (T := TX7) (N := 11) hx hb hts in_n_X7_append_f_X7 hown hK.1 hP 0 rfl rfl 2 (by decide) (hts (.fieldLink RX7 103 "FloorPanelsModel" "size" "I") (by decide +kernel)) (fun _ h9 => h9) rfl dX7_append_18 ?_
  refine lv_bipush (v := nI 60) hx hb dX7_append_21 (by decide) ?_
  refine bi_ne (tgt := 30) hx hb dX7_append_23 (by decide) (nI_i (by omega)) (nI_i (by omega)) (fun c_23 => False.elim (by omega)) (fun c_23 => ?_)
  refine lv_iconst (v := nI 2) hx hb dX7_append_26 (by decide) ?_
  refine lv_goto (tgt := 31) hx hb dX7_append_27 (by decide) ?_
  refine cWV (As := [.int (nI 2)]) (rest := []) (st1 := [.int (zb (0 < 2))]) (w3 := [(M, .inr (4, [.int (nI 2), .ref mt, .int (nI sz), .ref mn, .ref mtr, .ref md, .int (nI ac), .ref mk, .ref mik, .ref na, .ref so]))]) ⟨hx, hb, hml, hown, hts⟩ (c_X7_refused l G M rf mt sz mn mtr md ac mk mik na so 2 (by first | omega | assumption)) (cwV 1 hts gX7_append_X7_refused rfl rfl rfl (by decide +kernel) ⟨Nat.le_of_ble_eq_true rfl, Nat.le_of_ble_eq_true rfl⟩) (preV_of hK hP hD [0] (by decide) rfl (ci := 4) (q0 := 0) rfl rfl rfl) rfl hl.1 rfl (lv_room (Nat.le_of_ble_eq_true rfl)) dX7_append_31 ⟨Nat.zero_le _, Nat.zero_le _⟩ hP hD hS [0] (by decide) rfl rfl (rfl) rfl (fun H locs hP hD hS => ?_)
  refine bb_eq (tgt := 39) hx hb dX7_append_34 (by decide) (fun c_34 => False.elim (by omega)) (fun c_34 => ?_)
  refine lv_iconst (v := nI 0) hx hb dX7_append_37 (by decide) ?_
  exact W_i hx hb hr hlk dX7_append_38 hP hS (rfl) (rfl)

theorem in_c_X7_clearText_X7 : ∀ w ∈ wsX70, w ∈ wsX7_clearText := by decide +kernel
set_option maxHeartbeats 4000000 in
set_option maxRecDepth 100000 in
theorem c_X7_clearText (l : Launch) (G : GG) (M : Nat) (rf : Nat) (mt : Nat) (sz : Nat) (mn : Nat) (mtr : Nat) (md : Nat) (ac : Nat) (mk : Nat) (mik : Nat) (na : Nat) (so : Nat)  : Met l yX7_clearText wsX7_clearText ({ frames := 0, cells := 0, slots := 0, locals := 0 } : Room) (va_Pc [.ref M] (PB G [(M, .inr (4, [.int (nI rf), .ref mt, .int (nI sz), .ref mn, .ref mtr, .ref md, .int (nI ac), .ref mk, .ref mik, .ref na, .ref so]))])) (QW G (some (.int (nI sz))) [(M, .inr (4, [.int (nI 0), .ref mt, .int (nI 0), .ref mn, .ref mtr, .ref md, .int (nI ac), .ref mk, .ref mik, .ref na, .ref so]))] (vA [(M, .inr (4, [.int (nI rf), .ref mt, .int (nI sz), .ref mn, .ref mtr, .ref md, .int (nI ac), .ref mk, .ref mik, .ref na, .ref so]))])) 0 0 (vA [(M, .inr (4, [.int (nI rf), .ref mt, .int (nI sz), .ref mn, .ref mtr, .ref md, .int (nI ac), .ref mk, .ref mik, .ref na, .ref so]))]) := by
  refine Met.go (cc := cX7_clearText) (maxL := 2) (ret := (some .int)) (by decide) rfl (Nat.le_of_ble_eq_true rfl) ?_
  intro p e s m below meth c ls hx hb hr hml hown hts hlk hP hK hD hS hl
  have hown : s.vm.findClass RX7 = some m.cls := hown
  have hl : lv_has ls 2 [(0, .ref M)] := hl
  refine lv_aload_n hx hb dX7_clearText_0 rfl (lv_at hl 0 rfl) ?_
  refine lv_iconst (v := nI 0) hx hb dX7_clearText_1 (by decide) ?_
  refine va_put (D := G.1) (ci := 4) (v := .int (nI 0)) (ty := .int) (C := RX7) (T := TX7) (N := 11) hx hb hts in_c_X7_clearText_X7 tyX7 tyX7_ok nmX7 hown hK.1 hP hD hS 0 rfl rfl 0 (by decide) (hts (.fieldLink RX7 43 "FloorPanelsModel" "refusal" "I") (by decide +kernel)) (fun _ h9 => h9) rfl (by decide +kernel) rfl rfl (Nat.le_of_ble_eq_true rfl) dX7_clearText_2 (fun H locs hP hD hS => ?_)
  have hP : VP G [(M, .inr (4, [.int (nI 0), .ref mt, .int (nI sz), .ref mn, .ref mtr, .ref md, .int (nI ac), .ref mk, .ref mik, .ref na, .ref so]))] H := hP
  have hD : va_D _ [(M, .inr (4, [.int (nI 0), .ref mt, .int (nI sz), .ref mn, .ref mtr, .ref md, .int (nI ac), .ref mk, .ref mik, .ref na, .ref so]))] := hD
  refine lv_aload_n hx hb dX7_clearText_5 rfl (lv_at hl 0 rfl) ?_
  refine va_get (D := G.1) (ci := 4) (v := .int (nI sz)) (C := RX7) (T := TX7) (N := 11) hx hb hts in_c_X7_clearText_X7 hown hK.1 hP 0 rfl rfl 2 (by decide) (hts (.fieldLink RX7 103 "FloorPanelsModel" "size" "I") (by decide +kernel)) (fun _ h9 => h9) rfl dX7_clearText_6 ?_
  refine lv_istore_n (lv' := [(1, .int (nI sz)), (0, .ref M)]) hx hb dX7_clearText_9 rfl hl (by decide) rfl (fun ls hl => ?_)
  refine lv_aload_n hx hb dX7_clearText_10 rfl (lv_at hl 1 rfl) ?_
  refine lv_iconst (v := nI 0) hx hb dX7_clearText_11 (by decide) ?_
  refine va_put (D := G.1) (ci := 4) (v := .int (nI 0)) (ty := .int) (C := RX7) (T := TX7) (N := 11) hx hb hts in_c_X7_clearText_X7 tyX7 tyX7_ok nmX7 hown hK.1 hP hD hS 0 rfl rfl 2 (by decide) (hts (.fieldLink RX7 103 "FloorPanelsModel" "size" "I") (by decide +kernel)) (fun _ h9 => h9) rfl (by decide +kernel) rfl rfl (Nat.le_of_ble_eq_true rfl) dX7_clearText_12 (fun H locs hP hD hS => ?_)
  have hP : VP G [(M, .inr (4, [.int (nI 0), .ref mt, .int (nI 0), .ref mn, .ref mtr, .ref md, .int (nI ac), .ref mk, .ref mik, .ref na, .ref so]))] H := hP
  have hD : va_D _ [(M, .inr (4, [.int (nI 0), .ref mt, .int (nI 0), .ref mn, .ref mtr, .ref md, .int (nI ac), .ref mk, .ref mik, .ref na, .ref so]))] := hD
  refine lv_iload_n hx hb dX7_clearText_15 rfl (lv_at hl 0 rfl) ?_
  exact W_i hx hb hr hlk dX7_clearText_16 hP hS (rfl) (rfl)

theorem in_c_X7_at_X7 : ∀ w ∈ wsX70, w ∈ wsX7_at := by decide +kernel
set_option maxHeartbeats 4000000 in
set_option maxRecDepth 100000 in
theorem c_X7_at (l : Launch) (G : GG) (M : Nat) (rf : Nat) (mt : Nat) (sz : Nat) (mn : Nat) (mtr : Nat) (md : Nat) (ac : Nat) (mk : Nat) (mik : Nat) (na : Nat) (so : Nat) (cd : Nat → Nat) (i : Nat) (h_sz : sz ≤ 60) (h_i : i ≤ 60) : Met l yX7_at wsX7_at ({ frames := 0, cells := 0, slots := 0, locals := 0 } : Room) (va_Pc [.ref M, .int (nI i)] (PB G [(M, .inr (4, [.int (nI rf), .ref mt, .int (nI sz), .ref mn, .ref mtr, .ref md, .int (nI ac), .ref mk, .ref mik, .ref na, .ref so])), (mt, .inl (G.2 0, 60, .inl (cdI cd)))])) (QR (some (.int (atv cd sz i)))) 0 0 (fun _ => False) := by
  refine Met.go (cc := cX7_at) (maxL := 2) (ret := (some .int)) (by decide) rfl (Nat.le_of_ble_eq_true rfl) ?_
  intro p e s m below meth c ls hx hb hr hml hown hts hlk hP hK hD hS hl
  have hown : s.vm.findClass RX7 = some m.cls := hown
  have hl : lv_has ls 2 [(0, .ref M), (1, .int (nI i))] := hl
  refine lv_iload_n hx hb dX7_at_0 rfl (lv_at hl 1 rfl) ?_
  refine lv_aload_n hx hb dX7_at_1 rfl (lv_at hl 0 rfl) ?_
  refine va_get (D := G.1) (ci := 4) (v := .int (nI sz)) (C := RX7) (T := TX7) (N := 11) hx hb hts in_c_X7_at_X7 hown hK.1 hP 0 rfl rfl 2 (by decide) (hts (.fieldLink RX7 103 "FloorPanelsModel" "size" "I") (by decide +kernel)) (fun _ h9 => h9) rfl dX7_at_2 ?_
  refine bi_ge (tgt := 17) hx hb dX7_at_5 (by decide) (nI_i (by omega)) (nI_i (by omega)) (fun c_5 => ?_) (fun c_5 => ?_)
  ·
    refine lv_iconst (v := (-1)) hx hb dX7_at_17 (by decide) ?_
    exact R_i hx hb hr hlk dX7_at_18 ((if_neg (by omega)).symm)
  ·
    refine lv_aload_n hx hb dX7_at_8 rfl (lv_at hl 0 rfl) ?_
    refine va_get (D := G.1) (ci := 4) (v := .ref mt) (C := RX7) (T := TX7) (N := 11) hx hb hts in_c_X7_at_X7 hown hK.1 hP 0 rfl rfl 1 (by decide) (hts (.fieldLink RX7 7 "FloorPanelsModel" "text" "[I") (by decide +kernel)) (fun _ h9 => h9) rfl dX7_at_9 ?_
    refine lv_iload_n hx hb dX7_at_12 rfl (lv_at hl 1 rfl) ?_
    refine nv_iald hx hb hK hP 1 rfl (by omega) (by decide) dX7_at_13 ?_
    rw [show (cdI cd) i = (nI (cd i)) from rfl]
    refine lv_goto (tgt := 18) hx hb dX7_at_14 (by decide) ?_
    exact R_i hx hb hr hlk dX7_at_18 ((if_pos (by omega)).symm)

set_option maxHeartbeats 4000000 in
set_option maxRecDepth 100000 in
theorem c_X7_kindOf (l : Launch) (G : GG) (v : Int32)  : Met l yX7_kindOf wsX7_kindOf ({ frames := 0, cells := 0, slots := 0, locals := 0 } : Room) (va_Pc [.int v] (PB G [])) (QR (some (.int (kdr v)))) 0 0 (fun _ => False) := by
  refine Met.go (cc := cX7_kindOf) (maxL := 1) (ret := (some .int)) (by decide) rfl (Nat.le_of_ble_eq_true rfl) ?_
  intro p e s m below meth c ls hx hb hr hml hown hts hlk hP hK hD hS hl
  have hown : s.vm.findClass RX7 = some m.cls := hown
  have hl : lv_has ls 1 [(0, .int v)] := hl
  refine lv_iload_n hx hb dX7_kindOf_0 rfl (lv_at hl 0 rfl) ?_
  refine lv_bipush (v := nI 71) hx hb dX7_kindOf_1 (by decide) ?_
  refine lv_icmp_eq (tgt := 12) hx hb dX7_kindOf_3 (by decide) (fun c_3 => ?_) (fun c_3 => ?_)
  ·
    refine lv_iconst (v := nI 0) hx hb dX7_kindOf_12 (by decide) ?_
    refine lv_goto (tgt := 47) hx hb dX7_kindOf_13 (by decide) ?_
    exact R_i hx hb hr hlk dX7_kindOf_47 ((by unfold kdr; first | (rw [if_pos (Or.inl (by assumption))] <;> rfl) | (rw [if_pos (Or.inr (by assumption))] <;> rfl) | (rw [if_neg (fun z_ => z_.elim (by assumption) (by assumption)), if_pos (by assumption)] <;> rfl) | (rw [if_neg (fun z_ => z_.elim (by assumption) (by assumption)), if_neg (by assumption), if_pos (by assumption)] <;> rfl) | (rw [if_neg (fun z_ => z_.elim (by assumption) (by assumption)), if_neg (by assumption), if_neg (by assumption), if_pos (by assumption)] <;> rfl) | (rw [if_neg (fun z_ => z_.elim (by assumption) (by assumption)), if_neg (by assumption), if_neg (by assumption), if_neg (by assumption)] <;> rfl)))
  ·
    refine lv_iload_n hx hb dX7_kindOf_6 rfl (lv_at hl 0 rfl) ?_
    refine lv_bipush (v := nI 119) hx hb dX7_kindOf_7 (by decide) ?_
    refine lv_icmp_ne (tgt := 16) hx hb dX7_kindOf_9 (by decide) (fun c_9 => ?_) (fun c_9 => ?_)
    ·
      refine lv_iload_n hx hb dX7_kindOf_16 rfl (lv_at hl 0 rfl) ?_
      refine lv_bipush (v := nI 104) hx hb dX7_kindOf_17 (by decide) ?_
      refine lv_icmp_ne (tgt := 26) hx hb dX7_kindOf_19 (by decide) (fun c_19 => ?_) (fun c_19 => ?_)
      ·
        refine lv_iload_n hx hb dX7_kindOf_26 rfl (lv_at hl 0 rfl) ?_
        refine lv_bipush (v := nI 106) hx hb dX7_kindOf_27 (by decide) ?_
        refine lv_icmp_ne (tgt := 36) hx hb dX7_kindOf_29 (by decide) (fun c_29 => ?_) (fun c_29 => ?_)
        ·
          refine lv_iload_n hx hb dX7_kindOf_36 rfl (lv_at hl 0 rfl) ?_
          refine lv_bipush (v := nI 120) hx hb dX7_kindOf_37 (by decide) ?_
          refine lv_icmp_ne (tgt := 46) hx hb dX7_kindOf_39 (by decide) (fun c_39 => ?_) (fun c_39 => ?_)
          ·
            refine lv_iconst (v := (-1)) hx hb dX7_kindOf_46 (by decide) ?_
            exact R_i hx hb hr hlk dX7_kindOf_47 ((by unfold kdr; first | (rw [if_pos (Or.inl (by assumption))] <;> rfl) | (rw [if_pos (Or.inr (by assumption))] <;> rfl) | (rw [if_neg (fun z_ => z_.elim (by assumption) (by assumption)), if_pos (by assumption)] <;> rfl) | (rw [if_neg (fun z_ => z_.elim (by assumption) (by assumption)), if_neg (by assumption), if_pos (by assumption)] <;> rfl) | (rw [if_neg (fun z_ => z_.elim (by assumption) (by assumption)), if_neg (by assumption), if_neg (by assumption), if_pos (by assumption)] <;> rfl) | (rw [if_neg (fun z_ => z_.elim (by assumption) (by assumption)), if_neg (by assumption), if_neg (by assumption), if_neg (by assumption)] <;> rfl)))
          ·
            refine lv_iconst (v := nI 3) hx hb dX7_kindOf_42 (by decide) ?_
            refine lv_goto (tgt := 47) hx hb dX7_kindOf_43 (by decide) ?_
            exact R_i hx hb hr hlk dX7_kindOf_47 ((by unfold kdr; first | (rw [if_pos (Or.inl (by assumption))] <;> rfl) | (rw [if_pos (Or.inr (by assumption))] <;> rfl) | (rw [if_neg (fun z_ => z_.elim (by assumption) (by assumption)), if_pos (by assumption)] <;> rfl) | (rw [if_neg (fun z_ => z_.elim (by assumption) (by assumption)), if_neg (by assumption), if_pos (by assumption)] <;> rfl) | (rw [if_neg (fun z_ => z_.elim (by assumption) (by assumption)), if_neg (by assumption), if_neg (by assumption), if_pos (by assumption)] <;> rfl) | (rw [if_neg (fun z_ => z_.elim (by assumption) (by assumption)), if_neg (by assumption), if_neg (by assumption), if_neg (by assumption)] <;> rfl)))
        ·
          refine lv_iconst (v := nI 2) hx hb dX7_kindOf_32 (by decide) ?_
          refine lv_goto (tgt := 47) hx hb dX7_kindOf_33 (by decide) ?_
          exact R_i hx hb hr hlk dX7_kindOf_47 ((by unfold kdr; first | (rw [if_pos (Or.inl (by assumption))] <;> rfl) | (rw [if_pos (Or.inr (by assumption))] <;> rfl) | (rw [if_neg (fun z_ => z_.elim (by assumption) (by assumption)), if_pos (by assumption)] <;> rfl) | (rw [if_neg (fun z_ => z_.elim (by assumption) (by assumption)), if_neg (by assumption), if_pos (by assumption)] <;> rfl) | (rw [if_neg (fun z_ => z_.elim (by assumption) (by assumption)), if_neg (by assumption), if_neg (by assumption), if_pos (by assumption)] <;> rfl) | (rw [if_neg (fun z_ => z_.elim (by assumption) (by assumption)), if_neg (by assumption), if_neg (by assumption), if_neg (by assumption)] <;> rfl)))
      ·
        refine lv_iconst (v := nI 1) hx hb dX7_kindOf_22 (by decide) ?_
        refine lv_goto (tgt := 47) hx hb dX7_kindOf_23 (by decide) ?_
        exact R_i hx hb hr hlk dX7_kindOf_47 ((by unfold kdr; first | (rw [if_pos (Or.inl (by assumption))] <;> rfl) | (rw [if_pos (Or.inr (by assumption))] <;> rfl) | (rw [if_neg (fun z_ => z_.elim (by assumption) (by assumption)), if_pos (by assumption)] <;> rfl) | (rw [if_neg (fun z_ => z_.elim (by assumption) (by assumption)), if_neg (by assumption), if_pos (by assumption)] <;> rfl) | (rw [if_neg (fun z_ => z_.elim (by assumption) (by assumption)), if_neg (by assumption), if_neg (by assumption), if_pos (by assumption)] <;> rfl) | (rw [if_neg (fun z_ => z_.elim (by assumption) (by assumption)), if_neg (by assumption), if_neg (by assumption), if_neg (by assumption)] <;> rfl)))
    ·
      refine lv_iconst (v := nI 0) hx hb dX7_kindOf_12 (by decide) ?_
      refine lv_goto (tgt := 47) hx hb dX7_kindOf_13 (by decide) ?_
      exact R_i hx hb hr hlk dX7_kindOf_47 ((by unfold kdr; first | (rw [if_pos (Or.inl (by assumption))] <;> rfl) | (rw [if_pos (Or.inr (by assumption))] <;> rfl) | (rw [if_neg (fun z_ => z_.elim (by assumption) (by assumption)), if_pos (by assumption)] <;> rfl) | (rw [if_neg (fun z_ => z_.elim (by assumption) (by assumption)), if_neg (by assumption), if_pos (by assumption)] <;> rfl) | (rw [if_neg (fun z_ => z_.elim (by assumption) (by assumption)), if_neg (by assumption), if_neg (by assumption), if_pos (by assumption)] <;> rfl) | (rw [if_neg (fun z_ => z_.elim (by assumption) (by assumption)), if_neg (by assumption), if_neg (by assumption), if_neg (by assumption)] <;> rfl)))

