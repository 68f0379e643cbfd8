set_option maxHeartbeats 4000000 in
set_option maxRecDepth 100000 in
theorem c_X7_in (l : Launch) (G : GG) (a : Int64) (b : Int64) (d : Int64)  : Met l yX7_in wsX7_in ({ frames := 0, cells := 0, slots := 0, locals := 0 } : Room) (va_Pc [.long a, .long b, .long d] (PB G [])) (QR (some (.int (zb (b.toInt ≤ a.toInt ∧ a.toInt ≤ d.toInt))))) 0 0 (fun _ => False) := by
  refine Met.go (cc := cX7_in) (maxL := 6) (ret := (some .boolean)) (by decide) rfl (Nat.le_of_ble_eq_true rfl) ?_
  intro p e s m below meth c ls hx hb hr hml hown hts hlk hP hK hD hS hl
  have hown : s.vm.findClass RX7 = some m.cls := hown
  have hl : lv_has ls 6 [(0, .long a), (2, .long b), (4, .long d)] := hl
  refine lv_lload_n hx hb dX7_in_0 rfl (lv_at hl 0 rfl) ?_
  refine lv_lload_n hx hb dX7_in_1 rfl (lv_at hl 1 rfl) ?_
  refine W.lcmp hx hb dX7_in_2 ?_
  refine bl_lt (tgt := 17) hx hb dX7_in_3 (by decide) (fun c_3 => ?_) (fun c_3 => ?_)
  ·
    refine lv_iconst (v := nI 0) hx hb dX7_in_17 (by decide) ?_
    exact R_z hx hb hr hlk dX7_in_18 ((zb_f (by first | omega | assumption | exact ⟨by assumption, by assumption⟩ | exact fun z_ => z_ (by assumption) | exact fun z_ => absurd z_.1 (by assumption) | exact fun z_ => absurd z_.2 (by assumption) | exact fun z_ => z_.1 (by assumption) | exact fun z_ => z_.2 (by assumption))).symm) zb_nar
  ·
    refine lv_lload_n hx hb dX7_in_6 rfl (lv_at hl 0 rfl) ?_
    refine lv_lload hx hb dX7_in_7 (lv_at hl 2 rfl) ?_
    refine W.lcmp hx hb dX7_in_9 ?_
    refine bl_gt (tgt := 17) hx hb dX7_in_10 (by decide) (fun c_10 => ?_) (fun c_10 => ?_)
    ·
      refine lv_iconst (v := nI 0) hx hb dX7_in_17 (by decide) ?_
      exact R_z hx hb hr hlk dX7_in_18 ((zb_f (by first | omega | assumption | exact ⟨by assumption, by assumption⟩ | exact fun z_ => z_ (by assumption) | exact fun z_ => absurd z_.1 (by assumption) | exact fun z_ => absurd z_.2 (by assumption) | exact fun z_ => z_.1 (by assumption) | exact fun z_ => z_.2 (by assumption))).symm) zb_nar
    ·
      refine lv_iconst (v := nI 1) hx hb dX7_in_13 (by decide) ?_
      refine lv_goto (tgt := 18) hx hb dX7_in_14 (by decide) ?_
      exact R_z hx hb hr hlk dX7_in_18 ((zb_t (by first | omega | assumption | exact ⟨by assumption, by assumption⟩ | exact fun z_ => z_ (by assumption) | exact fun z_ => absurd z_.1 (by assumption) | exact fun z_ => absurd z_.2 (by assumption) | exact fun z_ => z_.1 (by assumption) | exact fun z_ => z_.2 (by assumption))).symm) zb_nar

set_option maxHeartbeats 4000000 in
set_option maxRecDepth 100000 in
theorem c_X7_isCar (l : Launch) (G : GG) (x : Int32)  : Met l yX7_isCar wsX7_isCar ({ frames := 1, cells := 0, slots := 0, locals := 25 } : Room) (va_Pc [.int x] (PB G [])) (QR (some (.int (zb (0 ≤ x.toInt ∧ x.toInt < 3))))) 0 0 (fun _ => False) := by
  refine Met.go (cc := cX7_isCar) (maxL := 1) (ret := (some .boolean)) (by decide) rfl (Nat.le_of_ble_eq_true rfl) ?_
  intro p e s m below meth c ls hx hb hr hml hown hts hlk hP hK hD hS hl
  have hown : s.vm.findClass RX7 = some m.cls := hown
  have hl : lv_has ls 1 [(0, .int x)] := hl
  refine lv_iload_n hx hb dX7_isCar_0 rfl (lv_at hl 0 rfl) ?_
  refine lv_i2l (v := (x).toInt64) hx hb dX7_isCar_1 rfl ?_
  refine lv_lconst (v := 0) hx hb dX7_isCar_2 rfl ?_
  refine lv_ldc2 (own := RX7) (v := 2) hx hb hown (hts (.constantLong RX7 51 (2)) (by decide +kernel)) dX7_isCar_3 ?_
  refine cRS (As := [.long ((x).toInt64), .long (0 : Int64), .long (2 : Int64)]) (rest := []) (v := .int (zb ((0 : Int64).toInt ≤ ((x).toInt64).toInt ∧ ((x).toInt64).toInt ≤ (2 : Int64).toInt))) ⟨hx, hb, hml, hown, hts⟩ (c_X7_in l G ((x).toInt64) (0 : Int64) (2 : Int64) ) (va_cwS 3 hts gX7_isCar_X7_in rfl rfl rfl (by decide +kernel) ⟨Nat.le_of_ble_eq_true rfl, Nat.le_of_ble_eq_true rfl⟩) (preS_of hK hP hD [] (by decide) rfl) rfl hl.1 rfl (lv_room (Nat.le_of_ble_eq_true rfl)) dX7_isCar_6 ⟨Nat.zero_le _, Nat.zero_le _⟩ ?_
  exact R_z hx hb hr hlk dX7_isCar_9 (by refine zb_c ?_; rw [i2l_toInt, show (0 : Int64).toInt = 0 from rfl, show (2 : Int64).toInt = 2 from rfl]<;> omega) zb_nar

set_option maxHeartbeats 4000000 in
set_option maxRecDepth 100000 in
theorem c_X7_isCar_n (l : Launch) (G : GG) (x : Nat) (h_x : x < 2147483648) : Met l yX7_isCar wsX7_isCar ({ frames := 1, cells := 0, slots := 0, locals := 25 } : Room) (va_Pc [.int (nI x)] (PB G [])) (QR (some (.int (zb (x < 3))))) 0 0 (fun _ => False) := by
  refine Met.go (cc := cX7_isCar) (maxL := 1) (ret := (some .boolean)) (by decide) rfl (Nat.le_of_ble_eq_true rfl) ?_
  intro p e s m below meth c ls hx hb hr hml hown hts hlk hP hK hD hS hl
  have hown : s.vm.findClass RX7 = some m.cls := hown
  have hl : lv_has ls 1 [(0, .int (nI x))] := hl
  refine lv_iload_n hx hb dX7_isCar_0 rfl (lv_at hl 0 rfl) ?_
  refine lv_i2l (v := (nI x).toInt64) hx hb dX7_isCar_1 rfl ?_
  refine lv_lconst (v := 0) hx hb dX7_isCar_2 rfl ?_
  refine lv_ldc2 (own := RX7) (v := 2) hx hb hown (hts (.constantLong RX7 51 (2)) (by decide +kernel)) dX7_isCar_3 ?_
  refine cRS (As := [.long ((nI x).toInt64), .long (0 : Int64), .long (2 : Int64)]) (rest := []) (v := .int (zb ((0 : Int64).toInt ≤ ((nI x).toInt64).toInt ∧ ((nI x).toInt64).toInt ≤ (2 : Int64).toInt))) ⟨hx, hb, hml, hown, hts⟩ (c_X7_in l G ((nI x).toInt64) (0 : Int64) (2 : Int64) ) (va_cwS 3 hts gX7_isCar_X7_in rfl rfl rfl (by decide +kernel) ⟨Nat.le_of_ble_eq_true rfl, Nat.le_of_ble_eq_true rfl⟩) (preS_of hK hP hD [] (by decide) rfl) rfl hl.1 rfl (lv_room (Nat.le_of_ble_eq_true rfl)) dX7_isCar_6 ⟨Nat.zero_le _, Nat.zero_le _⟩ ?_
  exact R_z hx hb hr hlk dX7_isCar_9 (by refine zb_c ?_; rw [i2l_toInt, nI_i h_x, show (0 : Int64).toInt = 0 from rfl, show (2 : Int64).toInt = 2 from rfl]<;> omega) zb_nar

set_option maxHeartbeats 4000000 in
set_option maxRecDepth 100000 in
theorem c_X7_isKind (l : Launch) (G : GG) (x : Int32)  : Met l yX7_isKind wsX7_isKind ({ frames := 1, cells := 0, slots := 0, locals := 25 } : Room) (va_Pc [.int x] (PB G [])) (QR (some (.int (zb (0 ≤ x.toInt ∧ x.toInt < 4))))) 0 0 (fun _ => False) := by
  refine Met.go (cc := cX7_isKind) (maxL := 1) (ret := (some .boolean)) (by decide) rfl (Nat.le_of_ble_eq_true rfl) ?_
  intro p e s m below meth c ls hx hb hr hml hown hts hlk hP hK hD hS hl
  have hown : s.vm.findClass RX7 = some m.cls := hown
  have hl : lv_has ls 1 [(0, .int x)] := hl
  refine lv_iload_n hx hb dX7_isKind_0 rfl (lv_at hl 0 rfl) ?_
  refine lv_i2l (v := (x).toInt64) hx hb dX7_isKind_1 rfl ?_
  refine lv_lconst (v := 0) hx hb dX7_isKind_2 rfl ?_
  refine lv_ldc2 (own := RX7) (v := 3) hx hb hown (hts (.constantLong RX7 53 (3)) (by decide +kernel)) dX7_isKind_3 ?_
  refine cRS (As := [.long ((x).toInt64), .long (0 : Int64), .long (3 : Int64)]) (rest := []) (v := .int (zb ((0 : Int64).toInt ≤ ((x).toInt64).toInt ∧ ((x).toInt64).toInt ≤ (3 : Int64).toInt))) ⟨hx, hb, hml, hown, hts⟩ (c_X7_in l G ((x).toInt64) (0 : Int64) (3 : Int64) ) (va_cwS 3 hts gX7_isKind_X7_in rfl rfl rfl (by decide +kernel) ⟨Nat.le_of_ble_eq_true rfl, Nat.le_of_ble_eq_true rfl⟩) (preS_of hK hP hD [] (by decide) rfl) rfl hl.1 rfl (lv_room (Nat.le_of_ble_eq_true rfl)) dX7_isKind_6 ⟨Nat.zero_le _, Nat.zero_le _⟩ ?_
  exact R_z hx hb hr hlk dX7_isKind_9 (by refine zb_c ?_; rw [i2l_toInt, show (0 : Int64).toInt = 0 from rfl, show (3 : Int64).toInt = 3 from rfl]<;> omega) zb_nar

set_option maxHeartbeats 4000000 in
set_option maxRecDepth 100000 in
theorem c_X7_isKind_n (l : Launch) (G : GG) (x : Nat) (h_x : x < 2147483648) : Met l yX7_isKind wsX7_isKind ({ frames := 1, cells := 0, slots := 0, locals := 25 } : Room) (va_Pc [.int (nI x)] (PB G [])) (QR (some (.int (zb (x < 4))))) 0 0 (fun _ => False) := by
  refine Met.go (cc := cX7_isKind) (maxL := 1) (ret := (some .boolean)) (by decide) rfl (Nat.le_of_ble_eq_true rfl) ?_
  intro p e s m below meth c ls hx hb hr hml hown hts hlk hP hK hD hS hl
  have hown : s.vm.findClass RX7 = some m.cls := hown
  have hl : lv_has ls 1 [(0, .int (nI x))] := hl
  refine lv_iload_n hx hb dX7_isKind_0 rfl (lv_at hl 0 rfl) ?_
  refine lv_i2l (v := (nI x).toInt64) hx hb dX7_isKind_1 rfl ?_
  refine lv_lconst (v := 0) hx hb dX7_isKind_2 rfl ?_
  refine lv_ldc2 (own := RX7) (v := 3) hx hb hown (hts (.constantLong RX7 53 (3)) (by decide +kernel)) dX7_isKind_3 ?_
  refine cRS (As := [.long ((nI x).toInt64), .long (0 : Int64), .long (3 : Int64)]) (rest := []) (v := .int (zb ((0 : Int64).toInt ≤ ((nI x).toInt64).toInt ∧ ((nI x).toInt64).toInt ≤ (3 : Int64).toInt))) ⟨hx, hb, hml, hown, hts⟩ (c_X7_in l G ((nI x).toInt64) (0 : Int64) (3 : Int64) ) (va_cwS 3 hts gX7_isKind_X7_in rfl rfl rfl (by decide +kernel) ⟨Nat.le_of_ble_eq_true rfl, Nat.le_of_ble_eq_true rfl⟩) (preS_of hK hP hD [] (by decide) rfl) rfl hl.1 rfl (lv_room (Nat.le_of_ble_eq_true rfl)) dX7_isKind_6 ⟨Nat.zero_le _, Nat.zero_le _⟩ ?_
  exact R_z hx hb hr hlk dX7_isKind_9 (by refine zb_c ?_; rw [i2l_toInt, nI_i h_x, show (0 : Int64).toInt = 0 from rfl, show (3 : Int64).toInt = 3 from rfl]<;> omega) zb_nar

set_option maxHeartbeats 4000000 in
set_option maxRecDepth 100000 in
theorem c_X7_isStorey (l : Launch) (G : GG) (x : Int32)  : Met l yX7_isStorey wsX7_isStorey ({ frames := 1, cells := 0, slots := 0, locals := 25 } : Room) (va_Pc [.int x] (PB G [])) (QR (some (.int (zb (1 ≤ x.toInt ∧ x.toInt ≤ 30))))) 0 0 (fun _ => False) := by
  refine Met.go (cc := cX7_isStorey) (maxL := 1) (ret := (some .boolean)) (by decide) rfl (Nat.le_of_ble_eq_true rfl) ?_
  intro p e s m below meth c ls hx hb hr hml hown hts hlk hP hK hD hS hl
  have hown : s.vm.findClass RX7 = some m.cls := hown
  have hl : lv_has ls 1 [(0, .int x)] := hl
  refine lv_iload_n hx hb dX7_isStorey_0 rfl (lv_at hl 0 rfl) ?_
  refine lv_i2l (v := (x).toInt64) hx hb dX7_isStorey_1 rfl ?_
  refine lv_lconst (v := 1) hx hb dX7_isStorey_2 rfl ?_
  refine lv_ldc2 (own := RX7) (v := 30) hx hb hown (hts (.constantLong RX7 55 (30)) (by decide +kernel)) dX7_isStorey_3 ?_
  refine cRS (As := [.long ((x).toInt64), .long (1 : Int64), .long (30 : Int64)]) (rest := []) (v := .int (zb ((1 : Int64).toInt ≤ ((x).toInt64).toInt ∧ ((x).toInt64).toInt ≤ (30 : Int64).toInt))) ⟨hx, hb, hml, hown, hts⟩ (c_X7_in l G ((x).toInt64) (1 : Int64) (30 : Int64) ) (va_cwS 3 hts gX7_isStorey_X7_in rfl rfl rfl (by decide +kernel) ⟨Nat.le_of_ble_eq_true rfl, Nat.le_of_ble_eq_true rfl⟩) (preS_of hK hP hD [] (by decide) rfl) rfl hl.1 rfl (lv_room (Nat.le_of_ble_eq_true rfl)) dX7_isStorey_6 ⟨Nat.zero_le _, Nat.zero_le _⟩ ?_
  exact R_z hx hb hr hlk dX7_isStorey_9 (by refine zb_c ?_; rw [i2l_toInt, show (1 : Int64).toInt = 1 from rfl, show (30 : Int64).toInt = 30 from rfl]<;> omega) zb_nar

set_option maxHeartbeats 4000000 in
set_option maxRecDepth 100000 in
theorem c_X7_isStorey_n (l : Launch) (G : GG) (x : Nat) (h_x : x < 2147483648) : Met l yX7_isStorey wsX7_isStorey ({ frames := 1, cells := 0, slots := 0, locals := 25 } : Room) (va_Pc [.int (nI x)] (PB G [])) (QR (some (.int (zb (1 ≤ x ∧ x ≤ 30))))) 0 0 (fun _ => False) := by
  refine Met.go (cc := cX7_isStorey) (maxL := 1) (ret := (some .boolean)) (by decide) rfl (Nat.le_of_ble_eq_true rfl) ?_
  intro p e s m below meth c ls hx hb hr hml hown hts hlk hP hK hD hS hl
  have hown : s.vm.findClass RX7 = some m.cls := hown
  have hl : lv_has ls 1 [(0, .int (nI x))] := hl
  refine lv_iload_n hx hb dX7_isStorey_0 rfl (lv_at hl 0 rfl) ?_
  refine lv_i2l (v := (nI x).toInt64) hx hb dX7_isStorey_1 rfl ?_
  refine lv_lconst (v := 1) hx hb dX7_isStorey_2 rfl ?_
  refine lv_ldc2 (own := RX7) (v := 30) hx hb hown (hts (.constantLong RX7 55 (30)) (by decide +kernel)) dX7_isStorey_3 ?_
  refine cRS (As := [.long ((nI x).toInt64), .long (1 : Int64), .long (30 : Int64)]) (rest := []) (v := .int (zb ((1 : Int64).toInt ≤ ((nI x).toInt64).toInt ∧ ((nI x).toInt64).toInt ≤ (30 : Int64).toInt))) ⟨hx, hb, hml, hown, hts⟩ (c_X7_in l G ((nI x).toInt64) (1 : Int64) (30 : Int64) ) (va_cwS 3 hts gX7_isStorey_X7_in rfl rfl rfl (by decide +kernel) ⟨Nat.le_of_ble_eq_true rfl, Nat.le_of_ble_eq_true rfl⟩) (preS_of hK hP hD [] (by decide) rfl) rfl hl.1 rfl (lv_room (Nat.le_of_ble_eq_true rfl)) dX7_isStorey_6 ⟨Nat.zero_le _, Nat.zero_le _⟩ ?_
  exact R_z hx hb hr hlk dX7_isStorey_9 (by refine zb_c ?_; rw [i2l_toInt, nI_i h_x, show (1 : Int64).toInt = 1 from rfl, show (30 : Int64).toInt = 30 from rfl]<;> omega) zb_nar

set_option maxHeartbeats 4000000 in
set_option maxRecDepth 100000 in
theorem c_X7_isLevel (l : Launch) (G : GG) (r : Nat) (n : Nat) (g : Nat) (sk : Int32) (mm : Nat → Int32) (x : Int32) (h_n1 : 1 ≤ n) (h_n : n ≤ 16) : Met l yX7_isLevel wsX7_isLevel ({ frames := 1, cells := 0, slots := 0, locals := 25 } : Room) (va_Pc [.ref r, .int x] (PB G [(r, .inl (G.2 0, 131, .inl (mr n (nI g) sk mm)))])) (QR (some (.int (zb (0 ≤ x.toInt ∧ x.toInt < (n : Int)))))) 0 0 (fun _ => False) := by
  refine Met.go (cc := cX7_isLevel) (maxL := 2) (ret := (some .boolean)) (by decide) rfl (Nat.le_of_ble_eq_true rfl) ?_
  intro p e s m below meth c ls hx hb hr hml hown hts hlk hP hK hD hS hl
  have hown : s.vm.findClass RX7 = some m.cls := hown
  have hl : lv_has ls 2 [(0, .ref r), (1, .int x)] := hl
  refine lv_iload_n hx hb dX7_isLevel_0 rfl (lv_at hl 1 rfl) ?_
  refine lv_i2l (v := (x).toInt64) hx hb dX7_isLevel_1 rfl ?_
  refine lv_lconst (v := 0) hx hb dX7_isLevel_2 rfl ?_
  refine lv_aload_n hx hb dX7_isLevel_3 rfl (lv_at hl 0 rfl) ?_
  refine lv_iconst (v := nI 0) hx hb dX7_isLevel_4 (by decide) ?_
  refine nv_iald hx hb hK hP 0 rfl (by omega) (by decide) dX7_isLevel_5 ?_
  rw [show (mr n (nI g) sk mm) 0 = nI n from mr_0]
  refine lv_iconst (v := nI 1) hx hb dX7_isLevel_6 (by decide) ?_
  refine nv_isub hx hb (by omega) dX7_isLevel_7 ?_
  refine lv_i2l (v := (nI (n - 1)).toInt64) hx hb dX7_isLevel_8 rfl ?_
  refine cRS (As := [.long ((x).toInt64), .long (0 : Int64), .long ((nI (n - 1)).toInt64)]) (rest := []) (v := .int (zb ((0 : Int64).toInt ≤ ((x).toInt64).toInt ∧ ((x).toInt64).toInt ≤ ((nI (n - 1)).toInt64).toInt))) ⟨hx, hb, hml, hown, hts⟩ (c_X7_in l G ((x).toInt64) (0 : Int64) ((nI (n - 1)).toInt64) ) (va_cwS 3 hts gX7_isLevel_X7_in rfl rfl rfl (by decide +kernel) ⟨Nat.le_of_ble_eq_true rfl, Nat.le_of_ble_eq_true rfl⟩) (preS_of hK hP hD [] (by decide) rfl) rfl hl.1 rfl (lv_room (Nat.le_of_ble_eq_true rfl)) dX7_isLevel_9 ⟨Nat.zero_le _, Nat.zero_le _⟩ ?_
  exact R_z hx hb hr hlk dX7_isLevel_12 (by refine zb_c ?_; rw [i2l_toInt, i2l_toInt, nI_i (by omega), show (0 : Int64).toInt = 0 from rfl]<;> omega) zb_nar

set_option maxHeartbeats 4000000 in
set_option maxRecDepth 100000 in
theorem c_X7_isLevel_n (l : Launch) (G : GG) (r : Nat) (n : Nat) (g : Nat) (sk : Int32) (mm : Nat → Int32) (x : Nat) (h_n1 : 1 ≤ n) (h_n : n ≤ 16) (h_x : x < 2147483648) : Met l yX7_isLevel wsX7_isLevel ({ frames := 1, cells := 0, slots := 0, locals := 25 } : Room) (va_Pc [.ref r, .int (nI x)] (PB G [(r, .inl (G.2 0, 131, .inl (mr n (nI g) sk mm)))])) (QR (some (.int (zb (x < n))))) 0 0 (fun _ => False) := by
  refine Met.go (cc := cX7_isLevel) (maxL := 2) (ret := (some .boolean)) (by decide) rfl (Nat.le_of_ble_eq_true rfl) ?_
  intro p e s m below meth c ls hx hb hr hml hown hts hlk hP hK hD hS hl
  have hown : s.vm.findClass RX7 = some m.cls := hown
  have hl : lv_has ls 2 [(0, .ref r), (1, .int (nI x))] := hl
  refine lv_iload_n hx hb dX7_isLevel_0 rfl (lv_at hl 1 rfl) ?_
  refine lv_i2l (v := (nI x).toInt64) hx hb dX7_isLevel_1 rfl ?_
  refine lv_lconst (v := 0) hx hb dX7_isLevel_2 rfl ?_
  refine lv_aload_n hx hb dX7_isLevel_3 rfl (lv_at hl 0 rfl) ?_
  refine lv_iconst (v := nI 0) hx hb dX7_isLevel_4 (by decide) ?_
  refine nv_iald hx hb hK hP 0 rfl (by omega) (by decide) dX7_isLevel_5 ?_
  rw [show (mr n (nI g) sk mm) 0 = nI n from mr_0]
  refine lv_iconst (v := nI 1) hx hb dX7_isLevel_6 (by decide) ?_
  refine nv_isub hx hb (by omega) dX7_isLevel_7 ?_
  refine lv_i2l (v := (nI (n - 1)).toInt64) hx hb dX7_isLevel_8 rfl ?_
  refine cRS (As := [.long ((nI x).toInt64), .long (0 : Int64), .long ((nI (n - 1)).toInt64)]) (rest := []) (v := .int (zb ((0 : Int64).toInt ≤ ((nI x).toInt64).toInt ∧ ((nI x).toInt64).toInt ≤ ((nI (n - 1)).toInt64).toInt))) ⟨hx, hb, hml, hown, hts⟩ (c_X7_in l G ((nI x).toInt64) (0 : Int64) ((nI (n - 1)).toInt64) ) (va_cwS 3 hts gX7_isLevel_X7_in rfl rfl rfl (by decide +kernel) ⟨Nat.le_of_ble_eq_true rfl, Nat.le_of_ble_eq_true rfl⟩) (preS_of hK hP hD [] (by decide) rfl) rfl hl.1 rfl (lv_room (Nat.le_of_ble_eq_true rfl)) dX7_isLevel_9 ⟨Nat.zero_le _, Nat.zero_le _⟩ ?_
  exact R_z hx hb hr hlk dX7_isLevel_12 (by refine zb_c ?_; rw [i2l_toInt, i2l_toInt, nI_i h_x, nI_i (by omega), show (0 : Int64).toInt = 0 from rfl]<;> omega) zb_nar

set_option maxHeartbeats 4000000 in
set_option maxRecDepth 100000 in
theorem c_X7_skips (l : Launch) (G : GG) (r : Nat) (n : Nat) (g : Nat) (sk : Int32) (mm : Nat → Int32) (q : Nat) (h_q : q ≤ 100) : Met l yX7_skips wsX7_skips ({ frames := 0, cells := 0, slots := 0, locals := 0 } : Room) (va_Pc [.ref r, .int (nI q)] (PB G [(r, .inl (G.2 0, 131, .inl (mr n (nI g) sk mm)))])) (QR (some (.int (zb (q ≤ 30 ∧ bt sk q = true))))) 0 0 (fun _ => False) := by
  refine Met.go (cc := cX7_skips) (maxL := 2) (ret := (some .boolean)) (by decide) rfl (Nat.le_of_ble_eq_true rfl) ?_
  intro p e s m below meth c ls hx hb hr hml hown hts hlk hP hK hD hS hl
  have hown : s.vm.findClass RX7 = some m.cls := hown
  have hl : lv_has ls 2 [(0, .ref r), (1, .int (nI q))] := hl
  refine lv_iload_n hx hb dX7_skips_0 rfl (lv_at hl 1 rfl) ?_
  refine lv_bipush (v := nI 30) hx hb dX7_skips_1 (by decide) ?_
  refine bi_gt (tgt := 21) hx hb dX7_skips_3 (by decide) (nI_i (by omega)) (nI_i (by omega)) (fun c_3 => ?_) (fun c_3 => ?_)
  ·
    refine lv_iconst (v := nI 0) hx hb dX7_skips_21 (by decide) ?_
    exact R_z hx hb hr hlk dX7_skips_22 ((zb_f (fun z_ => by omega)).symm) zb_nar
  ·
    refine lv_aload_n hx hb dX7_skips_6 rfl (lv_at hl 0 rfl) ?_
    refine lv_iconst (v := nI 2) hx hb dX7_skips_7 (by decide) ?_
    refine nv_iald hx hb hK hP 0 rfl (by omega) (by decide) dX7_skips_8 ?_
    rw [show (mr n (nI g) sk mm) 2 = sk from mr_2]
    refine lv_iload_n hx hb dX7_skips_9 rfl (lv_at hl 1 rfl) ?_
    refine lv_ishr hx hb dX7_skips_10 ?_
    refine lv_iconst (v := nI 1) hx hb dX7_skips_11 (by decide) ?_
    refine lv_iand hx hb dX7_skips_12 ?_
    refine lv_iconst (v := nI 1) hx hb dX7_skips_13 (by decide) ?_
    refine lv_icmp_ne (tgt := 21) hx hb dX7_skips_14 (by decide) (fun c_14 => ?_) (fun c_14 => ?_)
    ·
      have c_14 : ¬ bt sk q = true := fun z_ => c_14 ((sk_s sk (by omega)).mpr z_)
      refine lv_iconst (v := nI 0) hx hb dX7_skips_21 (by decide) ?_
      exact R_z hx hb hr hlk dX7_skips_22 ((zb_f (fun z_ => c_14 z_.2)).symm) zb_nar
    ·
      have c_14 : bt sk q = true := (sk_s sk (by omega)).mp c_14
      refine lv_iconst (v := nI 1) hx hb dX7_skips_17 (by decide) ?_
      refine lv_goto (tgt := 22) hx hb dX7_skips_18 (by decide) ?_
      exact R_z hx hb hr hlk dX7_skips_22 ((zb_t ⟨by omega, c_14⟩).symm) zb_nar

set_option maxHeartbeats 4000000 in
set_option maxRecDepth 100000 in
theorem c_X7_serves (l : Launch) (G : GG) (r : Nat) (n : Nat) (g : Nat) (sk : Int32) (mm : Nat → Int32) (ca : Nat) (lv : Nat) (h_ca : ca < 3) (h_lv : lv < 16) : Met l yX7_serves wsX7_serves ({ frames := 0, cells := 0, slots := 0, locals := 0 } : Room) (va_Pc [.ref r, .int (nI ca), .int (nI lv)] (PB G [(r, .inl (G.2 0, 131, .inl (mr n (nI g) sk mm)))])) (QR (some (.int (zb (mm (83 + 16 * ca + lv) = 1))))) 0 0 (fun _ => False) := by
  refine Met.go (cc := cX7_serves) (maxL := 3) (ret := (some .boolean)) (by decide) rfl (Nat.le_of_ble_eq_true rfl) ?_
  intro p e s m below meth c ls hx hb hr hml hown hts hlk hP hK hD hS hl
  have hown : s.vm.findClass RX7 = some m.cls := hown
  have hl : lv_has ls 3 [(0, .ref r), (1, .int (nI ca)), (2, .int (nI lv))] := hl
  refine lv_aload_n hx hb dX7_serves_0 rfl (lv_at hl 0 rfl) ?_
  refine lv_bipush (v := nI 83) hx hb dX7_serves_1 (by decide) ?_
  refine lv_bipush (v := nI 16) hx hb dX7_serves_3 (by decide) ?_
  refine lv_iload_n hx hb dX7_serves_5 rfl (lv_at hl 1 rfl) ?_
  refine nv_imul hx hb dX7_serves_6 ?_
  refine nv_iadd hx hb dX7_serves_7 ?_
  refine lv_iload_n hx hb dX7_serves_8 rfl (lv_at hl 2 rfl) ?_
  refine nv_iadd hx hb dX7_serves_9 ?_
  refine nv_iald hx hb hK hP 0 rfl (by omega) (by decide) dX7_serves_10 ?_
  rw [show (mr n (nI g) sk mm) ((83 + (16 * ca)) + lv) = (mm ((83 + (16 * ca)) + lv)) from (mr_j (by omega))]
  refine lv_iconst (v := nI 1) hx hb dX7_serves_11 (by decide) ?_
  refine lv_icmp_ne (tgt := 19) hx hb dX7_serves_12 (by decide) (fun c_12 => ?_) (fun c_12 => ?_)
  ·
    refine lv_iconst (v := nI 0) hx hb dX7_serves_19 (by decide) ?_
    exact R_z hx hb hr hlk dX7_serves_20 ((zb_f (by first | omega | assumption | exact ⟨by assumption, by assumption⟩ | exact fun z_ => z_ (by assumption) | exact fun z_ => absurd z_.1 (by assumption) | exact fun z_ => absurd z_.2 (by assumption) | exact fun z_ => z_.1 (by assumption) | exact fun z_ => z_.2 (by assumption))).symm) zb_nar
  ·
    refine lv_iconst (v := nI 1) hx hb dX7_serves_15 (by decide) ?_
    refine lv_goto (tgt := 20) hx hb dX7_serves_16 (by decide) ?_
    exact R_z hx hb hr hlk dX7_serves_20 ((zb_t (by first | omega | assumption | exact ⟨by assumption, by assumption⟩ | exact fun z_ => z_ (by assumption) | exact fun z_ => absurd z_.1 (by assumption) | exact fun z_ => absurd z_.2 (by assumption) | exact fun z_ => z_.1 (by assumption) | exact fun z_ => z_.2 (by assumption))).symm) zb_nar

set_option maxHeartbeats 4000000 in
set_option maxRecDepth 100000 in
theorem c_X7_says (l : Launch) (G : GG) (r : Nat) (n : Nat) (g : Nat) (sk : Int32) (mm : Nat → Int32) (ca : Nat) (lv : Nat) (h_ca : ca < 3) (h_lv : lv < 16) : Met l yX7_says wsX7_says ({ frames := 0, cells := 0, slots := 0, locals := 0 } : Room) (va_Pc [.ref r, .int (nI ca), .int (nI lv)] (PB G [(r, .inl (G.2 0, 131, .inl (mr n (nI g) sk mm)))])) (QR (some (.int (mm (35 + 16 * ca + lv))))) 0 0 (fun _ => False) := by
  refine Met.go (cc := cX7_says) (maxL := 3) (ret := (some .int)) (by decide) rfl (Nat.le_of_ble_eq_true rfl) ?_
  intro p e s m below meth c ls hx hb hr hml hown hts hlk hP hK hD hS hl
  have hown : s.vm.findClass RX7 = some m.cls := hown
  have hl : lv_has ls 3 [(0, .ref r), (1, .int (nI ca)), (2, .int (nI lv))] := hl
  refine lv_aload_n hx hb dX7_says_0 rfl (lv_at hl 0 rfl) ?_
  refine lv_bipush (v := nI 35) hx hb dX7_says_1 (by decide) ?_
  refine lv_bipush (v := nI 16) hx hb dX7_says_3 (by decide) ?_
  refine lv_iload_n hx hb dX7_says_5 rfl (lv_at hl 1 rfl) ?_
  refine nv_imul hx hb dX7_says_6 ?_
  refine nv_iadd hx hb dX7_says_7 ?_
  refine lv_iload_n hx hb dX7_says_8 rfl (lv_at hl 2 rfl) ?_
  refine nv_iadd hx hb dX7_says_9 ?_
  refine nv_iald hx hb hK hP 0 rfl (by omega) (by decide) dX7_says_10 ?_
  rw [show (mr n (nI g) sk mm) ((35 + (16 * ca)) + lv) = (mm ((35 + (16 * ca)) + lv)) from (mr_j (by omega))]
  exact R_i hx hb hr hlk dX7_says_11 (rfl)

set_option maxHeartbeats 4000000 in
set_option maxRecDepth 100000 in
theorem c_X7_shift (l : Launch) (G : GG) (r : Nat) (n : Nat) (gI : Int32) (sk : Int32) (mm : Nat → Int32) (fr : Nat) (to : Nat) (h_fr : fr < 16) (h_to : to < 16) (h_ne : fr ≠ to) : Met l yX7_shift wsX7_shift ({ frames := 0, cells := 0, slots := 0, locals := 0 } : Room) (va_Pc [.ref r, .int (nI fr), .int (nI to)] (PB G [(r, .inl (G.2 0, 131, .inl (mr n gI sk mm)))])) (QW G (none) [(r, .inl (G.2 0, 131, .inl (mr n gI sk (shf mm fr to))))] (vA [(r, .inl (G.2 0, 131, .inl (mr n gI sk mm)))])) 0 0 (vA [(r, .inl (G.2 0, 131, .inl (mr n gI sk mm)))]) := by
  refine Met.go (cc := cX7_shift) (maxL := 4) (ret := none) (by decide) rfl (Nat.le_of_ble_eq_true rfl) ?_
  intro p e s m below meth c ls hx hb hr hml hown hts hlk hP hK hD hS hl
  have hown : s.vm.findClass RX7 = some m.cls := hown
  have hl : lv_has ls 4 [(0, .ref r), (1, .int (nI fr)), (2, .int (nI to))] := hl
  refine lv_aload_n hx hb dX7_shift_0 rfl (lv_at hl 0 rfl) ?_
  refine lv_iconst (v := nI 3) hx hb dX7_shift_1 (by decide) ?_
  refine lv_iload_n hx hb dX7_shift_2 rfl (lv_at hl 2 rfl) ?_
  refine nv_iadd hx hb dX7_shift_3 ?_
  refine lv_aload_n hx hb dX7_shift_4 rfl (lv_at hl 0 rfl) ?_
  refine lv_iconst (v := nI 3) hx hb dX7_shift_5 (by decide) ?_
  refine lv_iload_n hx hb dX7_shift_6 rfl (lv_at hl 1 rfl) ?_
  refine nv_iadd hx hb dX7_shift_7 ?_
  refine nv_iald hx hb hK hP 0 rfl (by omega) (by decide) dX7_shift_8 ?_
  rw [show (mr n gI sk mm) (3 + fr) = (mm (3 + fr)) from by rw [mr_j (by omega)]]
  refine nv_iast hx hb hK hP hD hS 0 rfl (v := (mm (3 + fr))) rfl (by omega) (by decide) dX7_shift_9 (w3 := [(r, .inl (G.2 0, 131, .inl (mr n gI sk (upd mm (3 + to) (mm (3 + fr))))))]) (by rw [mr_uj (by omega)]; rfl) (fun H locs hP hD hS => ?_)
  refine lv_aload_n hx hb dX7_shift_10 rfl (lv_at hl 0 rfl) ?_
  refine lv_bipush (v := nI 19) hx hb dX7_shift_11 (by decide) ?_
  refine lv_iload_n hx hb dX7_shift_13 rfl (lv_at hl 2 rfl) ?_
  refine nv_iadd hx hb dX7_shift_14 ?_
  refine lv_aload_n hx hb dX7_shift_15 rfl (lv_at hl 0 rfl) ?_
  refine lv_bipush (v := nI 19) hx hb dX7_shift_16 (by decide) ?_
  refine lv_iload_n hx hb dX7_shift_18 rfl (lv_at hl 1 rfl) ?_
  refine nv_iadd hx hb dX7_shift_19 ?_
  refine nv_iald hx hb hK hP 0 rfl (by omega) (by decide) dX7_shift_20 ?_
  rw [show (mr n gI sk (upd mm (3 + to) (mm (3 + fr)))) (19 + fr) = (mm (19 + fr)) from by rw [mr_j (by omega)]; unfold upd; repeat rw [if_neg (by omega)]]
  refine nv_iast hx hb hK hP hD hS 0 rfl (v := (mm (19 + fr))) rfl (by omega) (by decide) dX7_shift_21 (w3 := [(r, .inl (G.2 0, 131, .inl (mr n gI sk (upd (upd mm (3 + to) (mm (3 + fr))) (19 + to) (mm (19 + fr))))))]) (by rw [mr_uj (by omega)]; rfl) (fun H locs hP hD hS => ?_)
  refine lv_iconst (v := nI 0) hx hb dX7_shift_22 (by decide) ?_
  refine lv_istore_n (lv' := [(3, .int (nI 0)), (0, .ref r), (1, .int (nI fr)), (2, .int (nI to))]) hx hb dX7_shift_23 rfl hl (by decide) rfl (fun ls hl => ?_)
  refine lv_iload_n hx hb dX7_shift_24 rfl (lv_at hl 0 rfl) ?_
  refine lv_iconst (v := nI 3) hx hb dX7_shift_25 (by decide) ?_
  refine bi_ge (tgt := 79) hx hb dX7_shift_26 (by decide) (nI_i (by omega)) (nI_i (by omega)) (fun c_26 => False.elim (by omega)) (fun c_26 => ?_)
  refine lv_aload_n hx hb dX7_shift_29 rfl (lv_at hl 1 rfl) ?_
  refine lv_bipush (v := nI 35) hx hb dX7_shift_30 (by decide) ?_
  refine lv_bipush (v := nI 16) hx hb dX7_shift_32 (by decide) ?_
  refine lv_iload_n hx hb dX7_shift_34 rfl (lv_at hl 0 rfl) ?_
  refine nv_imul hx hb dX7_shift_35 ?_
  refine nv_iadd hx hb dX7_shift_36 ?_
  refine lv_iload_n hx hb dX7_shift_37 rfl (lv_at hl 3 rfl) ?_
  refine nv_iadd hx hb dX7_shift_38 ?_
  refine lv_aload_n hx hb dX7_shift_39 rfl (lv_at hl 1 rfl) ?_
  refine lv_bipush (v := nI 35) hx hb dX7_shift_40 (by decide) ?_
  refine lv_bipush (v := nI 16) hx hb dX7_shift_42 (by decide) ?_
  refine lv_iload_n hx hb dX7_shift_44 rfl (lv_at hl 0 rfl) ?_
  refine nv_imul hx hb dX7_shift_45 ?_
  refine nv_iadd hx hb dX7_shift_46 ?_
  refine lv_iload_n hx hb dX7_shift_47 rfl (lv_at hl 2 rfl) ?_
  refine nv_iadd hx hb dX7_shift_48 ?_
  refine nv_iald hx hb hK hP 0 rfl (by omega) (by decide) dX7_shift_49 ?_
  rw [show (mr n gI sk (upd (upd mm (3 + to) (mm (3 + fr))) (19 + to) (mm (19 + fr)))) (35 + fr) = (mm (35 + fr)) from by rw [mr_j (by omega)]; unfold upd; repeat rw [if_neg (by omega)]]
  refine nv_iast hx hb hK hP hD hS 0 rfl (v := (mm (35 + fr))) rfl (by omega) (by decide) dX7_shift_50 (w3 := [(r, .inl (G.2 0, 131, .inl (mr n gI sk (upd (upd (upd mm (3 + to) (mm (3 + fr))) (19 + to) (mm (19 + fr))) (35 + to) (mm (35 + fr))))))]) (by rw [mr_uj (by omega)]; rfl) (fun H locs hP hD hS => ?_)
  refine lv_aload_n hx hb dX7_shift_51 rfl (lv_at hl 1 rfl) ?_
  refine lv_bipush (v := nI 83) hx hb dX7_shift_52 (by decide) ?_
  refine lv_bipush (v := nI 16) hx hb dX7_shift_54 (by decide) ?_
  refine lv_iload_n hx hb dX7_shift_56 rfl (lv_at hl 0 rfl) ?_
  refine nv_imul hx hb dX7_shift_57 ?_
  refine nv_iadd hx hb dX7_shift_58 ?_
  refine lv_iload_n hx hb dX7_shift_59 rfl (lv_at hl 3 rfl) ?_
  refine nv_iadd hx hb dX7_shift_60 ?_
  refine lv_aload_n hx hb dX7_shift_61 rfl (lv_at hl 1 rfl) ?_
  refine lv_bipush (v := nI 83) hx hb dX7_shift_62 (by decide) ?_
  refine lv_bipush (v := nI 16) hx hb dX7_shift_64 (by decide) ?_
  refine lv_iload_n hx hb dX7_shift_66 rfl (lv_at hl 0 rfl) ?_
  refine nv_imul hx hb dX7_shift_67 ?_
  refine nv_iadd hx hb dX7_shift_68 ?_
  refine lv_iload_n hx hb dX7_shift_69 rfl (lv_at hl 2 rfl) ?_
  refine nv_iadd hx hb dX7_shift_70 ?_
  refine nv_iald hx hb hK hP 0 rfl (by omega) (by decide) dX7_shift_71 ?_
  rw [show (mr n gI sk (upd (upd (upd mm (3 + to) (mm (3 + fr))) (19 + to) (mm (19 + fr))) (35 + to) (mm (35 + fr)))) (83 + fr) = (mm (83 + fr)) from by rw [mr_j (by omega)]; unfold upd; repeat rw [if_neg (by omega)]]
  refine nv_iast hx hb hK hP hD hS 0 rfl (v := (mm (83 + fr))) rfl (by omega) (by decide) dX7_shift_72 (w3 := [(r, .inl (G.2 0, 131, .inl (mr n gI sk (upd (upd (upd (upd mm (3 + to) (mm (3 + fr))) (19 + to) (mm (19 + fr))) (35 + to) (mm (35 + fr))) (83 + to) (mm (83 + fr))))))]) (by rw [mr_uj (by omega)]; rfl) (fun H locs hP hD hS => ?_)
  refine lv_iinc (v := nI (0 + 1)) (lv' := [(3, .int (nI (0 + 1))), (0, .ref r), (1, .int (nI fr)), (2, .int (nI to))]) hx hb dX7_shift_73 hl (k := 0) rfl (inc_n _ 1) (by decide) rfl (fun ls hl => ?_)
  refine lv_goto (tgt := 24) hx hb dX7_shift_76 (by decide) ?_
  refine lv_iload_n hx hb dX7_shift_24 rfl (lv_at hl 0 rfl) ?_
  refine lv_iconst (v := nI 3) hx hb dX7_shift_25 (by decide) ?_
  refine bi_ge (tgt := 79) hx hb dX7_shift_26 (by decide) (nI_i (by omega)) (nI_i (by omega)) (fun c_26 => False.elim (by omega)) (fun c_26 => ?_)
  refine lv_aload_n hx hb dX7_shift_29 rfl (lv_at hl 1 rfl) ?_
  refine lv_bipush (v := nI 35) hx hb dX7_shift_30 (by decide) ?_
  refine lv_bipush (v := nI 16) hx hb dX7_shift_32 (by decide) ?_
  refine lv_iload_n hx hb dX7_shift_34 rfl (lv_at hl 0 rfl) ?_
  refine nv_imul hx hb dX7_shift_35 ?_
  refine nv_iadd hx hb dX7_shift_36 ?_
  refine lv_iload_n hx hb dX7_shift_37 rfl (lv_at hl 3 rfl) ?_
  refine nv_iadd hx hb dX7_shift_38 ?_
  refine lv_aload_n hx hb dX7_shift_39 rfl (lv_at hl 1 rfl) ?_
  refine lv_bipush (v := nI 35) hx hb dX7_shift_40 (by decide) ?_
  refine lv_bipush (v := nI 16) hx hb dX7_shift_42 (by decide) ?_
  refine lv_iload_n hx hb dX7_shift_44 rfl (lv_at hl 0 rfl) ?_
  refine nv_imul hx hb dX7_shift_45 ?_
  refine nv_iadd hx hb dX7_shift_46 ?_
  refine lv_iload_n hx hb dX7_shift_47 rfl (lv_at hl 2 rfl) ?_
  refine nv_iadd hx hb dX7_shift_48 ?_
  refine nv_iald hx hb hK hP 0 rfl (by omega) (by decide) dX7_shift_49 ?_
  rw [show (mr n gI sk (upd (upd (upd (upd mm (3 + to) (mm (3 + fr))) (19 + to) (mm (19 + fr))) (35 + to) (mm (35 + fr))) (83 + to) (mm (83 + fr)))) ((35 + (16 * (0 + 1))) + fr) = (mm (51 + fr)) from by rw [mr_j (by omega)]; unfold upd; repeat rw [if_neg (by omega)]]
  refine nv_iast hx hb hK hP hD hS 0 rfl (v := (mm (51 + fr))) rfl (by omega) (by decide) dX7_shift_50 (w3 := [(r, .inl (G.2 0, 131, .inl (mr n gI sk (upd (upd (upd (upd (upd mm (3 + to) (mm (3 + fr))) (19 + to) (mm (19 + fr))) (35 + to) (mm (35 + fr))) (83 + to) (mm (83 + fr))) ((35 + (16 * (0 + 1))) + to) (mm (51 + fr))))))]) (by rw [mr_uj (by omega)]; rfl) (fun H locs hP hD hS => ?_)
  refine lv_aload_n hx hb dX7_shift_51 rfl (lv_at hl 1 rfl) ?_
  refine lv_bipush (v := nI 83) hx hb dX7_shift_52 (by decide) ?_
  refine lv_bipush (v := nI 16) hx hb dX7_shift_54 (by decide) ?_
  refine lv_iload_n hx hb dX7_shift_56 rfl (lv_at hl 0 rfl) ?_
  refine nv_imul hx hb dX7_shift_57 ?_
  refine nv_iadd hx hb dX7_shift_58 ?_
  refine lv_iload_n hx hb dX7_shift_59 rfl (lv_at hl 3 rfl) ?_
  refine nv_iadd hx hb dX7_shift_60 ?_
  refine lv_aload_n hx hb dX7_shift_61 rfl (lv_at hl 1 rfl) ?_
  refine lv_bipush (v := nI 83) hx hb dX7_shift_62 (by decide) ?_
  refine lv_bipush (v := nI 16) hx hb dX7_shift_64 (by decide) ?_
  refine lv_iload_n hx hb dX7_shift_66 rfl (lv_at hl 0 rfl) ?_
  refine nv_imul hx hb dX7_shift_67 ?_
  refine nv_iadd hx hb dX7_shift_68 ?_
  refine lv_iload_n hx hb dX7_shift_69 rfl (lv_at hl 2 rfl) ?_
  refine nv_iadd hx hb dX7_shift_70 ?_
  refine nv_iald hx hb hK hP 0 rfl (by omega) (by decide) dX7_shift_71 ?_
  rw [show (mr n gI sk (upd (upd (upd (upd (upd mm (3 + to) (mm (3 + fr))) (19 + to) (mm (19 + fr))) (35 + to) (mm (35 + fr))) (83 + to) (mm (83 + fr))) ((35 + (16 * (0 + 1))) + to) (mm (51 + fr)))) ((83 + (16 * (0 + 1))) + fr) = (mm (99 + fr)) from by rw [mr_j (by omega)]; unfold upd; repeat rw [if_neg (by omega)]]
  refine nv_iast hx hb hK hP hD hS 0 rfl (v := (mm (99 + fr))) rfl (by omega) (by decide) dX7_shift_72 (w3 := [(r, .inl (G.2 0, 131, .inl (mr n gI sk (upd (upd (upd (upd (upd (upd mm (3 + to) (mm (3 + fr))) (19 + to) (mm (19 + fr))) (35 + to) (mm (35 + fr))) (83 + to) (mm (83 + fr))) ((35 + (16 * (0 + 1))) + to) (mm (51 + fr))) ((83 + (16 * (0 + 1))) + to) (mm (99 + fr))))))]) (by rw [mr_uj (by omega)]; rfl) (fun H locs hP hD hS => ?_)
  refine lv_iinc (v := nI (0 + 1 + 1)) (lv' := [(3, .int (nI (0 + 1 + 1))), (0, .ref r), (1, .int (nI fr)), (2, .int (nI to))]) hx hb dX7_shift_73 hl (k := 0) rfl (inc_n _ 1) (by decide) rfl (fun ls hl => ?_)
  refine lv_goto (tgt := 24) hx hb dX7_shift_76 (by decide) ?_
  refine lv_iload_n hx hb dX7_shift_24 rfl (lv_at hl 0 rfl) ?_
  refine lv_iconst (v := nI 3) hx hb dX7_shift_25 (by decide) ?_
  refine bi_ge (tgt := 79) hx hb dX7_shift_26 (by decide) (nI_i (by omega)) (nI_i (by omega)) (fun c_26 => False.elim (by omega)) (fun c_26 => ?_)
  refine lv_aload_n hx hb dX7_shift_29 rfl (lv_at hl 1 rfl) ?_
  refine lv_bipush (v := nI 35) hx hb dX7_shift_30 (by decide) ?_
  refine lv_bipush (v := nI 16) hx hb dX7_shift_32 (by decide) ?_
  refine lv_iload_n hx hb dX7_shift_34 rfl (lv_at hl 0 rfl) ?_
  refine nv_imul hx hb dX7_shift_35 ?_
  refine nv_iadd hx hb dX7_shift_36 ?_
  refine lv_iload_n hx hb dX7_shift_37 rfl (lv_at hl 3 rfl) ?_
  refine nv_iadd hx hb dX7_shift_38 ?_
  refine lv_aload_n hx hb dX7_shift_39 rfl (lv_at hl 1 rfl) ?_
  refine lv_bipush (v := nI 35) hx hb dX7_shift_40 (by decide) ?_
  refine lv_bipush (v := nI 16) hx hb dX7_shift_42 (by decide) ?_
  refine lv_iload_n hx hb dX7_shift_44 rfl (lv_at hl 0 rfl) ?_
  refine nv_imul hx hb dX7_shift_45 ?_
  refine nv_iadd hx hb dX7_shift_46 ?_
  refine lv_iload_n hx hb dX7_shift_47 rfl (lv_at hl 2 rfl) ?_
  refine nv_iadd hx hb dX7_shift_48 ?_
  refine nv_iald hx hb hK hP 0 rfl (by omega) (by decide) dX7_shift_49 ?_
  rw [show (mr n gI sk (upd (upd (upd (upd (upd (upd mm (3 + to) (mm (3 + fr))) (19 + to) (mm (19 + fr))) (35 + to) (mm (35 + fr))) (83 + to) (mm (83 + fr))) ((35 + (16 * (0 + 1))) + to) (mm (51 + fr))) ((83 + (16 * (0 + 1))) + to) (mm (99 + fr)))) ((35 + (16 * (0 + 1 + 1))) + fr) = (mm (67 + fr)) from by rw [mr_j (by omega)]; unfold upd; repeat rw [if_neg (by omega)]]
  refine nv_iast hx hb hK hP hD hS 0 rfl (v := (mm (67 + fr))) rfl (by omega) (by decide) dX7_shift_50 (w3 := [(r, .inl (G.2 0, 131, .inl (mr n gI sk (upd (upd (upd (upd (upd (upd (upd mm (3 + to) (mm (3 + fr))) (19 + to) (mm (19 + fr))) (35 + to) (mm (35 + fr))) (83 + to) (mm (83 + fr))) ((35 + (16 * (0 + 1))) + to) (mm (51 + fr))) ((83 + (16 * (0 + 1))) + to) (mm (99 + fr))) ((35 + (16 * (0 + 1 + 1))) + to) (mm (67 + fr))))))]) (by rw [mr_uj (by omega)]; rfl) (fun H locs hP hD hS => ?_)
  refine lv_aload_n hx hb dX7_shift_51 rfl (lv_at hl 1 rfl) ?_
  refine lv_bipush (v := nI 83) hx hb dX7_shift_52 (by decide) ?_
  refine lv_bipush (v := nI 16) hx hb dX7_shift_54 (by decide) ?_
  refine lv_iload_n hx hb dX7_shift_56 rfl (lv_at hl 0 rfl) ?_
  refine nv_imul hx hb dX7_shift_57 ?_
  refine nv_iadd hx hb dX7_shift_58 ?_
  refine lv_iload_n hx hb dX7_shift_59 rfl (lv_at hl 3 rfl) ?_
  refine nv_iadd hx hb dX7_shift_60 ?_
  refine lv_aload_n hx hb dX7_shift_61 rfl (lv_at hl 1 rfl) ?_
  refine lv_bipush (v := nI 83) hx hb dX7_shift_62 (by decide) ?_
  refine lv_bipush (v := nI 16) hx hb dX7_shift_64 (by decide) ?_
  refine lv_iload_n hx hb dX7_shift_66 rfl (lv_at hl 0 rfl) ?_
  refine nv_imul hx hb dX7_shift_67 ?_
  refine nv_iadd hx hb dX7_shift_68 ?_
  refine lv_iload_n hx hb dX7_shift_69 rfl (lv_at hl 2 rfl) ?_
  refine nv_iadd hx hb dX7_shift_70 ?_
  refine nv_iald hx hb hK hP 0 rfl (by omega) (by decide) dX7_shift_71 ?_
  rw [show (mr n gI sk (upd (upd (upd (upd (upd (upd (upd mm (3 + to) (mm (3 + fr))) (19 + to) (mm (19 + fr))) (35 + to) (mm (35 + fr))) (83 + to) (mm (83 + fr))) ((35 + (16 * (0 + 1))) + to) (mm (51 + fr))) ((83 + (16 * (0 + 1))) + to) (mm (99 + fr))) ((35 + (16 * (0 + 1 + 1))) + to) (mm (67 + fr)))) ((83 + (16 * (0 + 1 + 1))) + fr) = (mm (115 + fr)) from by rw [mr_j (by omega)]; unfold upd; repeat rw [if_neg (by omega)]]
  refine nv_iast hx hb hK hP hD hS 0 rfl (v := (mm (115 + fr))) rfl (by omega) (by decide) dX7_shift_72 (w3 := [(r, .inl (G.2 0, 131, .inl (mr n gI sk (upd (upd (upd (upd (upd (upd (upd (upd mm (3 + to) (mm (3 + fr))) (19 + to) (mm (19 + fr))) (35 + to) (mm (35 + fr))) (83 + to) (mm (83 + fr))) ((35 + (16 * (0 + 1))) + to) (mm (51 + fr))) ((83 + (16 * (0 + 1))) + to) (mm (99 + fr))) ((35 + (16 * (0 + 1 + 1))) + to) (mm (67 + fr))) ((83 + (16 * (0 + 1 + 1))) + to) (mm (115 + fr))))))]) (by rw [mr_uj (by omega)]; rfl) (fun H locs hP hD hS => ?_)
  refine lv_iinc (v := nI (0 + 1 + 1 + 1)) (lv' := [(3, .int (nI (0 + 1 + 1 + 1))), (0, .ref r), (1, .int (nI fr)), (2, .int (nI to))]) hx hb dX7_shift_73 hl (k := 0) rfl (inc_n _ 1) (by decide) rfl (fun ls hl => ?_)
  refine lv_goto (tgt := 24) hx hb dX7_shift_76 (by decide) ?_
  refine lv_iload_n hx hb dX7_shift_24 rfl (lv_at hl 0 rfl) ?_
  refine lv_iconst (v := nI 3) hx hb dX7_shift_25 (by decide) ?_
  refine bi_ge (tgt := 79) hx hb dX7_shift_26 (by decide) (nI_i (by omega)) (nI_i (by omega)) (fun c_26 => ?_) (fun c_26 => False.elim (by omega))
  exact W_v hx hb hr hlk dX7_shift_79 hP hS (by rw [← shf_ok h_to])

set_option maxHeartbeats 4000000 in
set_option maxRecDepth 100000 in
theorem c_X7_insert (l : Launch) (G : GG) (r : Nat) (n : Nat) (g : Nat) (sk : Int32) (mm : Nat → Int32) (lv : Nat) (k : Int32) (h_n : n < 16) (h_n1 : 1 ≤ n) (h_g : g < n) (h_lv : lv ≤ n) : Met l yX7_insert wsX7_insert ({ frames := 1, cells := 0, slots := 0, locals := 23 } : Room) (va_Pc [.ref r, .int (nI lv), .int k] (PB G [(r, .inl (G.2 0, 131, .inl (mr n (nI g) sk mm)))])) (QW G (some (.int (nI (n + 1)))) [(r, .inl (G.2 0, 131, .inl (mr (n + 1) (nI (insG lv g)) sk (fum lv k (sm lv n lv mm)))))] (vA [(r, .inl (G.2 0, 131, .inl (mr n (nI g) sk mm)))])) 0 0 (vA [(r, .inl (G.2 0, 131, .inl (mr n (nI g) sk mm)))]) := by
  refine Met.go (cc := cX7_insert) (maxL := 4) (ret := (some .int)) (by decide) rfl (Nat.le_of_ble_eq_true rfl) ?_
  intro p e s m below meth c ls hx hb hr hml hown hts hlk hP hK hD hS hl
  have hown : s.vm.findClass RX7 = some m.cls := hown
  have hl : lv_has ls 4 [(0, .ref r), (1, .int (nI lv)), (2, .int k)] := hl
  refine lv_aload_n hx hb dX7_insert_0 rfl (lv_at hl 0 rfl) ?_
  refine lv_iconst (v := nI 0) hx hb dX7_insert_1 (by decide) ?_
  refine nv_iald hx hb hK hP 0 rfl (by omega) (by decide) dX7_insert_2 ?_
  rw [show (mr n (nI g) sk mm) 0 = nI n from mr_0]
  refine lv_iconst (v := nI 1) hx hb dX7_insert_3 (by decide) ?_
  refine lv_isub hx hb dX7_insert_4 ?_
  rw [show (nI n) - (nI 1) = zI (((n : Nat) : Int) - 1) from nI_subZ n 1]
  refine lv_istore_n (lv' := [(3, .int (zI (((n : Nat) : Int) - 1))), (0, .ref r), (1, .int (nI lv)), (2, .int k)]) hx hb dX7_insert_5 rfl hl (by decide) rfl (fun ls hl => ?_)
  have loop_6 : ∀ (k_ : Nat) (to : Nat) (h_to : to ≤ n) (h_to2 : lv ≤ to) (_ : to < k_) (H : Heap) (locs : List Loc) (_ : VP G [(r, .inl (G.2 0, 131, .inl (mr n (nI g) sk (sm lv n to mm))))] H) (_ : va_D (vA [(r, .inl (G.2 0, 131, .inl (mr n (nI g) sk mm)))]) [(r, .inl (G.2 0, 131, .inl (mr n (nI g) sk (sm lv n to mm))))]) (_ : va_S (vA [(r, .inl (G.2 0, 131, .inl (mr n (nI g) sk mm)))]) s.heap H locs) (ls : Array Slot), lv_has ls 4 [(3, .int (zI (((to : Nat) : Int) - 1))), (0, .ref r), (1, .int (nI lv)), (2, .int k)] → W p l e ({ frames := 1, cells := 0, slots := 0, locals := 23 } : Room) s m ([.ref r, .int (nI lv), .int k] : List Value).toArray below meth c H locs 0 0 (MQ below (QW G (some (.int (nI (n + 1)))) [(r, .inl (G.2 0, 131, .inl (mr (n + 1) (nI (insG lv g)) sk (fum lv k (sm lv n lv mm)))))] (vA [(r, .inl (G.2 0, 131, .inl (mr n (nI g) sk mm)))])) ([.ref r, .int (nI lv), .int k] : List Value).toArray s 0 0 (vA [(r, .inl (G.2 0, 131, .inl (mr n (nI g) sk mm)))])) (F0 m 6 ls []) := by
    intro k_
    induction k_ with
    | zero => intro to h_to h_to2 hk_; exact absurd hk_ (Nat.not_lt_zero _)
    | succ k_ ih_6 =>
      intro to h_to h_to2 hk_ H locs hP hD hS ls hl
      refine lv_iload_n hx hb dX7_insert_6 rfl (lv_at hl 0 rfl) ?_
      refine lv_iload_n hx hb dX7_insert_7 rfl (lv_at hl 2 rfl) ?_
      refine bi_lt (tgt := 25) hx hb dX7_insert_8 (by decide) (zI_toInt (by omega)) (nI_i (by omega)) (fun c_8 => ?_) (fun c_8 => ?_)
      ·
        rw [show to = lv by omega] at hP hD
        have hP : VP G [(r, .inl (G.2 0, 131, .inl (mr n (nI g) sk (sm lv n lv mm))))] H := hP
        have hD : va_D _ [(r, .inl (G.2 0, 131, .inl (mr n (nI g) sk (sm lv n lv mm))))] := hD
        refine lv_aload_n hx hb dX7_insert_25 rfl (lv_at hl 1 rfl) ?_
        refine lv_iconst (v := nI 1) hx hb dX7_insert_26 (by decide) ?_
        refine lv_dup2_11 hx hb dX7_insert_27 rfl rfl ?_
        refine nv_iald hx hb hK hP 0 rfl (by omega) (by decide) dX7_insert_28 ?_
        rw [show (mr n (nI g) sk (sm lv n lv mm)) 1 = nI g from mr_1]
        refine lv_iload_n hx hb dX7_insert_29 rfl (lv_at hl 2 rfl) ?_
        refine lv_aload_n hx hb dX7_insert_30 rfl (lv_at hl 1 rfl) ?_
        refine lv_iconst (v := nI 1) hx hb dX7_insert_31 (by decide) ?_
        refine nv_iald hx hb hK hP 0 rfl (by omega) (by decide) dX7_insert_32 ?_
        rw [show (mr n (nI g) sk (sm lv n lv mm)) 1 = nI g from mr_1]
        refine bi_gt (tgt := 46) hx hb dX7_insert_33 (by decide) (nI_i (by omega)) (nI_i (by omega)) (fun c_33 => ?_) (fun c_33 => ?_)
        ·
          refine lv_iconst (v := nI 0) hx hb dX7_insert_46 (by decide) ?_
          refine nv_iadd hx hb dX7_insert_47 ?_
          refine nv_iast hx hb hK hP hD hS 0 rfl (v := nI (g + 0)) rfl (by omega) (by decide) dX7_insert_48 (w3 := [(r, .inl (G.2 0, 131, .inl (mr n (nI (g + 0)) sk (sm lv n lv mm))))]) (by rw [mr_u1]; rfl) (fun H locs hP hD hS => ?_)
          refine lv_aload_n hx hb dX7_insert_49 rfl (lv_at hl 1 rfl) ?_
          refine lv_iconst (v := nI 3) hx hb dX7_insert_50 (by decide) ?_
          refine lv_iload_n hx hb dX7_insert_51 rfl (lv_at hl 2 rfl) ?_
          refine nv_iadd hx hb dX7_insert_52 ?_
          refine lv_iload_n hx hb dX7_insert_53 rfl (lv_at hl 3 rfl) ?_
          refine nv_iast hx hb hK hP hD hS 0 rfl (v := k) rfl (by omega) (by decide) dX7_insert_54 (w3 := [(r, .inl (G.2 0, 131, .inl (mr n (nI (g + 0)) sk (upd (sm lv n lv mm) (3 + lv) k))))]) (by rw [mr_uj (by omega)]; rfl) (fun H locs hP hD hS => ?_)
          refine lv_aload_n hx hb dX7_insert_55 rfl (lv_at hl 1 rfl) ?_
          refine lv_bipush (v := nI 19) hx hb dX7_insert_56 (by decide) ?_
          refine lv_iload_n hx hb dX7_insert_58 rfl (lv_at hl 2 rfl) ?_
          refine nv_iadd hx hb dX7_insert_59 ?_
          refine lv_iconst (v := (-1)) hx hb dX7_insert_60 (by decide) ?_
          refine nv_iast hx hb hK hP hD hS 0 rfl (v := (-1)) rfl (by omega) (by decide) dX7_insert_61 (w3 := [(r, .inl (G.2 0, 131, .inl (mr n (nI (g + 0)) sk (upd (upd (sm lv n lv mm) (3 + lv) k) (19 + lv) (-1)))))]) (by rw [mr_uj (by omega)]; rfl) (fun H locs hP hD hS => ?_)
          refine lv_iconst (v := nI 0) hx hb dX7_insert_62 (by decide) ?_
          refine lv_istore_n (lv' := [(3, .int (nI 0)), (0, .ref r), (1, .int (nI lv)), (2, .int k)]) hx hb dX7_insert_63 rfl hl (by decide) rfl (fun ls hl => ?_)
          refine lv_iload_n hx hb dX7_insert_64 rfl (lv_at hl 0 rfl) ?_
          refine lv_iconst (v := nI 3) hx hb dX7_insert_65 (by decide) ?_
          refine bi_ge (tgt := 99) hx hb dX7_insert_66 (by decide) (nI_i (by omega)) (nI_i (by omega)) (fun c_66 => False.elim (by omega)) (fun c_66 => ?_)
          refine lv_aload_n hx hb dX7_insert_69 rfl (lv_at hl 1 rfl) ?_
          refine lv_bipush (v := nI 35) hx hb dX7_insert_70 (by decide) ?_
          refine lv_bipush (v := nI 16) hx hb dX7_insert_72 (by decide) ?_
          refine lv_iload_n hx hb dX7_insert_74 rfl (lv_at hl 0 rfl) ?_
          refine nv_imul hx hb dX7_insert_75 ?_
          refine nv_iadd hx hb dX7_insert_76 ?_
          refine lv_iload_n hx hb dX7_insert_77 rfl (lv_at hl 2 rfl) ?_
          refine nv_iadd hx hb dX7_insert_78 ?_
          refine lv_iconst (v := (-1)) hx hb dX7_insert_79 (by decide) ?_
          refine nv_iast hx hb hK hP hD hS 0 rfl (v := (-1)) rfl (by omega) (by decide) dX7_insert_80 (w3 := [(r, .inl (G.2 0, 131, .inl (mr n (nI (g + 0)) sk (upd (upd (upd (sm lv n lv mm) (3 + lv) k) (19 + lv) (-1)) (35 + lv) (-1)))))]) (by rw [mr_uj (by omega)]; rfl) (fun H locs hP hD hS => ?_)
          refine lv_aload_n hx hb dX7_insert_81 rfl (lv_at hl 1 rfl) ?_
          refine lv_bipush (v := nI 83) hx hb dX7_insert_82 (by decide) ?_
          refine lv_bipush (v := nI 16) hx hb dX7_insert_84 (by decide) ?_
          refine lv_iload_n hx hb dX7_insert_86 rfl (lv_at hl 0 rfl) ?_
          refine nv_imul hx hb dX7_insert_87 ?_
          refine nv_iadd hx hb dX7_insert_88 ?_
          refine lv_iload_n hx hb dX7_insert_89 rfl (lv_at hl 2 rfl) ?_
          refine nv_iadd hx hb dX7_insert_90 ?_
          refine lv_iconst (v := nI 1) hx hb dX7_insert_91 (by decide) ?_
          refine nv_iast hx hb hK hP hD hS 0 rfl (v := nI 1) rfl (by omega) (by decide) dX7_insert_92 (w3 := [(r, .inl (G.2 0, 131, .inl (mr n (nI (g + 0)) sk (upd (upd (upd (upd (sm lv n lv mm) (3 + lv) k) (19 + lv) (-1)) (35 + lv) (-1)) (83 + lv) (nI 1)))))]) (by rw [mr_uj (by omega)]; rfl) (fun H locs hP hD hS => ?_)
          refine lv_iinc (v := nI (0 + 1)) (lv' := [(3, .int (nI (0 + 1))), (0, .ref r), (1, .int (nI lv)), (2, .int k)]) hx hb dX7_insert_93 hl (k := 0) rfl (inc_n _ 1) (by decide) rfl (fun ls hl => ?_)
          refine lv_goto (tgt := 64) hx hb dX7_insert_96 (by decide) ?_
          refine lv_iload_n hx hb dX7_insert_64 rfl (lv_at hl 0 rfl) ?_
          refine lv_iconst (v := nI 3) hx hb dX7_insert_65 (by decide) ?_
          refine bi_ge (tgt := 99) hx hb dX7_insert_66 (by decide) (nI_i (by omega)) (nI_i (by omega)) (fun c_66 => False.elim (by omega)) (fun c_66 => ?_)
          refine lv_aload_n hx hb dX7_insert_69 rfl (lv_at hl 1 rfl) ?_
          refine lv_bipush (v := nI 35) hx hb dX7_insert_70 (by decide) ?_
          refine lv_bipush (v := nI 16) hx hb dX7_insert_72 (by decide) ?_
          refine lv_iload_n hx hb dX7_insert_74 rfl (lv_at hl 0 rfl) ?_
          refine nv_imul hx hb dX7_insert_75 ?_
          refine nv_iadd hx hb dX7_insert_76 ?_
          refine lv_iload_n hx hb dX7_insert_77 rfl (lv_at hl 2 rfl) ?_
          refine nv_iadd hx hb dX7_insert_78 ?_
          refine lv_iconst (v := (-1)) hx hb dX7_insert_79 (by decide) ?_
          refine nv_iast hx hb hK hP hD hS 0 rfl (v := (-1)) rfl (by omega) (by decide) dX7_insert_80 (w3 := [(r, .inl (G.2 0, 131, .inl (mr n (nI (g + 0)) sk (upd (upd (upd (upd (upd (sm lv n lv mm) (3 + lv) k) (19 + lv) (-1)) (35 + lv) (-1)) (83 + lv) (nI 1)) ((35 + (16 * (0 + 1))) + lv) (-1)))))]) (by rw [mr_uj (by omega)]; rfl) (fun H locs hP hD hS => ?_)
          refine lv_aload_n hx hb dX7_insert_81 rfl (lv_at hl 1 rfl) ?_
          refine lv_bipush (v := nI 83) hx hb dX7_insert_82 (by decide) ?_
          refine lv_bipush (v := nI 16) hx hb dX7_insert_84 (by decide) ?_
          refine lv_iload_n hx hb dX7_insert_86 rfl (lv_at hl 0 rfl) ?_
          refine nv_imul hx hb dX7_insert_87 ?_
          refine nv_iadd hx hb dX7_insert_88 ?_
          refine lv_iload_n hx hb dX7_insert_89 rfl (lv_at hl 2 rfl) ?_
          refine nv_iadd hx hb dX7_insert_90 ?_
          refine lv_iconst (v := nI 1) hx hb dX7_insert_91 (by decide) ?_
          refine nv_iast hx hb hK hP hD hS 0 rfl (v := nI 1) rfl (by omega) (by decide) dX7_insert_92 (w3 := [(r, .inl (G.2 0, 131, .inl (mr n (nI (g + 0)) sk (upd (upd (upd (upd (upd (upd (sm lv n lv mm) (3 + lv) k) (19 + lv) (-1)) (35 + lv) (-1)) (83 + lv) (nI 1)) ((35 + (16 * (0 + 1))) + lv) (-1)) ((83 + (16 * (0 + 1))) + lv) (nI 1)))))]) (by rw [mr_uj (by omega)]; rfl) (fun H locs hP hD hS => ?_)
          refine lv_iinc (v := nI (0 + 1 + 1)) (lv' := [(3, .int (nI (0 + 1 + 1))), (0, .ref r), (1, .int (nI lv)), (2, .int k)]) hx hb dX7_insert_93 hl (k := 0) rfl (inc_n _ 1) (by decide) rfl (fun ls hl => ?_)
          refine lv_goto (tgt := 64) hx hb dX7_insert_96 (by decide) ?_
          refine lv_iload_n hx hb dX7_insert_64 rfl (lv_at hl 0 rfl) ?_
          refine lv_iconst (v := nI 3) hx hb dX7_insert_65 (by decide) ?_
          refine bi_ge (tgt := 99) hx hb dX7_insert_66 (by decide) (nI_i (by omega)) (nI_i (by omega)) (fun c_66 => False.elim (by omega)) (fun c_66 => ?_)
          refine lv_aload_n hx hb dX7_insert_69 rfl (lv_at hl 1 rfl) ?_
          refine lv_bipush (v := nI 35) hx hb dX7_insert_70 (by decide) ?_
          refine lv_bipush (v := nI 16) hx hb dX7_insert_72 (by decide) ?_
          refine lv_iload_n hx hb dX7_insert_74 rfl (lv_at hl 0 rfl) ?_
          refine nv_imul hx hb dX7_insert_75 ?_
          refine nv_iadd hx hb dX7_insert_76 ?_
          refine lv_iload_n hx hb dX7_insert_77 rfl (lv_at hl 2 rfl) ?_
          refine nv_iadd hx hb dX7_insert_78 ?_
          refine lv_iconst (v := (-1)) hx hb dX7_insert_79 (by decide) ?_
          refine nv_iast hx hb hK hP hD hS 0 rfl (v := (-1)) rfl (by omega) (by decide) dX7_insert_80 (w3 := [(r, .inl (G.2 0, 131, .inl (mr n (nI (g + 0)) sk (upd (upd (upd (upd (upd (upd (upd (sm lv n lv mm) (3 + lv) k) (19 + lv) (-1)) (35 + lv) (-1)) (83 + lv) (nI 1)) ((35 + (16 * (0 + 1))) + lv) (-1)) ((83 + (16 * (0 + 1))) + lv) (nI 1)) ((35 + (16 * (0 + 1 + 1))) + lv) (-1)))))]) (by rw [mr_uj (by omega)]; rfl) (fun H locs hP hD hS => ?_)
          refine lv_aload_n hx hb dX7_insert_81 rfl (lv_at hl 1 rfl) ?_
          refine lv_bipush (v := nI 83) hx hb dX7_insert_82 (by decide) ?_
          refine lv_bipush (v := nI 16) hx hb dX7_insert_84 (by decide) ?_
          refine lv_iload_n hx hb dX7_insert_86 rfl (lv_at hl 0 rfl) ?_
          refine nv_imul hx hb dX7_insert_87 ?_
          refine nv_iadd hx hb dX7_insert_88 ?_
          refine lv_iload_n hx hb dX7_insert_89 rfl (lv_at hl 2 rfl) ?_
          refine nv_iadd hx hb dX7_insert_90 ?_
          refine lv_iconst (v := nI 1) hx hb dX7_insert_91 (by decide) ?_
          refine nv_iast hx hb hK hP hD hS 0 rfl (v := nI 1) rfl (by omega) (by decide) dX7_insert_92 (w3 := [(r, .inl (G.2 0, 131, .inl (mr n (nI (g + 0)) sk (upd (upd (upd (upd (upd (upd (upd (upd (sm lv n lv mm) (3 + lv) k) (19 + lv) (-1)) (35 + lv) (-1)) (83 + lv) (nI 1)) ((35 + (16 * (0 + 1))) + lv) (-1)) ((83 + (16 * (0 + 1))) + lv) (nI 1)) ((35 + (16 * (0 + 1 + 1))) + lv) (-1)) ((83 + (16 * (0 + 1 + 1))) + lv) (nI 1)))))]) (by rw [mr_uj (by omega)]; rfl) (fun H locs hP hD hS => ?_)
          refine lv_iinc (v := nI (0 + 1 + 1 + 1)) (lv' := [(3, .int (nI (0 + 1 + 1 + 1))), (0, .ref r), (1, .int (nI lv)), (2, .int k)]) hx hb dX7_insert_93 hl (k := 0) rfl (inc_n _ 1) (by decide) rfl (fun ls hl => ?_)
          refine lv_goto (tgt := 64) hx hb dX7_insert_96 (by decide) ?_
          refine lv_iload_n hx hb dX7_insert_64 rfl (lv_at hl 0 rfl) ?_
          refine lv_iconst (v := nI 3) hx hb dX7_insert_65 (by decide) ?_
          refine bi_ge (tgt := 99) hx hb dX7_insert_66 (by decide) (nI_i (by omega)) (nI_i (by omega)) (fun c_66 => ?_) (fun c_66 => False.elim (by omega))
          refine lv_aload_n hx hb dX7_insert_99 rfl (lv_at hl 1 rfl) ?_
          refine lv_iconst (v := nI 0) hx hb dX7_insert_100 (by decide) ?_
          refine lv_dup2_11 hx hb dX7_insert_101 rfl rfl ?_
          refine nv_iald hx hb hK hP 0 rfl (by omega) (by decide) dX7_insert_102 ?_
          rw [show (mr n (nI (g + 0)) sk (upd (upd (upd (upd (upd (upd (upd (upd (sm lv n lv mm) (3 + lv) k) (19 + lv) (-1)) (35 + lv) (-1)) (83 + lv) (nI 1)) ((35 + (16 * (0 + 1))) + lv) (-1)) ((83 + (16 * (0 + 1))) + lv) (nI 1)) ((35 + (16 * (0 + 1 + 1))) + lv) (-1)) ((83 + (16 * (0 + 1 + 1))) + lv) (nI 1))) 0 = nI n from mr_0]
          refine lv_iconst (v := nI 1) hx hb dX7_insert_103 (by decide) ?_
          refine nv_iadd hx hb dX7_insert_104 ?_
          refine nv_iast hx hb hK hP hD hS 0 rfl (v := nI (n + 1)) rfl (by omega) (by decide) dX7_insert_105 (w3 := [(r, .inl (G.2 0, 131, .inl (mr (n + 1) (nI (g + 0)) sk (upd (upd (upd (upd (upd (upd (upd (upd (sm lv n lv mm) (3 + lv) k) (19 + lv) (-1)) (35 + lv) (-1)) (83 + lv) (nI 1)) ((35 + (16 * (0 + 1))) + lv) (-1)) ((83 + (16 * (0 + 1))) + lv) (nI 1)) ((35 + (16 * (0 + 1 + 1))) + lv) (-1)) ((83 + (16 * (0 + 1 + 1))) + lv) (nI 1)))))]) (by rw [mr_u0]; rfl) (fun H locs hP hD hS => ?_)
          refine lv_aload_n hx hb dX7_insert_106 rfl (lv_at hl 1 rfl) ?_
          refine lv_iconst (v := nI 0) hx hb dX7_insert_107 (by decide) ?_
          refine nv_iald hx hb hK hP 0 rfl (by omega) (by decide) dX7_insert_108 ?_
          rw [show (mr (n + 1) (nI (g + 0)) sk (upd (upd (upd (upd (upd (upd (upd (upd (sm lv n lv mm) (3 + lv) k) (19 + lv) (-1)) (35 + lv) (-1)) (83 + lv) (nI 1)) ((35 + (16 * (0 + 1))) + lv) (-1)) ((83 + (16 * (0 + 1))) + lv) (nI 1)) ((35 + (16 * (0 + 1 + 1))) + lv) (-1)) ((83 + (16 * (0 + 1 + 1))) + lv) (nI 1))) 0 = nI (n + 1) from mr_0]
          exact W_i hx hb hr hlk dX7_insert_109 hP hS (rfl) (by first | (rw [insG_t (by omega)] <;> rfl) | (rw [insG_f (by omega)] <;> rfl))
        ·
          refine lv_aload_n hx hb dX7_insert_36 rfl (lv_at hl 1 rfl) ?_
          refine lv_iconst (v := nI 0) hx hb dX7_insert_37 (by decide) ?_
          refine nv_iald hx hb hK hP 0 rfl (by omega) (by decide) dX7_insert_38 ?_
          rw [show (mr n (nI g) sk (sm lv n lv mm)) 0 = nI n from mr_0]
          refine b0_le (tgt := 46) hx hb dX7_insert_39 (by decide) (nI_i (by omega)) (fun c_39 => False.elim (by omega)) (fun c_39 => ?_)
          refine lv_iconst (v := nI 1) hx hb dX7_insert_42 (by decide) ?_
          refine lv_goto (tgt := 47) hx hb dX7_insert_43 (by decide) ?_
          refine nv_iadd hx hb dX7_insert_47 ?_
          refine nv_iast hx hb hK hP hD hS 0 rfl (v := nI (g + 1)) rfl (by omega) (by decide) dX7_insert_48 (w3 := [(r, .inl (G.2 0, 131, .inl (mr n (nI (g + 1)) sk (sm lv n lv mm))))]) (by rw [mr_u1]; rfl) (fun H locs hP hD hS => ?_)
          refine lv_aload_n hx hb dX7_insert_49 rfl (lv_at hl 1 rfl) ?_
          refine lv_iconst (v := nI 3) hx hb dX7_insert_50 (by decide) ?_
          refine lv_iload_n hx hb dX7_insert_51 rfl (lv_at hl 2 rfl) ?_
          refine nv_iadd hx hb dX7_insert_52 ?_
          refine lv_iload_n hx hb dX7_insert_53 rfl (lv_at hl 3 rfl) ?_
          refine nv_iast hx hb hK hP hD hS 0 rfl (v := k) rfl (by omega) (by decide) dX7_insert_54 (w3 := [(r, .inl (G.2 0, 131, .inl (mr n (nI (g + 1)) sk (upd (sm lv n lv mm) (3 + lv) k))))]) (by rw [mr_uj (by omega)]; rfl) (fun H locs hP hD hS => ?_)
          refine lv_aload_n hx hb dX7_insert_55 rfl (lv_at hl 1 rfl) ?_
          refine lv_bipush (v := nI 19) hx hb dX7_insert_56 (by decide) ?_
          refine lv_iload_n hx hb dX7_insert_58 rfl (lv_at hl 2 rfl) ?_
          refine nv_iadd hx hb dX7_insert_59 ?_
          refine lv_iconst (v := (-1)) hx hb dX7_insert_60 (by decide) ?_
          refine nv_iast hx hb hK hP hD hS 0 rfl (v := (-1)) rfl (by omega) (by decide) dX7_insert_61 (w3 := [(r, .inl (G.2 0, 131, .inl (mr n (nI (g + 1)) sk (upd (upd (sm lv n lv mm) (3 + lv) k) (19 + lv) (-1)))))]) (by rw [mr_uj (by omega)]; rfl) (fun H locs hP hD hS => ?_)
          refine lv_iconst (v := nI 0) hx hb dX7_insert_62 (by decide) ?_
          refine lv_istore_n (lv' := [(3, .int (nI 0)), (0, .ref r), (1, .int (nI lv)), (2, .int k)]) hx hb dX7_insert_63 rfl hl (by decide) rfl (fun ls hl => ?_)
          refine lv_iload_n hx hb dX7_insert_64 rfl (lv_at hl 0 rfl) ?_
          refine lv_iconst (v := nI 3) hx hb dX7_insert_65 (by decide) ?_
          refine bi_ge (tgt := 99) hx hb dX7_insert_66 (by decide) (nI_i (by omega)) (nI_i (by omega)) (fun c_66 => False.elim (by omega)) (fun c_66 => ?_)
          refine lv_aload_n hx hb dX7_insert_69 rfl (lv_at hl 1 rfl) ?_
          refine lv_bipush (v := nI 35) hx hb dX7_insert_70 (by decide) ?_
          refine lv_bipush (v := nI 16) hx hb dX7_insert_72 (by decide) ?_
          refine lv_iload_n hx hb dX7_insert_74 rfl (lv_at hl 0 rfl) ?_
          refine nv_imul hx hb dX7_insert_75 ?_
          refine nv_iadd hx hb dX7_insert_76 ?_
          refine lv_iload_n hx hb dX7_insert_77 rfl (lv_at hl 2 rfl) ?_
          refine nv_iadd hx hb dX7_insert_78 ?_
          refine lv_iconst (v := (-1)) hx hb dX7_insert_79 (by decide) ?_
          refine nv_iast hx hb hK hP hD hS 0 rfl (v := (-1)) rfl (by omega) (by decide) dX7_insert_80 (w3 := [(r, .inl (G.2 0, 131, .inl (mr n (nI (g + 1)) sk (upd (upd (upd (sm lv n lv mm) (3 + lv) k) (19 + lv) (-1)) (35 + lv) (-1)))))]) (by rw [mr_uj (by omega)]; rfl) (fun H locs hP hD hS => ?_)
          refine lv_aload_n hx hb dX7_insert_81 rfl (lv_at hl 1 rfl) ?_
          refine lv_bipush (v := nI 83) hx hb dX7_insert_82 (by decide) ?_
          refine lv_bipush (v := nI 16) hx hb dX7_insert_84 (by decide) ?_
          refine lv_iload_n hx hb dX7_insert_86 rfl (lv_at hl 0 rfl) ?_
          refine nv_imul hx hb dX7_insert_87 ?_
          refine nv_iadd hx hb dX7_insert_88 ?_
          refine lv_iload_n hx hb dX7_insert_89 rfl (lv_at hl 2 rfl) ?_
          refine nv_iadd hx hb dX7_insert_90 ?_
          refine lv_iconst (v := nI 1) hx hb dX7_insert_91 (by decide) ?_
          refine nv_iast hx hb hK hP hD hS 0 rfl (v := nI 1) rfl (by omega) (by decide) dX7_insert_92 (w3 := [(r, .inl (G.2 0, 131, .inl (mr n (nI (g + 1)) sk (upd (upd (upd (upd (sm lv n lv mm) (3 + lv) k) (19 + lv) (-1)) (35 + lv) (-1)) (83 + lv) (nI 1)))))]) (by rw [mr_uj (by omega)]; rfl) (fun H locs hP hD hS => ?_)
          refine lv_iinc (v := nI (0 + 1)) (lv' := [(3, .int (nI (0 + 1))), (0, .ref r), (1, .int (nI lv)), (2, .int k)]) hx hb dX7_insert_93 hl (k := 0) rfl (inc_n _ 1) (by decide) rfl (fun ls hl => ?_)
          refine lv_goto (tgt := 64) hx hb dX7_insert_96 (by decide) ?_
          refine lv_iload_n hx hb dX7_insert_64 rfl (lv_at hl 0 rfl) ?_
          refine lv_iconst (v := nI 3) hx hb dX7_insert_65 (by decide) ?_
          refine bi_ge (tgt := 99) hx hb dX7_insert_66 (by decide) (nI_i (by omega)) (nI_i (by omega)) (fun c_66 => False.elim (by omega)) (fun c_66 => ?_)
          refine lv_aload_n hx hb dX7_insert_69 rfl (lv_at hl 1 rfl) ?_
          refine lv_bipush (v := nI 35) hx hb dX7_insert_70 (by decide) ?_
          refine lv_bipush (v := nI 16) hx hb dX7_insert_72 (by decide) ?_
          refine lv_iload_n hx hb dX7_insert_74 rfl (lv_at hl 0 rfl) ?_
          refine nv_imul hx hb dX7_insert_75 ?_
          refine nv_iadd hx hb dX7_insert_76 ?_
          refine lv_iload_n hx hb dX7_insert_77 rfl (lv_at hl 2 rfl) ?_
          refine nv_iadd hx hb dX7_insert_78 ?_
          refine lv_iconst (v := (-1)) hx hb dX7_insert_79 (by decide) ?_
          refine nv_iast hx hb hK hP hD hS 0 rfl (v := (-1)) rfl (by omega) (by decide) dX7_insert_80 (w3 := [(r, .inl (G.2 0, 131, .inl (mr n (nI (g + 1)) sk (upd (upd (upd (upd (upd (sm lv n lv mm) (3 + lv) k) (19 + lv) (-1)) (35 + lv) (-1)) (83 + lv) (nI 1)) ((35 + (16 * (0 + 1))) + lv) (-1)))))]) (by rw [mr_uj (by omega)]; rfl) (fun H locs hP hD hS => ?_)
          refine lv_aload_n hx hb dX7_insert_81 rfl (lv_at hl 1 rfl) ?_
          refine lv_bipush (v := nI 83) hx hb dX7_insert_82 (by decide) ?_
          refine lv_bipush (v := nI 16) hx hb dX7_insert_84 (by decide) ?_
          refine lv_iload_n hx hb dX7_insert_86 rfl (lv_at hl 0 rfl) ?_
          refine nv_imul hx hb dX7_insert_87 ?_
          refine nv_iadd hx hb dX7_insert_88 ?_
          refine lv_iload_n hx hb dX7_insert_89 rfl (lv_at hl 2 rfl) ?_
          refine nv_iadd hx hb dX7_insert_90 ?_
          refine lv_iconst (v := nI 1) hx hb dX7_insert_91 (by decide) ?_
          refine nv_iast hx hb hK hP hD hS 0 rfl (v := nI 1) rfl (by omega) (by decide) dX7_insert_92 (w3 := [(r, .inl (G.2 0, 131, .inl (mr n (nI (g + 1)) sk (upd (upd (upd (upd (upd (upd (sm lv n lv mm) (3 + lv) k) (19 + lv) (-1)) (35 + lv) (-1)) (83 + lv) (nI 1)) ((35 + (16 * (0 + 1))) + lv) (-1)) ((83 + (16 * (0 + 1))) + lv) (nI 1)))))]) (by rw [mr_uj (by omega)]; rfl) (fun H locs hP hD hS => ?_)
          refine lv_iinc (v := nI (0 + 1 + 1)) (lv' := [(3, .int (nI (0 + 1 + 1))), (0, .ref r), (1, .int (nI lv)), (2, .int k)]) hx hb dX7_insert_93 hl (k := 0) rfl (inc_n _ 1) (by decide) rfl (fun ls hl => ?_)
          refine lv_goto (tgt := 64) hx hb dX7_insert_96 (by decide) ?_
          refine lv_iload_n hx hb dX7_insert_64 rfl (lv_at hl 0 rfl) ?_
          refine lv_iconst (v := nI 3) hx hb dX7_insert_65 (by decide) ?_
          refine bi_ge (tgt := 99) hx hb dX7_insert_66 (by decide) (nI_i (by omega)) (nI_i (by omega)) (fun c_66 => False.elim (by omega)) (fun c_66 => ?_)
          refine lv_aload_n hx hb dX7_insert_69 rfl (lv_at hl 1 rfl) ?_
          refine lv_bipush (v := nI 35) hx hb dX7_insert_70 (by decide) ?_
          refine lv_bipush (v := nI 16) hx hb dX7_insert_72 (by decide) ?_
          refine lv_iload_n hx hb dX7_insert_74 rfl (lv_at hl 0 rfl) ?_
          refine nv_imul hx hb dX7_insert_75 ?_
          refine nv_iadd hx hb dX7_insert_76 ?_
          refine lv_iload_n hx hb dX7_insert_77 rfl (lv_at hl 2 rfl) ?_
          refine nv_iadd hx hb dX7_insert_78 ?_
          refine lv_iconst (v := (-1)) hx hb dX7_insert_79 (by decide) ?_
          refine nv_iast hx hb hK hP hD hS 0 rfl (v := (-1)) rfl (by omega) (by decide) dX7_insert_80 (w3 := [(r, .inl (G.2 0, 131, .inl (mr n (nI (g + 1)) sk (upd (upd (upd (upd (upd (upd (upd (sm lv n lv mm) (3 + lv) k) (19 + lv) (-1)) (35 + lv) (-1)) (83 + lv) (nI 1)) ((35 + (16 * (0 + 1))) + lv) (-1)) ((83 + (16 * (0 + 1))) + lv) (nI 1)) ((35 + (16 * (0 + 1 + 1))) + lv) (-1)))))]) (by rw [mr_uj (by omega)]; rfl) (fun H locs hP hD hS => ?_)
          refine lv_aload_n hx hb dX7_insert_81 rfl (lv_at hl 1 rfl) ?_
          refine lv_bipush (v := nI 83) hx hb dX7_insert_82 (by decide) ?_
          refine lv_bipush (v := nI 16) hx hb dX7_insert_84 (by decide) ?_
          refine lv_iload_n hx hb dX7_insert_86 rfl (lv_at hl 0 rfl) ?_
          refine nv_imul hx hb dX7_insert_87 ?_
          refine nv_iadd hx hb dX7_insert_88 ?_
          refine lv_iload_n hx hb dX7_insert_89 rfl (lv_at hl 2 rfl) ?_
          refine nv_iadd hx hb dX7_insert_90 ?_
          refine lv_iconst (v := nI 1) hx hb dX7_insert_91 (by decide) ?_
          refine nv_iast hx hb hK hP hD hS 0 rfl (v := nI 1) rfl (by omega) (by decide) dX7_insert_92 (w3 := [(r, .inl (G.2 0, 131, .inl (mr n (nI (g + 1)) sk (upd (upd (upd (upd (upd (upd (upd (upd (sm lv n lv mm) (3 + lv) k) (19 + lv) (-1)) (35 + lv) (-1)) (83 + lv) (nI 1)) ((35 + (16 * (0 + 1))) + lv) (-1)) ((83 + (16 * (0 + 1))) + lv) (nI 1)) ((35 + (16 * (0 + 1 + 1))) + lv) (-1)) ((83 + (16 * (0 + 1 + 1))) + lv) (nI 1)))))]) (by rw [mr_uj (by omega)]; rfl) (fun H locs hP hD hS => ?_)
          refine lv_iinc (v := nI (0 + 1 + 1 + 1)) (lv' := [(3, .int (nI (0 + 1 + 1 + 1))), (0, .ref r), (1, .int (nI lv)), (2, .int k)]) hx hb dX7_insert_93 hl (k := 0) rfl (inc_n _ 1) (by decide) rfl (fun ls hl => ?_)
          refine lv_goto (tgt := 64) hx hb dX7_insert_96 (by decide) ?_
          refine lv_iload_n hx hb dX7_insert_64 rfl (lv_at hl 0 rfl) ?_
          refine lv_iconst (v := nI 3) hx hb dX7_insert_65 (by decide) ?_
          refine bi_ge (tgt := 99) hx hb dX7_insert_66 (by decide) (nI_i (by omega)) (nI_i (by omega)) (fun c_66 => ?_) (fun c_66 => False.elim (by omega))
          refine lv_aload_n hx hb dX7_insert_99 rfl (lv_at hl 1 rfl) ?_
          refine lv_iconst (v := nI 0) hx hb dX7_insert_100 (by decide) ?_
          refine lv_dup2_11 hx hb dX7_insert_101 rfl rfl ?_
          refine nv_iald hx hb hK hP 0 rfl (by omega) (by decide) dX7_insert_102 ?_
          rw [show (mr n (nI (g + 1)) sk (upd (upd (upd (upd (upd (upd (upd (upd (sm lv n lv mm) (3 + lv) k) (19 + lv) (-1)) (35 + lv) (-1)) (83 + lv) (nI 1)) ((35 + (16 * (0 + 1))) + lv) (-1)) ((83 + (16 * (0 + 1))) + lv) (nI 1)) ((35 + (16 * (0 + 1 + 1))) + lv) (-1)) ((83 + (16 * (0 + 1 + 1))) + lv) (nI 1))) 0 = nI n from mr_0]
          refine lv_iconst (v := nI 1) hx hb dX7_insert_103 (by decide) ?_
          refine nv_iadd hx hb dX7_insert_104 ?_
          refine nv_iast hx hb hK hP hD hS 0 rfl (v := nI (n + 1)) rfl (by omega) (by decide) dX7_insert_105 (w3 := [(r, .inl (G.2 0, 131, .inl (mr (n + 1) (nI (g + 1)) sk (upd (upd (upd (upd (upd (upd (upd (upd (sm lv n lv mm) (3 + lv) k) (19 + lv) (-1)) (35 + lv) (-1)) (83 + lv) (nI 1)) ((35 + (16 * (0 + 1))) + lv) (-1)) ((83 + (16 * (0 + 1))) + lv) (nI 1)) ((35 + (16 * (0 + 1 + 1))) + lv) (-1)) ((83 + (16 * (0 + 1 + 1))) + lv) (nI 1)))))]) (by rw [mr_u0]; rfl) (fun H locs hP hD hS => ?_)
          refine lv_aload_n hx hb dX7_insert_106 rfl (lv_at hl 1 rfl) ?_
          refine lv_iconst (v := nI 0) hx hb dX7_insert_107 (by decide) ?_
          refine nv_iald hx hb hK hP 0 rfl (by omega) (by decide) dX7_insert_108 ?_
          rw [show (mr (n + 1) (nI (g + 1)) sk (upd (upd (upd (upd (upd (upd (upd (upd (sm lv n lv mm) (3 + lv) k) (19 + lv) (-1)) (35 + lv) (-1)) (83 + lv) (nI 1)) ((35 + (16 * (0 + 1))) + lv) (-1)) ((83 + (16 * (0 + 1))) + lv) (nI 1)) ((35 + (16 * (0 + 1 + 1))) + lv) (-1)) ((83 + (16 * (0 + 1 + 1))) + lv) (nI 1))) 0 = nI (n + 1) from mr_0]
          exact W_i hx hb hr hlk dX7_insert_109 hP hS (rfl) (by first | (rw [insG_t (by omega)] <;> rfl) | (rw [insG_f (by omega)] <;> rfl))
      ·
        rw [show zI (((to : Nat) : Int) - 1) = nI (to - 1) from zI_nat (by omega)] at hl
        refine lv_aload_n hx hb dX7_insert_11 rfl (lv_at hl 1 rfl) ?_
        refine lv_iload_n hx hb dX7_insert_12 rfl (lv_at hl 0 rfl) ?_
        refine lv_iload_n hx hb dX7_insert_13 rfl (lv_at hl 0 rfl) ?_
        refine lv_iconst (v := nI 1) hx hb dX7_insert_14 (by decide) ?_
        refine nv_iadd hx hb dX7_insert_15 ?_
        refine cWS (As := [.ref r, .int (nI (to - 1)), .int (nI ((to - 1) + 1))]) (rest := []) (st1 := []) (w3 := [(r, .inl (G.2 0, 131, .inl (mr n (nI g) sk (sm lv n (to - 1) mm))))]) ⟨hx, hb, hml, hown, hts⟩ (c_X7_shift l G r n (nI g) sk (sm lv n to mm) (to - 1) ((to - 1) + 1) (by first | omega | assumption) (by first | omega | assumption) (by first | omega | assumption)) (va_cwS 3 hts gX7_insert_X7_shift rfl rfl rfl (by decide +kernel) ⟨Nat.le_of_ble_eq_true rfl, Nat.le_of_ble_eq_true rfl⟩) (preS_of hK hP hD [0] (by decide) rfl) rfl hl.1 rfl (lv_room (Nat.le_of_ble_eq_true rfl)) dX7_insert_16 ⟨Nat.zero_le _, Nat.zero_le _⟩ hP hD hS [0] (by decide) rfl rfl (by rw [← sm_step (by omega) h_to h_n, show to - 1 + 1 = to by omega]; rfl) rfl (fun H locs hP hD hS => ?_)
        rw [show nI (to - 1) = zI ((to - 1 : Nat) : Int) from (zI_n _).symm] at hl
        refine lv_iinc (v := zI (((to - 1 : Nat) : Int) - 1)) (lv' := [(3, .int (zI (((to - 1 : Nat) : Int) - 1))), (0, .ref r), (1, .int (nI lv)), (2, .int k)]) hx hb dX7_insert_19 hl (k := 0) rfl (decZ _ _ _ rfl) (by decide) rfl (fun ls hl => ?_)
        refine lv_goto (tgt := 6) hx hb dX7_insert_22 (by decide) ?_
        exact ih_6 (to - 1) (by first | omega | assumption) (by first | omega | assumption) (by omega) _ _ hP hD hS ls (lv_sub hl [0, 1, 2, 3] (by rfl))
  exact loop_6 (n + 1) n (by first | omega | assumption) (by first | omega | assumption) (Nat.lt_succ_self _) _ _ (by rw [sm_0]; exact hP) (by rw [sm_0]; exact hD) hS ls (lv_sub hl [0, 1, 2, 3] (by rfl))

set_option maxHeartbeats 4000000 in
set_option maxRecDepth 100000 in
theorem c_X7_insert_end (l : Launch) (G : GG) (r : Nat) (n : Nat) (gI : Int32) (sk : Int32) (mm : Nat → Int32) (k : Int32) (h_n : n < 16) (h_gI : gI = -1 ∨ (n = 0 ∧ gI = 0)) : Met l yX7_insert wsX7_insert ({ frames := 0, cells := 0, slots := 0, locals := 0 } : Room) (va_Pc [.ref r, .int (nI n), .int k] (PB G [(r, .inl (G.2 0, 131, .inl (mr n gI sk mm)))])) (QW G (some (.int (nI (n + 1)))) [(r, .inl (G.2 0, 131, .inl (mr (n + 1) gI sk (fum n k mm))))] (vA [(r, .inl (G.2 0, 131, .inl (mr n gI sk mm)))])) 0 0 (vA [(r, .inl (G.2 0, 131, .inl (mr n gI sk mm)))]) := by
  refine Met.go (cc := cX7_insert) (maxL := 4) (ret := (some .int)) (by decide) rfl (Nat.le_of_ble_eq_true rfl) ?_
  intro p e s m below meth c ls hx hb hr hml hown hts hlk hP hK hD hS hl
  have hown : s.vm.findClass RX7 = some m.cls := hown
  have hl : lv_has ls 4 [(0, .ref r), (1, .int (nI n)), (2, .int k)] := hl
  refine lv_aload_n hx hb dX7_insert_0 rfl (lv_at hl 0 rfl) ?_
  refine lv_iconst (v := nI 0) hx hb dX7_insert_1 (by decide) ?_
  refine nv_iald hx hb hK hP 0 rfl (by omega) (by decide) dX7_insert_2 ?_
  rw [show (mr n gI sk mm) 0 = nI n from mr_0]
  refine lv_iconst (v := nI 1) hx hb dX7_insert_3 (by decide) ?_
  refine lv_isub hx hb dX7_insert_4 ?_
  rw [show (nI n) - (nI 1) = zI (((n : Nat) : Int) - 1) from nI_subZ n 1]
  refine lv_istore_n (lv' := [(3, .int (zI (((n : Nat) : Int) - 1))), (0, .ref r), (1, .int (nI n)), (2, .int k)]) hx hb dX7_insert_5 rfl hl (by decide) rfl (fun ls hl => ?_)
  refine lv_iload_n hx hb dX7_insert_6 rfl (lv_at hl 0 rfl) ?_
  refine lv_iload_n hx hb dX7_insert_7 rfl (lv_at hl 2 rfl) ?_
  refine bi_lt (tgt := 25) hx hb dX7_insert_8 (by decide) (zI_toInt (by omega)) (nI_i (by omega)) (fun c_8 => ?_) (fun c_8 => False.elim (by omega))
  have h_gi : (gI = -1 ∧ gI.toInt = -1) ∨ (n = 0 ∧ gI.toInt = 0) := h_gI.imp (fun z_ => ⟨z_, by rw [z_]; rfl⟩) (fun z_ => ⟨z_.1, by rw [z_.2]; rfl⟩)
  refine lv_aload_n hx hb dX7_insert_25 rfl (lv_at hl 1 rfl) ?_
  refine lv_iconst (v := nI 1) hx hb dX7_insert_26 (by decide) ?_
  refine lv_dup2_11 hx hb dX7_insert_27 rfl rfl ?_
  refine nv_iald hx hb hK hP 0 rfl (by omega) (by decide) dX7_insert_28 ?_
  rw [show (mr n gI sk mm) 1 = gI from mr_1]
  refine lv_iload_n hx hb dX7_insert_29 rfl (lv_at hl 2 rfl) ?_
  refine lv_aload_n hx hb dX7_insert_30 rfl (lv_at hl 1 rfl) ?_
  refine lv_iconst (v := nI 1) hx hb dX7_insert_31 (by decide) ?_
  refine nv_iald hx hb hK hP 0 rfl (by omega) (by decide) dX7_insert_32 ?_
  rw [show (mr n gI sk mm) 1 = gI from mr_1]
  refine bi_gt (tgt := 46) hx hb dX7_insert_33 (by decide) (nI_i (by omega)) (toI_r _) (fun c_33 => ?_) (fun c_33 => ?_)
  ·
    refine lv_iconst (v := nI 0) hx hb dX7_insert_46 (by decide) ?_
    refine lv_iadd hx hb dX7_insert_47 ?_
    rw [show gI + (nI 0) = gI from Int32.add_zero gI]
    refine nv_iast hx hb hK hP hD hS 0 rfl (v := gI) rfl (by omega) (by decide) dX7_insert_48 (w3 := [(r, .inl (G.2 0, 131, .inl (mr n gI sk mm)))]) (by rw [mr_u1]; rfl) (fun H locs hP hD hS => ?_)
    refine lv_aload_n hx hb dX7_insert_49 rfl (lv_at hl 1 rfl) ?_
    refine lv_iconst (v := nI 3) hx hb dX7_insert_50 (by decide) ?_
    refine lv_iload_n hx hb dX7_insert_51 rfl (lv_at hl 2 rfl) ?_
    refine nv_iadd hx hb dX7_insert_52 ?_
    refine lv_iload_n hx hb dX7_insert_53 rfl (lv_at hl 3 rfl) ?_
    refine nv_iast hx hb hK hP hD hS 0 rfl (v := k) rfl (by omega) (by decide) dX7_insert_54 (w3 := [(r, .inl (G.2 0, 131, .inl (mr n gI sk (upd mm (3 + n) k))))]) (by rw [mr_uj (by omega)]; rfl) (fun H locs hP hD hS => ?_)
    refine lv_aload_n hx hb dX7_insert_55 rfl (lv_at hl 1 rfl) ?_
    refine lv_bipush (v := nI 19) hx hb dX7_insert_56 (by decide) ?_
    refine lv_iload_n hx hb dX7_insert_58 rfl (lv_at hl 2 rfl) ?_
    refine nv_iadd hx hb dX7_insert_59 ?_
    refine lv_iconst (v := (-1)) hx hb dX7_insert_60 (by decide) ?_
    refine nv_iast hx hb hK hP hD hS 0 rfl (v := (-1)) rfl (by omega) (by decide) dX7_insert_61 (w3 := [(r, .inl (G.2 0, 131, .inl (mr n gI sk (upd (upd mm (3 + n) k) (19 + n) (-1)))))]) (by rw [mr_uj (by omega)]; rfl) (fun H locs hP hD hS => ?_)
    refine lv_iconst (v := nI 0) hx hb dX7_insert_62 (by decide) ?_
    refine lv_istore_n (lv' := [(3, .int (nI 0)), (0, .ref r), (1, .int (nI n)), (2, .int k)]) hx hb dX7_insert_63 rfl hl (by decide) rfl (fun ls hl => ?_)
    refine lv_iload_n hx hb dX7_insert_64 rfl (lv_at hl 0 rfl) ?_
    refine lv_iconst (v := nI 3) hx hb dX7_insert_65 (by decide) ?_
    refine bi_ge (tgt := 99) hx hb dX7_insert_66 (by decide) (nI_i (by omega)) (nI_i (by omega)) (fun c_66 => False.elim (by omega)) (fun c_66 => ?_)
    refine lv_aload_n hx hb dX7_insert_69 rfl (lv_at hl 1 rfl) ?_
    refine lv_bipush (v := nI 35) hx hb dX7_insert_70 (by decide) ?_
    refine lv_bipush (v := nI 16) hx hb dX7_insert_72 (by decide) ?_
    refine lv_iload_n hx hb dX7_insert_74 rfl (lv_at hl 0 rfl) ?_
    refine nv_imul hx hb dX7_insert_75 ?_
    refine nv_iadd hx hb dX7_insert_76 ?_
    refine lv_iload_n hx hb dX7_insert_77 rfl (lv_at hl 2 rfl) ?_
    refine nv_iadd hx hb dX7_insert_78 ?_
    refine lv_iconst (v := (-1)) hx hb dX7_insert_79 (by decide) ?_
    refine nv_iast hx hb hK hP hD hS 0 rfl (v := (-1)) rfl (by omega) (by decide) dX7_insert_80 (w3 := [(r, .inl (G.2 0, 131, .inl (mr n gI sk (upd (upd (upd mm (3 + n) k) (19 + n) (-1)) (35 + n) (-1)))))]) (by rw [mr_uj (by omega)]; rfl) (fun H locs hP hD hS => ?_)
    refine lv_aload_n hx hb dX7_insert_81 rfl (lv_at hl 1 rfl) ?_
    refine lv_bipush (v := nI 83) hx hb dX7_insert_82 (by decide) ?_
    refine lv_bipush (v := nI 16) hx hb dX7_insert_84 (by decide) ?_
    refine lv_iload_n hx hb dX7_insert_86 rfl (lv_at hl 0 rfl) ?_
    refine nv_imul hx hb dX7_insert_87 ?_
    refine nv_iadd hx hb dX7_insert_88 ?_
    refine lv_iload_n hx hb dX7_insert_89 rfl (lv_at hl 2 rfl) ?_
    refine nv_iadd hx hb dX7_insert_90 ?_
    refine lv_iconst (v := nI 1) hx hb dX7_insert_91 (by decide) ?_
    refine nv_iast hx hb hK hP hD hS 0 rfl (v := nI 1) rfl (by omega) (by decide) dX7_insert_92 (w3 := [(r, .inl (G.2 0, 131, .inl (mr n gI sk (upd (upd (upd (upd mm (3 + n) k) (19 + n) (-1)) (35 + n) (-1)) (83 + n) (nI 1)))))]) (by rw [mr_uj (by omega)]; rfl) (fun H locs hP hD hS => ?_)
    refine lv_iinc (v := nI (0 + 1)) (lv' := [(3, .int (nI (0 + 1))), (0, .ref r), (1, .int (nI n)), (2, .int k)]) hx hb dX7_insert_93 hl (k := 0) rfl (inc_n _ 1) (by decide) rfl (fun ls hl => ?_)
    refine lv_goto (tgt := 64) hx hb dX7_insert_96 (by decide) ?_
    refine lv_iload_n hx hb dX7_insert_64 rfl (lv_at hl 0 rfl) ?_
    refine lv_iconst (v := nI 3) hx hb dX7_insert_65 (by decide) ?_
    refine bi_ge (tgt := 99) hx hb dX7_insert_66 (by decide) (nI_i (by omega)) (nI_i (by omega)) (fun c_66 => False.elim (by omega)) (fun c_66 => ?_)
    refine lv_aload_n hx hb dX7_insert_69 rfl (lv_at hl 1 rfl) ?_
    refine lv_bipush (v := nI 35) hx hb dX7_insert_70 (by decide) ?_
    refine lv_bipush (v := nI 16) hx hb dX7_insert_72 (by decide) ?_
    refine lv_iload_n hx hb dX7_insert_74 rfl (lv_at hl 0 rfl) ?_
    refine nv_imul hx hb dX7_insert_75 ?_
    refine nv_iadd hx hb dX7_insert_76 ?_
    refine lv_iload_n hx hb dX7_insert_77 rfl (lv_at hl 2 rfl) ?_
    refine nv_iadd hx hb dX7_insert_78 ?_
    refine lv_iconst (v := (-1)) hx hb dX7_insert_79 (by decide) ?_
    refine nv_iast hx hb hK hP hD hS 0 rfl (v := (-1)) rfl (by omega) (by decide) dX7_insert_80 (w3 := [(r, .inl (G.2 0, 131, .inl (mr n gI sk (upd (upd (upd (upd (upd mm (3 + n) k) (19 + n) (-1)) (35 + n) (-1)) (83 + n) (nI 1)) ((35 + (16 * (0 + 1))) + n) (-1)))))]) (by rw [mr_uj (by omega)]; rfl) (fun H locs hP hD hS => ?_)
    refine lv_aload_n hx hb dX7_insert_81 rfl (lv_at hl 1 rfl) ?_
    refine lv_bipush (v := nI 83) hx hb dX7_insert_82 (by decide) ?_
    refine lv_bipush (v := nI 16) hx hb dX7_insert_84 (by decide) ?_
    refine lv_iload_n hx hb dX7_insert_86 rfl (lv_at hl 0 rfl) ?_
    refine nv_imul hx hb dX7_insert_87 ?_
    refine nv_iadd hx hb dX7_insert_88 ?_
    refine lv_iload_n hx hb dX7_insert_89 rfl (lv_at hl 2 rfl) ?_
    refine nv_iadd hx hb dX7_insert_90 ?_
    refine lv_iconst (v := nI 1) hx hb dX7_insert_91 (by decide) ?_
    refine nv_iast hx hb hK hP hD hS 0 rfl (v := nI 1) rfl (by omega) (by decide) dX7_insert_92 (w3 := [(r, .inl (G.2 0, 131, .inl (mr n gI sk (upd (upd (upd (upd (upd (upd mm (3 + n) k) (19 + n) (-1)) (35 + n) (-1)) (83 + n) (nI 1)) ((35 + (16 * (0 + 1))) + n) (-1)) ((83 + (16 * (0 + 1))) + n) (nI 1)))))]) (by rw [mr_uj (by omega)]; rfl) (fun H locs hP hD hS => ?_)
    refine lv_iinc (v := nI (0 + 1 + 1)) (lv' := [(3, .int (nI (0 + 1 + 1))), (0, .ref r), (1, .int (nI n)), (2, .int k)]) hx hb dX7_insert_93 hl (k := 0) rfl (inc_n _ 1) (by decide) rfl (fun ls hl => ?_)
    refine lv_goto (tgt := 64) hx hb dX7_insert_96 (by decide) ?_
    refine lv_iload_n hx hb dX7_insert_64 rfl (lv_at hl 0 rfl) ?_
    refine lv_iconst (v := nI 3) hx hb dX7_insert_65 (by decide) ?_
    refine bi_ge (tgt := 99) hx hb dX7_insert_66 (by decide) (nI_i (by omega)) (nI_i (by omega)) (fun c_66 => False.elim (by omega)) (fun c_66 => ?_)
    refine lv_aload_n hx hb dX7_insert_69 rfl (lv_at hl 1 rfl) ?_
    refine lv_bipush (v := nI 35) hx hb dX7_insert_70 (by decide) ?_
    refine lv_bipush (v := nI 16) hx hb dX7_insert_72 (by decide) ?_
    refine lv_iload_n hx hb dX7_insert_74 rfl (lv_at hl 0 rfl) ?_
    refine nv_imul hx hb dX7_insert_75 ?_
    refine nv_iadd hx hb dX7_insert_76 ?_
    refine lv_iload_n hx hb dX7_insert_77 rfl (lv_at hl 2 rfl) ?_
    refine nv_iadd hx hb dX7_insert_78 ?_
    refine lv_iconst (v := (-1)) hx hb dX7_insert_79 (by decide) ?_
    refine nv_iast hx hb hK hP hD hS 0 rfl (v := (-1)) rfl (by omega) (by decide) dX7_insert_80 (w3 := [(r, .inl (G.2 0, 131, .inl (mr n gI sk (upd (upd (upd (upd (upd (upd (upd mm (3 + n) k) (19 + n) (-1)) (35 + n) (-1)) (83 + n) (nI 1)) ((35 + (16 * (0 + 1))) + n) (-1)) ((83 + (16 * (0 + 1))) + n) (nI 1)) ((35 + (16 * (0 + 1 + 1))) + n) (-1)))))]) (by rw [mr_uj (by omega)]; rfl) (fun H locs hP hD hS => ?_)
    refine lv_aload_n hx hb dX7_insert_81 rfl (lv_at hl 1 rfl) ?_
    refine lv_bipush (v := nI 83) hx hb dX7_insert_82 (by decide) ?_
    refine lv_bipush (v := nI 16) hx hb dX7_insert_84 (by decide) ?_
    refine lv_iload_n hx hb dX7_insert_86 rfl (lv_at hl 0 rfl) ?_
    refine nv_imul hx hb dX7_insert_87 ?_
    refine nv_iadd hx hb dX7_insert_88 ?_
    refine lv_iload_n hx hb dX7_insert_89 rfl (lv_at hl 2 rfl) ?_
    refine nv_iadd hx hb dX7_insert_90 ?_
    refine lv_iconst (v := nI 1) hx hb dX7_insert_91 (by decide) ?_
    refine nv_iast hx hb hK hP hD hS 0 rfl (v := nI 1) rfl (by omega) (by decide) dX7_insert_92 (w3 := [(r, .inl (G.2 0, 131, .inl (mr n gI sk (upd (upd (upd (upd (upd (upd (upd (upd mm (3 + n) k) (19 + n) (-1)) (35 + n) (-1)) (83 + n) (nI 1)) ((35 + (16 * (0 + 1))) + n) (-1)) ((83 + (16 * (0 + 1))) + n) (nI 1)) ((35 + (16 * (0 + 1 + 1))) + n) (-1)) ((83 + (16 * (0 + 1 + 1))) + n) (nI 1)))))]) (by rw [mr_uj (by omega)]; rfl) (fun H locs hP hD hS => ?_)
    refine lv_iinc (v := nI (0 + 1 + 1 + 1)) (lv' := [(3, .int (nI (0 + 1 + 1 + 1))), (0, .ref r), (1, .int (nI n)), (2, .int k)]) hx hb dX7_insert_93 hl (k := 0) rfl (inc_n _ 1) (by decide) rfl (fun ls hl => ?_)
    refine lv_goto (tgt := 64) hx hb dX7_insert_96 (by decide) ?_
    refine lv_iload_n hx hb dX7_insert_64 rfl (lv_at hl 0 rfl) ?_
    refine lv_iconst (v := nI 3) hx hb dX7_insert_65 (by decide) ?_
    refine bi_ge (tgt := 99) hx hb dX7_insert_66 (by decide) (nI_i (by omega)) (nI_i (by omega)) (fun c_66 => ?_) (fun c_66 => False.elim (by omega))
    refine lv_aload_n hx hb dX7_insert_99 rfl (lv_at hl 1 rfl) ?_
    refine lv_iconst (v := nI 0) hx hb dX7_insert_100 (by decide) ?_
    refine lv_dup2_11 hx hb dX7_insert_101 rfl rfl ?_
    refine nv_iald hx hb hK hP 0 rfl (by omega) (by decide) dX7_insert_102 ?_
    rw [show (mr n gI sk (upd (upd (upd (upd (upd (upd (upd (upd mm (3 + n) k) (19 + n) (-1)) (35 + n) (-1)) (83 + n) (nI 1)) ((35 + (16 * (0 + 1))) + n) (-1)) ((83 + (16 * (0 + 1))) + n) (nI 1)) ((35 + (16 * (0 + 1 + 1))) + n) (-1)) ((83 + (16 * (0 + 1 + 1))) + n) (nI 1))) 0 = nI n from mr_0]
    refine lv_iconst (v := nI 1) hx hb dX7_insert_103 (by decide) ?_
    refine nv_iadd hx hb dX7_insert_104 ?_
    refine nv_iast hx hb hK hP hD hS 0 rfl (v := nI (n + 1)) rfl (by omega) (by decide) dX7_insert_105 (w3 := [(r, .inl (G.2 0, 131, .inl (mr (n + 1) gI sk (upd (upd (upd (upd (upd (upd (upd (upd mm (3 + n) k) (19 + n) (-1)) (35 + n) (-1)) (83 + n) (nI 1)) ((35 + (16 * (0 + 1))) + n) (-1)) ((83 + (16 * (0 + 1))) + n) (nI 1)) ((35 + (16 * (0 + 1 + 1))) + n) (-1)) ((83 + (16 * (0 + 1 + 1))) + n) (nI 1)))))]) (by rw [mr_u0]; rfl) (fun H locs hP hD hS => ?_)
    refine lv_aload_n hx hb dX7_insert_106 rfl (lv_at hl 1 rfl) ?_
    refine lv_iconst (v := nI 0) hx hb dX7_insert_107 (by decide) ?_
    refine nv_iald hx hb hK hP 0 rfl (by omega) (by decide) dX7_insert_108 ?_
    rw [show (mr (n + 1) gI sk (upd (upd (upd (upd (upd (upd (upd (upd mm (3 + n) k) (19 + n) (-1)) (35 + n) (-1)) (83 + n) (nI 1)) ((35 + (16 * (0 + 1))) + n) (-1)) ((83 + (16 * (0 + 1))) + n) (nI 1)) ((35 + (16 * (0 + 1 + 1))) + n) (-1)) ((83 + (16 * (0 + 1 + 1))) + n) (nI 1))) 0 = nI (n + 1) from mr_0]
    exact W_i hx hb hr hlk dX7_insert_109 hP hS (rfl) (rfl)
  ·
    refine lv_aload_n hx hb dX7_insert_36 rfl (lv_at hl 1 rfl) ?_
    refine lv_iconst (v := nI 0) hx hb dX7_insert_37 (by decide) ?_
    refine nv_iald hx hb hK hP 0 rfl (by omega) (by decide) dX7_insert_38 ?_
    rw [show (mr n gI sk mm) 0 = nI n from mr_0]
    refine b0_le (tgt := 46) hx hb dX7_insert_39 (by decide) (nI_i (by omega)) (fun c_39 => ?_) (fun c_39 => False.elim (by omega))
    refine lv_iconst (v := nI 0) hx hb dX7_insert_46 (by decide) ?_
    refine lv_iadd hx hb dX7_insert_47 ?_
    rw [show gI + (nI 0) = gI from Int32.add_zero gI]
    refine nv_iast hx hb hK hP hD hS 0 rfl (v := gI) rfl (by omega) (by decide) dX7_insert_48 (w3 := [(r, .inl (G.2 0, 131, .inl (mr n gI sk mm)))]) (by rw [mr_u1]; rfl) (fun H locs hP hD hS => ?_)
    refine lv_aload_n hx hb dX7_insert_49 rfl (lv_at hl 1 rfl) ?_
    refine lv_iconst (v := nI 3) hx hb dX7_insert_50 (by decide) ?_
    refine lv_iload_n hx hb dX7_insert_51 rfl (lv_at hl 2 rfl) ?_
    refine nv_iadd hx hb dX7_insert_52 ?_
    refine lv_iload_n hx hb dX7_insert_53 rfl (lv_at hl 3 rfl) ?_
    refine nv_iast hx hb hK hP hD hS 0 rfl (v := k) rfl (by omega) (by decide) dX7_insert_54 (w3 := [(r, .inl (G.2 0, 131, .inl (mr n gI sk (upd mm (3 + n) k))))]) (by rw [mr_uj (by omega)]; rfl) (fun H locs hP hD hS => ?_)
    refine lv_aload_n hx hb dX7_insert_55 rfl (lv_at hl 1 rfl) ?_
    refine lv_bipush (v := nI 19) hx hb dX7_insert_56 (by decide) ?_
    refine lv_iload_n hx hb dX7_insert_58 rfl (lv_at hl 2 rfl) ?_
    refine nv_iadd hx hb dX7_insert_59 ?_
    refine lv_iconst (v := (-1)) hx hb dX7_insert_60 (by decide) ?_
    refine nv_iast hx hb hK hP hD hS 0 rfl (v := (-1)) rfl (by omega) (by decide) dX7_insert_61 (w3 := [(r, .inl (G.2 0, 131, .inl (mr n gI sk (upd (upd mm (3 + n) k) (19 + n) (-1)))))]) (by rw [mr_uj (by omega)]; rfl) (fun H locs hP hD hS => ?_)
    refine lv_iconst (v := nI 0) hx hb dX7_insert_62 (by decide) ?_
    refine lv_istore_n (lv' := [(3, .int (nI 0)), (0, .ref r), (1, .int (nI n)), (2, .int k)]) hx hb dX7_insert_63 rfl hl (by decide) rfl (fun ls hl => ?_)
    refine lv_iload_n hx hb dX7_insert_64 rfl (lv_at hl 0 rfl) ?_
    refine lv_iconst (v := nI 3) hx hb dX7_insert_65 (by decide) ?_
    refine bi_ge (tgt := 99) hx hb dX7_insert_66 (by decide) (nI_i (by omega)) (nI_i (by omega)) (fun c_66 => False.elim (by omega)) (fun c_66 => ?_)
    refine lv_aload_n hx hb dX7_insert_69 rfl (lv_at hl 1 rfl) ?_
    refine lv_bipush (v := nI 35) hx hb dX7_insert_70 (by decide) ?_
    refine lv_bipush (v := nI 16) hx hb dX7_insert_72 (by decide) ?_
    refine lv_iload_n hx hb dX7_insert_74 rfl (lv_at hl 0 rfl) ?_
    refine nv_imul hx hb dX7_insert_75 ?_
    refine nv_iadd hx hb dX7_insert_76 ?_
    refine lv_iload_n hx hb dX7_insert_77 rfl (lv_at hl 2 rfl) ?_
    refine nv_iadd hx hb dX7_insert_78 ?_
    refine lv_iconst (v := (-1)) hx hb dX7_insert_79 (by decide) ?_
    refine nv_iast hx hb hK hP hD hS 0 rfl (v := (-1)) rfl (by omega) (by decide) dX7_insert_80 (w3 := [(r, .inl (G.2 0, 131, .inl (mr n gI sk (upd (upd (upd mm (3 + n) k) (19 + n) (-1)) (35 + n) (-1)))))]) (by rw [mr_uj (by omega)]; rfl) (fun H locs hP hD hS => ?_)
    refine lv_aload_n hx hb dX7_insert_81 rfl (lv_at hl 1 rfl) ?_
    refine lv_bipush (v := nI 83) hx hb dX7_insert_82 (by decide) ?_
    refine lv_bipush (v := nI 16) hx hb dX7_insert_84 (by decide) ?_
    refine lv_iload_n hx hb dX7_insert_86 rfl (lv_at hl 0 rfl) ?_
    refine nv_imul hx hb dX7_insert_87 ?_
    refine nv_iadd hx hb dX7_insert_88 ?_
    refine lv_iload_n hx hb dX7_insert_89 rfl (lv_at hl 2 rfl) ?_
    refine nv_iadd hx hb dX7_insert_90 ?_
    refine lv_iconst (v := nI 1) hx hb dX7_insert_91 (by decide) ?_
    refine nv_iast hx hb hK hP hD hS 0 rfl (v := nI 1) rfl (by omega) (by decide) dX7_insert_92 (w3 := [(r, .inl (G.2 0, 131, .inl (mr n gI sk (upd (upd (upd (upd mm (3 + n) k) (19 + n) (-1)) (35 + n) (-1)) (83 + n) (nI 1)))))]) (by rw [mr_uj (by omega)]; rfl) (fun H locs hP hD hS => ?_)
    refine lv_iinc (v := nI (0 + 1)) (lv' := [(3, .int (nI (0 + 1))), (0, .ref r), (1, .int (nI n)), (2, .int k)]) hx hb dX7_insert_93 hl (k := 0) rfl (inc_n _ 1) (by decide) rfl (fun ls hl => ?_)
    refine lv_goto (tgt := 64) hx hb dX7_insert_96 (by decide) ?_
    refine lv_iload_n hx hb dX7_insert_64 rfl (lv_at hl 0 rfl) ?_
    refine lv_iconst (v := nI 3) hx hb dX7_insert_65 (by decide) ?_
    refine bi_ge (tgt := 99) hx hb dX7_insert_66 (by decide) (nI_i (by omega)) (nI_i (by omega)) (fun c_66 => False.elim (by omega)) (fun c_66 => ?_)
    refine lv_aload_n hx hb dX7_insert_69 rfl (lv_at hl 1 rfl) ?_
    refine lv_bipush (v := nI 35) hx hb dX7_insert_70 (by decide) ?_
    refine lv_bipush (v := nI 16) hx hb dX7_insert_72 (by decide) ?_
    refine lv_iload_n hx hb dX7_insert_74 rfl (lv_at hl 0 rfl) ?_
    refine nv_imul hx hb dX7_insert_75 ?_
    refine nv_iadd hx hb dX7_insert_76 ?_
    refine lv_iload_n hx hb dX7_insert_77 rfl (lv_at hl 2 rfl) ?_
    refine nv_iadd hx hb dX7_insert_78 ?_
    refine lv_iconst (v := (-1)) hx hb dX7_insert_79 (by decide) ?_
    refine nv_iast hx hb hK hP hD hS 0 rfl (v := (-1)) rfl (by omega) (by decide) dX7_insert_80 (w3 := [(r, .inl (G.2 0, 131, .inl (mr n gI sk (upd (upd (upd (upd (upd mm (3 + n) k) (19 + n) (-1)) (35 + n) (-1)) (83 + n) (nI 1)) ((35 + (16 * (0 + 1))) + n) (-1)))))]) (by rw [mr_uj (by omega)]; rfl) (fun H locs hP hD hS => ?_)
    refine lv_aload_n hx hb dX7_insert_81 rfl (lv_at hl 1 rfl) ?_
    refine lv_bipush (v := nI 83) hx hb dX7_insert_82 (by decide) ?_
    refine lv_bipush (v := nI 16) hx hb dX7_insert_84 (by decide) ?_
    refine lv_iload_n hx hb dX7_insert_86 rfl (lv_at hl 0 rfl) ?_
    refine nv_imul hx hb dX7_insert_87 ?_
    refine nv_iadd hx hb dX7_insert_88 ?_
    refine lv_iload_n hx hb dX7_insert_89 rfl (lv_at hl 2 rfl) ?_
    refine nv_iadd hx hb dX7_insert_90 ?_
    refine lv_iconst (v := nI 1) hx hb dX7_insert_91 (by decide) ?_
    refine nv_iast hx hb hK hP hD hS 0 rfl (v := nI 1) rfl (by omega) (by decide) dX7_insert_92 (w3 := [(r, .inl (G.2 0, 131, .inl (mr n gI sk (upd (upd (upd (upd (upd (upd mm (3 + n) k) (19 + n) (-1)) (35 + n) (-1)) (83 + n) (nI 1)) ((35 + (16 * (0 + 1))) + n) (-1)) ((83 + (16 * (0 + 1))) + n) (nI 1)))))]) (by rw [mr_uj (by omega)]; rfl) (fun H locs hP hD hS => ?_)
    refine lv_iinc (v := nI (0 + 1 + 1)) (lv' := [(3, .int (nI (0 + 1 + 1))), (0, .ref r), (1, .int (nI n)), (2, .int k)]) hx hb dX7_insert_93 hl (k := 0) rfl (inc_n _ 1) (by decide) rfl (fun ls hl => ?_)
    refine lv_goto (tgt := 64) hx hb dX7_insert_96 (by decide) ?_
    refine lv_iload_n hx hb dX7_insert_64 rfl (lv_at hl 0 rfl) ?_
    refine lv_iconst (v := nI 3) hx hb dX7_insert_65 (by decide) ?_
    refine bi_ge (tgt := 99) hx hb dX7_insert_66 (by decide) (nI_i (by omega)) (nI_i (by omega)) (fun c_66 => False.elim (by omega)) (fun c_66 => ?_)
    refine lv_aload_n hx hb dX7_insert_69 rfl (lv_at hl 1 rfl) ?_
    refine lv_bipush (v := nI 35) hx hb dX7_insert_70 (by decide) ?_
    refine lv_bipush (v := nI 16) hx hb dX7_insert_72 (by decide) ?_
    refine lv_iload_n hx hb dX7_insert_74 rfl (lv_at hl 0 rfl) ?_
    refine nv_imul hx hb dX7_insert_75 ?_
    refine nv_iadd hx hb dX7_insert_76 ?_
    refine lv_iload_n hx hb dX7_insert_77 rfl (lv_at hl 2 rfl) ?_
    refine nv_iadd hx hb dX7_insert_78 ?_
    refine lv_iconst (v := (-1)) hx hb dX7_insert_79 (by decide) ?_
    refine nv_iast hx hb hK hP hD hS 0 rfl (v := (-1)) rfl (by omega) (by decide) dX7_insert_80 (w3 := [(r, .inl (G.2 0, 131, .inl (mr n gI sk (upd (upd (upd (upd (upd (upd (upd mm (3 + n) k) (19 + n) (-1)) (35 + n) (-1)) (83 + n) (nI 1)) ((35 + (16 * (0 + 1))) + n) (-1)) ((83 + (16 * (0 + 1))) + n) (nI 1)) ((35 + (16 * (0 + 1 + 1))) + n) (-1)))))]) (by rw [mr_uj (by omega)]; rfl) (fun H locs hP hD hS => ?_)
    refine lv_aload_n hx hb dX7_insert_81 rfl (lv_at hl 1 rfl) ?_
    refine lv_bipush (v := nI 83) hx hb dX7_insert_82 (by decide) ?_
    refine lv_bipush (v := nI 16) hx hb dX7_insert_84 (by decide) ?_
    refine lv_iload_n hx hb dX7_insert_86 rfl (lv_at hl 0 rfl) ?_
    refine nv_imul hx hb dX7_insert_87 ?_
    refine nv_iadd hx hb dX7_insert_88 ?_
    refine lv_iload_n hx hb dX7_insert_89 rfl (lv_at hl 2 rfl) ?_
    refine nv_iadd hx hb dX7_insert_90 ?_
    refine lv_iconst (v := nI 1) hx hb dX7_insert_91 (by decide) ?_
    refine nv_iast hx hb hK hP hD hS 0 rfl (v := nI 1) rfl (by omega) (by decide) dX7_insert_92 (w3 := [(r, .inl (G.2 0, 131, .inl (mr n gI sk (upd (upd (upd (upd (upd (upd (upd (upd mm (3 + n) k) (19 + n) (-1)) (35 + n) (-1)) (83 + n) (nI 1)) ((35 + (16 * (0 + 1))) + n) (-1)) ((83 + (16 * (0 + 1))) + n) (nI 1)) ((35 + (16 * (0 + 1 + 1))) + n) (-1)) ((83 + (16 * (0 + 1 + 1))) + n) (nI 1)))))]) (by rw [mr_uj (by omega)]; rfl) (fun H locs hP hD hS => ?_)
    refine lv_iinc (v := nI (0 + 1 + 1 + 1)) (lv' := [(3, .int (nI (0 + 1 + 1 + 1))), (0, .ref r), (1, .int (nI n)), (2, .int k)]) hx hb dX7_insert_93 hl (k := 0) rfl (inc_n _ 1) (by decide) rfl (fun ls hl => ?_)
    refine lv_goto (tgt := 64) hx hb dX7_insert_96 (by decide) ?_
    refine lv_iload_n hx hb dX7_insert_64 rfl (lv_at hl 0 rfl) ?_
    refine lv_iconst (v := nI 3) hx hb dX7_insert_65 (by decide) ?_
    refine bi_ge (tgt := 99) hx hb dX7_insert_66 (by decide) (nI_i (by omega)) (nI_i (by omega)) (fun c_66 => ?_) (fun c_66 => False.elim (by omega))
    refine lv_aload_n hx hb dX7_insert_99 rfl (lv_at hl 1 rfl) ?_
    refine lv_iconst (v := nI 0) hx hb dX7_insert_100 (by decide) ?_
    refine lv_dup2_11 hx hb dX7_insert_101 rfl rfl ?_
    refine nv_iald hx hb hK hP 0 rfl (by omega) (by decide) dX7_insert_102 ?_
    rw [show (mr n gI sk (upd (upd (upd (upd (upd (upd (upd (upd mm (3 + n) k) (19 + n) (-1)) (35 + n) (-1)) (83 + n) (nI 1)) ((35 + (16 * (0 + 1))) + n) (-1)) ((83 + (16 * (0 + 1))) + n) (nI 1)) ((35 + (16 * (0 + 1 + 1))) + n) (-1)) ((83 + (16 * (0 + 1 + 1))) + n) (nI 1))) 0 = nI n from mr_0]
    refine lv_iconst (v := nI 1) hx hb dX7_insert_103 (by decide) ?_
    refine nv_iadd hx hb dX7_insert_104 ?_
    refine nv_iast hx hb hK hP hD hS 0 rfl (v := nI (n + 1)) rfl (by omega) (by decide) dX7_insert_105 (w3 := [(r, .inl (G.2 0, 131, .inl (mr (n + 1) gI sk (upd (upd (upd (upd (upd (upd (upd (upd mm (3 + n) k) (19 + n) (-1)) (35 + n) (-1)) (83 + n) (nI 1)) ((35 + (16 * (0 + 1))) + n) (-1)) ((83 + (16 * (0 + 1))) + n) (nI 1)) ((35 + (16 * (0 + 1 + 1))) + n) (-1)) ((83 + (16 * (0 + 1 + 1))) + n) (nI 1)))))]) (by rw [mr_u0]; rfl) (fun H locs hP hD hS => ?_)
    refine lv_aload_n hx hb dX7_insert_106 rfl (lv_at hl 1 rfl) ?_
    refine lv_iconst (v := nI 0) hx hb dX7_insert_107 (by decide) ?_
    refine nv_iald hx hb hK hP 0 rfl (by omega) (by decide) dX7_insert_108 ?_
    rw [show (mr (n + 1) gI sk (upd (upd (upd (upd (upd (upd (upd (upd mm (3 + n) k) (19 + n) (-1)) (35 + n) (-1)) (83 + n) (nI 1)) ((35 + (16 * (0 + 1))) + n) (-1)) ((83 + (16 * (0 + 1))) + n) (nI 1)) ((35 + (16 * (0 + 1 + 1))) + n) (-1)) ((83 + (16 * (0 + 1 + 1))) + n) (nI 1))) 0 = nI (n + 1) from mr_0]
    exact W_i hx hb hr hlk dX7_insert_109 hP hS (rfl) (rfl)

set_option maxHeartbeats 4000000 in
set_option maxRecDepth 100000 in
theorem c_X7_removeOn (l : Launch) (G : GG) (r : Nat) (n : Nat) (g : Nat) (sk : Int32) (mm : Nat → Int32) (lv : Nat) (h_n : n ≤ 16) (h_g : g < n) (h_lv : lv < n) (h_ne : lv ≠ g) : Met l yX7_removeOn wsX7_removeOn ({ frames := 1, cells := 0, slots := 0, locals := 23 } : Room) (va_Pc [.ref r, .int (nI lv)] (PB G [(r, .inl (G.2 0, 131, .inl (mr n (nI g) sk mm)))])) (QW G (some (.int (nI (n - 1)))) [(r, .inl (G.2 0, 131, .inl (mr (n - 1) (nI (delG lv g)) sk (dm lv (n - 1) (n - 1) mm))))] (vA [(r, .inl (G.2 0, 131, .inl (mr n (nI g) sk mm)))])) 0 0 (vA [(r, .inl (G.2 0, 131, .inl (mr n (nI g) sk mm)))]) := by
  refine Met.go (cc := cX7_removeOn) (maxL := 3) (ret := (some .int)) (by decide) rfl (Nat.le_of_ble_eq_true rfl) ?_
  intro p e s m below meth c ls hx hb hr hml hown hts hlk hP hK hD hS hl
  have hown : s.vm.findClass RX7 = some m.cls := hown
  have hl : lv_has ls 3 [(0, .ref r), (1, .int (nI lv))] := hl
  refine lv_aload_n hx hb dX7_removeOn_0 rfl (lv_at hl 0 rfl) ?_
  refine lv_iconst (v := nI 0) hx hb dX7_removeOn_1 (by decide) ?_
  refine lv_dup2_11 hx hb dX7_removeOn_2 rfl rfl ?_
  refine nv_iald hx hb hK hP 0 rfl (by omega) (by decide) dX7_removeOn_3 ?_
  rw [show (mr n (nI g) sk mm) 0 = nI n from mr_0]
  refine lv_iconst (v := nI 1) hx hb dX7_removeOn_4 (by decide) ?_
  refine nv_isub hx hb (by omega) dX7_removeOn_5 ?_
  refine nv_iast hx hb hK hP hD hS 0 rfl (v := nI (n - 1)) rfl (by omega) (by decide) dX7_removeOn_6 (w3 := [(r, .inl (G.2 0, 131, .inl (mr (n - 1) (nI g) sk mm)))]) (by rw [mr_u0]; rfl) (fun H locs hP hD hS => ?_)
  refine lv_iload_n hx hb dX7_removeOn_7 rfl (lv_at hl 1 rfl) ?_
  refine lv_istore_n (lv' := [(2, .int (nI lv)), (0, .ref r), (1, .int (nI lv))]) hx hb dX7_removeOn_8 rfl hl (by decide) rfl (fun ls hl => ?_)
  have loop_9 : ∀ (k_ : Nat) (to : Nat) (h_to : lv ≤ to) (h_to2 : to ≤ n - 1) (_ : n - to < k_) (H : Heap) (locs : List Loc) (_ : VP G [(r, .inl (G.2 0, 131, .inl (mr (n - 1) (nI g) sk (dm lv (n - 1) to mm))))] H) (_ : va_D (vA [(r, .inl (G.2 0, 131, .inl (mr n (nI g) sk mm)))]) [(r, .inl (G.2 0, 131, .inl (mr (n - 1) (nI g) sk (dm lv (n - 1) to mm))))]) (_ : va_S (vA [(r, .inl (G.2 0, 131, .inl (mr n (nI g) sk mm)))]) s.heap H locs) (ls : Array Slot), lv_has ls 3 [(2, .int (nI to)), (0, .ref r), (1, .int (nI lv))] → W p l e ({ frames := 1, cells := 0, slots := 0, locals := 23 } : Room) s m ([.ref r, .int (nI lv)] : List Value).toArray below meth c H locs 0 0 (MQ below (QW G (some (.int (nI (n - 1)))) [(r, .inl (G.2 0, 131, .inl (mr (n - 1) (nI (delG lv g)) sk (dm lv (n - 1) (n - 1) mm))))] (vA [(r, .inl (G.2 0, 131, .inl (mr n (nI g) sk mm)))])) ([.ref r, .int (nI lv)] : List Value).toArray s 0 0 (vA [(r, .inl (G.2 0, 131, .inl (mr n (nI g) sk mm)))])) (F0 m 9 ls []) := by
    intro k_
    induction k_ with
    | zero => intro to h_to h_to2 hk_; exact absurd hk_ (Nat.not_lt_zero _)
    | succ k_ ih_9 =>
      intro to h_to h_to2 hk_ H locs hP hD hS ls hl
      refine lv_iload_n hx hb dX7_removeOn_9 rfl (lv_at hl 0 rfl) ?_
      refine lv_aload_n hx hb dX7_removeOn_10 rfl (lv_at hl 1 rfl) ?_
      refine lv_iconst (v := nI 0) hx hb dX7_removeOn_11 (by decide) ?_
      refine nv_iald hx hb hK hP 0 rfl (by omega) (by decide) dX7_removeOn_12 ?_
      rw [show (mr (n - 1) (nI g) sk (dm lv (n - 1) to mm)) 0 = nI (n - 1) from mr_0]
      refine bi_ge (tgt := 30) hx hb dX7_removeOn_13 (by decide) (nI_i (by omega)) (nI_i (by omega)) (fun c_13 => ?_) (fun c_13 => ?_)
      ·
        rw [show to = n - 1 by omega] at hP hD
        have hP : VP G [(r, .inl (G.2 0, 131, .inl (mr (n - 1) (nI g) sk (dm lv (n - 1) (n - 1) mm))))] H := hP
        have hD : va_D _ [(r, .inl (G.2 0, 131, .inl (mr (n - 1) (nI g) sk (dm lv (n - 1) (n - 1) mm))))] := hD
        refine lv_aload_n hx hb dX7_removeOn_30 rfl (lv_at hl 1 rfl) ?_
        refine lv_iconst (v := nI 1) hx hb dX7_removeOn_31 (by decide) ?_
        refine lv_dup2_11 hx hb dX7_removeOn_32 rfl rfl ?_
        refine nv_iald hx hb hK hP 0 rfl (by omega) (by decide) dX7_removeOn_33 ?_
        rw [show (mr (n - 1) (nI g) sk (dm lv (n - 1) (n - 1) mm)) 1 = nI g from mr_1]
        refine lv_iload_n hx hb dX7_removeOn_34 rfl (lv_at hl 2 rfl) ?_
        refine lv_aload_n hx hb dX7_removeOn_35 rfl (lv_at hl 1 rfl) ?_
        refine lv_iconst (v := nI 1) hx hb dX7_removeOn_36 (by decide) ?_
        refine nv_iald hx hb hK hP 0 rfl (by omega) (by decide) dX7_removeOn_37 ?_
        rw [show (mr (n - 1) (nI g) sk (dm lv (n - 1) (n - 1) mm)) 1 = nI g from mr_1]
        refine bi_ge (tgt := 45) hx hb dX7_removeOn_38 (by decide) (nI_i (by omega)) (nI_i (by omega)) (fun c_38 => ?_) (fun c_38 => ?_)
        ·
          refine lv_iconst (v := nI 0) hx hb dX7_removeOn_45 (by decide) ?_
          refine nv_isub hx hb (by omega) dX7_removeOn_46 ?_
          refine nv_iast hx hb hK hP hD hS 0 rfl (v := nI (g - 0)) rfl (by omega) (by decide) dX7_removeOn_47 (w3 := [(r, .inl (G.2 0, 131, .inl (mr (n - 1) (nI (g - 0)) sk (dm lv (n - 1) (n - 1) mm))))]) (by rw [mr_u1]; rfl) (fun H locs hP hD hS => ?_)
          refine lv_aload_n hx hb dX7_removeOn_48 rfl (lv_at hl 1 rfl) ?_
          refine lv_iconst (v := nI 0) hx hb dX7_removeOn_49 (by decide) ?_
          refine nv_iald hx hb hK hP 0 rfl (by omega) (by decide) dX7_removeOn_50 ?_
          rw [show (mr (n - 1) (nI (g - 0)) sk (dm lv (n - 1) (n - 1) mm)) 0 = nI (n - 1) from mr_0]
          exact W_i hx hb hr hlk dX7_removeOn_51 hP hS (rfl) (by first | (rw [delG_t (by omega)] <;> rfl) | (rw [delG_f (by omega)] <;> rfl))
        ·
          refine lv_iconst (v := nI 1) hx hb dX7_removeOn_41 (by decide) ?_
          refine lv_goto (tgt := 46) hx hb dX7_removeOn_42 (by decide) ?_
          refine nv_isub hx hb (by omega) dX7_removeOn_46 ?_
          refine nv_iast hx hb hK hP hD hS 0 rfl (v := nI (g - 1)) rfl (by omega) (by decide) dX7_removeOn_47 (w3 := [(r, .inl (G.2 0, 131, .inl (mr (n - 1) (nI (g - 1)) sk (dm lv (n - 1) (n - 1) mm))))]) (by rw [mr_u1]; rfl) (fun H locs hP hD hS => ?_)
          refine lv_aload_n hx hb dX7_removeOn_48 rfl (lv_at hl 1 rfl) ?_
          refine lv_iconst (v := nI 0) hx hb dX7_removeOn_49 (by decide) ?_
          refine nv_iald hx hb hK hP 0 rfl (by omega) (by decide) dX7_removeOn_50 ?_
          rw [show (mr (n - 1) (nI (g - 1)) sk (dm lv (n - 1) (n - 1) mm)) 0 = nI (n - 1) from mr_0]
          exact W_i hx hb hr hlk dX7_removeOn_51 hP hS (rfl) (by first | (rw [delG_t (by omega)] <;> rfl) | (rw [delG_f (by omega)] <;> rfl))
      ·
        refine lv_aload_n hx hb dX7_removeOn_16 rfl (lv_at hl 1 rfl) ?_
        refine lv_iload_n hx hb dX7_removeOn_17 rfl (lv_at hl 0 rfl) ?_
        refine lv_iconst (v := nI 1) hx hb dX7_removeOn_18 (by decide) ?_
        refine nv_iadd hx hb dX7_removeOn_19 ?_
        refine lv_iload_n hx hb dX7_removeOn_20 rfl (lv_at hl 0 rfl) ?_
        refine cWS (As := [.ref r, .int (nI (to + 1)), .int (nI to)]) (rest := []) (st1 := []) (w3 := [(r, .inl (G.2 0, 131, .inl (mr (n - 1) (nI g) sk (dm lv (n - 1) (to + 1) mm))))]) ⟨hx, hb, hml, hown, hts⟩ (c_X7_shift l G r (n - 1) (nI g) sk (dm lv (n - 1) to mm) (to + 1) to (by first | omega | assumption) (by first | omega | assumption) (by first | omega | assumption)) (va_cwS 3 hts gX7_removeOn_X7_shift rfl rfl rfl (by decide +kernel) ⟨Nat.le_of_ble_eq_true rfl, Nat.le_of_ble_eq_true rfl⟩) (preS_of hK hP hD [0] (by decide) rfl) rfl hl.1 rfl (lv_room (Nat.le_of_ble_eq_true rfl)) dX7_removeOn_21 ⟨Nat.zero_le _, Nat.zero_le _⟩ hP hD hS [0] (by decide) rfl rfl (by rw [← dm_step h_to (by omega) (by omega)]; rfl) rfl (fun H locs hP hD hS => ?_)
        refine lv_iinc (v := nI (to + 1)) (lv' := [(2, .int (nI (to + 1))), (0, .ref r), (1, .int (nI lv))]) hx hb dX7_removeOn_24 hl (k := 0) rfl (inc_n _ 1) (by decide) rfl (fun ls hl => ?_)
        refine lv_goto (tgt := 9) hx hb dX7_removeOn_27 (by decide) ?_
        exact ih_9 (to + 1) (by first | omega | assumption) (by first | omega | assumption) (by omega) _ _ hP hD hS ls (lv_sub hl [0, 1, 2] (by rfl))
  exact loop_9 (n - lv + 1) lv (by first | omega | assumption) (by first | omega | assumption) (Nat.lt_succ_self _) _ _ (by rw [dm_0]; exact hP) (by rw [dm_0]; exact hD) hS ls (lv_sub hl [0, 1, 2] (by rfl))

set_option maxHeartbeats 4000000 in
set_option maxRecDepth 100000 in
theorem c_X7_skippedMany (l : Launch) (G : GG) (r : Nat) (n : Nat) (g : Nat) (sk : Int32) (mm : Nat → Int32)  : Met l yX7_skippedMany wsX7_skippedMany ({ frames := 1, cells := 0, slots := 0, locals := 21 } : Room) (va_Pc [.ref r] (PB G [(r, .inl (G.2 0, 131, .inl (mr n (nI g) sk mm)))])) (QR (some (.int (nI (ct (fun x_ => 1 ≤ x_ ∧ bt sk x_ = true) 31))))) 0 0 (fun _ => False) := by
  refine Met.go (cc := cX7_skippedMany) (maxL := 3) (ret := (some .int)) (by decide) rfl (Nat.le_of_ble_eq_true rfl) ?_
  intro p e s m below meth c ls hx hb hr hml hown hts hlk hP hK hD hS hl
  have hown : s.vm.findClass RX7 = some m.cls := hown
  have hl : lv_has ls 3 [(0, .ref r)] := hl
  refine lv_iconst (v := nI 0) hx hb dX7_skippedMany_0 (by decide) ?_
  refine lv_istore_n (lv' := [(1, .int (nI 0)), (0, .ref r)]) hx hb dX7_skippedMany_1 rfl hl (by decide) rfl (fun ls hl => ?_)
  refine lv_iconst (v := nI 1) hx hb dX7_skippedMany_2 (by decide) ?_
  refine lv_istore_n (lv' := [(2, .int (nI 1)), (1, .int (nI 0)), (0, .ref r)]) hx hb dX7_skippedMany_3 rfl hl (by decide) rfl (fun ls hl => ?_)
  have loop_4 : ∀ (k_ : Nat) (i : Nat) (h_i1 : 1 ≤ i) (h_i : i ≤ 31) (_ : 31 - i < k_) (ls : Array Slot), lv_has ls 3 [(2, .int (nI i)), (1, .int (nI (ct (fun x_ => 1 ≤ x_ ∧ bt sk x_ = true) i))), (0, .ref r)] → W p l e ({ frames := 1, cells := 0, slots := 0, locals := 21 } : Room) s m ([.ref r] : List Value).toArray below meth c s.heap [] 0 0 (MQ below (QR (some (.int (nI (ct (fun x_ => 1 ≤ x_ ∧ bt sk x_ = true) 31))))) ([.ref r] : List Value).toArray s 0 0 (fun _ => False)) (F0 m 4 ls []) := by
    intro k_
    induction k_ with
    | zero => intro i h_i1 h_i hk_; exact absurd hk_ (Nat.not_lt_zero _)
    | succ k_ ih_4 =>
      intro i h_i1 h_i hk_ ls hl
      refine lv_iload_n hx hb dX7_skippedMany_4 rfl (lv_at hl 0 rfl) ?_
      refine lv_bipush (v := nI 30) hx hb dX7_skippedMany_5 (by decide) ?_
      refine bi_gt (tgt := 32) hx hb dX7_skippedMany_7 (by decide) (nI_i (by omega)) (nI_i (by omega)) (fun c_7 => ?_) (fun c_7 => ?_)
      ·
        refine lv_iload_n hx hb dX7_skippedMany_32 rfl (lv_at hl 1 rfl) ?_
        exact R_i hx hb hr hlk dX7_skippedMany_33 (by rw [show i = 31 by omega])
      ·
        refine lv_iload_n hx hb dX7_skippedMany_10 rfl (lv_at hl 1 rfl) ?_
        refine lv_aload_n hx hb dX7_skippedMany_11 rfl (lv_at hl 2 rfl) ?_
        refine lv_iload_n hx hb dX7_skippedMany_12 rfl (lv_at hl 0 rfl) ?_
        refine cRS (As := [.ref r, .int (nI i)]) (rest := [.int (nI (ct (fun x_ => 1 ≤ x_ ∧ bt sk x_ = true) i))]) (v := .int (zb (i ≤ 30 ∧ bt sk i = true))) ⟨hx, hb, hml, hown, hts⟩ (c_X7_skips l G r n g sk mm i (by first | omega | assumption)) (va_cwS 2 hts gX7_skippedMany_X7_skips rfl rfl rfl (by decide +kernel) ⟨Nat.le_of_ble_eq_true rfl, Nat.le_of_ble_eq_true rfl⟩) (preS_of hK hP hD [0] (by decide) rfl) rfl hl.1 rfl (lv_room (Nat.le_of_ble_eq_true rfl)) dX7_skippedMany_13 ⟨Nat.zero_le _, Nat.zero_le _⟩ ?_
        refine bb_eq (tgt := 23) hx hb dX7_skippedMany_16 (by decide) (fun c_16 => ?_) (fun c_16 => ?_)
        ·
          refine lv_iconst (v := nI 0) hx hb dX7_skippedMany_23 (by decide) ?_
          refine nv_iadd hx hb dX7_skippedMany_24 ?_
          refine lv_istore_n (lv' := [(1, .int (nI ((ct (fun x_ => 1 ≤ x_ ∧ bt sk x_ = true) i) + 0))), (2, .int (nI i)), (0, .ref r)]) hx hb dX7_skippedMany_25 rfl hl (by decide) rfl (fun ls hl => ?_)
          refine lv_iinc (v := nI (i + 1)) (lv' := [(2, .int (nI (i + 1))), (1, .int (nI ((ct (fun x_ => 1 ≤ x_ ∧ bt sk x_ = true) i) + 0))), (0, .ref r)]) hx hb dX7_skippedMany_26 hl (k := 1) rfl (inc_n _ 1) (by decide) rfl (fun ls hl => ?_)
          refine lv_goto (tgt := 4) hx hb dX7_skippedMany_29 (by decide) ?_
          exact ih_4 (i + 1) (by first | omega | assumption) (by first | omega | assumption) (by omega) ls (lv_sub hl [0, 1, 2] (by first | (rw [ct_t ⟨h_i1, (show i ≤ 30 ∧ bt sk i = true from by assumption).2⟩]; rfl) | (rw [ct_f (fun z_ => (show ¬ (i ≤ 30 ∧ bt sk i = true) from by assumption) ⟨by omega, z_.2⟩)]; rfl)))
        ·
          refine lv_iconst (v := nI 1) hx hb dX7_skippedMany_19 (by decide) ?_
          refine lv_goto (tgt := 24) hx hb dX7_skippedMany_20 (by decide) ?_
          refine nv_iadd hx hb dX7_skippedMany_24 ?_
          refine lv_istore_n (lv' := [(1, .int (nI ((ct (fun x_ => 1 ≤ x_ ∧ bt sk x_ = true) i) + 1))), (2, .int (nI i)), (0, .ref r)]) hx hb dX7_skippedMany_25 rfl hl (by decide) rfl (fun ls hl => ?_)
          refine lv_iinc (v := nI (i + 1)) (lv' := [(2, .int (nI (i + 1))), (1, .int (nI ((ct (fun x_ => 1 ≤ x_ ∧ bt sk x_ = true) i) + 1))), (0, .ref r)]) hx hb dX7_skippedMany_26 hl (k := 1) rfl (inc_n _ 1) (by decide) rfl (fun ls hl => ?_)
          refine lv_goto (tgt := 4) hx hb dX7_skippedMany_29 (by decide) ?_
          exact ih_4 (i + 1) (by first | omega | assumption) (by first | omega | assumption) (by omega) ls (lv_sub hl [0, 1, 2] (by first | (rw [ct_t ⟨h_i1, (show i ≤ 30 ∧ bt sk i = true from by assumption).2⟩]; rfl) | (rw [ct_f (fun z_ => (show ¬ (i ≤ 30 ∧ bt sk i = true) from by assumption) ⟨by omega, z_.2⟩)]; rfl)))
  exact loop_4 (31 - 1 + 1) 1 (by first | omega | assumption) (by first | omega | assumption) (Nat.lt_succ_self _)  ls (lv_sub hl [0, 1, 2] (by (rw [ct_f (fun z_ => absurd z_.1 (by omega))]; rfl)))

set_option maxHeartbeats 4000000 in
set_option maxRecDepth 100000 in
theorem c_X7_serveOn (l : Launch) (G : GG) (r : Nat) (n : Nat) (g : Nat) (sk : Int32) (mm : Nat → Int32) (ca : Nat) (lv : Nat) (is_ : Prop) (h_n : n ≤ 16) (h_ca : ca < 3) (h_lv : lv < n) : Met l yX7_serveOn wsX7_serveOn ({ frames := 1, cells := 0, slots := 0, locals := 22 } : Room) (va_Pc [.ref r, .int (nI ca), .int (nI lv), .int (zb is_)] (PB G [(r, .inl (G.2 0, 131, .inl (mr n (nI g) sk mm)))])) (QW G (some (.int (nI (ct (fun x_ => (upd mm (83 + 16 * ca + lv) (zb is_)) (83 + 16 * ca + x_) = 1) n)))) [(r, .inl (G.2 0, 131, .inl (mr n (nI g) sk (upd mm (83 + 16 * ca + lv) (zb is_)))))] (vA [(r, .inl (G.2 0, 131, .inl (mr n (nI g) sk mm)))])) 0 0 (vA [(r, .inl (G.2 0, 131, .inl (mr n (nI g) sk mm)))]) := by
  refine Met.go (cc := cX7_serveOn) (maxL := 6) (ret := (some .int)) (by decide) rfl (Nat.le_of_ble_eq_true rfl) ?_
  intro p e s m below meth c ls hx hb hr hml hown hts hlk hP hK hD hS hl
  have hown : s.vm.findClass RX7 = some m.cls := hown
  have hl : lv_has ls 6 [(0, .ref r), (1, .int (nI ca)), (2, .int (nI lv)), (3, .int (zb is_))] := hl
  refine lv_aload_n hx hb dX7_serveOn_0 rfl (lv_at hl 0 rfl) ?_
  refine lv_bipush (v := nI 83) hx hb dX7_serveOn_1 (by decide) ?_
  refine lv_bipush (v := nI 16) hx hb dX7_serveOn_3 (by decide) ?_
  refine lv_iload_n hx hb dX7_serveOn_5 rfl (lv_at hl 1 rfl) ?_
  refine nv_imul hx hb dX7_serveOn_6 ?_
  refine nv_iadd hx hb dX7_serveOn_7 ?_
  refine lv_iload_n hx hb dX7_serveOn_8 rfl (lv_at hl 2 rfl) ?_
  refine nv_iadd hx hb dX7_serveOn_9 ?_
  refine lv_iload_n hx hb dX7_serveOn_10 rfl (lv_at hl 3 rfl) ?_
  refine bb_eq (tgt := 18) hx hb dX7_serveOn_11 (by decide) (fun c_11 => ?_) (fun c_11 => ?_)
  ·
    refine lv_iconst (v := zb is_) hx hb dX7_serveOn_18 (zb_f c_11).symm ?_
    refine nv_iast hx hb hK hP hD hS 0 rfl (v := zb is_) rfl (by omega) (by decide) dX7_serveOn_19 (w3 := [(r, .inl (G.2 0, 131, .inl (mr n (nI g) sk (upd mm ((83 + (16 * ca)) + lv) (zb is_)))))]) (by rw [mr_uj (by omega)]; rfl) (fun H locs hP hD hS => ?_)
    refine lv_iconst (v := nI 0) hx hb dX7_serveOn_20 (by decide) ?_
    refine lv_istore (lv' := [(4, .int (nI 0)), (0, .ref r), (1, .int (nI ca)), (2, .int (nI lv)), (3, .int (zb is_))]) hx hb dX7_serveOn_21 hl (by decide) rfl (fun ls hl => ?_)
    refine lv_iconst (v := nI 0) hx hb dX7_serveOn_23 (by decide) ?_
    refine lv_istore (lv' := [(5, .int (nI 0)), (4, .int (nI 0)), (0, .ref r), (1, .int (nI ca)), (2, .int (nI lv)), (3, .int (zb is_))]) hx hb dX7_serveOn_24 hl (by decide) rfl (fun ls hl => ?_)
    have loop_26 : ∀ (k_ : Nat) (i : Nat) (h_i : i ≤ n) (_ : n - i < k_) (H : Heap) (locs : List Loc) (_ : VP G [(r, .inl (G.2 0, 131, .inl (mr n (nI g) sk (upd mm (83 + 16 * ca + lv) (zb is_)))))] H) (_ : va_D (vA [(r, .inl (G.2 0, 131, .inl (mr n (nI g) sk mm)))]) [(r, .inl (G.2 0, 131, .inl (mr n (nI g) sk (upd mm (83 + 16 * ca + lv) (zb is_)))))]) (_ : va_S (vA [(r, .inl (G.2 0, 131, .inl (mr n (nI g) sk mm)))]) s.heap H locs) (ls : Array Slot), lv_has ls 6 [(5, .int (nI i)), (4, .int (nI (ct (fun x_ => (upd mm (83 + 16 * ca + lv) (zb is_)) (83 + 16 * ca + x_) = 1) i))), (0, .ref r), (1, .int (nI ca)), (2, .int (nI lv)), (3, .int (zb is_))] → W p l e ({ frames := 1, cells := 0, slots := 0, locals := 22 } : Room) s m ([.ref r, .int (nI ca), .int (nI lv), .int (zb is_)] : List Value).toArray below meth c H locs 0 0 (MQ below (QW G (some (.int (nI (ct (fun x_ => (upd mm (83 + 16 * ca + lv) (zb is_)) (83 + 16 * ca + x_) = 1) n)))) [(r, .inl (G.2 0, 131, .inl (mr n (nI g) sk (upd mm (83 + 16 * ca + lv) (zb is_)))))] (vA [(r, .inl (G.2 0, 131, .inl (mr n (nI g) sk mm)))])) ([.ref r, .int (nI ca), .int (nI lv), .int (zb is_)] : List Value).toArray s 0 0 (vA [(r, .inl (G.2 0, 131, .inl (mr n (nI g) sk mm)))])) (F0 m 26 ls []) := by
      intro k_
      induction k_ with
      | zero => intro i h_i hk_; exact absurd hk_ (Nat.not_lt_zero _)
      | succ k_ ih_26 =>
        intro i h_i hk_ H locs hP hD hS ls hl
        refine lv_iload hx hb dX7_serveOn_26 (lv_at hl 0 rfl) ?_
        refine lv_aload_n hx hb dX7_serveOn_28 rfl (lv_at hl 2 rfl) ?_
        refine lv_iconst (v := nI 0) hx hb dX7_serveOn_29 (by decide) ?_
        refine nv_iald hx hb hK hP 0 rfl (by omega) (by decide) dX7_serveOn_30 ?_
        rw [show (mr n (nI g) sk (upd mm (83 + 16 * ca + lv) (zb is_))) 0 = nI n from mr_0]
        refine bi_ge (tgt := 60) hx hb dX7_serveOn_31 (by decide) (nI_i (by omega)) (nI_i (by omega)) (fun c_31 => ?_) (fun c_31 => ?_)
        ·
          refine lv_iload hx hb dX7_serveOn_60 (lv_at hl 1 rfl) ?_
          exact W_i hx hb hr hlk dX7_serveOn_62 hP hS (by rw [show i = n by omega]) (rfl)
        ·
          refine lv_iload hx hb dX7_serveOn_34 (lv_at hl 1 rfl) ?_
          refine lv_aload_n hx hb dX7_serveOn_36 rfl (lv_at hl 2 rfl) ?_
          refine lv_iload_n hx hb dX7_serveOn_37 rfl (lv_at hl 3 rfl) ?_
          refine lv_iload hx hb dX7_serveOn_38 (lv_at hl 0 rfl) ?_
          refine cRS (As := [.ref r, .int (nI ca), .int (nI i)]) (rest := [.int (nI (ct (fun x_ => (upd mm (83 + 16 * ca + lv) (zb is_)) (83 + 16 * ca + x_) = 1) i))]) (v := .int (zb ((upd mm (83 + 16 * ca + lv) (zb is_)) (83 + 16 * ca + i) = 1))) ⟨hx, hb, hml, hown, hts⟩ (c_X7_serves l G r n g sk (upd mm (83 + 16 * ca + lv) (zb is_)) ca i (by first | omega | assumption) (by first | omega | assumption)) (va_cwS 3 hts gX7_serveOn_X7_serves rfl rfl rfl (by decide +kernel) ⟨Nat.le_of_ble_eq_true rfl, Nat.le_of_ble_eq_true rfl⟩) (preS_of hK hP hD [0] (by decide) rfl) rfl hl.1 rfl (lv_room (Nat.le_of_ble_eq_true rfl)) dX7_serveOn_40 ⟨Nat.zero_le _, Nat.zero_le _⟩ ?_
          refine bb_eq (tgt := 50) hx hb dX7_serveOn_43 (by decide) (fun c_43 => ?_) (fun c_43 => ?_)
          ·
            refine lv_iconst (v := nI 0) hx hb dX7_serveOn_50 (by decide) ?_
            refine nv_iadd hx hb dX7_serveOn_51 ?_
            refine lv_istore (lv' := [(4, .int (nI ((ct (fun x_ => (upd mm (83 + 16 * ca + lv) (zb is_)) (83 + 16 * ca + x_) = 1) i) + 0))), (5, .int (nI i)), (0, .ref r), (1, .int (nI ca)), (2, .int (nI lv)), (3, .int (zb is_))]) hx hb dX7_serveOn_52 hl (by decide) rfl (fun ls hl => ?_)
            refine lv_iinc (v := nI (i + 1)) (lv' := [(5, .int (nI (i + 1))), (4, .int (nI ((ct (fun x_ => (upd mm (83 + 16 * ca + lv) (zb is_)) (83 + 16 * ca + x_) = 1) i) + 0))), (0, .ref r), (1, .int (nI ca)), (2, .int (nI lv)), (3, .int (zb is_))]) hx hb dX7_serveOn_54 hl (k := 1) rfl (inc_n _ 1) (by decide) rfl (fun ls hl => ?_)
            refine lv_goto (tgt := 26) hx hb dX7_serveOn_57 (by decide) ?_
            exact ih_26 (i + 1) (by first | omega | assumption) (by omega) _ _ hP hD hS ls (lv_sub hl [0, 1, 2, 3, 4, 5] (by first | rfl | (rw [ct_t (by assumption)]; rfl) | (rw [ct_f (by assumption)]; rfl) | (rw [ct_t (by omega)]; rfl) | (rw [ct_f (by omega)]; rfl)))
          ·
            refine lv_iconst (v := nI 1) hx hb dX7_serveOn_46 (by decide) ?_
            refine lv_goto (tgt := 51) hx hb dX7_serveOn_47 (by decide) ?_
            refine nv_iadd hx hb dX7_serveOn_51 ?_
            refine lv_istore (lv' := [(4, .int (nI ((ct (fun x_ => (upd mm (83 + 16 * ca + lv) (zb is_)) (83 + 16 * ca + x_) = 1) i) + 1))), (5, .int (nI i)), (0, .ref r), (1, .int (nI ca)), (2, .int (nI lv)), (3, .int (zb is_))]) hx hb dX7_serveOn_52 hl (by decide) rfl (fun ls hl => ?_)
            refine lv_iinc (v := nI (i + 1)) (lv' := [(5, .int (nI (i + 1))), (4, .int (nI ((ct (fun x_ => (upd mm (83 + 16 * ca + lv) (zb is_)) (83 + 16 * ca + x_) = 1) i) + 1))), (0, .ref r), (1, .int (nI ca)), (2, .int (nI lv)), (3, .int (zb is_))]) hx hb dX7_serveOn_54 hl (k := 1) rfl (inc_n _ 1) (by decide) rfl (fun ls hl => ?_)
            refine lv_goto (tgt := 26) hx hb dX7_serveOn_57 (by decide) ?_
            exact ih_26 (i + 1) (by first | omega | assumption) (by omega) _ _ hP hD hS ls (lv_sub hl [0, 1, 2, 3, 4, 5] (by first | rfl | (rw [ct_t (by assumption)]; rfl) | (rw [ct_f (by assumption)]; rfl) | (rw [ct_t (by omega)]; rfl) | (rw [ct_f (by omega)]; rfl)))
    exact loop_26 (n - 0 + 1) 0 (by first | omega | assumption) (Nat.lt_succ_self _) _ _ hP hD hS ls (lv_sub hl [0, 1, 2, 3, 4, 5] (by first | rfl | (rw [ct_t (by assumption)]; rfl) | (rw [ct_f (by assumption)]; rfl) | (rw [ct_t (by omega)]; rfl) | (rw [ct_f (by omega)]; rfl)))
  ·
    refine lv_iconst (v := zb is_) hx hb dX7_serveOn_14 (zb_t c_11).symm ?_
    refine lv_goto (tgt := 19) hx hb dX7_serveOn_15 (by decide) ?_
    refine nv_iast hx hb hK hP hD hS 0 rfl (v := zb is_) rfl (by omega) (by decide) dX7_serveOn_19 (w3 := [(r, .inl (G.2 0, 131, .inl (mr n (nI g) sk (upd mm ((83 + (16 * ca)) + lv) (zb is_)))))]) (by rw [mr_uj (by omega)]; rfl) (fun H locs hP hD hS => ?_)
    refine lv_iconst (v := nI 0) hx hb dX7_serveOn_20 (by decide) ?_
    refine lv_istore (lv' := [(4, .int (nI 0)), (0, .ref r), (1, .int (nI ca)), (2, .int (nI lv)), (3, .int (zb is_))]) hx hb dX7_serveOn_21 hl (by decide) rfl (fun ls hl => ?_)
    refine lv_iconst (v := nI 0) hx hb dX7_serveOn_23 (by decide) ?_
    refine lv_istore (lv' := [(5, .int (nI 0)), (4, .int (nI 0)), (0, .ref r), (1, .int (nI ca)), (2, .int (nI lv)), (3, .int (zb is_))]) hx hb dX7_serveOn_24 hl (by decide) rfl (fun ls hl => ?_)
    have loop_26 : ∀ (k_ : Nat) (i : Nat) (h_i : i ≤ n) (_ : n - i < k_) (H : Heap) (locs : List Loc) (_ : VP G [(r, .inl (G.2 0, 131, .inl (mr n (nI g) sk (upd mm (83 + 16 * ca + lv) (zb is_)))))] H) (_ : va_D (vA [(r, .inl (G.2 0, 131, .inl (mr n (nI g) sk mm)))]) [(r, .inl (G.2 0, 131, .inl (mr n (nI g) sk (upd mm (83 + 16 * ca + lv) (zb is_)))))]) (_ : va_S (vA [(r, .inl (G.2 0, 131, .inl (mr n (nI g) sk mm)))]) s.heap H locs) (ls : Array Slot), lv_has ls 6 [(5, .int (nI i)), (4, .int (nI (ct (fun x_ => (upd mm (83 + 16 * ca + lv) (zb is_)) (83 + 16 * ca + x_) = 1) i))), (0, .ref r), (1, .int (nI ca)), (2, .int (nI lv)), (3, .int (zb is_))] → W p l e ({ frames := 1, cells := 0, slots := 0, locals := 22 } : Room) s m ([.ref r, .int (nI ca), .int (nI lv), .int (zb is_)] : List Value).toArray below meth c H locs 0 0 (MQ below (QW G (some (.int (nI (ct (fun x_ => (upd mm (83 + 16 * ca + lv) (zb is_)) (83 + 16 * ca + x_) = 1) n)))) [(r, .inl (G.2 0, 131, .inl (mr n (nI g) sk (upd mm (83 + 16 * ca + lv) (zb is_)))))] (vA [(r, .inl (G.2 0, 131, .inl (mr n (nI g) sk mm)))])) ([.ref r, .int (nI ca), .int (nI lv), .int (zb is_)] : List Value).toArray s 0 0 (vA [(r, .inl (G.2 0, 131, .inl (mr n (nI g) sk mm)))])) (F0 m 26 ls []) := by
      intro k_
      induction k_ with
      | zero => intro i h_i hk_; exact absurd hk_ (Nat.not_lt_zero _)
      | succ k_ ih_26 =>
        intro i h_i hk_ H locs hP hD hS ls hl
        refine lv_iload hx hb dX7_serveOn_26 (lv_at hl 0 rfl) ?_
        refine lv_aload_n hx hb dX7_serveOn_28 rfl (lv_at hl 2 rfl) ?_
        refine lv_iconst (v := nI 0) hx hb dX7_serveOn_29 (by decide) ?_
        refine nv_iald hx hb hK hP 0 rfl (by omega) (by decide) dX7_serveOn_30 ?_
        rw [show (mr n (nI g) sk (upd mm (83 + 16 * ca + lv) (zb is_))) 0 = nI n from mr_0]
        refine bi_ge (tgt := 60) hx hb dX7_serveOn_31 (by decide) (nI_i (by omega)) (nI_i (by omega)) (fun c_31 => ?_) (fun c_31 => ?_)
        ·
          refine lv_iload hx hb dX7_serveOn_60 (lv_at hl 1 rfl) ?_
          exact W_i hx hb hr hlk dX7_serveOn_62 hP hS (by rw [show i = n by omega]) (rfl)
        ·
          refine lv_iload hx hb dX7_serveOn_34 (lv_at hl 1 rfl) ?_
          refine lv_aload_n hx hb dX7_serveOn_36 rfl (lv_at hl 2 rfl) ?_
          refine lv_iload_n hx hb dX7_serveOn_37 rfl (lv_at hl 3 rfl) ?_
          refine lv_iload hx hb dX7_serveOn_38 (lv_at hl 0 rfl) ?_
          refine cRS (As := [.ref r, .int (nI ca), .int (nI i)]) (rest := [.int (nI (ct (fun x_ => (upd mm (83 + 16 * ca + lv) (zb is_)) (83 + 16 * ca + x_) = 1) i))]) (v := .int (zb ((upd mm (83 + 16 * ca + lv) (zb is_)) (83 + 16 * ca + i) = 1))) ⟨hx, hb, hml, hown, hts⟩ (c_X7_serves l G r n g sk (upd mm (83 + 16 * ca + lv) (zb is_)) ca i (by first | omega | assumption) (by first | omega | assumption)) (va_cwS 3 hts gX7_serveOn_X7_serves rfl rfl rfl (by decide +kernel) ⟨Nat.le_of_ble_eq_true rfl, Nat.le_of_ble_eq_true rfl⟩) (preS_of hK hP hD [0] (by decide) rfl) rfl hl.1 rfl (lv_room (Nat.le_of_ble_eq_true rfl)) dX7_serveOn_40 ⟨Nat.zero_le _, Nat.zero_le _⟩ ?_
          refine bb_eq (tgt := 50) hx hb dX7_serveOn_43 (by decide) (fun c_43 => ?_) (fun c_43 => ?_)
          ·
            refine lv_iconst (v := nI 0) hx hb dX7_serveOn_50 (by decide) ?_
            refine nv_iadd hx hb dX7_serveOn_51 ?_
            refine lv_istore (lv' := [(4, .int (nI ((ct (fun x_ => (upd mm (83 + 16 * ca + lv) (zb is_)) (83 + 16 * ca + x_) = 1) i) + 0))), (5, .int (nI i)), (0, .ref r), (1, .int (nI ca)), (2, .int (nI lv)), (3, .int (zb is_))]) hx hb dX7_serveOn_52 hl (by decide) rfl (fun ls hl => ?_)
            refine lv_iinc (v := nI (i + 1)) (lv' := [(5, .int (nI (i + 1))), (4, .int (nI ((ct (fun x_ => (upd mm (83 + 16 * ca + lv) (zb is_)) (83 + 16 * ca + x_) = 1) i) + 0))), (0, .ref r), (1, .int (nI ca)), (2, .int (nI lv)), (3, .int (zb is_))]) hx hb dX7_serveOn_54 hl (k := 1) rfl (inc_n _ 1) (by decide) rfl (fun ls hl => ?_)
            refine lv_goto (tgt := 26) hx hb dX7_serveOn_57 (by decide) ?_
            exact ih_26 (i + 1) (by first | omega | assumption) (by omega) _ _ hP hD hS ls (lv_sub hl [0, 1, 2, 3, 4, 5] (by first | rfl | (rw [ct_t (by assumption)]; rfl) | (rw [ct_f (by assumption)]; rfl) | (rw [ct_t (by omega)]; rfl) | (rw [ct_f (by omega)]; rfl)))
          ·
            refine lv_iconst (v := nI 1) hx hb dX7_serveOn_46 (by decide) ?_
            refine lv_goto (tgt := 51) hx hb dX7_serveOn_47 (by decide) ?_
            refine nv_iadd hx hb dX7_serveOn_51 ?_
            refine lv_istore (lv' := [(4, .int (nI ((ct (fun x_ => (upd mm (83 + 16 * ca + lv) (zb is_)) (83 + 16 * ca + x_) = 1) i) + 1))), (5, .int (nI i)), (0, .ref r), (1, .int (nI ca)), (2, .int (nI lv)), (3, .int (zb is_))]) hx hb dX7_serveOn_52 hl (by decide) rfl (fun ls hl => ?_)
            refine lv_iinc (v := nI (i + 1)) (lv' := [(5, .int (nI (i + 1))), (4, .int (nI ((ct (fun x_ => (upd mm (83 + 16 * ca + lv) (zb is_)) (83 + 16 * ca + x_) = 1) i) + 1))), (0, .ref r), (1, .int (nI ca)), (2, .int (nI lv)), (3, .int (zb is_))]) hx hb dX7_serveOn_54 hl (k := 1) rfl (inc_n _ 1) (by decide) rfl (fun ls hl => ?_)
            refine lv_goto (tgt := 26) hx hb dX7_serveOn_57 (by decide) ?_
            exact ih_26 (i + 1) (by first | omega | assumption) (by omega) _ _ hP hD hS ls (lv_sub hl [0, 1, 2, 3, 4, 5] (by first | rfl | (rw [ct_t (by assumption)]; rfl) | (rw [ct_f (by assumption)]; rfl) | (rw [ct_t (by omega)]; rfl) | (rw [ct_f (by omega)]; rfl)))
    exact loop_26 (n - 0 + 1) 0 (by first | omega | assumption) (Nat.lt_succ_self _) _ _ hP hD hS ls (lv_sub hl [0, 1, 2, 3, 4, 5] (by first | rfl | (rw [ct_t (by assumption)]; rfl) | (rw [ct_f (by assumption)]; rfl) | (rw [ct_t (by omega)]; rfl) | (rw [ct_f (by omega)]; rfl)))

set_option maxHeartbeats 4000000 in
set_option maxRecDepth 100000 in
theorem c_X7_skipOn (l : Launch) (G : GG) (r : Nat) (n : Nat) (g : Nat) (sk : Int32) (mm : Nat → Int32) (q : Nat) (is_ : Prop) (h_q : 1 ≤ q ∧ q ≤ 30) : Met l yX7_skipOn wsX7_skipOn ({ frames := 2, cells := 0, slots := 0, locals := 43 } : Room) (va_Pc [.ref r, .int (nI q), .int (zb is_)] (PB G [(r, .inl (G.2 0, 131, .inl (mr n (nI g) sk mm)))])) (QW G (some (.int (nI (ct (fun x_ => 1 ≤ x_ ∧ bt (skp sk q is_) x_ = true) 31)))) [(r, .inl (G.2 0, 131, .inl (mr n (nI g) (skp sk q is_) mm)))] (vA [(r, .inl (G.2 0, 131, .inl (mr n (nI g) sk mm)))])) 0 0 (vA [(r, .inl (G.2 0, 131, .inl (mr n (nI g) sk mm)))]) := by
  refine Met.go (cc := cX7_skipOn) (maxL := 3) (ret := (some .int)) (by decide) rfl (Nat.le_of_ble_eq_true rfl) ?_
  intro p e s m below meth c ls hx hb hr hml hown hts hlk hP hK hD hS hl
  have hown : s.vm.findClass RX7 = some m.cls := hown
  have hl : lv_has ls 3 [(0, .ref r), (1, .int (nI q)), (2, .int (zb is_))] := hl
  refine lv_aload_n hx hb dX7_skipOn_0 rfl (lv_at hl 0 rfl) ?_
  refine lv_iconst (v := nI 2) hx hb dX7_skipOn_1 (by decide) ?_
  refine lv_iload_n hx hb dX7_skipOn_2 rfl (lv_at hl 2 rfl) ?_
  refine bb_eq (tgt := 16) hx hb dX7_skipOn_3 (by decide) (fun c_3 => ?_) (fun c_3 => ?_)
  ·
    refine lv_aload_n hx hb dX7_skipOn_16 rfl (lv_at hl 0 rfl) ?_
    refine lv_iconst (v := nI 2) hx hb dX7_skipOn_17 (by decide) ?_
    refine nv_iald hx hb hK hP 0 rfl (by omega) (by decide) dX7_skipOn_18 ?_
    rw [show (mr n (nI g) sk mm) 2 = sk from mr_2]
    refine lv_iconst (v := nI 1) hx hb dX7_skipOn_19 (by decide) ?_
    refine lv_iload_n hx hb dX7_skipOn_20 rfl (lv_at hl 1 rfl) ?_
    refine lv_ishl hx hb dX7_skipOn_21 ?_
    rw [show (nI 1) <<< ((nI q) &&& 31) = (bitv q) from rfl]
    refine lv_iconst (v := (-1)) hx hb dX7_skipOn_22 (by decide) ?_
    refine lv_ixor hx hb dX7_skipOn_23 ?_
    refine lv_iand hx hb dX7_skipOn_24 ?_
    rw [show sk &&& ((bitv q) ^^^ (-1)) = (skp sk q is_) from (skp_f c_3).symm]
    refine nv_iast hx hb hK hP hD hS 0 rfl (v := (skp sk q is_)) rfl (by omega) (by decide) dX7_skipOn_25 (w3 := [(r, .inl (G.2 0, 131, .inl (mr n (nI g) (skp sk q is_) mm)))]) (by rw [mr_u2]; rfl) (fun H locs hP hD hS => ?_)
    refine lv_aload_n hx hb dX7_skipOn_26 rfl (lv_at hl 0 rfl) ?_
    refine cRS (As := [.ref r]) (rest := []) (v := .int (nI (ct (fun x_ => 1 ≤ x_ ∧ bt (skp sk q is_) x_ = true) 31))) ⟨hx, hb, hml, hown, hts⟩ (c_X7_skippedMany l G r n g (skp sk q is_) mm ) (va_cwS 1 hts gX7_skipOn_X7_skippedMany rfl rfl rfl (by decide +kernel) ⟨Nat.le_of_ble_eq_true rfl, Nat.le_of_ble_eq_true rfl⟩) (preS_of hK hP hD [0] (by decide) rfl) rfl hl.1 rfl (lv_room (Nat.le_of_ble_eq_true rfl)) dX7_skipOn_27 ⟨Nat.zero_le _, Nat.zero_le _⟩ ?_
    exact W_i hx hb hr hlk dX7_skipOn_30 hP hS (rfl) (rfl)
  ·
    refine lv_aload_n hx hb dX7_skipOn_6 rfl (lv_at hl 0 rfl) ?_
    refine lv_iconst (v := nI 2) hx hb dX7_skipOn_7 (by decide) ?_
    refine nv_iald hx hb hK hP 0 rfl (by omega) (by decide) dX7_skipOn_8 ?_
    rw [show (mr n (nI g) sk mm) 2 = sk from mr_2]
    refine lv_iconst (v := nI 1) hx hb dX7_skipOn_9 (by decide) ?_
    refine lv_iload_n hx hb dX7_skipOn_10 rfl (lv_at hl 1 rfl) ?_
    refine lv_ishl hx hb dX7_skipOn_11 ?_
    rw [show (nI 1) <<< ((nI q) &&& 31) = (bitv q) from rfl]
    refine lv_ior hx hb dX7_skipOn_12 ?_
    rw [show sk ||| (bitv q) = (skp sk q is_) from (skp_t c_3).symm]
    refine lv_goto (tgt := 25) hx hb dX7_skipOn_13 (by decide) ?_
    refine nv_iast hx hb hK hP hD hS 0 rfl (v := (skp sk q is_)) rfl (by omega) (by decide) dX7_skipOn_25 (w3 := [(r, .inl (G.2 0, 131, .inl (mr n (nI g) (skp sk q is_) mm)))]) (by rw [mr_u2]; rfl) (fun H locs hP hD hS => ?_)
    refine lv_aload_n hx hb dX7_skipOn_26 rfl (lv_at hl 0 rfl) ?_
    refine cRS (As := [.ref r]) (rest := []) (v := .int (nI (ct (fun x_ => 1 ≤ x_ ∧ bt (skp sk q is_) x_ = true) 31))) ⟨hx, hb, hml, hown, hts⟩ (c_X7_skippedMany l G r n g (skp sk q is_) mm ) (va_cwS 1 hts gX7_skipOn_X7_skippedMany rfl rfl rfl (by decide +kernel) ⟨Nat.le_of_ble_eq_true rfl, Nat.le_of_ble_eq_true rfl⟩) (preS_of hK hP hD [0] (by decide) rfl) rfl hl.1 rfl (lv_room (Nat.le_of_ble_eq_true rfl)) dX7_skipOn_27 ⟨Nat.zero_le _, Nat.zero_le _⟩ ?_
    exact W_i hx hb hr hlk dX7_skipOn_30 hP hS (rfl) (rfl)

set_option maxHeartbeats 4000000 in
set_option maxRecDepth 100000 in
theorem c_X7_whyNotAdd (l : Launch) (G : GG) (r : Nat) (n : Nat) (g : Nat) (sk : Int32) (mm : Nat → Int32) (z : Int32) (y : Int32) (h_n : n ≤ 16) : Met l yX7_whyNotAdd wsX7_whyNotAdd ({ frames := 2, cells := 0, slots := 0, locals := 45 } : Room) (va_Pc [.ref r, .int z, .int y] (PB G [(r, .inl (G.2 0, 131, .inl (mr n (nI g) sk mm)))])) (QR (some (.int (nI (wna n z.toInt y.toInt))))) 0 0 (fun _ => False) := by
  refine Met.go (cc := cX7_whyNotAdd) (maxL := 3) (ret := (some .int)) (by decide) rfl (Nat.le_of_ble_eq_true rfl) ?_
  intro p e s m below meth c ls hx hb hr hml hown hts hlk hP hK hD hS hl
  have hown : s.vm.findClass RX7 = some m.cls := hown
  have hl : lv_has ls 3 [(0, .ref r), (1, .int z), (2, .int y)] := hl
  refine lv_iload_n hx hb dX7_whyNotAdd_0 rfl (lv_at hl 1 rfl) ?_
  refine lv_i2l (v := (z).toInt64) hx hb dX7_whyNotAdd_1 rfl ?_
  refine lv_lconst (v := 0) hx hb dX7_whyNotAdd_2 rfl ?_
  refine lv_aload_n hx hb dX7_whyNotAdd_3 rfl (lv_at hl 0 rfl) ?_
  refine lv_iconst (v := nI 0) hx hb dX7_whyNotAdd_4 (by decide) ?_
  refine nv_iald hx hb hK hP 0 rfl (by omega) (by decide) dX7_whyNotAdd_5 ?_
  rw [show (mr n (nI g) sk mm) 0 = nI n from mr_0]
  refine lv_i2l (v := (nI n).toInt64) hx hb dX7_whyNotAdd_6 rfl ?_
  refine cRS (As := [.long ((z).toInt64), .long (0 : Int64), .long ((nI n).toInt64)]) (rest := []) (v := .int (zb ((0 : Int64).toInt ≤ ((z).toInt64).toInt ∧ ((z).toInt64).toInt ≤ ((nI n).toInt64).toInt))) ⟨hx, hb, hml, hown, hts⟩ (c_X7_in l G ((z).toInt64) (0 : Int64) ((nI n).toInt64) ) (va_cwS 3 hts gX7_whyNotAdd_X7_in rfl rfl rfl (by decide +kernel) ⟨Nat.le_of_ble_eq_true rfl, Nat.le_of_ble_eq_true rfl⟩) (preS_of hK hP hD [] (by decide) rfl) rfl hl.1 rfl (lv_room (Nat.le_of_ble_eq_true rfl)) dX7_whyNotAdd_7 ⟨Nat.zero_le _, Nat.zero_le _⟩ ?_
  refine bb_ne (tgt := 17) hx hb dX7_whyNotAdd_10 (by decide) (fun c_10 => ?_) (fun c_10 => ?_)
  ·
    rw [i2l_toInt, i2l_toInt, nI_i (by omega), show (0 : Int64).toInt = 0 from rfl] at c_10
    refine lv_iload_n hx hb dX7_whyNotAdd_17 rfl (lv_at hl 2 rfl) ?_
    refine cRS (As := [.int y]) (rest := []) (v := .int (zb (0 ≤ y.toInt ∧ y.toInt < 4))) ⟨hx, hb, hml, hown, hts⟩ (c_X7_isKind l G y ) (va_cwS 1 hts gX7_whyNotAdd_X7_isKind rfl rfl rfl (by decide +kernel) ⟨Nat.le_of_ble_eq_true rfl, Nat.le_of_ble_eq_true rfl⟩) (preS_of hK hP hD [] (by decide) rfl) rfl hl.1 rfl (lv_room (Nat.le_of_ble_eq_true rfl)) dX7_whyNotAdd_18 ⟨Nat.zero_le _, Nat.zero_le _⟩ ?_
    refine bb_ne (tgt := 28) hx hb dX7_whyNotAdd_21 (by decide) (fun c_21 => ?_) (fun c_21 => ?_)
    ·
      refine lv_aload_n hx hb dX7_whyNotAdd_28 rfl (lv_at hl 0 rfl) ?_
      refine lv_iconst (v := nI 0) hx hb dX7_whyNotAdd_29 (by decide) ?_
      refine nv_iald hx hb hK hP 0 rfl (by omega) (by decide) dX7_whyNotAdd_30 ?_
      rw [show (mr n (nI g) sk mm) 0 = nI n from mr_0]
      refine lv_bipush (v := nI 16) hx hb dX7_whyNotAdd_31 (by decide) ?_
      refine bi_ne (tgt := 40) hx hb dX7_whyNotAdd_33 (by decide) (nI_i (by omega)) (nI_i (by omega)) (fun c_33 => ?_) (fun c_33 => ?_)
      ·
        refine lv_iconst (v := nI 0) hx hb dX7_whyNotAdd_40 (by decide) ?_
        exact R_i hx hb hr hlk dX7_whyNotAdd_41 (by unfold wna; split <;> first | rfl | (exfalso; omega) | (split <;> first | rfl | (exfalso; omega) | (split <;> first | rfl | (exfalso; omega))))
      ·
        refine lv_iconst (v := nI 3) hx hb dX7_whyNotAdd_36 (by decide) ?_
        refine lv_goto (tgt := 41) hx hb dX7_whyNotAdd_37 (by decide) ?_
        exact R_i hx hb hr hlk dX7_whyNotAdd_41 (by unfold wna; split <;> first | rfl | (exfalso; omega) | (split <;> first | rfl | (exfalso; omega) | (split <;> first | rfl | (exfalso; omega))))
    ·
      refine lv_iconst (v := nI 2) hx hb dX7_whyNotAdd_24 (by decide) ?_
      refine lv_goto (tgt := 41) hx hb dX7_whyNotAdd_25 (by decide) ?_
      exact R_i hx hb hr hlk dX7_whyNotAdd_41 (by unfold wna; split <;> first | rfl | (exfalso; omega) | (split <;> first | rfl | (exfalso; omega) | (split <;> first | rfl | (exfalso; omega))))
  ·
    rw [i2l_toInt, i2l_toInt, nI_i (by omega), show (0 : Int64).toInt = 0 from rfl] at c_10
    refine lv_iconst (v := nI 1) hx hb dX7_whyNotAdd_13 (by decide) ?_
    refine lv_goto (tgt := 41) hx hb dX7_whyNotAdd_14 (by decide) ?_
    exact R_i hx hb hr hlk dX7_whyNotAdd_41 (by unfold wna; split <;> first | rfl | (exfalso; omega) | (split <;> first | rfl | (exfalso; omega) | (split <;> first | rfl | (exfalso; omega))))

set_option maxHeartbeats 4000000 in
set_option maxRecDepth 100000 in
theorem c_X7_whyNotAdd_n (l : Launch) (G : GG) (r : Nat) (n : Nat) (g : Nat) (sk : Int32) (mm : Nat → Int32) (lv : Nat) (k : Nat) (h_n : n ≤ 16) (h_lv : lv < 2147483648) (h_k : k < 2147483648) : Met l yX7_whyNotAdd wsX7_whyNotAdd ({ frames := 2, cells := 0, slots := 0, locals := 45 } : Room) (va_Pc [.ref r, .int (nI lv), .int (nI k)] (PB G [(r, .inl (G.2 0, 131, .inl (mr n (nI g) sk mm)))])) (QR (some (.int (nI (wna n (lv : Int) (k : Int)))))) 0 0 (fun _ => False) := by
  refine Met.go (cc := cX7_whyNotAdd) (maxL := 3) (ret := (some .int)) (by decide) rfl (Nat.le_of_ble_eq_true rfl) ?_
  intro p e s m below meth c ls hx hb hr hml hown hts hlk hP hK hD hS hl
  have hown : s.vm.findClass RX7 = some m.cls := hown
  have hl : lv_has ls 3 [(0, .ref r), (1, .int (nI lv)), (2, .int (nI k))] := hl
  refine lv_iload_n hx hb dX7_whyNotAdd_0 rfl (lv_at hl 1 rfl) ?_
  refine lv_i2l (v := (nI lv).toInt64) hx hb dX7_whyNotAdd_1 rfl ?_
  refine lv_lconst (v := 0) hx hb dX7_whyNotAdd_2 rfl ?_
  refine lv_aload_n hx hb dX7_whyNotAdd_3 rfl (lv_at hl 0 rfl) ?_
  refine lv_iconst (v := nI 0) hx hb dX7_whyNotAdd_4 (by decide) ?_
  refine nv_iald hx hb hK hP 0 rfl (by omega) (by decide) dX7_whyNotAdd_5 ?_
  rw [show (mr n (nI g) sk mm) 0 = nI n from mr_0]
  refine lv_i2l (v := (nI n).toInt64) hx hb dX7_whyNotAdd_6 rfl ?_
  refine cRS (As := [.long ((nI lv).toInt64), .long (0 : Int64), .long ((nI n).toInt64)]) (rest := []) (v := .int (zb ((0 : Int64).toInt ≤ ((nI lv).toInt64).toInt ∧ ((nI lv).toInt64).toInt ≤ ((nI n).toInt64).toInt))) ⟨hx, hb, hml, hown, hts⟩ (c_X7_in l G ((nI lv).toInt64) (0 : Int64) ((nI n).toInt64) ) (va_cwS 3 hts gX7_whyNotAdd_X7_in rfl rfl rfl (by decide +kernel) ⟨Nat.le_of_ble_eq_true rfl, Nat.le_of_ble_eq_true rfl⟩) (preS_of hK hP hD [] (by decide) rfl) rfl hl.1 rfl (lv_room (Nat.le_of_ble_eq_true rfl)) dX7_whyNotAdd_7 ⟨Nat.zero_le _, Nat.zero_le _⟩ ?_
  refine bb_ne (tgt := 17) hx hb dX7_whyNotAdd_10 (by decide) (fun c_10 => ?_) (fun c_10 => ?_)
  ·
    rw [i2l_toInt, i2l_toInt, nI_i (by omega), nI_i (by omega), show (0 : Int64).toInt = 0 from rfl] at c_10
    refine lv_iload_n hx hb dX7_whyNotAdd_17 rfl (lv_at hl 2 rfl) ?_
    refine cRS (As := [.int (nI k)]) (rest := []) (v := .int (zb (k < 4))) ⟨hx, hb, hml, hown, hts⟩ (c_X7_isKind_n l G k (by first | omega | assumption)) (va_cwS 1 hts gX7_whyNotAdd_X7_isKind rfl rfl rfl (by decide +kernel) ⟨Nat.le_of_ble_eq_true rfl, Nat.le_of_ble_eq_true rfl⟩) (preS_of hK hP hD [] (by decide) rfl) rfl hl.1 rfl (lv_room (Nat.le_of_ble_eq_true rfl)) dX7_whyNotAdd_18 ⟨Nat.zero_le _, Nat.zero_le _⟩ ?_
    refine bb_ne (tgt := 28) hx hb dX7_whyNotAdd_21 (by decide) (fun c_21 => ?_) (fun c_21 => ?_)
    ·
      refine lv_aload_n hx hb dX7_whyNotAdd_28 rfl (lv_at hl 0 rfl) ?_
      refine lv_iconst (v := nI 0) hx hb dX7_whyNotAdd_29 (by decide) ?_
      refine nv_iald hx hb hK hP 0 rfl (by omega) (by decide) dX7_whyNotAdd_30 ?_
      rw [show (mr n (nI g) sk mm) 0 = nI n from mr_0]
      refine lv_bipush (v := nI 16) hx hb dX7_whyNotAdd_31 (by decide) ?_
      refine bi_ne (tgt := 40) hx hb dX7_whyNotAdd_33 (by decide) (nI_i (by omega)) (nI_i (by omega)) (fun c_33 => ?_) (fun c_33 => ?_)
      ·
        refine lv_iconst (v := nI 0) hx hb dX7_whyNotAdd_40 (by decide) ?_
        exact R_i hx hb hr hlk dX7_whyNotAdd_41 (by unfold wna; split <;> first | rfl | (exfalso; omega) | (split <;> first | rfl | (exfalso; omega) | (split <;> first | rfl | (exfalso; omega))))
      ·
        refine lv_iconst (v := nI 3) hx hb dX7_whyNotAdd_36 (by decide) ?_
        refine lv_goto (tgt := 41) hx hb dX7_whyNotAdd_37 (by decide) ?_
        exact R_i hx hb hr hlk dX7_whyNotAdd_41 (by unfold wna; split <;> first | rfl | (exfalso; omega) | (split <;> first | rfl | (exfalso; omega) | (split <;> first | rfl | (exfalso; omega))))
    ·
      refine lv_iconst (v := nI 2) hx hb dX7_whyNotAdd_24 (by decide) ?_
      refine lv_goto (tgt := 41) hx hb dX7_whyNotAdd_25 (by decide) ?_
      exact R_i hx hb hr hlk dX7_whyNotAdd_41 (by unfold wna; split <;> first | rfl | (exfalso; omega) | (split <;> first | rfl | (exfalso; omega) | (split <;> first | rfl | (exfalso; omega))))
  ·
    rw [i2l_toInt, i2l_toInt, nI_i (by omega), nI_i (by omega), show (0 : Int64).toInt = 0 from rfl] at c_10
    refine lv_iconst (v := nI 1) hx hb dX7_whyNotAdd_13 (by decide) ?_
    refine lv_goto (tgt := 41) hx hb dX7_whyNotAdd_14 (by decide) ?_
    exact R_i hx hb hr hlk dX7_whyNotAdd_41 (by unfold wna; split <;> first | rfl | (exfalso; omega) | (split <;> first | rfl | (exfalso; omega) | (split <;> first | rfl | (exfalso; omega))))

set_option maxHeartbeats 4000000 in
set_option maxRecDepth 100000 in
theorem c_X7_whyNotRemove (l : Launch) (G : GG) (r : Nat) (n : Nat) (g : Nat) (sk : Int32) (mm : Nat → Int32) (z : Int32) (h_n : n ≤ 16) (h_n1 : 1 ≤ n) (h_g : g < n) : Met l yX7_whyNotRemove wsX7_whyNotRemove ({ frames := 2, cells := 0, slots := 0, locals := 46 } : Room) (va_Pc [.ref r, .int z] (PB G [(r, .inl (G.2 0, 131, .inl (mr n (nI g) sk mm)))])) (QR (some (.int (nI (wnr n g z.toInt))))) 0 0 (fun _ => False) := by
  refine Met.go (cc := cX7_whyNotRemove) (maxL := 2) (ret := (some .int)) (by decide) rfl (Nat.le_of_ble_eq_true rfl) ?_
  intro p e s m below meth c ls hx hb hr hml hown hts hlk hP hK hD hS hl
  have hown : s.vm.findClass RX7 = some m.cls := hown
  have hl : lv_has ls 2 [(0, .ref r), (1, .int z)] := hl
  refine lv_aload_n hx hb dX7_whyNotRemove_0 rfl (lv_at hl 0 rfl) ?_
  refine lv_iload_n hx hb dX7_whyNotRemove_1 rfl (lv_at hl 1 rfl) ?_
  refine cRS (As := [.ref r, .int z]) (rest := []) (v := .int (zb (0 ≤ z.toInt ∧ z.toInt < (n : Int)))) ⟨hx, hb, hml, hown, hts⟩ (c_X7_isLevel l G r n g sk mm z (by first | omega | assumption) (by first | omega | assumption)) (va_cwS 2 hts gX7_whyNotRemove_X7_isLevel rfl rfl rfl (by decide +kernel) ⟨Nat.le_of_ble_eq_true rfl, Nat.le_of_ble_eq_true rfl⟩) (preS_of hK hP hD [0] (by decide) rfl) rfl hl.1 rfl (lv_room (Nat.le_of_ble_eq_true rfl)) dX7_whyNotRemove_2 ⟨Nat.zero_le _, Nat.zero_le _⟩ ?_
  refine bb_ne (tgt := 12) hx hb dX7_whyNotRemove_5 (by decide) (fun c_5 => ?_) (fun c_5 => ?_)
  ·
    refine lv_iload_n hx hb dX7_whyNotRemove_12 rfl (lv_at hl 1 rfl) ?_
    refine lv_aload_n hx hb dX7_whyNotRemove_13 rfl (lv_at hl 0 rfl) ?_
    refine lv_iconst (v := nI 1) hx hb dX7_whyNotRemove_14 (by decide) ?_
    refine nv_iald hx hb hK hP 0 rfl (by omega) (by decide) dX7_whyNotRemove_15 ?_
    rw [show (mr n (nI g) sk mm) 1 = nI g from mr_1]
    refine bi_ne (tgt := 23) hx hb dX7_whyNotRemove_16 (by decide) (toI_r _) (nI_i (by omega)) (fun c_16 => ?_) (fun c_16 => ?_)
    ·
      refine lv_iconst (v := nI 0) hx hb dX7_whyNotRemove_23 (by decide) ?_
      exact R_i hx hb hr hlk dX7_whyNotRemove_24 (by unfold wnr; split <;> first | rfl | (exfalso; omega) | (split <;> first | rfl | (exfalso; omega) | (split <;> first | rfl | (exfalso; omega))))
    ·
      refine lv_iconst (v := nI 2) hx hb dX7_whyNotRemove_19 (by decide) ?_
      refine lv_goto (tgt := 24) hx hb dX7_whyNotRemove_20 (by decide) ?_
      exact R_i hx hb hr hlk dX7_whyNotRemove_24 (by unfold wnr; split <;> first | rfl | (exfalso; omega) | (split <;> first | rfl | (exfalso; omega) | (split <;> first | rfl | (exfalso; omega))))
  ·
    refine lv_iconst (v := nI 1) hx hb dX7_whyNotRemove_8 (by decide) ?_
    refine lv_goto (tgt := 24) hx hb dX7_whyNotRemove_9 (by decide) ?_
    exact R_i hx hb hr hlk dX7_whyNotRemove_24 (by unfold wnr; split <;> first | rfl | (exfalso; omega) | (split <;> first | rfl | (exfalso; omega) | (split <;> first | rfl | (exfalso; omega))))

set_option maxHeartbeats 4000000 in
set_option maxRecDepth 100000 in
theorem c_X7_whyNotRemove_n (l : Launch) (G : GG) (r : Nat) (n : Nat) (g : Nat) (sk : Int32) (mm : Nat → Int32) (lv : Nat) (h_n : n ≤ 16) (h_n1 : 1 ≤ n) (h_g : g < n) (h_lv : lv < 2147483648) : Met l yX7_whyNotRemove wsX7_whyNotRemove ({ frames := 2, cells := 0, slots := 0, locals := 46 } : Room) (va_Pc [.ref r, .int (nI lv)] (PB G [(r, .inl (G.2 0, 131, .inl (mr n (nI g) sk mm)))])) (QR (some (.int (nI (wnr n g (lv : Int)))))) 0 0 (fun _ => False) := by
  refine Met.go (cc := cX7_whyNotRemove) (maxL := 2) (ret := (some .int)) (by decide) rfl (Nat.le_of_ble_eq_true rfl) ?_
  intro p e s m below meth c ls hx hb hr hml hown hts hlk hP hK hD hS hl
  have hown : s.vm.findClass RX7 = some m.cls := hown
  have hl : lv_has ls 2 [(0, .ref r), (1, .int (nI lv))] := hl
  refine lv_aload_n hx hb dX7_whyNotRemove_0 rfl (lv_at hl 0 rfl) ?_
  refine lv_iload_n hx hb dX7_whyNotRemove_1 rfl (lv_at hl 1 rfl) ?_
  refine cRS (As := [.ref r, .int (nI lv)]) (rest := []) (v := .int (zb (lv < n))) ⟨hx, hb, hml, hown, hts⟩ (c_X7_isLevel_n l G r n g sk mm lv (by first | omega | assumption) (by first | omega | assumption) (by first | omega | assumption)) (va_cwS 2 hts gX7_whyNotRemove_X7_isLevel rfl rfl rfl (by decide +kernel) ⟨Nat.le_of_ble_eq_true rfl, Nat.le_of_ble_eq_true rfl⟩) (preS_of hK hP hD [0] (by decide) rfl) rfl hl.1 rfl (lv_room (Nat.le_of_ble_eq_true rfl)) dX7_whyNotRemove_2 ⟨Nat.zero_le _, Nat.zero_le _⟩ ?_
  refine bb_ne (tgt := 12) hx hb dX7_whyNotRemove_5 (by decide) (fun c_5 => ?_) (fun c_5 => ?_)
  ·
    refine lv_iload_n hx hb dX7_whyNotRemove_12 rfl (lv_at hl 1 rfl) ?_
    refine lv_aload_n hx hb dX7_whyNotRemove_13 rfl (lv_at hl 0 rfl) ?_
    refine lv_iconst (v := nI 1) hx hb dX7_whyNotRemove_14 (by decide) ?_
    refine nv_iald hx hb hK hP 0 rfl (by omega) (by decide) dX7_whyNotRemove_15 ?_
    rw [show (mr n (nI g) sk mm) 1 = nI g from mr_1]
    refine bi_ne (tgt := 23) hx hb dX7_whyNotRemove_16 (by decide) (nI_i (by omega)) (nI_i (by omega)) (fun c_16 => ?_) (fun c_16 => ?_)
    ·
      refine lv_iconst (v := nI 0) hx hb dX7_whyNotRemove_23 (by decide) ?_
      exact R_i hx hb hr hlk dX7_whyNotRemove_24 (by unfold wnr; split <;> first | rfl | (exfalso; omega) | (split <;> first | rfl | (exfalso; omega) | (split <;> first | rfl | (exfalso; omega))))
    ·
      refine lv_iconst (v := nI 2) hx hb dX7_whyNotRemove_19 (by decide) ?_
      refine lv_goto (tgt := 24) hx hb dX7_whyNotRemove_20 (by decide) ?_
      exact R_i hx hb hr hlk dX7_whyNotRemove_24 (by unfold wnr; split <;> first | rfl | (exfalso; omega) | (split <;> first | rfl | (exfalso; omega) | (split <;> first | rfl | (exfalso; omega))))
  ·
    refine lv_iconst (v := nI 1) hx hb dX7_whyNotRemove_8 (by decide) ?_
    refine lv_goto (tgt := 24) hx hb dX7_whyNotRemove_9 (by decide) ?_
    exact R_i hx hb hr hlk dX7_whyNotRemove_24 (by unfold wnr; split <;> first | rfl | (exfalso; omega) | (split <;> first | rfl | (exfalso; omega) | (split <;> first | rfl | (exfalso; omega))))

set_option maxHeartbeats 4000000 in
set_option maxRecDepth 100000 in
theorem c_X7_whyNotKind (l : Launch) (G : GG) (r : Nat) (n : Nat) (g : Nat) (sk : Int32) (mm : Nat → Int32) (z : Int32) (y : Int32) (h_n : n ≤ 16) (h_n1 : 1 ≤ n) (h_g : g < n) : Met l yX7_whyNotKind wsX7_whyNotKind ({ frames := 2, cells := 0, slots := 0, locals := 46 } : Room) (va_Pc [.ref r, .int z, .int y] (PB G [(r, .inl (G.2 0, 131, .inl (mr n (nI g) sk mm)))])) (QR (some (.int (nI (wnk n g z.toInt y.toInt))))) 0 0 (fun _ => False) := by
  refine Met.go (cc := cX7_whyNotKind) (maxL := 3) (ret := (some .int)) (by decide) rfl (Nat.le_of_ble_eq_true rfl) ?_
  intro p e s m below meth c ls hx hb hr hml hown hts hlk hP hK hD hS hl
  have hown : s.vm.findClass RX7 = some m.cls := hown
  have hl : lv_has ls 3 [(0, .ref r), (1, .int z), (2, .int y)] := hl
  refine lv_aload_n hx hb dX7_whyNotKind_0 rfl (lv_at hl 0 rfl) ?_
  refine lv_iload_n hx hb dX7_whyNotKind_1 rfl (lv_at hl 1 rfl) ?_
  refine cRS (As := [.ref r, .int z]) (rest := []) (v := .int (zb (0 ≤ z.toInt ∧ z.toInt < (n : Int)))) ⟨hx, hb, hml, hown, hts⟩ (c_X7_isLevel l G r n g sk mm z (by first | omega | assumption) (by first | omega | assumption)) (va_cwS 2 hts gX7_whyNotKind_X7_isLevel rfl rfl rfl (by decide +kernel) ⟨Nat.le_of_ble_eq_true rfl, Nat.le_of_ble_eq_true rfl⟩) (preS_of hK hP hD [0] (by decide) rfl) rfl hl.1 rfl (lv_room (Nat.le_of_ble_eq_true rfl)) dX7_whyNotKind_2 ⟨Nat.zero_le _, Nat.zero_le _⟩ ?_
  refine bb_ne (tgt := 12) hx hb dX7_whyNotKind_5 (by decide) (fun c_5 => ?_) (fun c_5 => ?_)
  ·
    refine lv_iload_n hx hb dX7_whyNotKind_12 rfl (lv_at hl 2 rfl) ?_
    refine cRS (As := [.int y]) (rest := []) (v := .int (zb (0 ≤ y.toInt ∧ y.toInt < 4))) ⟨hx, hb, hml, hown, hts⟩ (c_X7_isKind l G y ) (va_cwS 1 hts gX7_whyNotKind_X7_isKind rfl rfl rfl (by decide +kernel) ⟨Nat.le_of_ble_eq_true rfl, Nat.le_of_ble_eq_true rfl⟩) (preS_of hK hP hD [] (by decide) rfl) rfl hl.1 rfl (lv_room (Nat.le_of_ble_eq_true rfl)) dX7_whyNotKind_13 ⟨Nat.zero_le _, Nat.zero_le _⟩ ?_
    refine bb_ne (tgt := 23) hx hb dX7_whyNotKind_16 (by decide) (fun c_16 => ?_) (fun c_16 => ?_)
    ·
      refine lv_iload_n hx hb dX7_whyNotKind_23 rfl (lv_at hl 1 rfl) ?_
      refine lv_aload_n hx hb dX7_whyNotKind_24 rfl (lv_at hl 0 rfl) ?_
      refine lv_iconst (v := nI 1) hx hb dX7_whyNotKind_25 (by decide) ?_
      refine nv_iald hx hb hK hP 0 rfl (by omega) (by decide) dX7_whyNotKind_26 ?_
      rw [show (mr n (nI g) sk mm) 1 = nI g from mr_1]
      refine bi_ne (tgt := 38) hx hb dX7_whyNotKind_27 (by decide) (toI_r _) (nI_i (by omega)) (fun c_27 => ?_) (fun c_27 => ?_)
      ·
        refine lv_iconst (v := nI 0) hx hb dX7_whyNotKind_38 (by decide) ?_
        exact R_i hx hb hr hlk dX7_whyNotKind_39 (by unfold wnk; split <;> first | rfl | (exfalso; omega) | (split <;> first | rfl | (exfalso; omega) | (split <;> first | rfl | (exfalso; omega))))
      ·
        refine lv_iload_n hx hb dX7_whyNotKind_30 rfl (lv_at hl 2 rfl) ?_
        refine b0_eq (tgt := 38) hx hb dX7_whyNotKind_31 (by decide) (toI_r _) (fun c_31 => ?_) (fun c_31 => ?_)
        ·
          refine lv_iconst (v := nI 0) hx hb dX7_whyNotKind_38 (by decide) ?_
          exact R_i hx hb hr hlk dX7_whyNotKind_39 (by unfold wnk; split <;> first | rfl | (exfalso; omega) | (split <;> first | rfl | (exfalso; omega) | (split <;> first | rfl | (exfalso; omega))))
        ·
          refine lv_iconst (v := nI 3) hx hb dX7_whyNotKind_34 (by decide) ?_
          refine lv_goto (tgt := 39) hx hb dX7_whyNotKind_35 (by decide) ?_
          exact R_i hx hb hr hlk dX7_whyNotKind_39 (by unfold wnk; split <;> first | rfl | (exfalso; omega) | (split <;> first | rfl | (exfalso; omega) | (split <;> first | rfl | (exfalso; omega))))
    ·
      refine lv_iconst (v := nI 2) hx hb dX7_whyNotKind_19 (by decide) ?_
      refine lv_goto (tgt := 39) hx hb dX7_whyNotKind_20 (by decide) ?_
      exact R_i hx hb hr hlk dX7_whyNotKind_39 (by unfold wnk; split <;> first | rfl | (exfalso; omega) | (split <;> first | rfl | (exfalso; omega) | (split <;> first | rfl | (exfalso; omega))))
  ·
    refine lv_iconst (v := nI 1) hx hb dX7_whyNotKind_8 (by decide) ?_
    refine lv_goto (tgt := 39) hx hb dX7_whyNotKind_9 (by decide) ?_
    exact R_i hx hb hr hlk dX7_whyNotKind_39 (by unfold wnk; split <;> first | rfl | (exfalso; omega) | (split <;> first | rfl | (exfalso; omega) | (split <;> first | rfl | (exfalso; omega))))

set_option maxHeartbeats 4000000 in
set_option maxRecDepth 100000 in
theorem c_X7_whyNotKind_n (l : Launch) (G : GG) (r : Nat) (n : Nat) (g : Nat) (sk : Int32) (mm : Nat → Int32) (lv : Nat) (k : Nat) (h_n : n ≤ 16) (h_n1 : 1 ≤ n) (h_g : g < n) (h_lv : lv < 2147483648) (h_k : k < 2147483648) : Met l yX7_whyNotKind wsX7_whyNotKind ({ frames := 2, cells := 0, slots := 0, locals := 46 } : Room) (va_Pc [.ref r, .int (nI lv), .int (nI k)] (PB G [(r, .inl (G.2 0, 131, .inl (mr n (nI g) sk mm)))])) (QR (some (.int (nI (wnk n g (lv : Int) (k : Int)))))) 0 0 (fun _ => False) := by
  refine Met.go (cc := cX7_whyNotKind) (maxL := 3) (ret := (some .int)) (by decide) rfl (Nat.le_of_ble_eq_true rfl) ?_
  intro p e s m below meth c ls hx hb hr hml hown hts hlk hP hK hD hS hl
  have hown : s.vm.findClass RX7 = some m.cls := hown
  have hl : lv_has ls 3 [(0, .ref r), (1, .int (nI lv)), (2, .int (nI k))] := hl
  refine lv_aload_n hx hb dX7_whyNotKind_0 rfl (lv_at hl 0 rfl) ?_
  refine lv_iload_n hx hb dX7_whyNotKind_1 rfl (lv_at hl 1 rfl) ?_
  refine cRS (As := [.ref r, .int (nI lv)]) (rest := []) (v := .int (zb (lv < n))) ⟨hx, hb, hml, hown, hts⟩ (c_X7_isLevel_n l G r n g sk mm lv (by first | omega | assumption) (by first | omega | assumption) (by first | omega | assumption)) (va_cwS 2 hts gX7_whyNotKind_X7_isLevel rfl rfl rfl (by decide +kernel) ⟨Nat.le_of_ble_eq_true rfl, Nat.le_of_ble_eq_true rfl⟩) (preS_of hK hP hD [0] (by decide) rfl) rfl hl.1 rfl (lv_room (Nat.le_of_ble_eq_true rfl)) dX7_whyNotKind_2 ⟨Nat.zero_le _, Nat.zero_le _⟩ ?_
  refine bb_ne (tgt := 12) hx hb dX7_whyNotKind_5 (by decide) (fun c_5 => ?_) (fun c_5 => ?_)
  ·
    refine lv_iload_n hx hb dX7_whyNotKind_12 rfl (lv_at hl 2 rfl) ?_
    refine cRS (As := [.int (nI k)]) (rest := []) (v := .int (zb (k < 4))) ⟨hx, hb, hml, hown, hts⟩ (c_X7_isKind_n l G k (by first | omega | assumption)) (va_cwS 1 hts gX7_whyNotKind_X7_isKind rfl rfl rfl (by decide +kernel) ⟨Nat.le_of_ble_eq_true rfl, Nat.le_of_ble_eq_true rfl⟩) (preS_of hK hP hD [] (by decide) rfl) rfl hl.1 rfl (lv_room (Nat.le_of_ble_eq_true rfl)) dX7_whyNotKind_13 ⟨Nat.zero_le _, Nat.zero_le _⟩ ?_
    refine bb_ne (tgt := 23) hx hb dX7_whyNotKind_16 (by decide) (fun c_16 => ?_) (fun c_16 => ?_)
    ·
      refine lv_iload_n hx hb dX7_whyNotKind_23 rfl (lv_at hl 1 rfl) ?_
      refine lv_aload_n hx hb dX7_whyNotKind_24 rfl (lv_at hl 0 rfl) ?_
      refine lv_iconst (v := nI 1) hx hb dX7_whyNotKind_25 (by decide) ?_
      refine nv_iald hx hb hK hP 0 rfl (by omega) (by decide) dX7_whyNotKind_26 ?_
      rw [show (mr n (nI g) sk mm) 1 = nI g from mr_1]
      refine bi_ne (tgt := 38) hx hb dX7_whyNotKind_27 (by decide) (nI_i (by omega)) (nI_i (by omega)) (fun c_27 => ?_) (fun c_27 => ?_)
      ·
        refine lv_iconst (v := nI 0) hx hb dX7_whyNotKind_38 (by decide) ?_
        exact R_i hx hb hr hlk dX7_whyNotKind_39 (by unfold wnk; split <;> first | rfl | (exfalso; omega) | (split <;> first | rfl | (exfalso; omega) | (split <;> first | rfl | (exfalso; omega))))
      ·
        refine lv_iload_n hx hb dX7_whyNotKind_30 rfl (lv_at hl 2 rfl) ?_
        refine b0_eq (tgt := 38) hx hb dX7_whyNotKind_31 (by decide) (nI_i (by omega)) (fun c_31 => ?_) (fun c_31 => ?_)
        ·
          refine lv_iconst (v := nI 0) hx hb dX7_whyNotKind_38 (by decide) ?_
          exact R_i hx hb hr hlk dX7_whyNotKind_39 (by unfold wnk; split <;> first | rfl | (exfalso; omega) | (split <;> first | rfl | (exfalso; omega) | (split <;> first | rfl | (exfalso; omega))))
        ·
          refine lv_iconst (v := nI 3) hx hb dX7_whyNotKind_34 (by decide) ?_
          refine lv_goto (tgt := 39) hx hb dX7_whyNotKind_35 (by decide) ?_
          exact R_i hx hb hr hlk dX7_whyNotKind_39 (by unfold wnk; split <;> first | rfl | (exfalso; omega) | (split <;> first | rfl | (exfalso; omega) | (split <;> first | rfl | (exfalso; omega))))
    ·
      refine lv_iconst (v := nI 2) hx hb dX7_whyNotKind_19 (by decide) ?_
      refine lv_goto (tgt := 39) hx hb dX7_whyNotKind_20 (by decide) ?_
      exact R_i hx hb hr hlk dX7_whyNotKind_39 (by unfold wnk; split <;> first | rfl | (exfalso; omega) | (split <;> first | rfl | (exfalso; omega) | (split <;> first | rfl | (exfalso; omega))))
  ·
    refine lv_iconst (v := nI 1) hx hb dX7_whyNotKind_8 (by decide) ?_
    refine lv_goto (tgt := 39) hx hb dX7_whyNotKind_9 (by decide) ?_
    exact R_i hx hb hr hlk dX7_whyNotKind_39 (by unfold wnk; split <;> first | rfl | (exfalso; omega) | (split <;> first | rfl | (exfalso; omega) | (split <;> first | rfl | (exfalso; omega))))

set_option maxHeartbeats 4000000 in
set_option maxRecDepth 100000 in
theorem c_X7_whyNotGround_n (l : Launch) (G : GG) (r : Nat) (n : Nat) (g : Nat) (sk : Int32) (mm : Nat → Int32) (lv : Nat) (h_n : n ≤ 16) (h_n1 : 1 ≤ n) (h_lv : lv < 2147483648) : Met l yX7_whyNotGround wsX7_whyNotGround ({ frames := 2, cells := 0, slots := 0, locals := 46 } : Room) (va_Pc [.ref r, .int (nI lv)] (PB G [(r, .inl (G.2 0, 131, .inl (mr n (nI g) sk mm)))])) (QR (some (.int (nI (wng n mm lv))))) 0 0 (fun _ => False) := by
  refine Met.go (cc := cX7_whyNotGround) (maxL := 2) (ret := (some .int)) (by decide) rfl (Nat.le_of_ble_eq_true rfl) ?_
  intro p e s m below meth c ls hx hb hr hml hown hts hlk hP hK hD hS hl
  have hown : s.vm.findClass RX7 = some m.cls := hown
  have hl : lv_has ls 2 [(0, .ref r), (1, .int (nI lv))] := hl
  refine lv_aload_n hx hb dX7_whyNotGround_0 rfl (lv_at hl 0 rfl) ?_
  refine lv_iload_n hx hb dX7_whyNotGround_1 rfl (lv_at hl 1 rfl) ?_
  refine cRS (As := [.ref r, .int (nI lv)]) (rest := []) (v := .int (zb (lv < n))) ⟨hx, hb, hml, hown, hts⟩ (c_X7_isLevel_n l G r n g sk mm lv (by first | omega | assumption) (by first | omega | assumption) (by first | omega | assumption)) (va_cwS 2 hts gX7_whyNotGround_X7_isLevel rfl rfl rfl (by decide +kernel) ⟨Nat.le_of_ble_eq_true rfl, Nat.le_of_ble_eq_true rfl⟩) (preS_of hK hP hD [0] (by decide) rfl) rfl hl.1 rfl (lv_room (Nat.le_of_ble_eq_true rfl)) dX7_whyNotGround_2 ⟨Nat.zero_le _, Nat.zero_le _⟩ ?_
  refine bb_ne (tgt := 12) hx hb dX7_whyNotGround_5 (by decide) (fun c_5 => ?_) (fun c_5 => ?_)
  ·
    refine lv_aload_n hx hb dX7_whyNotGround_12 rfl (lv_at hl 0 rfl) ?_
    refine lv_iconst (v := nI 3) hx hb dX7_whyNotGround_13 (by decide) ?_
    refine lv_iload_n hx hb dX7_whyNotGround_14 rfl (lv_at hl 1 rfl) ?_
    refine nv_iadd hx hb dX7_whyNotGround_15 ?_
    refine nv_iald hx hb hK hP 0 rfl (by omega) (by decide) dX7_whyNotGround_16 ?_
    rw [show (mr n (nI g) sk mm) (3 + lv) = (mm (3 + lv)) from (mr_j (by omega))]
    refine lv_if_eq (tgt := 24) hx hb dX7_whyNotGround_17 (by decide) (fun c_17 => ?_) (fun c_17 => ?_)
    ·
      refine lv_iconst (v := nI 0) hx hb dX7_whyNotGround_24 (by decide) ?_
      exact R_i hx hb hr hlk dX7_whyNotGround_25 (by unfold wng; rw [if_neg (Nat.not_le.mpr c_5), if_pos c_17])
    ·
      refine lv_iconst (v := nI 2) hx hb dX7_whyNotGround_20 (by decide) ?_
      refine lv_goto (tgt := 25) hx hb dX7_whyNotGround_21 (by decide) ?_
      exact R_i hx hb hr hlk dX7_whyNotGround_25 (by unfold wng; rw [if_neg (Nat.not_le.mpr c_5), if_neg c_17])
  ·
    have c_5 : n ≤ lv := by omega
    refine lv_iconst (v := nI 1) hx hb dX7_whyNotGround_8 (by decide) ?_
    refine lv_goto (tgt := 25) hx hb dX7_whyNotGround_9 (by decide) ?_
    exact R_i hx hb hr hlk dX7_whyNotGround_25 (by unfold wng; rw [if_pos c_5])

set_option maxHeartbeats 4000000 in
set_option maxRecDepth 100000 in
theorem c_X7_lay (l : Launch) (G : GG) (r : Nat) (n : Nat) (g : Nat) (sk : Int32) (mm : Nat → Int32) (ix : Nat) (v : Int32) (h_ix : 3 ≤ ix ∧ ix < 131) : Met l yX7_lay wsX7_lay ({ frames := 0, cells := 0, slots := 0, locals := 0 } : Room) (va_Pc [.ref r, .int (nI ix), .int v] (PB G [(r, .inl (G.2 0, 131, .inl (mr n (nI g) sk mm)))])) (QW G (some (.int (mm ix))) [(r, .inl (G.2 0, 131, .inl (mr n (nI g) sk (upd mm ix v))))] (vA [(r, .inl (G.2 0, 131, .inl (mr n (nI g) sk mm)))])) 0 0 (vA [(r, .inl (G.2 0, 131, .inl (mr n (nI g) sk mm)))]) := by
  refine Met.go (cc := cX7_lay) (maxL := 4) (ret := (some .int)) (by decide) rfl (Nat.le_of_ble_eq_true rfl) ?_
  intro p e s m below meth c ls hx hb hr hml hown hts hlk hP hK hD hS hl
  have hown : s.vm.findClass RX7 = some m.cls := hown
  have hl : lv_has ls 4 [(0, .ref r), (1, .int (nI ix)), (2, .int v)] := hl
  refine lv_aload_n hx hb dX7_lay_0 rfl (lv_at hl 0 rfl) ?_
  refine lv_iload_n hx hb dX7_lay_1 rfl (lv_at hl 1 rfl) ?_
  refine nv_iald hx hb hK hP 0 rfl (by omega) (by decide) dX7_lay_2 ?_
  rw [show (mr n (nI g) sk mm) ix = (mm ix) from (mr_j (by omega))]
  refine lv_istore_n (lv' := [(3, .int (mm ix)), (0, .ref r), (1, .int (nI ix)), (2, .int v)]) hx hb dX7_lay_3 rfl hl (by decide) rfl (fun ls hl => ?_)
  refine lv_aload_n hx hb dX7_lay_4 rfl (lv_at hl 1 rfl) ?_
  refine lv_iload_n hx hb dX7_lay_5 rfl (lv_at hl 2 rfl) ?_
  refine lv_iload_n hx hb dX7_lay_6 rfl (lv_at hl 3 rfl) ?_
  refine nv_iast hx hb hK hP hD hS 0 rfl (v := v) rfl (by omega) (by decide) dX7_lay_7 (w3 := [(r, .inl (G.2 0, 131, .inl (mr n (nI g) sk (upd mm ix v))))]) (by rw [mr_uj (by omega)]; rfl) (fun H locs hP hD hS => ?_)
  refine lv_iload_n hx hb dX7_lay_8 rfl (lv_at hl 0 rfl) ?_
  exact W_i hx hb hr hlk dX7_lay_9 hP hS (rfl) (rfl)

set_option maxHeartbeats 4000000 in
set_option maxRecDepth 100000 in
theorem c_X7_lay_g (l : Launch) (G : GG) (r : Nat) (n : Nat) (g : Nat) (sk : Int32) (mm : Nat → Int32) (lv : Nat) (h_lv : lv < 16) : Met l yX7_lay wsX7_lay ({ frames := 0, cells := 0, slots := 0, locals := 0 } : Room) (va_Pc [.ref r, .int (nI 1), .int (nI lv)] (PB G [(r, .inl (G.2 0, 131, .inl (mr n (nI g) sk mm)))])) (QW G (some (.int (nI g))) [(r, .inl (G.2 0, 131, .inl (mr n (nI lv) sk mm)))] (vA [(r, .inl (G.2 0, 131, .inl (mr n (nI g) sk mm)))])) 0 0 (vA [(r, .inl (G.2 0, 131, .inl (mr n (nI g) sk mm)))]) := by
  refine Met.go (cc := cX7_lay) (maxL := 4) (ret := (some .int)) (by decide) rfl (Nat.le_of_ble_eq_true rfl) ?_
  intro p e s m below meth c ls hx hb hr hml hown hts hlk hP hK hD hS hl
  have hown : s.vm.findClass RX7 = some m.cls := hown
  have hl : lv_has ls 4 [(0, .ref r), (1, .int (nI 1)), (2, .int (nI lv))] := hl
  refine lv_aload_n hx hb dX7_lay_0 rfl (lv_at hl 0 rfl) ?_
  refine lv_iload_n hx hb dX7_lay_1 rfl (lv_at hl 1 rfl) ?_
  refine nv_iald hx hb hK hP 0 rfl (by omega) (by decide) dX7_lay_2 ?_
  rw [show (mr n (nI g) sk mm) 1 = nI g from mr_1]
  refine lv_istore_n (lv' := [(3, .int (nI g)), (0, .ref r), (1, .int (nI 1)), (2, .int (nI lv))]) hx hb dX7_lay_3 rfl hl (by decide) rfl (fun ls hl => ?_)
  refine lv_aload_n hx hb dX7_lay_4 rfl (lv_at hl 1 rfl) ?_
  refine lv_iload_n hx hb dX7_lay_5 rfl (lv_at hl 2 rfl) ?_
  refine lv_iload_n hx hb dX7_lay_6 rfl (lv_at hl 3 rfl) ?_
  refine nv_iast hx hb hK hP hD hS 0 rfl (v := nI lv) rfl (by omega) (by decide) dX7_lay_7 (w3 := [(r, .inl (G.2 0, 131, .inl (mr n (nI lv) sk mm)))]) (by rw [mr_u1]; rfl) (fun H locs hP hD hS => ?_)
  refine lv_iload_n hx hb dX7_lay_8 rfl (lv_at hl 0 rfl) ?_
  exact W_i hx hb hr hlk dX7_lay_9 hP hS (rfl) (rfl)

