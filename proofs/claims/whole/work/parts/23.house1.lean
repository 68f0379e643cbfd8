theorem in_c_X1_cell_X1 : ∀ w ∈ wsX10, w ∈ wsX1_cell := by decide +kernel
set_option maxHeartbeats 4000000 in
set_option maxRecDepth 100000 in
theorem c_X1_cell (l : Launch) (G : GG) (h : Nat) (hc : Nat) (n : Nat) (g : Nat) (sk : Int32) (f : Nat → Int32) (ro : Nat) (lv : Nat) (h_ro : ro < 9) (h_lv : lv < 16) : Met l yX1_cell wsX1_cell ({ frames := 0, cells := 0, slots := 0, locals := 0 } : Room) (va_Pc [.ref h, .int (nI ro), .int (nI lv)] (PB G [(h, .inr (1, [.ref hc, .int (nI n), .int (nI g), .int sk])), (hc, .inl (G.2 0, 144, .inl f))])) (QR (some (.int (f (ro * 16 + lv))))) 0 0 (fun _ => False) := by
  refine Met.go (cc := cX1_cell) (maxL := 3) (ret := (some .int)) (by decide) rfl (Nat.le_of_ble_eq_true rfl) ?_
  intro p e s m below meth c ls hx hb hr hml hown hts hlk hP hK hD hS hl
  have hown : s.vm.findClass RX1 = some m.cls := hown
  have hl : lv_has ls 3 [(0, .ref h), (1, .int (nI ro)), (2, .int (nI lv))] := hl
  refine lv_iload_n hx hb dX1_cell_0 rfl (lv_at hl 1 rfl) ?_
  refine b0_lt (tgt := 20) hx hb dX1_cell_1 (by decide) (nI_i (by omega)) (fun c_1 => False.elim (by omega)) (fun c_1 => ?_)
  refine lv_iload_n hx hb dX1_cell_4 rfl (lv_at hl 1 rfl) ?_
  refine lv_bipush (v := nI 9) hx hb dX1_cell_5 (by decide) ?_
  refine bi_ge (tgt := 20) hx hb dX1_cell_7 (by decide) (nI_i (by omega)) (nI_i (by omega)) (fun c_7 => False.elim (by omega)) (fun c_7 => ?_)
  refine lv_iload_n hx hb dX1_cell_10 rfl (lv_at hl 2 rfl) ?_
  refine b0_lt (tgt := 20) hx hb dX1_cell_11 (by decide) (nI_i (by omega)) (fun c_11 => False.elim (by omega)) (fun c_11 => ?_)
  refine lv_iload_n hx hb dX1_cell_14 rfl (lv_at hl 2 rfl) ?_
  refine lv_bipush (v := nI 16) hx hb dX1_cell_15 (by decide) ?_
  refine bi_lt (tgt := 22) hx hb dX1_cell_17 (by decide) (nI_i (by omega)) (nI_i (by omega)) (fun c_17 => ?_) (fun c_17 => False.elim (by omega))
  refine lv_aload_n hx hb dX1_cell_22 rfl (lv_at hl 0 rfl) ?_
  refine va_get (D := G.1) (ci := 1) (v := .ref hc) (C := RX1) (T := TX1) (N := 4) hx hb hts in_c_X1_cell_X1 hown hK.1 hP 0 rfl rfl 0 (by decide) (hts (.fieldLink RX1 11 "FloorPanels$House" "cells" "[I") (by decide +kernel)) (fun _ h9 => h9) rfl dX1_cell_23 ?_
  refine lv_iload_n hx hb dX1_cell_26 rfl (lv_at hl 1 rfl) ?_
  refine lv_bipush (v := nI 16) hx hb dX1_cell_27 (by decide) ?_
  refine nv_imul hx hb dX1_cell_29 ?_
  refine lv_iload_n hx hb dX1_cell_30 rfl (lv_at hl 2 rfl) ?_
  refine nv_iadd hx hb dX1_cell_31 ?_
  refine nv_iald hx hb hK hP 1 rfl (by omega) (by decide) dX1_cell_32 ?_
  exact R_i hx hb hr hlk dX1_cell_33 (rfl)

theorem in_c_X1_put_X1 : ∀ w ∈ wsX10, w ∈ wsX1_put := by decide +kernel
set_option maxHeartbeats 4000000 in
set_option maxRecDepth 100000 in
theorem c_X1_put (l : Launch) (G : GG) (h : Nat) (hc : Nat) (n : Nat) (g : Nat) (sk : Int32) (f : Nat → Int32) (ro : Nat) (lv : Nat) (v : Int32) (h_ro : ro < 9) (h_lv : lv < 16) : Met l yX1_put wsX1_put ({ frames := 0, cells := 0, slots := 0, locals := 0 } : Room) (va_Pc [.ref h, .int (nI ro), .int (nI lv), .int v] (PB G [(h, .inr (1, [.ref hc, .int (nI n), .int (nI g), .int sk])), (hc, .inl (G.2 0, 144, .inl f))])) (QW G (none) [(h, .inr (1, [.ref hc, .int (nI n), .int (nI g), .int sk])), (hc, .inl (G.2 0, 144, .inl (upd f (ro * 16 + lv) v)))] (vA [(h, .inr (1, [.ref hc, .int (nI n), .int (nI g), .int sk])), (hc, .inl (G.2 0, 144, .inl f))])) 0 0 (vA [(h, .inr (1, [.ref hc, .int (nI n), .int (nI g), .int sk])), (hc, .inl (G.2 0, 144, .inl f))]) := by
  refine Met.go (cc := cX1_put) (maxL := 4) (ret := none) (by decide) rfl (Nat.le_of_ble_eq_true rfl) ?_
  intro p e s m below meth c ls hx hb hr hml hown hts hlk hP hK hD hS hl
  have hown : s.vm.findClass RX1 = some m.cls := hown
  have hl : lv_has ls 4 [(0, .ref h), (1, .int (nI ro)), (2, .int (nI lv)), (3, .int v)] := hl
  refine lv_iload_n hx hb dX1_put_0 rfl (lv_at hl 1 rfl) ?_
  refine b0_lt (tgt := 32) hx hb dX1_put_1 (by decide) (nI_i (by omega)) (fun c_1 => False.elim (by omega)) (fun c_1 => ?_)
  refine lv_iload_n hx hb dX1_put_4 rfl (lv_at hl 1 rfl) ?_
  refine lv_bipush (v := nI 9) hx hb dX1_put_5 (by decide) ?_
  refine bi_ge (tgt := 32) hx hb dX1_put_7 (by decide) (nI_i (by omega)) (nI_i (by omega)) (fun c_7 => False.elim (by omega)) (fun c_7 => ?_)
  refine lv_iload_n hx hb dX1_put_10 rfl (lv_at hl 2 rfl) ?_
  refine b0_lt (tgt := 32) hx hb dX1_put_11 (by decide) (nI_i (by omega)) (fun c_11 => False.elim (by omega)) (fun c_11 => ?_)
  refine lv_iload_n hx hb dX1_put_14 rfl (lv_at hl 2 rfl) ?_
  refine lv_bipush (v := nI 16) hx hb dX1_put_15 (by decide) ?_
  refine bi_ge (tgt := 32) hx hb dX1_put_17 (by decide) (nI_i (by omega)) (nI_i (by omega)) (fun c_17 => False.elim (by omega)) (fun c_17 => ?_)
  refine lv_aload_n hx hb dX1_put_20 rfl (lv_at hl 0 rfl) ?_
  refine va_get (D := G.1) (ci := 1) (v := .ref hc) (C := RX1) (T := TX1) (N := 4) hx hb hts in_c_X1_put_X1 hown hK.1 hP 0 rfl rfl 0 (by decide) (hts (.fieldLink RX1 11 "FloorPanels$House" "cells" "[I") (by decide +kernel)) (fun _ h9 => h9) rfl dX1_put_21 ?_
  refine lv_iload_n hx hb dX1_put_24 rfl (lv_at hl 1 rfl) ?_
  refine lv_bipush (v := nI 16) hx hb dX1_put_25 (by decide) ?_
  refine nv_imul hx hb dX1_put_27 ?_
  refine lv_iload_n hx hb dX1_put_28 rfl (lv_at hl 2 rfl) ?_
  refine nv_iadd hx hb dX1_put_29 ?_
  refine lv_iload_n hx hb dX1_put_30 rfl (lv_at hl 3 rfl) ?_
  refine nv_iast hx hb hK hP hD hS 1 rfl (v := v) rfl (by omega) (by decide) dX1_put_31 (w3 := [(h, .inr (1, [.ref hc, .int (nI n), .int (nI g), .int sk])), (hc, .inl (G.2 0, 144, .inl (upd f ((ro * 16) + lv) v)))]) (rfl) (fun H locs hP hD hS => ?_)
  exact W_v hx hb hr hlk dX1_put_32 hP hS (rfl)

theorem in_c_X1_cell_0_X1 : ∀ w ∈ wsX10, w ∈ wsX1_cell := by decide +kernel
set_option maxHeartbeats 4000000 in
set_option maxRecDepth 100000 in
theorem c_X1_cell_0 (l : Launch) (G : GG) (h : Nat) (hc : Nat) (n : Nat) (g : Nat) (sk : Int32) (f : Nat → Int32) (lv : Nat) (h_lv : lv < 16) : Met l yX1_cell wsX1_cell ({ frames := 0, cells := 0, slots := 0, locals := 0 } : Room) (va_Pc [.ref h, .int (nI 0), .int (nI lv)] (PB G [(h, .inr (1, [.ref hc, .int (nI n), .int (nI g), .int sk])), (hc, .inl (G.2 0, 144, .inl f))])) (QR (some (.int (f lv)))) 0 0 (fun _ => False) := by
  refine Met.go (cc := cX1_cell) (maxL := 3) (ret := (some .int)) (by decide) rfl (Nat.le_of_ble_eq_true rfl) ?_
  intro p e s m below meth c ls hx hb hr hml hown hts hlk hP hK hD hS hl
  have hown : s.vm.findClass RX1 = some m.cls := hown
  have hl : lv_has ls 3 [(0, .ref h), (1, .int (nI 0)), (2, .int (nI lv))] := hl
  refine lv_iload_n hx hb dX1_cell_0 rfl (lv_at hl 1 rfl) ?_
  refine b0_lt (tgt := 20) hx hb dX1_cell_1 (by decide) (nI_i (by omega)) (fun c_1 => False.elim (by omega)) (fun c_1 => ?_)
  refine lv_iload_n hx hb dX1_cell_4 rfl (lv_at hl 1 rfl) ?_
  refine lv_bipush (v := nI 9) hx hb dX1_cell_5 (by decide) ?_
  refine bi_ge (tgt := 20) hx hb dX1_cell_7 (by decide) (nI_i (by omega)) (nI_i (by omega)) (fun c_7 => False.elim (by omega)) (fun c_7 => ?_)
  refine lv_iload_n hx hb dX1_cell_10 rfl (lv_at hl 2 rfl) ?_
  refine b0_lt (tgt := 20) hx hb dX1_cell_11 (by decide) (nI_i (by omega)) (fun c_11 => False.elim (by omega)) (fun c_11 => ?_)
  refine lv_iload_n hx hb dX1_cell_14 rfl (lv_at hl 2 rfl) ?_
  refine lv_bipush (v := nI 16) hx hb dX1_cell_15 (by decide) ?_
  refine bi_lt (tgt := 22) hx hb dX1_cell_17 (by decide) (nI_i (by omega)) (nI_i (by omega)) (fun c_17 => ?_) (fun c_17 => False.elim (by omega))
  refine lv_aload_n hx hb dX1_cell_22 rfl (lv_at hl 0 rfl) ?_
  refine va_get (D := G.1) (ci := 1) (v := .ref hc) (C := RX1) (T := TX1) (N := 4) hx hb hts in_c_X1_cell_0_X1 hown hK.1 hP 0 rfl rfl 0 (by decide) (hts (.fieldLink RX1 11 "FloorPanels$House" "cells" "[I") (by decide +kernel)) (fun _ h9 => h9) rfl dX1_cell_23 ?_
  refine lv_iload_n hx hb dX1_cell_26 rfl (lv_at hl 1 rfl) ?_
  refine lv_bipush (v := nI 16) hx hb dX1_cell_27 (by decide) ?_
  refine nv_imul hx hb dX1_cell_29 ?_
  refine lv_iload_n hx hb dX1_cell_30 rfl (lv_at hl 2 rfl) ?_
  refine nv_iadd0 hx hb dX1_cell_31 ?_
  refine nv_iald hx hb hK hP 1 rfl (by omega) (by decide) dX1_cell_32 ?_
  exact R_i hx hb hr hlk dX1_cell_33 (rfl)

theorem in_c_X1_put_0_X1 : ∀ w ∈ wsX10, w ∈ wsX1_put := by decide +kernel
set_option maxHeartbeats 4000000 in
set_option maxRecDepth 100000 in
theorem c_X1_put_0 (l : Launch) (G : GG) (h : Nat) (hc : Nat) (n : Nat) (g : Nat) (sk : Int32) (f : Nat → Int32) (lv : Nat) (v : Int32) (h_lv : lv < 16) : Met l yX1_put wsX1_put ({ frames := 0, cells := 0, slots := 0, locals := 0 } : Room) (va_Pc [.ref h, .int (nI 0), .int (nI lv), .int v] (PB G [(h, .inr (1, [.ref hc, .int (nI n), .int (nI g), .int sk])), (hc, .inl (G.2 0, 144, .inl f))])) (QW G (none) [(h, .inr (1, [.ref hc, .int (nI n), .int (nI g), .int sk])), (hc, .inl (G.2 0, 144, .inl (upd f lv v)))] (vA [(h, .inr (1, [.ref hc, .int (nI n), .int (nI g), .int sk])), (hc, .inl (G.2 0, 144, .inl f))])) 0 0 (vA [(h, .inr (1, [.ref hc, .int (nI n), .int (nI g), .int sk])), (hc, .inl (G.2 0, 144, .inl f))]) := by
  refine Met.go (cc := cX1_put) (maxL := 4) (ret := none) (by decide) rfl (Nat.le_of_ble_eq_true rfl) ?_
  intro p e s m below meth c ls hx hb hr hml hown hts hlk hP hK hD hS hl
  have hown : s.vm.findClass RX1 = some m.cls := hown
  have hl : lv_has ls 4 [(0, .ref h), (1, .int (nI 0)), (2, .int (nI lv)), (3, .int v)] := hl
  refine lv_iload_n hx hb dX1_put_0 rfl (lv_at hl 1 rfl) ?_
  refine b0_lt (tgt := 32) hx hb dX1_put_1 (by decide) (nI_i (by omega)) (fun c_1 => False.elim (by omega)) (fun c_1 => ?_)
  refine lv_iload_n hx hb dX1_put_4 rfl (lv_at hl 1 rfl) ?_
  refine lv_bipush (v := nI 9) hx hb dX1_put_5 (by decide) ?_
  refine bi_ge (tgt := 32) hx hb dX1_put_7 (by decide) (nI_i (by omega)) (nI_i (by omega)) (fun c_7 => False.elim (by omega)) (fun c_7 => ?_)
  refine lv_iload_n hx hb dX1_put_10 rfl (lv_at hl 2 rfl) ?_
  refine b0_lt (tgt := 32) hx hb dX1_put_11 (by decide) (nI_i (by omega)) (fun c_11 => False.elim (by omega)) (fun c_11 => ?_)
  refine lv_iload_n hx hb dX1_put_14 rfl (lv_at hl 2 rfl) ?_
  refine lv_bipush (v := nI 16) hx hb dX1_put_15 (by decide) ?_
  refine bi_ge (tgt := 32) hx hb dX1_put_17 (by decide) (nI_i (by omega)) (nI_i (by omega)) (fun c_17 => False.elim (by omega)) (fun c_17 => ?_)
  refine lv_aload_n hx hb dX1_put_20 rfl (lv_at hl 0 rfl) ?_
  refine va_get (D := G.1) (ci := 1) (v := .ref hc) (C := RX1) (T := TX1) (N := 4) hx hb hts in_c_X1_put_0_X1 hown hK.1 hP 0 rfl rfl 0 (by decide) (hts (.fieldLink RX1 11 "FloorPanels$House" "cells" "[I") (by decide +kernel)) (fun _ h9 => h9) rfl dX1_put_21 ?_
  refine lv_iload_n hx hb dX1_put_24 rfl (lv_at hl 1 rfl) ?_
  refine lv_bipush (v := nI 16) hx hb dX1_put_25 (by decide) ?_
  refine nv_imul hx hb dX1_put_27 ?_
  refine lv_iload_n hx hb dX1_put_28 rfl (lv_at hl 2 rfl) ?_
  refine nv_iadd0 hx hb dX1_put_29 ?_
  refine lv_iload_n hx hb dX1_put_30 rfl (lv_at hl 3 rfl) ?_
  refine nv_iast hx hb hK hP hD hS 1 rfl (v := v) rfl (by omega) (by decide) dX1_put_31 (w3 := [(h, .inr (1, [.ref hc, .int (nI n), .int (nI g), .int sk])), (hc, .inl (G.2 0, 144, .inl (upd f lv v)))]) (rfl) (fun H locs hP hD hS => ?_)
  exact W_v hx hb hr hlk dX1_put_32 hP hS (rfl)

set_option maxHeartbeats 4000000 in
set_option maxRecDepth 100000 in
theorem c_X1_isRight (l : Launch) (G : GG) (h : Nat) (hc : Nat) (n : Nat) (g : Nat) (sk : Int32) (f : Nat → Int32) (ro : Nat) (lv : Nat) (h_ro : ro < 9) (h_lv : lv < 16) : Met l yX1_isRight wsX1_isRight ({ frames := 1, cells := 0, slots := 0, locals := 22 } : Room) (va_Pc [.ref h, .int (nI ro), .int (nI lv)] (PB G [(h, .inr (1, [.ref hc, .int (nI n), .int (nI g), .int sk])), (hc, .inl (G.2 0, 144, .inl f))])) (QR (some (.int (zb (f (ro * 16 + lv) = f (16 + lv)))))) 0 0 (fun _ => False) := by
  refine Met.go (cc := cX1_isRight) (maxL := 3) (ret := (some .boolean)) (by decide) rfl (Nat.le_of_ble_eq_true rfl) ?_
  intro p e s m below meth c ls hx hb hr hml hown hts hlk hP hK hD hS hl
  have hown : s.vm.findClass RX1 = some m.cls := hown
  have hl : lv_has ls 3 [(0, .ref h), (1, .int (nI ro)), (2, .int (nI lv))] := hl
  refine lv_aload_n hx hb dX1_isRight_0 rfl (lv_at hl 0 rfl) ?_
  refine lv_iload_n hx hb dX1_isRight_1 rfl (lv_at hl 1 rfl) ?_
  refine lv_iload_n hx hb dX1_isRight_2 rfl (lv_at hl 2 rfl) ?_
  refine cRV (As := [.int (nI ro), .int (nI lv)]) (rest := []) (v := .int (f (ro * 16 + lv))) ⟨hx, hb, hml, hown, hts⟩ (c_X1_cell l G h hc n g sk f ro lv (by first | omega | assumption) (by first | omega | assumption)) (cwV 2 hts gX1_isRight_X1_cell rfl rfl rfl (by decide +kernel) ⟨Nat.le_of_ble_eq_true rfl, Nat.le_of_ble_eq_true rfl⟩) (preV_of hK hP hD [0, 1] (by decide) rfl (ci := 1) (q0 := 0) rfl rfl rfl) rfl hl.1 rfl (lv_room (Nat.le_of_ble_eq_true rfl)) dX1_isRight_3 ⟨Nat.zero_le _, Nat.zero_le _⟩ ?_
  refine lv_aload_n hx hb dX1_isRight_6 rfl (lv_at hl 0 rfl) ?_
  refine lv_iconst (v := nI 1) hx hb dX1_isRight_7 (by decide) ?_
  refine lv_iload_n hx hb dX1_isRight_8 rfl (lv_at hl 2 rfl) ?_
  refine cRV (As := [.int (nI 1), .int (nI lv)]) (rest := [.int (f (ro * 16 + lv))]) (v := .int (f (16 + lv))) ⟨hx, hb, hml, hown, hts⟩ (c_X1_cell l G h hc n g sk f 1 lv (by first | omega | assumption) (by first | omega | assumption)) (cwV 2 hts gX1_isRight_X1_cell rfl rfl rfl (by decide +kernel) ⟨Nat.le_of_ble_eq_true rfl, Nat.le_of_ble_eq_true rfl⟩) (preV_of hK hP hD [0, 1] (by decide) rfl (ci := 1) (q0 := 0) rfl rfl rfl) rfl hl.1 rfl (lv_room (Nat.le_of_ble_eq_true rfl)) dX1_isRight_9 ⟨Nat.zero_le _, Nat.zero_le _⟩ ?_
  refine lv_icmp_ne (tgt := 19) hx hb dX1_isRight_12 (by decide) (fun c_12 => ?_) (fun c_12 => ?_)
  ·
    refine lv_iconst (v := nI 0) hx hb dX1_isRight_19 (by decide) ?_
    exact R_z hx hb hr hlk dX1_isRight_20 ((zb_f (by first | omega | assumption | exact ⟨by assumption, by assumption⟩ | exact fun z_ => z_ (by assumption) | exact fun z_ => absurd z_.1 (by assumption) | exact fun z_ => absurd z_.2 (by assumption) | exact fun z_ => z_.1 (by assumption) | exact fun z_ => z_.2 (by assumption))).symm) zb_nar
  ·
    refine lv_iconst (v := nI 1) hx hb dX1_isRight_15 (by decide) ?_
    refine lv_goto (tgt := 20) hx hb dX1_isRight_16 (by decide) ?_
    exact R_z hx hb hr hlk dX1_isRight_20 ((zb_t (by first | omega | assumption | exact ⟨by assumption, by assumption⟩ | exact fun z_ => z_ (by assumption) | exact fun z_ => absurd z_.1 (by assumption) | exact fun z_ => absurd z_.2 (by assumption) | exact fun z_ => z_.1 (by assumption) | exact fun z_ => z_.2 (by assumption))).symm) zb_nar

theorem in_c_X1_wrongInRow_X1 : ∀ w ∈ wsX10, w ∈ wsX1_wrongInRow := by decide +kernel
set_option maxHeartbeats 4000000 in
set_option maxRecDepth 100000 in
theorem c_X1_wrongInRow (l : Launch) (G : GG) (h : Nat) (hc : Nat) (n : Nat) (g : Nat) (sk : Int32) (f : Nat → Int32) (ro : Nat) (h_ro : ro < 9) (h_n : n ≤ 16) : Met l yX1_wrongInRow wsX1_wrongInRow ({ frames := 2, cells := 0, slots := 0, locals := 44 } : Room) (va_Pc [.ref h, .int (nI ro)] (PB G [(h, .inr (1, [.ref hc, .int (nI n), .int (nI g), .int sk])), (hc, .inl (G.2 0, 144, .inl f))])) (QR (some (.int (nI (wr f ro n))))) 0 0 (fun _ => False) := by
  refine Met.go (cc := cX1_wrongInRow) (maxL := 4) (ret := (some .int)) (by decide) rfl (Nat.le_of_ble_eq_true rfl) ?_
  intro p e s m below meth c ls hx hb hr hml hown hts hlk hP hK hD hS hl
  have hown : s.vm.findClass RX1 = some m.cls := hown
  have hl : lv_has ls 4 [(0, .ref h), (1, .int (nI ro))] := hl
  refine lv_iconst (v := nI 0) hx hb dX1_wrongInRow_0 (by decide) ?_
  refine lv_istore_n (lv' := [(2, .int (nI 0)), (0, .ref h), (1, .int (nI ro))]) hx hb dX1_wrongInRow_1 rfl hl (by decide) rfl (fun ls hl => ?_)
  refine lv_iconst (v := nI 0) hx hb dX1_wrongInRow_2 (by decide) ?_
  refine lv_istore_n (lv' := [(3, .int (nI 0)), (2, .int (nI 0)), (0, .ref h), (1, .int (nI ro))]) hx hb dX1_wrongInRow_3 rfl hl (by decide) rfl (fun ls hl => ?_)
  have loop_4 : ∀ (k_ : Nat) (i : Nat) (h_i : i ≤ n) (_ : n - i < k_) (ls : Array Slot), lv_has ls 4 [(3, .int (nI i)), (2, .int (nI (ct (fun x_ => ¬ f (ro * 16 + x_) = f (16 + x_)) i))), (0, .ref h), (1, .int (nI ro))] → W p l e ({ frames := 2, cells := 0, slots := 0, locals := 44 } : Room) s m ([.ref h, .int (nI ro)] : List Value).toArray below meth c s.heap [] 0 0 (MQ below (QR (some (.int (nI (wr f ro n))))) ([.ref h, .int (nI ro)] : List Value).toArray s 0 0 (fun _ => False)) (F0 m 4 ls []) := by
    intro k_
    induction k_ with
    | zero => intro i h_i hk_; exact absurd hk_ (Nat.not_lt_zero _)
    | succ k_ ih_4 =>
      intro i h_i hk_ ls hl
      refine lv_iload_n hx hb dX1_wrongInRow_4 rfl (lv_at hl 0 rfl) ?_
      refine lv_aload_n hx hb dX1_wrongInRow_5 rfl (lv_at hl 2 rfl) ?_
      refine va_get (D := G.1) (ci := 1) (v := .int (nI n)) (C := RX1) (T := TX1) (N := 4) hx hb hts in_c_X1_wrongInRow_X1 hown hK.1 hP 0 rfl rfl 1 (by decide) (hts (.fieldLink RX1 15 "FloorPanels$House" "levels" "I") (by decide +kernel)) (fun _ h9 => h9) rfl dX1_wrongInRow_6 ?_
      refine bi_ge (tgt := 30) hx hb dX1_wrongInRow_9 (by decide) (nI_i (by omega)) (nI_i (by omega)) (fun c_9 => ?_) (fun c_9 => ?_)
      ·
        refine lv_iload_n hx hb dX1_wrongInRow_30 rfl (lv_at hl 1 rfl) ?_
        exact R_i hx hb hr hlk dX1_wrongInRow_31 (by rw [show i = n by omega]; rfl)
      ·
        refine lv_aload_n hx hb dX1_wrongInRow_12 rfl (lv_at hl 2 rfl) ?_
        refine lv_iload_n hx hb dX1_wrongInRow_13 rfl (lv_at hl 3 rfl) ?_
        refine lv_iload_n hx hb dX1_wrongInRow_14 rfl (lv_at hl 0 rfl) ?_
        refine cRV (As := [.int (nI ro), .int (nI i)]) (rest := []) (v := .int (zb (f (ro * 16 + i) = f (16 + i)))) ⟨hx, hb, hml, hown, hts⟩ (c_X1_isRight l G h hc n g sk f ro i (by first | omega | assumption) (by first | omega | assumption)) (cwV 2 hts gX1_wrongInRow_X1_isRight rfl rfl rfl (by decide +kernel) ⟨Nat.le_of_ble_eq_true rfl, Nat.le_of_ble_eq_true rfl⟩) (preV_of hK hP hD [0, 1] (by decide) rfl (ci := 1) (q0 := 0) rfl rfl rfl) rfl hl.1 rfl (lv_room (Nat.le_of_ble_eq_true rfl)) dX1_wrongInRow_15 ⟨Nat.zero_le _, Nat.zero_le _⟩ ?_
        refine bb_ne (tgt := 24) hx hb dX1_wrongInRow_18 (by decide) (fun c_18 => ?_) (fun c_18 => ?_)
        ·
          refine lv_iinc (v := nI (i + 1)) (lv' := [(3, .int (nI (i + 1))), (2, .int (nI (ct (fun x_ => ¬ f (ro * 16 + x_) = f (16 + x_)) i))), (0, .ref h), (1, .int (nI ro))]) hx hb dX1_wrongInRow_24 hl (k := 0) rfl (inc_n _ 1) (by decide) rfl (fun ls hl => ?_)
          refine lv_goto (tgt := 4) hx hb dX1_wrongInRow_27 (by decide) ?_
          exact ih_4 (i + 1) (by first | omega | assumption) (by omega) ls (lv_sub hl [0, 1, 2, 3] (by first | rfl | (rw [ct_t (by assumption)]; rfl) | (rw [ct_f (fun z_ => z_ (by assumption))]; rfl)))
        ·
          refine lv_iinc (v := nI (ct (fun x_ => ¬ f (ro * 16 + x_) = f (16 + x_)) i + 1)) (lv' := [(2, .int (nI (ct (fun x_ => ¬ f (ro * 16 + x_) = f (16 + x_)) i + 1))), (3, .int (nI i)), (0, .ref h), (1, .int (nI ro))]) hx hb dX1_wrongInRow_21 hl (k := 1) rfl (inc_n _ 1) (by decide) rfl (fun ls hl => ?_)
          refine lv_iinc (v := nI (i + 1)) (lv' := [(3, .int (nI (i + 1))), (2, .int (nI (ct (fun x_ => ¬ f (ro * 16 + x_) = f (16 + x_)) i + 1))), (0, .ref h), (1, .int (nI ro))]) hx hb dX1_wrongInRow_24 hl (k := 1) rfl (inc_n _ 1) (by decide) rfl (fun ls hl => ?_)
          refine lv_goto (tgt := 4) hx hb dX1_wrongInRow_27 (by decide) ?_
          exact ih_4 (i + 1) (by first | omega | assumption) (by omega) ls (lv_sub hl [0, 1, 2, 3] (by first | rfl | (rw [ct_t (by assumption)]; rfl) | (rw [ct_f (fun z_ => z_ (by assumption))]; rfl)))
  exact loop_4 (n - 0 + 1) 0 (by first | omega | assumption) (Nat.lt_succ_self _)  ls (lv_sub hl [0, 1, 2, 3] (by first | rfl | (rw [ct_t (by assumption)]; rfl) | (rw [ct_f (fun z_ => z_ (by assumption))]; rfl)))

theorem in_c_X1_levels_X1 : ∀ w ∈ wsX10, w ∈ wsX1_levels := by decide +kernel
set_option maxHeartbeats 4000000 in
set_option maxRecDepth 100000 in
theorem c_X1_levels (l : Launch) (G : GG) (h : Nat) (hc : Nat) (n : Nat) (g : Nat) (sk : Int32) (f : Nat → Int32)  : Met l yX1_levels wsX1_levels ({ frames := 0, cells := 0, slots := 0, locals := 0 } : Room) (va_Pc [.ref h] (PB G [(h, .inr (1, [.ref hc, .int (nI n), .int (nI g), .int sk])), (hc, .inl (G.2 0, 144, .inl f))])) (QR (some (.int (nI n)))) 0 0 (fun _ => False) := by
  refine Met.go (cc := cX1_levels) (maxL := 1) (ret := (some .int)) (by decide) rfl (Nat.le_of_ble_eq_true rfl) ?_
  intro p e s m below meth c ls hx hb hr hml hown hts hlk hP hK hD hS hl
  have hown : s.vm.findClass RX1 = some m.cls := hown
  have hl : lv_has ls 1 [(0, .ref h)] := hl
  refine lv_aload_n hx hb dX1_levels_0 rfl (lv_at hl 0 rfl) ?_
  refine va_get (D := G.1) (ci := 1) (v := .int (nI n)) (C := RX1) (T := TX1) (N := 4) hx hb hts in_c_X1_levels_X1 hown hK.1 hP 0 rfl rfl 1 (by decide) (hts (.fieldLink RX1 15 "FloorPanels$House" "levels" "I") (by decide +kernel)) (fun _ h9 => h9) rfl dX1_levels_1 ?_
  exact R_i hx hb hr hlk dX1_levels_4 (rfl)

theorem in_c_X1_groundLevel_X1 : ∀ w ∈ wsX10, w ∈ wsX1_groundLevel := by decide +kernel
set_option maxHeartbeats 4000000 in
set_option maxRecDepth 100000 in
theorem c_X1_groundLevel (l : Launch) (G : GG) (h : Nat) (hc : Nat) (n : Nat) (g : Nat) (sk : Int32) (f : Nat → Int32)  : Met l yX1_groundLevel wsX1_groundLevel ({ frames := 0, cells := 0, slots := 0, locals := 0 } : Room) (va_Pc [.ref h] (PB G [(h, .inr (1, [.ref hc, .int (nI n), .int (nI g), .int sk])), (hc, .inl (G.2 0, 144, .inl f))])) (QR (some (.int (nI g)))) 0 0 (fun _ => False) := by
  refine Met.go (cc := cX1_groundLevel) (maxL := 1) (ret := (some .int)) (by decide) rfl (Nat.le_of_ble_eq_true rfl) ?_
  intro p e s m below meth c ls hx hb hr hml hown hts hlk hP hK hD hS hl
  have hown : s.vm.findClass RX1 = some m.cls := hown
  have hl : lv_has ls 1 [(0, .ref h)] := hl
  refine lv_aload_n hx hb dX1_groundLevel_0 rfl (lv_at hl 0 rfl) ?_
  refine va_get (D := G.1) (ci := 1) (v := .int (nI g)) (C := RX1) (T := TX1) (N := 4) hx hb hts in_c_X1_groundLevel_X1 hown hK.1 hP 0 rfl rfl 2 (by decide) (hts (.fieldLink RX1 32 "FloorPanels$House" "groundLevel" "I") (by decide +kernel)) (fun _ h9 => h9) rfl dX1_groundLevel_1 ?_
  exact R_i hx hb hr hlk dX1_groundLevel_4 (rfl)

theorem in_c_X1_isFull_X1 : ∀ w ∈ wsX10, w ∈ wsX1_isFull := by decide +kernel
set_option maxHeartbeats 4000000 in
set_option maxRecDepth 100000 in
theorem c_X1_isFull (l : Launch) (G : GG) (h : Nat) (hc : Nat) (n : Nat) (g : Nat) (sk : Int32) (f : Nat → Int32) (h_n : n ≤ 16) : Met l yX1_isFull wsX1_isFull ({ frames := 0, cells := 0, slots := 0, locals := 0 } : Room) (va_Pc [.ref h] (PB G [(h, .inr (1, [.ref hc, .int (nI n), .int (nI g), .int sk])), (hc, .inl (G.2 0, 144, .inl f))])) (QR (some (.int (zb (16 ≤ n))))) 0 0 (fun _ => False) := by
  refine Met.go (cc := cX1_isFull) (maxL := 1) (ret := (some .boolean)) (by decide) rfl (Nat.le_of_ble_eq_true rfl) ?_
  intro p e s m below meth c ls hx hb hr hml hown hts hlk hP hK hD hS hl
  have hown : s.vm.findClass RX1 = some m.cls := hown
  have hl : lv_has ls 1 [(0, .ref h)] := hl
  refine lv_aload_n hx hb dX1_isFull_0 rfl (lv_at hl 0 rfl) ?_
  refine va_get (D := G.1) (ci := 1) (v := .int (nI n)) (C := RX1) (T := TX1) (N := 4) hx hb hts in_c_X1_isFull_X1 hown hK.1 hP 0 rfl rfl 1 (by decide) (hts (.fieldLink RX1 15 "FloorPanels$House" "levels" "I") (by decide +kernel)) (fun _ h9 => h9) rfl dX1_isFull_1 ?_
  refine lv_bipush (v := nI 16) hx hb dX1_isFull_4 (by decide) ?_
  refine bi_lt (tgt := 13) hx hb dX1_isFull_6 (by decide) (nI_i (by omega)) (nI_i (by omega)) (fun c_6 => ?_) (fun c_6 => ?_)
  ·
    refine lv_iconst (v := nI 0) hx hb dX1_isFull_13 (by decide) ?_
    exact R_z hx hb hr hlk dX1_isFull_14 ((zb_f (by first | omega | assumption | exact ⟨by assumption, by assumption⟩ | exact fun z_ => z_ (by assumption) | exact fun z_ => absurd z_.1 (by assumption) | exact fun z_ => absurd z_.2 (by assumption) | exact fun z_ => z_.1 (by assumption) | exact fun z_ => z_.2 (by assumption))).symm) zb_nar
  ·
    refine lv_iconst (v := nI 1) hx hb dX1_isFull_9 (by decide) ?_
    refine lv_goto (tgt := 14) hx hb dX1_isFull_10 (by decide) ?_
    exact R_z hx hb hr hlk dX1_isFull_14 ((zb_t (by first | omega | assumption | exact ⟨by assumption, by assumption⟩ | exact fun z_ => z_ (by assumption) | exact fun z_ => absurd z_.1 (by assumption) | exact fun z_ => absurd z_.2 (by assumption) | exact fun z_ => z_.1 (by assumption) | exact fun z_ => z_.2 (by assumption))).symm) zb_nar

theorem in_c_X1_hasLevel_X1 : ∀ w ∈ wsX10, w ∈ wsX1_hasLevel := by decide +kernel
set_option maxHeartbeats 4000000 in
set_option maxRecDepth 100000 in
theorem c_X1_hasLevel (l : Launch) (G : GG) (h : Nat) (hc : Nat) (n : Nat) (g : Nat) (sk : Int32) (f : Nat → Int32) (x : Int32) (h_n : n ≤ 16) : Met l yX1_hasLevel wsX1_hasLevel ({ frames := 0, cells := 0, slots := 0, locals := 0 } : Room) (va_Pc [.ref h, .int x] (PB G [(h, .inr (1, [.ref hc, .int (nI n), .int (nI g), .int sk])), (hc, .inl (G.2 0, 144, .inl f))])) (QR (some (.int (zb (0 ≤ x.toInt ∧ x.toInt < (n : Int)))))) 0 0 (fun _ => False) := by
  refine Met.go (cc := cX1_hasLevel) (maxL := 2) (ret := (some .boolean)) (by decide) rfl (Nat.le_of_ble_eq_true rfl) ?_
  intro p e s m below meth c ls hx hb hr hml hown hts hlk hP hK hD hS hl
  have hown : s.vm.findClass RX1 = some m.cls := hown
  have hl : lv_has ls 2 [(0, .ref h), (1, .int x)] := hl
  refine lv_iload_n hx hb dX1_hasLevel_0 rfl (lv_at hl 1 rfl) ?_
  refine b0_lt (tgt := 16) hx hb dX1_hasLevel_1 (by decide) (toI_r _) (fun c_1 => ?_) (fun c_1 => ?_)
  ·
    refine lv_iconst (v := nI 0) hx hb dX1_hasLevel_16 (by decide) ?_
    exact R_z hx hb hr hlk dX1_hasLevel_17 ((zb_f (by first | omega | assumption | exact ⟨by assumption, by assumption⟩ | exact fun z_ => z_ (by assumption) | exact fun z_ => absurd z_.1 (by assumption) | exact fun z_ => absurd z_.2 (by assumption) | exact fun z_ => z_.1 (by assumption) | exact fun z_ => z_.2 (by assumption))).symm) zb_nar
  ·
    refine lv_iload_n hx hb dX1_hasLevel_4 rfl (lv_at hl 1 rfl) ?_
    refine lv_aload_n hx hb dX1_hasLevel_5 rfl (lv_at hl 0 rfl) ?_
    refine va_get (D := G.1) (ci := 1) (v := .int (nI n)) (C := RX1) (T := TX1) (N := 4) hx hb hts in_c_X1_hasLevel_X1 hown hK.1 hP 0 rfl rfl 1 (by decide) (hts (.fieldLink RX1 15 "FloorPanels$House" "levels" "I") (by decide +kernel)) (fun _ h9 => h9) rfl dX1_hasLevel_6 ?_
    refine bi_ge (tgt := 16) hx hb dX1_hasLevel_9 (by decide) (toI_r _) (nI_i (by omega)) (fun c_9 => ?_) (fun c_9 => ?_)
    ·
      refine lv_iconst (v := nI 0) hx hb dX1_hasLevel_16 (by decide) ?_
      exact R_z hx hb hr hlk dX1_hasLevel_17 ((zb_f (by first | omega | assumption | exact ⟨by assumption, by assumption⟩ | exact fun z_ => z_ (by assumption) | exact fun z_ => absurd z_.1 (by assumption) | exact fun z_ => absurd z_.2 (by assumption) | exact fun z_ => z_.1 (by assumption) | exact fun z_ => z_.2 (by assumption))).symm) zb_nar
    ·
      refine lv_iconst (v := nI 1) hx hb dX1_hasLevel_12 (by decide) ?_
      refine lv_goto (tgt := 17) hx hb dX1_hasLevel_13 (by decide) ?_
      exact R_z hx hb hr hlk dX1_hasLevel_17 ((zb_t (by first | omega | assumption | exact ⟨by assumption, by assumption⟩ | exact fun z_ => z_ (by assumption) | exact fun z_ => absurd z_.1 (by assumption) | exact fun z_ => absurd z_.2 (by assumption) | exact fun z_ => z_.1 (by assumption) | exact fun z_ => z_.2 (by assumption))).symm) zb_nar

theorem in_c_X1_hasLevel_n_X1 : ∀ w ∈ wsX10, w ∈ wsX1_hasLevel := by decide +kernel
set_option maxHeartbeats 4000000 in
set_option maxRecDepth 100000 in
theorem c_X1_hasLevel_n (l : Launch) (G : GG) (h : Nat) (hc : Nat) (n : Nat) (g : Nat) (sk : Int32) (f : Nat → Int32) (x : Nat) (h_n : n ≤ 16) (h_x : x < 2147483648) : Met l yX1_hasLevel wsX1_hasLevel ({ frames := 0, cells := 0, slots := 0, locals := 0 } : Room) (va_Pc [.ref h, .int (nI x)] (PB G [(h, .inr (1, [.ref hc, .int (nI n), .int (nI g), .int sk])), (hc, .inl (G.2 0, 144, .inl f))])) (QR (some (.int (zb (x < n))))) 0 0 (fun _ => False) := by
  refine Met.go (cc := cX1_hasLevel) (maxL := 2) (ret := (some .boolean)) (by decide) rfl (Nat.le_of_ble_eq_true rfl) ?_
  intro p e s m below meth c ls hx hb hr hml hown hts hlk hP hK hD hS hl
  have hown : s.vm.findClass RX1 = some m.cls := hown
  have hl : lv_has ls 2 [(0, .ref h), (1, .int (nI x))] := hl
  refine lv_iload_n hx hb dX1_hasLevel_0 rfl (lv_at hl 1 rfl) ?_
  refine b0_lt (tgt := 16) hx hb dX1_hasLevel_1 (by decide) (nI_i (by omega)) (fun c_1 => False.elim (by omega)) (fun c_1 => ?_)
  refine lv_iload_n hx hb dX1_hasLevel_4 rfl (lv_at hl 1 rfl) ?_
  refine lv_aload_n hx hb dX1_hasLevel_5 rfl (lv_at hl 0 rfl) ?_
  refine va_get (D := G.1) (ci := 1) (v := .int (nI n)) (C := RX1) (T := TX1) (N := 4) hx hb hts in_c_X1_hasLevel_n_X1 hown hK.1 hP 0 rfl rfl 1 (by decide) (hts (.fieldLink RX1 15 "FloorPanels$House" "levels" "I") (by decide +kernel)) (fun _ h9 => h9) rfl dX1_hasLevel_6 ?_
  refine bi_ge (tgt := 16) hx hb dX1_hasLevel_9 (by decide) (nI_i (by omega)) (nI_i (by omega)) (fun c_9 => ?_) (fun c_9 => ?_)
  ·
    refine lv_iconst (v := nI 0) hx hb dX1_hasLevel_16 (by decide) ?_
    exact R_z hx hb hr hlk dX1_hasLevel_17 ((zb_f (by first | omega | assumption | exact ⟨by assumption, by assumption⟩ | exact fun z_ => z_ (by assumption) | exact fun z_ => absurd z_.1 (by assumption) | exact fun z_ => absurd z_.2 (by assumption) | exact fun z_ => z_.1 (by assumption) | exact fun z_ => z_.2 (by assumption))).symm) zb_nar
  ·
    refine lv_iconst (v := nI 1) hx hb dX1_hasLevel_12 (by decide) ?_
    refine lv_goto (tgt := 17) hx hb dX1_hasLevel_13 (by decide) ?_
    exact R_z hx hb hr hlk dX1_hasLevel_17 ((zb_t (by first | omega | assumption | exact ⟨by assumption, by assumption⟩ | exact fun z_ => z_ (by assumption) | exact fun z_ => absurd z_.1 (by assumption) | exact fun z_ => absurd z_.2 (by assumption) | exact fun z_ => z_.1 (by assumption) | exact fun z_ => z_.2 (by assumption))).symm) zb_nar

set_option maxHeartbeats 4000000 in
set_option maxRecDepth 100000 in
theorem c_X1_kindOf (l : Launch) (G : GG) (h : Nat) (hc : Nat) (n : Nat) (g : Nat) (sk : Int32) (f : Nat → Int32) (lv : Nat) (h_lv : lv < 16) : Met l yX1_kindOf wsX1_kindOf ({ frames := 1, cells := 0, slots := 0, locals := 22 } : Room) (va_Pc [.ref h, .int (nI lv)] (PB G [(h, .inr (1, [.ref hc, .int (nI n), .int (nI g), .int sk])), (hc, .inl (G.2 0, 144, .inl f))])) (QR (some (.int (f lv)))) 0 0 (fun _ => False) := by
  refine Met.go (cc := cX1_kindOf) (maxL := 2) (ret := (some .int)) (by decide) rfl (Nat.le_of_ble_eq_true rfl) ?_
  intro p e s m below meth c ls hx hb hr hml hown hts hlk hP hK hD hS hl
  have hown : s.vm.findClass RX1 = some m.cls := hown
  have hl : lv_has ls 2 [(0, .ref h), (1, .int (nI lv))] := hl
  refine lv_aload_n hx hb dX1_kindOf_0 rfl (lv_at hl 0 rfl) ?_
  refine lv_iconst (v := nI 0) hx hb dX1_kindOf_1 (by decide) ?_
  refine lv_iload_n hx hb dX1_kindOf_2 rfl (lv_at hl 1 rfl) ?_
  refine cRV (As := [.int (nI 0), .int (nI lv)]) (rest := []) (v := .int (f lv)) ⟨hx, hb, hml, hown, hts⟩ (c_X1_cell_0 l G h hc n g sk f lv (by first | omega | assumption)) (cwV 2 hts gX1_kindOf_X1_cell rfl rfl rfl (by decide +kernel) ⟨Nat.le_of_ble_eq_true rfl, Nat.le_of_ble_eq_true rfl⟩) (preV_of hK hP hD [0, 1] (by decide) rfl (ci := 1) (q0 := 0) rfl rfl rfl) rfl hl.1 rfl (lv_room (Nat.le_of_ble_eq_true rfl)) dX1_kindOf_3 ⟨Nat.zero_le _, Nat.zero_le _⟩ ?_
  exact R_i hx hb hr hlk dX1_kindOf_6 (rfl)

set_option maxHeartbeats 4000000 in
set_option maxRecDepth 100000 in
theorem c_X1_nameOf (l : Launch) (G : GG) (h : Nat) (hc : Nat) (n : Nat) (g : Nat) (sk : Int32) (f : Nat → Int32) (lv : Nat) (h_lv : lv < 16) : Met l yX1_nameOf wsX1_nameOf ({ frames := 1, cells := 0, slots := 0, locals := 22 } : Room) (va_Pc [.ref h, .int (nI lv)] (PB G [(h, .inr (1, [.ref hc, .int (nI n), .int (nI g), .int sk])), (hc, .inl (G.2 0, 144, .inl f))])) (QR (some (.int (f (16 + lv))))) 0 0 (fun _ => False) := by
  refine Met.go (cc := cX1_nameOf) (maxL := 2) (ret := (some .int)) (by decide) rfl (Nat.le_of_ble_eq_true rfl) ?_
  intro p e s m below meth c ls hx hb hr hml hown hts hlk hP hK hD hS hl
  have hown : s.vm.findClass RX1 = some m.cls := hown
  have hl : lv_has ls 2 [(0, .ref h), (1, .int (nI lv))] := hl
  refine lv_aload_n hx hb dX1_nameOf_0 rfl (lv_at hl 0 rfl) ?_
  refine lv_iconst (v := nI 1) hx hb dX1_nameOf_1 (by decide) ?_
  refine lv_iload_n hx hb dX1_nameOf_2 rfl (lv_at hl 1 rfl) ?_
  refine cRV (As := [.int (nI 1), .int (nI lv)]) (rest := []) (v := .int (f (16 + lv))) ⟨hx, hb, hml, hown, hts⟩ (c_X1_cell l G h hc n g sk f 1 lv (by first | omega | assumption) (by first | omega | assumption)) (cwV 2 hts gX1_nameOf_X1_cell rfl rfl rfl (by decide +kernel) ⟨Nat.le_of_ble_eq_true rfl, Nat.le_of_ble_eq_true rfl⟩) (preV_of hK hP hD [0, 1] (by decide) rfl (ci := 1) (q0 := 0) rfl rfl rfl) rfl hl.1 rfl (lv_room (Nat.le_of_ble_eq_true rfl)) dX1_nameOf_3 ⟨Nat.zero_le _, Nat.zero_le _⟩ ?_
  exact R_i hx hb hr hlk dX1_nameOf_6 (rfl)

set_option maxHeartbeats 4000000 in
set_option maxRecDepth 100000 in
theorem c_X1_hasName (l : Launch) (G : GG) (h : Nat) (hc : Nat) (n : Nat) (g : Nat) (sk : Int32) (f : Nat → Int32) (lv : Nat) (h_lv : lv < 16) : Met l yX1_hasName wsX1_hasName ({ frames := 1, cells := 0, slots := 0, locals := 22 } : Room) (va_Pc [.ref h, .int (nI lv)] (PB G [(h, .inr (1, [.ref hc, .int (nI n), .int (nI g), .int sk])), (hc, .inl (G.2 0, 144, .inl f))])) (QR (some (.int (zb (¬ f (16 + lv) = -1))))) 0 0 (fun _ => False) := by
  refine Met.go (cc := cX1_hasName) (maxL := 2) (ret := (some .boolean)) (by decide) rfl (Nat.le_of_ble_eq_true rfl) ?_
  intro p e s m below meth c ls hx hb hr hml hown hts hlk hP hK hD hS hl
  have hown : s.vm.findClass RX1 = some m.cls := hown
  have hl : lv_has ls 2 [(0, .ref h), (1, .int (nI lv))] := hl
  refine lv_aload_n hx hb dX1_hasName_0 rfl (lv_at hl 0 rfl) ?_
  refine lv_iconst (v := nI 1) hx hb dX1_hasName_1 (by decide) ?_
  refine lv_iload_n hx hb dX1_hasName_2 rfl (lv_at hl 1 rfl) ?_
  refine cRV (As := [.int (nI 1), .int (nI lv)]) (rest := []) (v := .int (f (16 + lv))) ⟨hx, hb, hml, hown, hts⟩ (c_X1_cell l G h hc n g sk f 1 lv (by first | omega | assumption) (by first | omega | assumption)) (cwV 2 hts gX1_hasName_X1_cell rfl rfl rfl (by decide +kernel) ⟨Nat.le_of_ble_eq_true rfl, Nat.le_of_ble_eq_true rfl⟩) (preV_of hK hP hD [0, 1] (by decide) rfl (ci := 1) (q0 := 0) rfl rfl rfl) rfl hl.1 rfl (lv_room (Nat.le_of_ble_eq_true rfl)) dX1_hasName_3 ⟨Nat.zero_le _, Nat.zero_le _⟩ ?_
  refine lv_iconst (v := (-1)) hx hb dX1_hasName_6 (by decide) ?_
  refine lv_icmp_eq (tgt := 14) hx hb dX1_hasName_7 (by decide) (fun c_7 => ?_) (fun c_7 => ?_)
  ·
    refine lv_iconst (v := nI 0) hx hb dX1_hasName_14 (by decide) ?_
    exact R_z hx hb hr hlk dX1_hasName_15 ((zb_f (by first | omega | assumption | exact ⟨by assumption, by assumption⟩ | exact fun z_ => z_ (by assumption) | exact fun z_ => absurd z_.1 (by assumption) | exact fun z_ => absurd z_.2 (by assumption) | exact fun z_ => z_.1 (by assumption) | exact fun z_ => z_.2 (by assumption))).symm) zb_nar
  ·
    refine lv_iconst (v := nI 1) hx hb dX1_hasName_10 (by decide) ?_
    refine lv_goto (tgt := 15) hx hb dX1_hasName_11 (by decide) ?_
    exact R_z hx hb hr hlk dX1_hasName_15 ((zb_t (by first | omega | assumption | exact ⟨by assumption, by assumption⟩ | exact fun z_ => z_ (by assumption) | exact fun z_ => absurd z_.1 (by assumption) | exact fun z_ => absurd z_.2 (by assumption) | exact fun z_ => z_.1 (by assumption) | exact fun z_ => z_.2 (by assumption))).symm) zb_nar

set_option maxHeartbeats 4000000 in
set_option maxRecDepth 100000 in
theorem c_X1_signAt (l : Launch) (G : GG) (h : Nat) (hc : Nat) (n : Nat) (g : Nat) (sk : Int32) (f : Nat → Int32) (lv : Nat) (h_lv : lv < 16) : Met l yX1_signAt wsX1_signAt ({ frames := 1, cells := 0, slots := 0, locals := 22 } : Room) (va_Pc [.ref h, .int (nI lv)] (PB G [(h, .inr (1, [.ref hc, .int (nI n), .int (nI g), .int sk])), (hc, .inl (G.2 0, 144, .inl f))])) (QR (some (.int (f (32 + lv))))) 0 0 (fun _ => False) := by
  refine Met.go (cc := cX1_signAt) (maxL := 2) (ret := (some .int)) (by decide) rfl (Nat.le_of_ble_eq_true rfl) ?_
  intro p e s m below meth c ls hx hb hr hml hown hts hlk hP hK hD hS hl
  have hown : s.vm.findClass RX1 = some m.cls := hown
  have hl : lv_has ls 2 [(0, .ref h), (1, .int (nI lv))] := hl
  refine lv_aload_n hx hb dX1_signAt_0 rfl (lv_at hl 0 rfl) ?_
  refine lv_iconst (v := nI 2) hx hb dX1_signAt_1 (by decide) ?_
  refine lv_iload_n hx hb dX1_signAt_2 rfl (lv_at hl 1 rfl) ?_
  refine cRV (As := [.int (nI 2), .int (nI lv)]) (rest := []) (v := .int (f (32 + lv))) ⟨hx, hb, hml, hown, hts⟩ (c_X1_cell l G h hc n g sk f 2 lv (by first | omega | assumption) (by first | omega | assumption)) (cwV 2 hts gX1_signAt_X1_cell rfl rfl rfl (by decide +kernel) ⟨Nat.le_of_ble_eq_true rfl, Nat.le_of_ble_eq_true rfl⟩) (preV_of hK hP hD [0, 1] (by decide) rfl (ci := 1) (q0 := 0) rfl rfl rfl) rfl hl.1 rfl (lv_room (Nat.le_of_ble_eq_true rfl)) dX1_signAt_3 ⟨Nat.zero_le _, Nat.zero_le _⟩ ?_
  exact R_i hx hb hr hlk dX1_signAt_6 (rfl)

set_option maxHeartbeats 4000000 in
set_option maxRecDepth 100000 in
theorem c_X1_buttonAt (l : Launch) (G : GG) (h : Nat) (hc : Nat) (n : Nat) (g : Nat) (sk : Int32) (f : Nat → Int32) (ca : Nat) (lv : Nat) (h_ca : ca < 3) (h_lv : lv < 16) : Met l yX1_buttonAt wsX1_buttonAt ({ frames := 1, cells := 0, slots := 0, locals := 22 } : Room) (va_Pc [.ref h, .int (nI ca), .int (nI lv)] (PB G [(h, .inr (1, [.ref hc, .int (nI n), .int (nI g), .int sk])), (hc, .inl (G.2 0, 144, .inl f))])) (QR (some (.int (f ((3 + ca) * 16 + lv))))) 0 0 (fun _ => False) := by
  refine Met.go (cc := cX1_buttonAt) (maxL := 3) (ret := (some .int)) (by decide) rfl (Nat.le_of_ble_eq_true rfl) ?_
  intro p e s m below meth c ls hx hb hr hml hown hts hlk hP hK hD hS hl
  have hown : s.vm.findClass RX1 = some m.cls := hown
  have hl : lv_has ls 3 [(0, .ref h), (1, .int (nI ca)), (2, .int (nI lv))] := hl
  refine lv_aload_n hx hb dX1_buttonAt_0 rfl (lv_at hl 0 rfl) ?_
  refine lv_iconst (v := nI 3) hx hb dX1_buttonAt_1 (by decide) ?_
  refine lv_iload_n hx hb dX1_buttonAt_2 rfl (lv_at hl 1 rfl) ?_
  refine nv_iadd hx hb dX1_buttonAt_3 ?_
  refine lv_iload_n hx hb dX1_buttonAt_4 rfl (lv_at hl 2 rfl) ?_
  refine cRV (As := [.int (nI (3 + ca)), .int (nI lv)]) (rest := []) (v := .int (f ((3 + ca) * 16 + lv))) ⟨hx, hb, hml, hown, hts⟩ (c_X1_cell l G h hc n g sk f (3 + ca) lv (by first | omega | assumption) (by first | omega | assumption)) (cwV 2 hts gX1_buttonAt_X1_cell rfl rfl rfl (by decide +kernel) ⟨Nat.le_of_ble_eq_true rfl, Nat.le_of_ble_eq_true rfl⟩) (preV_of hK hP hD [0, 1] (by decide) rfl (ci := 1) (q0 := 0) rfl rfl rfl) rfl hl.1 rfl (lv_room (Nat.le_of_ble_eq_true rfl)) dX1_buttonAt_5 ⟨Nat.zero_le _, Nat.zero_le _⟩ ?_
  exact R_i hx hb hr hlk dX1_buttonAt_8 (rfl)

set_option maxHeartbeats 4000000 in
set_option maxRecDepth 100000 in
theorem c_X1_isServed (l : Launch) (G : GG) (h : Nat) (hc : Nat) (n : Nat) (g : Nat) (sk : Int32) (f : Nat → Int32) (ca : Nat) (lv : Nat) (h_ca : ca < 3) (h_lv : lv < 16) : Met l yX1_isServed wsX1_isServed ({ frames := 1, cells := 0, slots := 0, locals := 22 } : Room) (va_Pc [.ref h, .int (nI ca), .int (nI lv)] (PB G [(h, .inr (1, [.ref hc, .int (nI n), .int (nI g), .int sk])), (hc, .inl (G.2 0, 144, .inl f))])) (QR (some (.int (zb (f ((6 + ca) * 16 + lv) = 1))))) 0 0 (fun _ => False) := by
  refine Met.go (cc := cX1_isServed) (maxL := 3) (ret := (some .boolean)) (by decide) rfl (Nat.le_of_ble_eq_true rfl) ?_
  intro p e s m below meth c ls hx hb hr hml hown hts hlk hP hK hD hS hl
  have hown : s.vm.findClass RX1 = some m.cls := hown
  have hl : lv_has ls 3 [(0, .ref h), (1, .int (nI ca)), (2, .int (nI lv))] := hl
  refine lv_aload_n hx hb dX1_isServed_0 rfl (lv_at hl 0 rfl) ?_
  refine lv_bipush (v := nI 6) hx hb dX1_isServed_1 (by decide) ?_
  refine lv_iload_n hx hb dX1_isServed_3 rfl (lv_at hl 1 rfl) ?_
  refine nv_iadd hx hb dX1_isServed_4 ?_
  refine lv_iload_n hx hb dX1_isServed_5 rfl (lv_at hl 2 rfl) ?_
  refine cRV (As := [.int (nI (6 + ca)), .int (nI lv)]) (rest := []) (v := .int (f ((6 + ca) * 16 + lv))) ⟨hx, hb, hml, hown, hts⟩ (c_X1_cell l G h hc n g sk f (6 + ca) lv (by first | omega | assumption) (by first | omega | assumption)) (cwV 2 hts gX1_isServed_X1_cell rfl rfl rfl (by decide +kernel) ⟨Nat.le_of_ble_eq_true rfl, Nat.le_of_ble_eq_true rfl⟩) (preV_of hK hP hD [0, 1] (by decide) rfl (ci := 1) (q0 := 0) rfl rfl rfl) rfl hl.1 rfl (lv_room (Nat.le_of_ble_eq_true rfl)) dX1_isServed_6 ⟨Nat.zero_le _, Nat.zero_le _⟩ ?_
  refine lv_iconst (v := nI 1) hx hb dX1_isServed_9 (by decide) ?_
  refine lv_icmp_ne (tgt := 17) hx hb dX1_isServed_10 (by decide) (fun c_10 => ?_) (fun c_10 => ?_)
  ·
    refine lv_iconst (v := nI 0) hx hb dX1_isServed_17 (by decide) ?_
    exact R_z hx hb hr hlk dX1_isServed_18 ((zb_f (by first | omega | assumption | exact ⟨by assumption, by assumption⟩ | exact fun z_ => z_ (by assumption) | exact fun z_ => absurd z_.1 (by assumption) | exact fun z_ => absurd z_.2 (by assumption) | exact fun z_ => z_.1 (by assumption) | exact fun z_ => z_.2 (by assumption))).symm) zb_nar
  ·
    refine lv_iconst (v := nI 1) hx hb dX1_isServed_13 (by decide) ?_
    refine lv_goto (tgt := 18) hx hb dX1_isServed_14 (by decide) ?_
    exact R_z hx hb hr hlk dX1_isServed_18 ((zb_t (by first | omega | assumption | exact ⟨by assumption, by assumption⟩ | exact fun z_ => z_ (by assumption) | exact fun z_ => absurd z_.1 (by assumption) | exact fun z_ => absurd z_.2 (by assumption) | exact fun z_ => z_.1 (by assumption) | exact fun z_ => z_.2 (by assumption))).symm) zb_nar

set_option maxHeartbeats 4000000 in
set_option maxRecDepth 100000 in
theorem c_X1_isStopOf (l : Launch) (G : GG) (h : Nat) (hc : Nat) (n : Nat) (g : Nat) (sk : Int32) (f : Nat → Int32) (ca : Nat) (lv : Nat) (h_ca : ca < 3) (h_lv : lv < 16) : Met l yX1_isStopOf wsX1_isStopOf ({ frames := 1, cells := 0, slots := 0, locals := 22 } : Room) (va_Pc [.ref h, .int (nI ca), .int (nI lv)] (PB G [(h, .inr (1, [.ref hc, .int (nI n), .int (nI g), .int sk])), (hc, .inl (G.2 0, 144, .inl f))])) (QR (some (.int (zb (¬ f (16 + lv) = -1 ∧ f ((6 + ca) * 16 + lv) = 1))))) 0 0 (fun _ => False) := by
  refine Met.go (cc := cX1_isStopOf) (maxL := 3) (ret := (some .boolean)) (by decide) rfl (Nat.le_of_ble_eq_true rfl) ?_
  intro p e s m below meth c ls hx hb hr hml hown hts hlk hP hK hD hS hl
  have hown : s.vm.findClass RX1 = some m.cls := hown
  have hl : lv_has ls 3 [(0, .ref h), (1, .int (nI ca)), (2, .int (nI lv))] := hl
  refine lv_aload_n hx hb dX1_isStopOf_0 rfl (lv_at hl 0 rfl) ?_
  refine lv_iconst (v := nI 1) hx hb dX1_isStopOf_1 (by decide) ?_
  refine lv_iload_n hx hb dX1_isStopOf_2 rfl (lv_at hl 2 rfl) ?_
  refine cRV (As := [.int (nI 1), .int (nI lv)]) (rest := []) (v := .int (f (16 + lv))) ⟨hx, hb, hml, hown, hts⟩ (c_X1_cell l G h hc n g sk f 1 lv (by first | omega | assumption) (by first | omega | assumption)) (cwV 2 hts gX1_isStopOf_X1_cell rfl rfl rfl (by decide +kernel) ⟨Nat.le_of_ble_eq_true rfl, Nat.le_of_ble_eq_true rfl⟩) (preV_of hK hP hD [0, 1] (by decide) rfl (ci := 1) (q0 := 0) rfl rfl rfl) rfl hl.1 rfl (lv_room (Nat.le_of_ble_eq_true rfl)) dX1_isStopOf_3 ⟨Nat.zero_le _, Nat.zero_le _⟩ ?_
  refine lv_iconst (v := (-1)) hx hb dX1_isStopOf_6 (by decide) ?_
  refine lv_icmp_eq (tgt := 27) hx hb dX1_isStopOf_7 (by decide) (fun c_7 => ?_) (fun c_7 => ?_)
  ·
    refine lv_iconst (v := nI 0) hx hb dX1_isStopOf_27 (by decide) ?_
    exact R_z hx hb hr hlk dX1_isStopOf_28 ((zb_f (by first | omega | assumption | exact ⟨by assumption, by assumption⟩ | exact fun z_ => z_ (by assumption) | exact fun z_ => absurd z_.1 (by assumption) | exact fun z_ => absurd z_.2 (by assumption) | exact fun z_ => z_.1 (by assumption) | exact fun z_ => z_.2 (by assumption))).symm) zb_nar
  ·
    refine lv_aload_n hx hb dX1_isStopOf_10 rfl (lv_at hl 0 rfl) ?_
    refine lv_bipush (v := nI 6) hx hb dX1_isStopOf_11 (by decide) ?_
    refine lv_iload_n hx hb dX1_isStopOf_13 rfl (lv_at hl 1 rfl) ?_
    refine nv_iadd hx hb dX1_isStopOf_14 ?_
    refine lv_iload_n hx hb dX1_isStopOf_15 rfl (lv_at hl 2 rfl) ?_
    refine cRV (As := [.int (nI (6 + ca)), .int (nI lv)]) (rest := []) (v := .int (f ((6 + ca) * 16 + lv))) ⟨hx, hb, hml, hown, hts⟩ (c_X1_cell l G h hc n g sk f (6 + ca) lv (by first | omega | assumption) (by first | omega | assumption)) (cwV 2 hts gX1_isStopOf_X1_cell rfl rfl rfl (by decide +kernel) ⟨Nat.le_of_ble_eq_true rfl, Nat.le_of_ble_eq_true rfl⟩) (preV_of hK hP hD [0, 1] (by decide) rfl (ci := 1) (q0 := 0) rfl rfl rfl) rfl hl.1 rfl (lv_room (Nat.le_of_ble_eq_true rfl)) dX1_isStopOf_16 ⟨Nat.zero_le _, Nat.zero_le _⟩ ?_
    refine lv_iconst (v := nI 1) hx hb dX1_isStopOf_19 (by decide) ?_
    refine lv_icmp_ne (tgt := 27) hx hb dX1_isStopOf_20 (by decide) (fun c_20 => ?_) (fun c_20 => ?_)
    ·
      refine lv_iconst (v := nI 0) hx hb dX1_isStopOf_27 (by decide) ?_
      exact R_z hx hb hr hlk dX1_isStopOf_28 ((zb_f (by first | omega | assumption | exact ⟨by assumption, by assumption⟩ | exact fun z_ => z_ (by assumption) | exact fun z_ => absurd z_.1 (by assumption) | exact fun z_ => absurd z_.2 (by assumption) | exact fun z_ => z_.1 (by assumption) | exact fun z_ => z_.2 (by assumption))).symm) zb_nar
    ·
      refine lv_iconst (v := nI 1) hx hb dX1_isStopOf_23 (by decide) ?_
      refine lv_goto (tgt := 28) hx hb dX1_isStopOf_24 (by decide) ?_
      exact R_z hx hb hr hlk dX1_isStopOf_28 ((zb_t (by first | omega | assumption | exact ⟨by assumption, by assumption⟩ | exact fun z_ => z_ (by assumption) | exact fun z_ => absurd z_.1 (by assumption) | exact fun z_ => absurd z_.2 (by assumption) | exact fun z_ => z_.1 (by assumption) | exact fun z_ => z_.2 (by assumption))).symm) zb_nar

set_option maxHeartbeats 4000000 in
set_option maxRecDepth 100000 in
theorem c_X1_isSignRight (l : Launch) (G : GG) (h : Nat) (hc : Nat) (n : Nat) (g : Nat) (sk : Int32) (f : Nat → Int32) (lv : Nat) (h_lv : lv < 16) : Met l yX1_isSignRight wsX1_isSignRight ({ frames := 2, cells := 0, slots := 0, locals := 44 } : Room) (va_Pc [.ref h, .int (nI lv)] (PB G [(h, .inr (1, [.ref hc, .int (nI n), .int (nI g), .int sk])), (hc, .inl (G.2 0, 144, .inl f))])) (QR (some (.int (zb (f (32 + lv) = f (16 + lv)))))) 0 0 (fun _ => False) := by
  refine Met.go (cc := cX1_isSignRight) (maxL := 2) (ret := (some .boolean)) (by decide) rfl (Nat.le_of_ble_eq_true rfl) ?_
  intro p e s m below meth c ls hx hb hr hml hown hts hlk hP hK hD hS hl
  have hown : s.vm.findClass RX1 = some m.cls := hown
  have hl : lv_has ls 2 [(0, .ref h), (1, .int (nI lv))] := hl
  refine lv_aload_n hx hb dX1_isSignRight_0 rfl (lv_at hl 0 rfl) ?_
  refine lv_iconst (v := nI 2) hx hb dX1_isSignRight_1 (by decide) ?_
  refine lv_iload_n hx hb dX1_isSignRight_2 rfl (lv_at hl 1 rfl) ?_
  refine cRV (As := [.int (nI 2), .int (nI lv)]) (rest := []) (v := .int (zb (f (32 + lv) = f (16 + lv)))) ⟨hx, hb, hml, hown, hts⟩ (c_X1_isRight l G h hc n g sk f 2 lv (by first | omega | assumption) (by first | omega | assumption)) (cwV 2 hts gX1_isSignRight_X1_isRight rfl rfl rfl (by decide +kernel) ⟨Nat.le_of_ble_eq_true rfl, Nat.le_of_ble_eq_true rfl⟩) (preV_of hK hP hD [0, 1] (by decide) rfl (ci := 1) (q0 := 0) rfl rfl rfl) rfl hl.1 rfl (lv_room (Nat.le_of_ble_eq_true rfl)) dX1_isSignRight_3 ⟨Nat.zero_le _, Nat.zero_le _⟩ ?_
  exact R_z hx hb hr hlk dX1_isSignRight_6 (rfl) zb_nar

set_option maxHeartbeats 4000000 in
set_option maxRecDepth 100000 in
theorem c_X1_isButtonRight (l : Launch) (G : GG) (h : Nat) (hc : Nat) (n : Nat) (g : Nat) (sk : Int32) (f : Nat → Int32) (ca : Nat) (lv : Nat) (h_ca : ca < 3) (h_lv : lv < 16) : Met l yX1_isButtonRight wsX1_isButtonRight ({ frames := 2, cells := 0, slots := 0, locals := 44 } : Room) (va_Pc [.ref h, .int (nI ca), .int (nI lv)] (PB G [(h, .inr (1, [.ref hc, .int (nI n), .int (nI g), .int sk])), (hc, .inl (G.2 0, 144, .inl f))])) (QR (some (.int (zb (f ((3 + ca) * 16 + lv) = f (16 + lv)))))) 0 0 (fun _ => False) := by
  refine Met.go (cc := cX1_isButtonRight) (maxL := 3) (ret := (some .boolean)) (by decide) rfl (Nat.le_of_ble_eq_true rfl) ?_
  intro p e s m below meth c ls hx hb hr hml hown hts hlk hP hK hD hS hl
  have hown : s.vm.findClass RX1 = some m.cls := hown
  have hl : lv_has ls 3 [(0, .ref h), (1, .int (nI ca)), (2, .int (nI lv))] := hl
  refine lv_aload_n hx hb dX1_isButtonRight_0 rfl (lv_at hl 0 rfl) ?_
  refine lv_iconst (v := nI 3) hx hb dX1_isButtonRight_1 (by decide) ?_
  refine lv_iload_n hx hb dX1_isButtonRight_2 rfl (lv_at hl 1 rfl) ?_
  refine nv_iadd hx hb dX1_isButtonRight_3 ?_
  refine lv_iload_n hx hb dX1_isButtonRight_4 rfl (lv_at hl 2 rfl) ?_
  refine cRV (As := [.int (nI (3 + ca)), .int (nI lv)]) (rest := []) (v := .int (zb (f ((3 + ca) * 16 + lv) = f (16 + lv)))) ⟨hx, hb, hml, hown, hts⟩ (c_X1_isRight l G h hc n g sk f (3 + ca) lv (by first | omega | assumption) (by first | omega | assumption)) (cwV 2 hts gX1_isButtonRight_X1_isRight rfl rfl rfl (by decide +kernel) ⟨Nat.le_of_ble_eq_true rfl, Nat.le_of_ble_eq_true rfl⟩) (preV_of hK hP hD [0, 1] (by decide) rfl (ci := 1) (q0 := 0) rfl rfl rfl) rfl hl.1 rfl (lv_room (Nat.le_of_ble_eq_true rfl)) dX1_isButtonRight_5 ⟨Nat.zero_le _, Nat.zero_le _⟩ ?_
  exact R_z hx hb hr hlk dX1_isButtonRight_8 (rfl) zb_nar

theorem in_c_X1_levelNamed_X1 : ∀ w ∈ wsX10, w ∈ wsX1_levelNamed := by decide +kernel
set_option maxHeartbeats 4000000 in
set_option maxRecDepth 100000 in
theorem c_X1_levelNamed (l : Launch) (G : GG) (h : Nat) (hc : Nat) (n : Nat) (g : Nat) (sk : Int32) (f : Nat → Int32) (na : Int32) (k : Nat) (h_n : n ≤ 16) (h_k : k < 2147483648) : Met l yX1_levelNamed wsX1_levelNamed ({ frames := 2, cells := 0, slots := 0, locals := 43 } : Room) (va_Pc [.ref h, .int na, .int (nI k)] (PB G [(h, .inr (1, [.ref hc, .int (nI n), .int (nI g), .int sk])), (hc, .inl (G.2 0, 144, .inl f))])) (QR (some (.int (kth (fun x_ => ¬ f (16 + x_) = -1 ∧ f (16 + x_) = na) n 0 k)))) 0 0 (fun _ => False) := by
  refine Met.go (cc := cX1_levelNamed) (maxL := 5) (ret := (some .int)) (by decide) rfl (Nat.le_of_ble_eq_true rfl) ?_
  intro p e s m below meth c ls hx hb hr hml hown hts hlk hP hK hD hS hl
  have hown : s.vm.findClass RX1 = some m.cls := hown
  have hl : lv_has ls 5 [(0, .ref h), (1, .int na), (2, .int (nI k))] := hl
  refine lv_iconst (v := nI 0) hx hb dX1_levelNamed_0 (by decide) ?_
  refine lv_istore_n (lv' := [(3, .int (nI 0)), (0, .ref h), (1, .int na), (2, .int (nI k))]) hx hb dX1_levelNamed_1 rfl hl (by decide) rfl (fun ls hl => ?_)
  refine lv_iconst (v := nI 0) hx hb dX1_levelNamed_2 (by decide) ?_
  refine lv_istore (lv' := [(4, .int (nI 0)), (3, .int (nI 0)), (0, .ref h), (1, .int na), (2, .int (nI k))]) hx hb dX1_levelNamed_3 hl (by decide) rfl (fun ls hl => ?_)
  have loop_5 : ∀ (k_ : Nat) (i : Nat) (b : Nat) (h_i : i ≤ n) (h_b : b ≤ k) (h_b2 : b ≤ i) (h_e : kth (fun x_ => ¬ f (16 + x_) = -1 ∧ f (16 + x_) = na) n 0 k = kth (fun x_ => ¬ f (16 + x_) = -1 ∧ f (16 + x_) = na) (n - i) i (k - b)) (_ : n - i < k_) (ls : Array Slot), lv_has ls 5 [(4, .int (nI i)), (3, .int (nI b)), (0, .ref h), (1, .int na), (2, .int (nI k))] → W p l e ({ frames := 2, cells := 0, slots := 0, locals := 43 } : Room) s m ([.ref h, .int na, .int (nI k)] : List Value).toArray below meth c s.heap [] 0 0 (MQ below (QR (some (.int (kth (fun x_ => ¬ f (16 + x_) = -1 ∧ f (16 + x_) = na) n 0 k)))) ([.ref h, .int na, .int (nI k)] : List Value).toArray s 0 0 (fun _ => False)) (F0 m 5 ls []) := by
    intro k_
    induction k_ with
    | zero => intro i b h_i h_b h_b2 h_e hk_; exact absurd hk_ (Nat.not_lt_zero _)
    | succ k_ ih_5 =>
      intro i b h_i h_b h_b2 h_e hk_ ls hl
      refine lv_iload hx hb dX1_levelNamed_5 (lv_at hl 0 rfl) ?_
      refine lv_aload_n hx hb dX1_levelNamed_7 rfl (lv_at hl 2 rfl) ?_
      refine va_get (D := G.1) (ci := 1) (v := .int (nI n)) (C := RX1) (T := TX1) (N := 4) hx hb hts in_c_X1_levelNamed_X1 hown hK.1 hP 0 rfl rfl 1 (by decide) (hts (.fieldLink RX1 15 "FloorPanels$House" "levels" "I") (by decide +kernel)) (fun _ h9 => h9) rfl dX1_levelNamed_8 ?_
      refine bi_ge (tgt := 50) hx hb dX1_levelNamed_11 (by decide) (nI_i (by omega)) (nI_i (by omega)) (fun c_11 => ?_) (fun c_11 => ?_)
      ·
        refine lv_iconst (v := (-1)) hx hb dX1_levelNamed_50 (by decide) ?_
        exact R_i hx hb hr hlk dX1_levelNamed_51 (by rw [h_e, show n - i = 0 by omega]; rfl)
      ·
        refine lv_aload_n hx hb dX1_levelNamed_14 rfl (lv_at hl 2 rfl) ?_
        refine lv_iload hx hb dX1_levelNamed_15 (lv_at hl 0 rfl) ?_
        refine cRV (As := [.int (nI i)]) (rest := []) (v := .int (zb (¬ f (16 + i) = -1))) ⟨hx, hb, hml, hown, hts⟩ (c_X1_hasName l G h hc n g sk f i (by first | omega | assumption)) (cwV 1 hts gX1_levelNamed_X1_hasName rfl rfl rfl (by decide +kernel) ⟨Nat.le_of_ble_eq_true rfl, Nat.le_of_ble_eq_true rfl⟩) (preV_of hK hP hD [0, 1] (by decide) rfl (ci := 1) (q0 := 0) rfl rfl rfl) rfl hl.1 rfl (lv_room (Nat.le_of_ble_eq_true rfl)) dX1_levelNamed_17 ⟨Nat.zero_le _, Nat.zero_le _⟩ ?_
        refine bb_eq (tgt := 44) hx hb dX1_levelNamed_20 (by decide) (fun c_20 => ?_) (fun c_20 => ?_)
        ·
          refine lv_iinc (v := nI (i + 1)) (lv' := [(4, .int (nI (i + 1))), (3, .int (nI b)), (0, .ref h), (1, .int na), (2, .int (nI k))]) hx hb dX1_levelNamed_44 hl (k := 0) rfl (inc_n _ 1) (by decide) rfl (fun ls hl => ?_)
          refine lv_goto (tgt := 5) hx hb dX1_levelNamed_47 (by decide) ?_
          exact ih_5 (i + 1) b (by first | omega | assumption) (by first | omega | assumption) (by first | omega | assumption) (by rw [h_e, show n - i = n - (i + 1) + 1 by omega]; first | exact kth_n (fun z_ => z_.1 (by assumption)) | exact kth_n (fun z_ => z_ (by assumption)) | exact kth_n (fun z_ => absurd z_.1 (by assumption)) | exact kth_n (fun z_ => absurd z_.2 (by assumption)) | (rw [kth_s ⟨by assumption, by assumption⟩ (by omega)]; rfl)) (by omega) ls (lv_sub hl [0, 1, 2, 3, 4] (by rfl))
        ·
          refine lv_aload_n hx hb dX1_levelNamed_23 rfl (lv_at hl 2 rfl) ?_
          refine lv_iload hx hb dX1_levelNamed_24 (lv_at hl 0 rfl) ?_
          refine cRV (As := [.int (nI i)]) (rest := []) (v := .int (f (16 + i))) ⟨hx, hb, hml, hown, hts⟩ (c_X1_nameOf l G h hc n g sk f i (by first | omega | assumption)) (cwV 1 hts gX1_levelNamed_X1_nameOf rfl rfl rfl (by decide +kernel) ⟨Nat.le_of_ble_eq_true rfl, Nat.le_of_ble_eq_true rfl⟩) (preV_of hK hP hD [0, 1] (by decide) rfl (ci := 1) (q0 := 0) rfl rfl rfl) rfl hl.1 rfl (lv_room (Nat.le_of_ble_eq_true rfl)) dX1_levelNamed_26 ⟨Nat.zero_le _, Nat.zero_le _⟩ ?_
          refine lv_iload_n hx hb dX1_levelNamed_29 rfl (lv_at hl 3 rfl) ?_
          refine lv_icmp_ne (tgt := 44) hx hb dX1_levelNamed_30 (by decide) (fun c_30 => ?_) (fun c_30 => ?_)
          ·
            refine lv_iinc (v := nI (i + 1)) (lv' := [(4, .int (nI (i + 1))), (3, .int (nI b)), (0, .ref h), (1, .int na), (2, .int (nI k))]) hx hb dX1_levelNamed_44 hl (k := 0) rfl (inc_n _ 1) (by decide) rfl (fun ls hl => ?_)
            refine lv_goto (tgt := 5) hx hb dX1_levelNamed_47 (by decide) ?_
            exact ih_5 (i + 1) b (by first | omega | assumption) (by first | omega | assumption) (by first | omega | assumption) (by rw [h_e, show n - i = n - (i + 1) + 1 by omega]; first | exact kth_n (fun z_ => z_.1 (by assumption)) | exact kth_n (fun z_ => z_ (by assumption)) | exact kth_n (fun z_ => absurd z_.1 (by assumption)) | exact kth_n (fun z_ => absurd z_.2 (by assumption)) | (rw [kth_s ⟨by assumption, by assumption⟩ (by omega)]; rfl)) (by omega) ls (lv_sub hl [0, 1, 2, 3, 4] (by rfl))
          ·
            refine lv_iload_n hx hb dX1_levelNamed_33 rfl (lv_at hl 1 rfl) ?_
            refine lv_iload_n hx hb dX1_levelNamed_34 rfl (lv_at hl 4 rfl) ?_
            refine bi_ne (tgt := 41) hx hb dX1_levelNamed_35 (by decide) (nI_i (by omega)) (nI_i (by omega)) (fun c_35 => ?_) (fun c_35 => ?_)
            ·
              refine lv_iinc (v := nI (b + 1)) (lv' := [(3, .int (nI (b + 1))), (4, .int (nI i)), (0, .ref h), (1, .int na), (2, .int (nI k))]) hx hb dX1_levelNamed_41 hl (k := 1) rfl (inc_n _ 1) (by decide) rfl (fun ls hl => ?_)
              refine lv_iinc (v := nI (i + 1)) (lv' := [(4, .int (nI (i + 1))), (3, .int (nI (b + 1))), (0, .ref h), (1, .int na), (2, .int (nI k))]) hx hb dX1_levelNamed_44 hl (k := 1) rfl (inc_n _ 1) (by decide) rfl (fun ls hl => ?_)
              refine lv_goto (tgt := 5) hx hb dX1_levelNamed_47 (by decide) ?_
              exact ih_5 (i + 1) (b + 1) (by first | omega | assumption) (by first | omega | assumption) (by first | omega | assumption) (by rw [h_e, show n - i = n - (i + 1) + 1 by omega]; first | exact kth_n (fun z_ => z_.1 (by assumption)) | exact kth_n (fun z_ => z_ (by assumption)) | exact kth_n (fun z_ => absurd z_.1 (by assumption)) | exact kth_n (fun z_ => absurd z_.2 (by assumption)) | (rw [kth_s ⟨by assumption, by assumption⟩ (by omega)]; rfl)) (by omega) ls (lv_sub hl [0, 1, 2, 3, 4] (by rfl))
            ·
              refine lv_iload hx hb dX1_levelNamed_38 (lv_at hl 0 rfl) ?_
              exact R_i hx hb hr hlk dX1_levelNamed_40 (by rw [h_e, show n - i = n - (i + 1) + 1 by omega, show k - b = 0 by omega, kth_0 ⟨by assumption, by assumption⟩])
  exact loop_5 (n - 0 + 1) 0 0 (by first | omega | assumption) (by first | omega | assumption) (by first | omega | assumption) rfl (Nat.lt_succ_self _)  ls (lv_sub hl [0, 1, 2, 3, 4] (by rfl))

theorem in_c_X1_levelsNamedLike_X1 : ∀ w ∈ wsX10, w ∈ wsX1_levelsNamedLike := by decide +kernel
set_option maxHeartbeats 4000000 in
set_option maxRecDepth 100000 in
theorem c_X1_levelsNamedLike (l : Launch) (G : GG) (h : Nat) (hc : Nat) (n : Nat) (g : Nat) (sk : Int32) (f : Nat → Int32) (lv : Nat) (h_n : n ≤ 16) (h_lv : lv < 16) : Met l yX1_levelsNamedLike wsX1_levelsNamedLike ({ frames := 2, cells := 0, slots := 0, locals := 43 } : Room) (va_Pc [.ref h, .int (nI lv)] (PB G [(h, .inr (1, [.ref hc, .int (nI n), .int (nI g), .int sk])), (hc, .inl (G.2 0, 144, .inl f))])) (QR (some (.int (nI (lk f n lv))))) 0 0 (fun _ => False) := by
  refine Met.go (cc := cX1_levelsNamedLike) (maxL := 4) (ret := (some .int)) (by decide) rfl (Nat.le_of_ble_eq_true rfl) ?_
  intro p e s m below meth c ls hx hb hr hml hown hts hlk hP hK hD hS hl
  have hown : s.vm.findClass RX1 = some m.cls := hown
  have hl : lv_has ls 4 [(0, .ref h), (1, .int (nI lv))] := hl
  refine lv_iconst (v := nI 0) hx hb dX1_levelsNamedLike_0 (by decide) ?_
  refine lv_istore_n (lv' := [(2, .int (nI 0)), (0, .ref h), (1, .int (nI lv))]) hx hb dX1_levelsNamedLike_1 rfl hl (by decide) rfl (fun ls hl => ?_)
  refine lv_aload_n hx hb dX1_levelsNamedLike_2 rfl (lv_at hl 1 rfl) ?_
  refine lv_iload_n hx hb dX1_levelsNamedLike_3 rfl (lv_at hl 2 rfl) ?_
  refine cRV (As := [.int (nI lv)]) (rest := []) (v := .int (zb (¬ f (16 + lv) = -1))) ⟨hx, hb, hml, hown, hts⟩ (c_X1_hasName l G h hc n g sk f lv (by first | omega | assumption)) (cwV 1 hts gX1_levelsNamedLike_X1_hasName rfl rfl rfl (by decide +kernel) ⟨Nat.le_of_ble_eq_true rfl, Nat.le_of_ble_eq_true rfl⟩) (preV_of hK hP hD [0, 1] (by decide) rfl (ci := 1) (q0 := 0) rfl rfl rfl) rfl hl.1 rfl (lv_room (Nat.le_of_ble_eq_true rfl)) dX1_levelsNamedLike_4 ⟨Nat.zero_le _, Nat.zero_le _⟩ ?_
  refine bb_eq (tgt := 42) hx hb dX1_levelsNamedLike_7 (by decide) (fun c_7 => ?_) (fun c_7 => ?_)
  ·
    refine lv_iload_n hx hb dX1_levelsNamedLike_42 rfl (lv_at hl 0 rfl) ?_
    exact R_i hx hb hr hlk dX1_levelsNamedLike_43 (by rw [lk_0 (Classical.not_not.mp c_7)])
  ·
    refine lv_iconst (v := nI 0) hx hb dX1_levelsNamedLike_10 (by decide) ?_
    refine lv_istore_n (lv' := [(3, .int (nI 0)), (2, .int (nI 0)), (0, .ref h), (1, .int (nI lv))]) hx hb dX1_levelsNamedLike_11 rfl hl (by decide) rfl (fun ls hl => ?_)
    have loop_12 : ∀ (k_ : Nat) (i : Nat) (h_i : i ≤ n) (_ : n - i < k_) (ls : Array Slot), lv_has ls 4 [(3, .int (nI i)), (2, .int (nI (ct (fun x_ => f (16 + x_) = f (16 + lv)) i))), (0, .ref h), (1, .int (nI lv))] → W p l e ({ frames := 2, cells := 0, slots := 0, locals := 43 } : Room) s m ([.ref h, .int (nI lv)] : List Value).toArray below meth c s.heap [] 0 0 (MQ below (QR (some (.int (nI (lk f n lv))))) ([.ref h, .int (nI lv)] : List Value).toArray s 0 0 (fun _ => False)) (F0 m 12 ls []) := by
      intro k_
      induction k_ with
      | zero => intro i h_i hk_; exact absurd hk_ (Nat.not_lt_zero _)
      | succ k_ ih_12 =>
        intro i h_i hk_ ls hl
        refine lv_iload_n hx hb dX1_levelsNamedLike_12 rfl (lv_at hl 0 rfl) ?_
        refine lv_aload_n hx hb dX1_levelsNamedLike_13 rfl (lv_at hl 2 rfl) ?_
        refine va_get (D := G.1) (ci := 1) (v := .int (nI n)) (C := RX1) (T := TX1) (N := 4) hx hb hts in_c_X1_levelsNamedLike_X1 hown hK.1 hP 0 rfl rfl 1 (by decide) (hts (.fieldLink RX1 15 "FloorPanels$House" "levels" "I") (by decide +kernel)) (fun _ h9 => h9) rfl dX1_levelsNamedLike_14 ?_
        refine bi_ge (tgt := 42) hx hb dX1_levelsNamedLike_17 (by decide) (nI_i (by omega)) (nI_i (by omega)) (fun c_17 => ?_) (fun c_17 => ?_)
        ·
          refine lv_iload_n hx hb dX1_levelsNamedLike_42 rfl (lv_at hl 1 rfl) ?_
          exact R_i hx hb hr hlk dX1_levelsNamedLike_43 (by rw [lk_n c_7, show i = n by omega])
        ·
          refine lv_aload_n hx hb dX1_levelsNamedLike_20 rfl (lv_at hl 2 rfl) ?_
          refine lv_iload_n hx hb dX1_levelsNamedLike_21 rfl (lv_at hl 0 rfl) ?_
          refine cRV (As := [.int (nI i)]) (rest := []) (v := .int (f (16 + i))) ⟨hx, hb, hml, hown, hts⟩ (c_X1_nameOf l G h hc n g sk f i (by first | omega | assumption)) (cwV 1 hts gX1_levelsNamedLike_X1_nameOf rfl rfl rfl (by decide +kernel) ⟨Nat.le_of_ble_eq_true rfl, Nat.le_of_ble_eq_true rfl⟩) (preV_of hK hP hD [0, 1] (by decide) rfl (ci := 1) (q0 := 0) rfl rfl rfl) rfl hl.1 rfl (lv_room (Nat.le_of_ble_eq_true rfl)) dX1_levelsNamedLike_22 ⟨Nat.zero_le _, Nat.zero_le _⟩ ?_
          refine lv_aload_n hx hb dX1_levelsNamedLike_25 rfl (lv_at hl 2 rfl) ?_
          refine lv_iload_n hx hb dX1_levelsNamedLike_26 rfl (lv_at hl 3 rfl) ?_
          refine cRV (As := [.int (nI lv)]) (rest := [.int (f (16 + i))]) (v := .int (f (16 + lv))) ⟨hx, hb, hml, hown, hts⟩ (c_X1_nameOf l G h hc n g sk f lv (by first | omega | assumption)) (cwV 1 hts gX1_levelsNamedLike_X1_nameOf rfl rfl rfl (by decide +kernel) ⟨Nat.le_of_ble_eq_true rfl, Nat.le_of_ble_eq_true rfl⟩) (preV_of hK hP hD [0, 1] (by decide) rfl (ci := 1) (q0 := 0) rfl rfl rfl) rfl hl.1 rfl (lv_room (Nat.le_of_ble_eq_true rfl)) dX1_levelsNamedLike_27 ⟨Nat.zero_le _, Nat.zero_le _⟩ ?_
          refine lv_icmp_ne (tgt := 36) hx hb dX1_levelsNamedLike_30 (by decide) (fun c_30 => ?_) (fun c_30 => ?_)
          ·
            refine lv_iinc (v := nI (i + 1)) (lv' := [(3, .int (nI (i + 1))), (2, .int (nI (ct (fun x_ => f (16 + x_) = f (16 + lv)) i))), (0, .ref h), (1, .int (nI lv))]) hx hb dX1_levelsNamedLike_36 hl (k := 0) rfl (inc_n _ 1) (by decide) rfl (fun ls hl => ?_)
            refine lv_goto (tgt := 12) hx hb dX1_levelsNamedLike_39 (by decide) ?_
            exact ih_12 (i + 1) (by first | omega | assumption) (by omega) ls (lv_sub hl [0, 1, 2, 3] (by first | rfl | (rw [ct_t (by assumption)]; rfl) | (rw [ct_f (by assumption)]; rfl) | (rw [ct_t (by omega)]; rfl) | (rw [ct_f (by omega)]; rfl)))
          ·
            refine lv_iinc (v := nI (ct (fun x_ => f (16 + x_) = f (16 + lv)) i + 1)) (lv' := [(2, .int (nI (ct (fun x_ => f (16 + x_) = f (16 + lv)) i + 1))), (3, .int (nI i)), (0, .ref h), (1, .int (nI lv))]) hx hb dX1_levelsNamedLike_33 hl (k := 1) rfl (inc_n _ 1) (by decide) rfl (fun ls hl => ?_)
            refine lv_iinc (v := nI (i + 1)) (lv' := [(3, .int (nI (i + 1))), (2, .int (nI (ct (fun x_ => f (16 + x_) = f (16 + lv)) i + 1))), (0, .ref h), (1, .int (nI lv))]) hx hb dX1_levelsNamedLike_36 hl (k := 1) rfl (inc_n _ 1) (by decide) rfl (fun ls hl => ?_)
            refine lv_goto (tgt := 12) hx hb dX1_levelsNamedLike_39 (by decide) ?_
            exact ih_12 (i + 1) (by first | omega | assumption) (by omega) ls (lv_sub hl [0, 1, 2, 3] (by first | rfl | (rw [ct_t (by assumption)]; rfl) | (rw [ct_f (by assumption)]; rfl) | (rw [ct_t (by omega)]; rfl) | (rw [ct_f (by omega)]; rfl)))
    exact loop_12 (n - 0 + 1) 0 (by first | omega | assumption) (Nat.lt_succ_self _)  ls (lv_sub hl [0, 1, 2, 3] (by first | rfl | (rw [ct_t (by assumption)]; rfl) | (rw [ct_f (by assumption)]; rfl) | (rw [ct_t (by omega)]; rfl) | (rw [ct_f (by omega)]; rfl)))

theorem in_c_X1_levelsWithSharedNames_X1 : ∀ w ∈ wsX10, w ∈ wsX1_levelsWithSharedNames := by decide +kernel
set_option maxHeartbeats 4000000 in
set_option maxRecDepth 100000 in
theorem c_X1_levelsWithSharedNames (l : Launch) (G : GG) (h : Nat) (hc : Nat) (n : Nat) (g : Nat) (sk : Int32) (f : Nat → Int32) (h_n : n ≤ 16) : Met l yX1_levelsWithSharedNames wsX1_levelsWithSharedNames ({ frames := 3, cells := 0, slots := 0, locals := 66 } : Room) (va_Pc [.ref h] (PB G [(h, .inr (1, [.ref hc, .int (nI n), .int (nI g), .int sk])), (hc, .inl (G.2 0, 144, .inl f))])) (QR (some (.int (nI (ct (fun x_ => 1 < lk f n x_) n))))) 0 0 (fun _ => False) := by
  refine Met.go (cc := cX1_levelsWithSharedNames) (maxL := 3) (ret := (some .int)) (by decide) rfl (Nat.le_of_ble_eq_true rfl) ?_
  intro p e s m below meth c ls hx hb hr hml hown hts hlk hP hK hD hS hl
  have hown : s.vm.findClass RX1 = some m.cls := hown
  have hl : lv_has ls 3 [(0, .ref h)] := hl
  refine lv_iconst (v := nI 0) hx hb dX1_levelsWithSharedNames_0 (by decide) ?_
  refine lv_istore_n (lv' := [(1, .int (nI 0)), (0, .ref h)]) hx hb dX1_levelsWithSharedNames_1 rfl hl (by decide) rfl (fun ls hl => ?_)
  refine lv_iconst (v := nI 0) hx hb dX1_levelsWithSharedNames_2 (by decide) ?_
  refine lv_istore_n (lv' := [(2, .int (nI 0)), (1, .int (nI 0)), (0, .ref h)]) hx hb dX1_levelsWithSharedNames_3 rfl hl (by decide) rfl (fun ls hl => ?_)
  have loop_4 : ∀ (k_ : Nat) (i : Nat) (h_i : i ≤ n) (_ : n - i < k_) (ls : Array Slot), lv_has ls 3 [(2, .int (nI i)), (1, .int (nI (ct (fun x_ => 1 < lk f n x_) i))), (0, .ref h)] → W p l e ({ frames := 3, cells := 0, slots := 0, locals := 66 } : Room) s m ([.ref h] : List Value).toArray below meth c s.heap [] 0 0 (MQ below (QR (some (.int (nI (ct (fun x_ => 1 < lk f n x_) n))))) ([.ref h] : List Value).toArray s 0 0 (fun _ => False)) (F0 m 4 ls []) := by
    intro k_
    induction k_ with
    | zero => intro i h_i hk_; exact absurd hk_ (Nat.not_lt_zero _)
    | succ k_ ih_4 =>
      intro i h_i hk_ ls hl
      refine lv_iload_n hx hb dX1_levelsWithSharedNames_4 rfl (lv_at hl 0 rfl) ?_
      refine lv_aload_n hx hb dX1_levelsWithSharedNames_5 rfl (lv_at hl 2 rfl) ?_
      refine va_get (D := G.1) (ci := 1) (v := .int (nI n)) (C := RX1) (T := TX1) (N := 4) hx hb hts in_c_X1_levelsWithSharedNames_X1 hown hK.1 hP 0 rfl rfl 1 (by decide) (hts (.fieldLink RX1 15 "FloorPanels$House" "levels" "I") (by decide +kernel)) (fun _ h9 => h9) rfl dX1_levelsWithSharedNames_6 ?_
      refine bi_ge (tgt := 30) hx hb dX1_levelsWithSharedNames_9 (by decide) (nI_i (by omega)) (nI_i (by omega)) (fun c_9 => ?_) (fun c_9 => ?_)
      ·
        refine lv_iload_n hx hb dX1_levelsWithSharedNames_30 rfl (lv_at hl 1 rfl) ?_
        exact R_i hx hb hr hlk dX1_levelsWithSharedNames_31 (by rw [show i = n by omega])
      ·
        refine lv_aload_n hx hb dX1_levelsWithSharedNames_12 rfl (lv_at hl 2 rfl) ?_
        refine lv_iload_n hx hb dX1_levelsWithSharedNames_13 rfl (lv_at hl 0 rfl) ?_
        refine cRV (As := [.int (nI i)]) (rest := []) (v := .int (nI (lk f n i))) ⟨hx, hb, hml, hown, hts⟩ (c_X1_levelsNamedLike l G h hc n g sk f i (by first | omega | assumption) (by first | omega | assumption)) (cwV 1 hts gX1_levelsWithSharedNames_X1_levelsNamedLike rfl rfl rfl (by decide +kernel) ⟨Nat.le_of_ble_eq_true rfl, Nat.le_of_ble_eq_true rfl⟩) (preV_of hK hP hD [0, 1] (by decide) rfl (ci := 1) (q0 := 0) rfl rfl rfl) rfl hl.1 rfl (lv_room (Nat.le_of_ble_eq_true rfl)) dX1_levelsWithSharedNames_14 ⟨Nat.zero_le _, Nat.zero_le _⟩ ?_
        refine lv_iconst (v := nI 1) hx hb dX1_levelsWithSharedNames_17 (by decide) ?_
        have h_lk := lk_le f n i
        refine bi_le (tgt := 24) hx hb dX1_levelsWithSharedNames_18 (by decide) (nI_i (by omega)) (nI_i (by omega)) (fun c_18 => ?_) (fun c_18 => ?_)
        ·
          refine lv_iinc (v := nI (i + 1)) (lv' := [(2, .int (nI (i + 1))), (1, .int (nI (ct (fun x_ => 1 < lk f n x_) i))), (0, .ref h)]) hx hb dX1_levelsWithSharedNames_24 hl (k := 0) rfl (inc_n _ 1) (by decide) rfl (fun ls hl => ?_)
          refine lv_goto (tgt := 4) hx hb dX1_levelsWithSharedNames_27 (by decide) ?_
          exact ih_4 (i + 1) (by first | omega | assumption) (by omega) ls (lv_sub hl [0, 1, 2] (by first | rfl | (rw [ct_t (by assumption)]; rfl) | (rw [ct_f (by assumption)]; rfl) | (rw [ct_t (by omega)]; rfl) | (rw [ct_f (by omega)]; rfl)))
        ·
          refine lv_iinc (v := nI (ct (fun x_ => 1 < lk f n x_) i + 1)) (lv' := [(1, .int (nI (ct (fun x_ => 1 < lk f n x_) i + 1))), (2, .int (nI i)), (0, .ref h)]) hx hb dX1_levelsWithSharedNames_21 hl (k := 1) rfl (inc_n _ 1) (by decide) rfl (fun ls hl => ?_)
          refine lv_iinc (v := nI (i + 1)) (lv' := [(2, .int (nI (i + 1))), (1, .int (nI (ct (fun x_ => 1 < lk f n x_) i + 1))), (0, .ref h)]) hx hb dX1_levelsWithSharedNames_24 hl (k := 1) rfl (inc_n _ 1) (by decide) rfl (fun ls hl => ?_)
          refine lv_goto (tgt := 4) hx hb dX1_levelsWithSharedNames_27 (by decide) ?_
          exact ih_4 (i + 1) (by first | omega | assumption) (by omega) ls (lv_sub hl [0, 1, 2] (by first | rfl | (rw [ct_t (by assumption)]; rfl) | (rw [ct_f (by assumption)]; rfl) | (rw [ct_t (by omega)]; rfl) | (rw [ct_f (by omega)]; rfl)))
  exact loop_4 (n - 0 + 1) 0 (by first | omega | assumption) (Nat.lt_succ_self _)  ls (lv_sub hl [0, 1, 2] (by first | rfl | (rw [ct_t (by assumption)]; rfl) | (rw [ct_f (by assumption)]; rfl) | (rw [ct_t (by omega)]; rfl) | (rw [ct_f (by omega)]; rfl)))

theorem in_c_X1_namelessLevels_X1 : ∀ w ∈ wsX10, w ∈ wsX1_namelessLevels := by decide +kernel
set_option maxHeartbeats 4000000 in
set_option maxRecDepth 100000 in
theorem c_X1_namelessLevels (l : Launch) (G : GG) (h : Nat) (hc : Nat) (n : Nat) (g : Nat) (sk : Int32) (f : Nat → Int32) (h_n : n ≤ 16) : Met l yX1_namelessLevels wsX1_namelessLevels ({ frames := 2, cells := 0, slots := 0, locals := 43 } : Room) (va_Pc [.ref h] (PB G [(h, .inr (1, [.ref hc, .int (nI n), .int (nI g), .int sk])), (hc, .inl (G.2 0, 144, .inl f))])) (QR (some (.int (nI (ct (fun x_ => f (16 + x_) = -1) n))))) 0 0 (fun _ => False) := by
  refine Met.go (cc := cX1_namelessLevels) (maxL := 3) (ret := (some .int)) (by decide) rfl (Nat.le_of_ble_eq_true rfl) ?_
  intro p e s m below meth c ls hx hb hr hml hown hts hlk hP hK hD hS hl
  have hown : s.vm.findClass RX1 = some m.cls := hown
  have hl : lv_has ls 3 [(0, .ref h)] := hl
  refine lv_iconst (v := nI 0) hx hb dX1_namelessLevels_0 (by decide) ?_
  refine lv_istore_n (lv' := [(1, .int (nI 0)), (0, .ref h)]) hx hb dX1_namelessLevels_1 rfl hl (by decide) rfl (fun ls hl => ?_)
  refine lv_iconst (v := nI 0) hx hb dX1_namelessLevels_2 (by decide) ?_
  refine lv_istore_n (lv' := [(2, .int (nI 0)), (1, .int (nI 0)), (0, .ref h)]) hx hb dX1_namelessLevels_3 rfl hl (by decide) rfl (fun ls hl => ?_)
  have loop_4 : ∀ (k_ : Nat) (i : Nat) (h_i : i ≤ n) (_ : n - i < k_) (ls : Array Slot), lv_has ls 3 [(2, .int (nI i)), (1, .int (nI (ct (fun x_ => f (16 + x_) = -1) i))), (0, .ref h)] → W p l e ({ frames := 2, cells := 0, slots := 0, locals := 43 } : Room) s m ([.ref h] : List Value).toArray below meth c s.heap [] 0 0 (MQ below (QR (some (.int (nI (ct (fun x_ => f (16 + x_) = -1) n))))) ([.ref h] : List Value).toArray s 0 0 (fun _ => False)) (F0 m 4 ls []) := by
    intro k_
    induction k_ with
    | zero => intro i h_i hk_; exact absurd hk_ (Nat.not_lt_zero _)
    | succ k_ ih_4 =>
      intro i h_i hk_ ls hl
      refine lv_iload_n hx hb dX1_namelessLevels_4 rfl (lv_at hl 0 rfl) ?_
      refine lv_aload_n hx hb dX1_namelessLevels_5 rfl (lv_at hl 2 rfl) ?_
      refine va_get (D := G.1) (ci := 1) (v := .int (nI n)) (C := RX1) (T := TX1) (N := 4) hx hb hts in_c_X1_namelessLevels_X1 hown hK.1 hP 0 rfl rfl 1 (by decide) (hts (.fieldLink RX1 15 "FloorPanels$House" "levels" "I") (by decide +kernel)) (fun _ h9 => h9) rfl dX1_namelessLevels_6 ?_
      refine bi_ge (tgt := 29) hx hb dX1_namelessLevels_9 (by decide) (nI_i (by omega)) (nI_i (by omega)) (fun c_9 => ?_) (fun c_9 => ?_)
      ·
        refine lv_iload_n hx hb dX1_namelessLevels_29 rfl (lv_at hl 1 rfl) ?_
        exact R_i hx hb hr hlk dX1_namelessLevels_30 (by rw [show i = n by omega])
      ·
        refine lv_aload_n hx hb dX1_namelessLevels_12 rfl (lv_at hl 2 rfl) ?_
        refine lv_iload_n hx hb dX1_namelessLevels_13 rfl (lv_at hl 0 rfl) ?_
        refine cRV (As := [.int (nI i)]) (rest := []) (v := .int (zb (¬ f (16 + i) = -1))) ⟨hx, hb, hml, hown, hts⟩ (c_X1_hasName l G h hc n g sk f i (by first | omega | assumption)) (cwV 1 hts gX1_namelessLevels_X1_hasName rfl rfl rfl (by decide +kernel) ⟨Nat.le_of_ble_eq_true rfl, Nat.le_of_ble_eq_true rfl⟩) (preV_of hK hP hD [0, 1] (by decide) rfl (ci := 1) (q0 := 0) rfl rfl rfl) rfl hl.1 rfl (lv_room (Nat.le_of_ble_eq_true rfl)) dX1_namelessLevels_14 ⟨Nat.zero_le _, Nat.zero_le _⟩ ?_
        refine bb_ne (tgt := 23) hx hb dX1_namelessLevels_17 (by decide) (fun c_17 => ?_) (fun c_17 => ?_)
        ·
          refine lv_iinc (v := nI (i + 1)) (lv' := [(2, .int (nI (i + 1))), (1, .int (nI (ct (fun x_ => f (16 + x_) = -1) i))), (0, .ref h)]) hx hb dX1_namelessLevels_23 hl (k := 0) rfl (inc_n _ 1) (by decide) rfl (fun ls hl => ?_)
          refine lv_goto (tgt := 4) hx hb dX1_namelessLevels_26 (by decide) ?_
          exact ih_4 (i + 1) (by first | omega | assumption) (by omega) ls (lv_sub hl [0, 1, 2] (by first | rfl | (rw [ct_t (by assumption)]; rfl) | (rw [ct_f (by assumption)]; rfl) | (rw [ct_t (by omega)]; rfl) | (rw [ct_f (by omega)]; rfl)))
        ·
          have c_17 := Classical.not_not.mp c_17
          refine lv_iinc (v := nI (ct (fun x_ => f (16 + x_) = -1) i + 1)) (lv' := [(1, .int (nI (ct (fun x_ => f (16 + x_) = -1) i + 1))), (2, .int (nI i)), (0, .ref h)]) hx hb dX1_namelessLevels_20 hl (k := 1) rfl (inc_n _ 1) (by decide) rfl (fun ls hl => ?_)
          refine lv_iinc (v := nI (i + 1)) (lv' := [(2, .int (nI (i + 1))), (1, .int (nI (ct (fun x_ => f (16 + x_) = -1) i + 1))), (0, .ref h)]) hx hb dX1_namelessLevels_23 hl (k := 1) rfl (inc_n _ 1) (by decide) rfl (fun ls hl => ?_)
          refine lv_goto (tgt := 4) hx hb dX1_namelessLevels_26 (by decide) ?_
          exact ih_4 (i + 1) (by first | omega | assumption) (by omega) ls (lv_sub hl [0, 1, 2] (by first | rfl | (rw [ct_t (by assumption)]; rfl) | (rw [ct_f (by assumption)]; rfl) | (rw [ct_t (by omega)]; rfl) | (rw [ct_f (by omega)]; rfl)))
  exact loop_4 (n - 0 + 1) 0 (by first | omega | assumption) (Nat.lt_succ_self _)  ls (lv_sub hl [0, 1, 2] (by first | rfl | (rw [ct_t (by assumption)]; rfl) | (rw [ct_f (by assumption)]; rfl) | (rw [ct_t (by omega)]; rfl) | (rw [ct_f (by omega)]; rfl)))

theorem in_c_X1_servedLevels_X1 : ∀ w ∈ wsX10, w ∈ wsX1_servedLevels := by decide +kernel
set_option maxHeartbeats 4000000 in
set_option maxRecDepth 100000 in
theorem c_X1_servedLevels (l : Launch) (G : GG) (h : Nat) (hc : Nat) (n : Nat) (g : Nat) (sk : Int32) (f : Nat → Int32) (ca : Nat) (h_n : n ≤ 16) (h_ca : ca < 3) : Met l yX1_servedLevels wsX1_servedLevels ({ frames := 2, cells := 0, slots := 0, locals := 44 } : Room) (va_Pc [.ref h, .int (nI ca)] (PB G [(h, .inr (1, [.ref hc, .int (nI n), .int (nI g), .int sk])), (hc, .inl (G.2 0, 144, .inl f))])) (QR (some (.int (nI (ct (fun x_ => f ((6 + ca) * 16 + x_) = 1) n))))) 0 0 (fun _ => False) := by
  refine Met.go (cc := cX1_servedLevels) (maxL := 4) (ret := (some .int)) (by decide) rfl (Nat.le_of_ble_eq_true rfl) ?_
  intro p e s m below meth c ls hx hb hr hml hown hts hlk hP hK hD hS hl
  have hown : s.vm.findClass RX1 = some m.cls := hown
  have hl : lv_has ls 4 [(0, .ref h), (1, .int (nI ca))] := hl
  refine lv_iconst (v := nI 0) hx hb dX1_servedLevels_0 (by decide) ?_
  refine lv_istore_n (lv' := [(2, .int (nI 0)), (0, .ref h), (1, .int (nI ca))]) hx hb dX1_servedLevels_1 rfl hl (by decide) rfl (fun ls hl => ?_)
  refine lv_iconst (v := nI 0) hx hb dX1_servedLevels_2 (by decide) ?_
  refine lv_istore_n (lv' := [(3, .int (nI 0)), (2, .int (nI 0)), (0, .ref h), (1, .int (nI ca))]) hx hb dX1_servedLevels_3 rfl hl (by decide) rfl (fun ls hl => ?_)
  have loop_4 : ∀ (k_ : Nat) (i : Nat) (h_i : i ≤ n) (_ : n - i < k_) (ls : Array Slot), lv_has ls 4 [(3, .int (nI i)), (2, .int (nI (ct (fun x_ => f ((6 + ca) * 16 + x_) = 1) i))), (0, .ref h), (1, .int (nI ca))] → W p l e ({ frames := 2, cells := 0, slots := 0, locals := 44 } : Room) s m ([.ref h, .int (nI ca)] : List Value).toArray below meth c s.heap [] 0 0 (MQ below (QR (some (.int (nI (ct (fun x_ => f ((6 + ca) * 16 + x_) = 1) n))))) ([.ref h, .int (nI ca)] : List Value).toArray s 0 0 (fun _ => False)) (F0 m 4 ls []) := by
    intro k_
    induction k_ with
    | zero => intro i h_i hk_; exact absurd hk_ (Nat.not_lt_zero _)
    | succ k_ ih_4 =>
      intro i h_i hk_ ls hl
      refine lv_iload_n hx hb dX1_servedLevels_4 rfl (lv_at hl 0 rfl) ?_
      refine lv_aload_n hx hb dX1_servedLevels_5 rfl (lv_at hl 2 rfl) ?_
      refine va_get (D := G.1) (ci := 1) (v := .int (nI n)) (C := RX1) (T := TX1) (N := 4) hx hb hts in_c_X1_servedLevels_X1 hown hK.1 hP 0 rfl rfl 1 (by decide) (hts (.fieldLink RX1 15 "FloorPanels$House" "levels" "I") (by decide +kernel)) (fun _ h9 => h9) rfl dX1_servedLevels_6 ?_
      refine bi_ge (tgt := 30) hx hb dX1_servedLevels_9 (by decide) (nI_i (by omega)) (nI_i (by omega)) (fun c_9 => ?_) (fun c_9 => ?_)
      ·
        refine lv_iload_n hx hb dX1_servedLevels_30 rfl (lv_at hl 1 rfl) ?_
        exact R_i hx hb hr hlk dX1_servedLevels_31 (by rw [show i = n by omega])
      ·
        refine lv_aload_n hx hb dX1_servedLevels_12 rfl (lv_at hl 2 rfl) ?_
        refine lv_iload_n hx hb dX1_servedLevels_13 rfl (lv_at hl 3 rfl) ?_
        refine lv_iload_n hx hb dX1_servedLevels_14 rfl (lv_at hl 0 rfl) ?_
        refine cRV (As := [.int (nI ca), .int (nI i)]) (rest := []) (v := .int (zb (f ((6 + ca) * 16 + i) = 1))) ⟨hx, hb, hml, hown, hts⟩ (c_X1_isServed l G h hc n g sk f ca i (by first | omega | assumption) (by first | omega | assumption)) (cwV 2 hts gX1_servedLevels_X1_isServed rfl rfl rfl (by decide +kernel) ⟨Nat.le_of_ble_eq_true rfl, Nat.le_of_ble_eq_true rfl⟩) (preV_of hK hP hD [0, 1] (by decide) rfl (ci := 1) (q0 := 0) rfl rfl rfl) rfl hl.1 rfl (lv_room (Nat.le_of_ble_eq_true rfl)) dX1_servedLevels_15 ⟨Nat.zero_le _, Nat.zero_le _⟩ ?_
        refine bb_eq (tgt := 24) hx hb dX1_servedLevels_18 (by decide) (fun c_18 => ?_) (fun c_18 => ?_)
        ·
          refine lv_iinc (v := nI (i + 1)) (lv' := [(3, .int (nI (i + 1))), (2, .int (nI (ct (fun x_ => f ((6 + ca) * 16 + x_) = 1) i))), (0, .ref h), (1, .int (nI ca))]) hx hb dX1_servedLevels_24 hl (k := 0) rfl (inc_n _ 1) (by decide) rfl (fun ls hl => ?_)
          refine lv_goto (tgt := 4) hx hb dX1_servedLevels_27 (by decide) ?_
          exact ih_4 (i + 1) (by first | omega | assumption) (by omega) ls (lv_sub hl [0, 1, 2, 3] (by first | rfl | (rw [ct_t (by assumption)]; rfl) | (rw [ct_f (by assumption)]; rfl) | (rw [ct_t (by omega)]; rfl) | (rw [ct_f (by omega)]; rfl)))
        ·
          refine lv_iinc (v := nI (ct (fun x_ => f ((6 + ca) * 16 + x_) = 1) i + 1)) (lv' := [(2, .int (nI (ct (fun x_ => f ((6 + ca) * 16 + x_) = 1) i + 1))), (3, .int (nI i)), (0, .ref h), (1, .int (nI ca))]) hx hb dX1_servedLevels_21 hl (k := 1) rfl (inc_n _ 1) (by decide) rfl (fun ls hl => ?_)
          refine lv_iinc (v := nI (i + 1)) (lv' := [(3, .int (nI (i + 1))), (2, .int (nI (ct (fun x_ => f ((6 + ca) * 16 + x_) = 1) i + 1))), (0, .ref h), (1, .int (nI ca))]) hx hb dX1_servedLevels_24 hl (k := 1) rfl (inc_n _ 1) (by decide) rfl (fun ls hl => ?_)
          refine lv_goto (tgt := 4) hx hb dX1_servedLevels_27 (by decide) ?_
          exact ih_4 (i + 1) (by first | omega | assumption) (by omega) ls (lv_sub hl [0, 1, 2, 3] (by first | rfl | (rw [ct_t (by assumption)]; rfl) | (rw [ct_f (by assumption)]; rfl) | (rw [ct_t (by omega)]; rfl) | (rw [ct_f (by omega)]; rfl)))
  exact loop_4 (n - 0 + 1) 0 (by first | omega | assumption) (Nat.lt_succ_self _)  ls (lv_sub hl [0, 1, 2, 3] (by first | rfl | (rw [ct_t (by assumption)]; rfl) | (rw [ct_f (by assumption)]; rfl) | (rw [ct_t (by omega)]; rfl) | (rw [ct_f (by omega)]; rfl)))

set_option maxHeartbeats 4000000 in
set_option maxRecDepth 100000 in
theorem c_X1_wrongSigns (l : Launch) (G : GG) (h : Nat) (hc : Nat) (n : Nat) (g : Nat) (sk : Int32) (f : Nat → Int32) (h_n : n ≤ 16) : Met l yX1_wrongSigns wsX1_wrongSigns ({ frames := 3, cells := 0, slots := 0, locals := 67 } : Room) (va_Pc [.ref h] (PB G [(h, .inr (1, [.ref hc, .int (nI n), .int (nI g), .int sk])), (hc, .inl (G.2 0, 144, .inl f))])) (QR (some (.int (nI (wr f 2 n))))) 0 0 (fun _ => False) := by
  refine Met.go (cc := cX1_wrongSigns) (maxL := 1) (ret := (some .int)) (by decide) rfl (Nat.le_of_ble_eq_true rfl) ?_
  intro p e s m below meth c ls hx hb hr hml hown hts hlk hP hK hD hS hl
  have hown : s.vm.findClass RX1 = some m.cls := hown
  have hl : lv_has ls 1 [(0, .ref h)] := hl
  refine lv_aload_n hx hb dX1_wrongSigns_0 rfl (lv_at hl 0 rfl) ?_
  refine lv_iconst (v := nI 2) hx hb dX1_wrongSigns_1 (by decide) ?_
  refine cRV (As := [.int (nI 2)]) (rest := []) (v := .int (nI (wr f 2 n))) ⟨hx, hb, hml, hown, hts⟩ (c_X1_wrongInRow l G h hc n g sk f 2 (by first | omega | assumption) (by first | omega | assumption)) (cwV 1 hts gX1_wrongSigns_X1_wrongInRow rfl rfl rfl (by decide +kernel) ⟨Nat.le_of_ble_eq_true rfl, Nat.le_of_ble_eq_true rfl⟩) (preV_of hK hP hD [0, 1] (by decide) rfl (ci := 1) (q0 := 0) rfl rfl rfl) rfl hl.1 rfl (lv_room (Nat.le_of_ble_eq_true rfl)) dX1_wrongSigns_2 ⟨Nat.zero_le _, Nat.zero_le _⟩ ?_
  exact R_i hx hb hr hlk dX1_wrongSigns_5 (rfl)

set_option maxHeartbeats 4000000 in
set_option maxRecDepth 100000 in
theorem c_X1_wrongButtonsOf (l : Launch) (G : GG) (h : Nat) (hc : Nat) (n : Nat) (g : Nat) (sk : Int32) (f : Nat → Int32) (ca : Nat) (h_n : n ≤ 16) (h_ca : ca < 3) : Met l yX1_wrongButtonsOf wsX1_wrongButtonsOf ({ frames := 3, cells := 0, slots := 0, locals := 67 } : Room) (va_Pc [.ref h, .int (nI ca)] (PB G [(h, .inr (1, [.ref hc, .int (nI n), .int (nI g), .int sk])), (hc, .inl (G.2 0, 144, .inl f))])) (QR (some (.int (nI (wr f (3 + ca) n))))) 0 0 (fun _ => False) := by
  refine Met.go (cc := cX1_wrongButtonsOf) (maxL := 2) (ret := (some .int)) (by decide) rfl (Nat.le_of_ble_eq_true rfl) ?_
  intro p e s m below meth c ls hx hb hr hml hown hts hlk hP hK hD hS hl
  have hown : s.vm.findClass RX1 = some m.cls := hown
  have hl : lv_has ls 2 [(0, .ref h), (1, .int (nI ca))] := hl
  refine lv_aload_n hx hb dX1_wrongButtonsOf_0 rfl (lv_at hl 0 rfl) ?_
  refine lv_iconst (v := nI 3) hx hb dX1_wrongButtonsOf_1 (by decide) ?_
  refine lv_iload_n hx hb dX1_wrongButtonsOf_2 rfl (lv_at hl 1 rfl) ?_
  refine nv_iadd hx hb dX1_wrongButtonsOf_3 ?_
  refine cRV (As := [.int (nI (3 + ca))]) (rest := []) (v := .int (nI (wr f (3 + ca) n))) ⟨hx, hb, hml, hown, hts⟩ (c_X1_wrongInRow l G h hc n g sk f (3 + ca) (by first | omega | assumption) (by first | omega | assumption)) (cwV 1 hts gX1_wrongButtonsOf_X1_wrongInRow rfl rfl rfl (by decide +kernel) ⟨Nat.le_of_ble_eq_true rfl, Nat.le_of_ble_eq_true rfl⟩) (preV_of hK hP hD [0, 1] (by decide) rfl (ci := 1) (q0 := 0) rfl rfl rfl) rfl hl.1 rfl (lv_room (Nat.le_of_ble_eq_true rfl)) dX1_wrongButtonsOf_4 ⟨Nat.zero_le _, Nat.zero_le _⟩ ?_
  exact R_i hx hb hr hlk dX1_wrongButtonsOf_7 (rfl)

set_option maxHeartbeats 4000000 in
set_option maxRecDepth 100000 in
theorem c_X1_wrongButtons (l : Launch) (G : GG) (h : Nat) (hc : Nat) (n : Nat) (g : Nat) (sk : Int32) (f : Nat → Int32) (h_n : n ≤ 16) : Met l yX1_wrongButtons wsX1_wrongButtons ({ frames := 3, cells := 0, slots := 0, locals := 67 } : Room) (va_Pc [.ref h] (PB G [(h, .inr (1, [.ref hc, .int (nI n), .int (nI g), .int sk])), (hc, .inl (G.2 0, 144, .inl f))])) (QR (some (.int (nI (wr f 3 n + wr f 4 n + wr f 5 n))))) 0 0 (fun _ => False) := by
  refine Met.go (cc := cX1_wrongButtons) (maxL := 3) (ret := (some .int)) (by decide) rfl (Nat.le_of_ble_eq_true rfl) ?_
  intro p e s m below meth c ls hx hb hr hml hown hts hlk hP hK hD hS hl
  have hown : s.vm.findClass RX1 = some m.cls := hown
  have hl : lv_has ls 3 [(0, .ref h)] := hl
  refine lv_iconst (v := nI 0) hx hb dX1_wrongButtons_0 (by decide) ?_
  refine lv_istore_n (lv' := [(1, .int (nI 0)), (0, .ref h)]) hx hb dX1_wrongButtons_1 rfl hl (by decide) rfl (fun ls hl => ?_)
  refine lv_iconst (v := nI 0) hx hb dX1_wrongButtons_2 (by decide) ?_
  refine lv_istore_n (lv' := [(2, .int (nI 0)), (1, .int (nI 0)), (0, .ref h)]) hx hb dX1_wrongButtons_3 rfl hl (by decide) rfl (fun ls hl => ?_)
  refine lv_iload_n hx hb dX1_wrongButtons_4 rfl (lv_at hl 0 rfl) ?_
  refine lv_iconst (v := nI 3) hx hb dX1_wrongButtons_5 (by decide) ?_
  refine bi_ge (tgt := 25) hx hb dX1_wrongButtons_6 (by decide) (nI_i (by omega)) (nI_i (by omega)) (fun c_6 => False.elim (by omega)) (fun c_6 => ?_)
  refine lv_iload_n hx hb dX1_wrongButtons_9 rfl (lv_at hl 1 rfl) ?_
  refine lv_aload_n hx hb dX1_wrongButtons_10 rfl (lv_at hl 2 rfl) ?_
  refine lv_iconst (v := nI 3) hx hb dX1_wrongButtons_11 (by decide) ?_
  refine lv_iload_n hx hb dX1_wrongButtons_12 rfl (lv_at hl 0 rfl) ?_
  refine nv_iadd hx hb dX1_wrongButtons_13 ?_
  refine cRV (As := [.int (nI 3)]) (rest := [.int (nI 0)]) (v := .int (nI (wr f 3 n))) ⟨hx, hb, hml, hown, hts⟩ (c_X1_wrongInRow l G h hc n g sk f 3 (by first | omega | assumption) (by first | omega | assumption)) (cwV 1 hts gX1_wrongButtons_X1_wrongInRow rfl rfl rfl (by decide +kernel) ⟨Nat.le_of_ble_eq_true rfl, Nat.le_of_ble_eq_true rfl⟩) (preV_of hK hP hD [0, 1] (by decide) rfl (ci := 1) (q0 := 0) rfl rfl rfl) rfl hl.1 rfl (lv_room (Nat.le_of_ble_eq_true rfl)) dX1_wrongButtons_14 ⟨Nat.zero_le _, Nat.zero_le _⟩ ?_
  refine nv_iadd0 hx hb dX1_wrongButtons_17 ?_
  refine lv_istore_n (lv' := [(1, .int (nI (wr f 3 n))), (2, .int (nI 0)), (0, .ref h)]) hx hb dX1_wrongButtons_18 rfl hl (by decide) rfl (fun ls hl => ?_)
  refine lv_iinc (v := nI (0 + 1)) (lv' := [(2, .int (nI (0 + 1))), (1, .int (nI (wr f 3 n))), (0, .ref h)]) hx hb dX1_wrongButtons_19 hl (k := 1) rfl (inc_n _ 1) (by decide) rfl (fun ls hl => ?_)
  refine lv_goto (tgt := 4) hx hb dX1_wrongButtons_22 (by decide) ?_
  refine lv_iload_n hx hb dX1_wrongButtons_4 rfl (lv_at hl 0 rfl) ?_
  refine lv_iconst (v := nI 3) hx hb dX1_wrongButtons_5 (by decide) ?_
  refine bi_ge (tgt := 25) hx hb dX1_wrongButtons_6 (by decide) (nI_i (by omega)) (nI_i (by omega)) (fun c_6 => False.elim (by omega)) (fun c_6 => ?_)
  refine lv_iload_n hx hb dX1_wrongButtons_9 rfl (lv_at hl 1 rfl) ?_
  refine lv_aload_n hx hb dX1_wrongButtons_10 rfl (lv_at hl 2 rfl) ?_
  refine lv_iconst (v := nI 3) hx hb dX1_wrongButtons_11 (by decide) ?_
  refine lv_iload_n hx hb dX1_wrongButtons_12 rfl (lv_at hl 0 rfl) ?_
  refine nv_iadd hx hb dX1_wrongButtons_13 ?_
  refine cRV (As := [.int (nI (3 + (0 + 1)))]) (rest := [.int (nI (wr f 3 n))]) (v := .int (nI (wr f 4 n))) ⟨hx, hb, hml, hown, hts⟩ (c_X1_wrongInRow l G h hc n g sk f (3 + (0 + 1)) (by first | omega | assumption) (by first | omega | assumption)) (cwV 1 hts gX1_wrongButtons_X1_wrongInRow rfl rfl rfl (by decide +kernel) ⟨Nat.le_of_ble_eq_true rfl, Nat.le_of_ble_eq_true rfl⟩) (preV_of hK hP hD [0, 1] (by decide) rfl (ci := 1) (q0 := 0) rfl rfl rfl) rfl hl.1 rfl (lv_room (Nat.le_of_ble_eq_true rfl)) dX1_wrongButtons_14 ⟨Nat.zero_le _, Nat.zero_le _⟩ ?_
  refine nv_iadd hx hb dX1_wrongButtons_17 ?_
  refine lv_istore_n (lv' := [(1, .int (nI ((wr f 3 n) + (wr f 4 n)))), (2, .int (nI (0 + 1))), (0, .ref h)]) hx hb dX1_wrongButtons_18 rfl hl (by decide) rfl (fun ls hl => ?_)
  refine lv_iinc (v := nI (0 + 1 + 1)) (lv' := [(2, .int (nI (0 + 1 + 1))), (1, .int (nI ((wr f 3 n) + (wr f 4 n)))), (0, .ref h)]) hx hb dX1_wrongButtons_19 hl (k := 1) rfl (inc_n _ 1) (by decide) rfl (fun ls hl => ?_)
  refine lv_goto (tgt := 4) hx hb dX1_wrongButtons_22 (by decide) ?_
  refine lv_iload_n hx hb dX1_wrongButtons_4 rfl (lv_at hl 0 rfl) ?_
  refine lv_iconst (v := nI 3) hx hb dX1_wrongButtons_5 (by decide) ?_
  refine bi_ge (tgt := 25) hx hb dX1_wrongButtons_6 (by decide) (nI_i (by omega)) (nI_i (by omega)) (fun c_6 => False.elim (by omega)) (fun c_6 => ?_)
  refine lv_iload_n hx hb dX1_wrongButtons_9 rfl (lv_at hl 1 rfl) ?_
  refine lv_aload_n hx hb dX1_wrongButtons_10 rfl (lv_at hl 2 rfl) ?_
  refine lv_iconst (v := nI 3) hx hb dX1_wrongButtons_11 (by decide) ?_
  refine lv_iload_n hx hb dX1_wrongButtons_12 rfl (lv_at hl 0 rfl) ?_
  refine nv_iadd hx hb dX1_wrongButtons_13 ?_
  refine cRV (As := [.int (nI (3 + (0 + 1 + 1)))]) (rest := [.int (nI ((wr f 3 n) + (wr f 4 n)))]) (v := .int (nI (wr f 5 n))) ⟨hx, hb, hml, hown, hts⟩ (c_X1_wrongInRow l G h hc n g sk f (3 + (0 + 1 + 1)) (by first | omega | assumption) (by first | omega | assumption)) (cwV 1 hts gX1_wrongButtons_X1_wrongInRow rfl rfl rfl (by decide +kernel) ⟨Nat.le_of_ble_eq_true rfl, Nat.le_of_ble_eq_true rfl⟩) (preV_of hK hP hD [0, 1] (by decide) rfl (ci := 1) (q0 := 0) rfl rfl rfl) rfl hl.1 rfl (lv_room (Nat.le_of_ble_eq_true rfl)) dX1_wrongButtons_14 ⟨Nat.zero_le _, Nat.zero_le _⟩ ?_
  refine nv_iadd hx hb dX1_wrongButtons_17 ?_
  refine lv_istore_n (lv' := [(1, .int (nI (((wr f 3 n) + (wr f 4 n)) + (wr f 5 n)))), (2, .int (nI (0 + 1 + 1))), (0, .ref h)]) hx hb dX1_wrongButtons_18 rfl hl (by decide) rfl (fun ls hl => ?_)
  refine lv_iinc (v := nI (0 + 1 + 1 + 1)) (lv' := [(2, .int (nI (0 + 1 + 1 + 1))), (1, .int (nI (((wr f 3 n) + (wr f 4 n)) + (wr f 5 n)))), (0, .ref h)]) hx hb dX1_wrongButtons_19 hl (k := 1) rfl (inc_n _ 1) (by decide) rfl (fun ls hl => ?_)
  refine lv_goto (tgt := 4) hx hb dX1_wrongButtons_22 (by decide) ?_
  refine lv_iload_n hx hb dX1_wrongButtons_4 rfl (lv_at hl 0 rfl) ?_
  refine lv_iconst (v := nI 3) hx hb dX1_wrongButtons_5 (by decide) ?_
  refine bi_ge (tgt := 25) hx hb dX1_wrongButtons_6 (by decide) (nI_i (by omega)) (nI_i (by omega)) (fun c_6 => ?_) (fun c_6 => False.elim (by omega))
  refine lv_iload_n hx hb dX1_wrongButtons_25 rfl (lv_at hl 1 rfl) ?_
  exact R_i hx hb hr hlk dX1_wrongButtons_26 (rfl)

set_option maxHeartbeats 4000000 in
set_option maxRecDepth 100000 in
theorem c_X1_wrongInAll (l : Launch) (G : GG) (h : Nat) (hc : Nat) (n : Nat) (g : Nat) (sk : Int32) (f : Nat → Int32) (h_n : n ≤ 16) : Met l yX1_wrongInAll wsX1_wrongInAll ({ frames := 3, cells := 0, slots := 0, locals := 67 } : Room) (va_Pc [.ref h] (PB G [(h, .inr (1, [.ref hc, .int (nI n), .int (nI g), .int sk])), (hc, .inl (G.2 0, 144, .inl f))])) (QR (some (.int (nI (tw f n))))) 0 0 (fun _ => False) := by
  refine Met.go (cc := cX1_wrongInAll) (maxL := 3) (ret := (some .int)) (by decide) rfl (Nat.le_of_ble_eq_true rfl) ?_
  intro p e s m below meth c ls hx hb hr hml hown hts hlk hP hK hD hS hl
  have hown : s.vm.findClass RX1 = some m.cls := hown
  have hl : lv_has ls 3 [(0, .ref h)] := hl
  refine lv_iconst (v := nI 0) hx hb dX1_wrongInAll_0 (by decide) ?_
  refine lv_istore_n (lv' := [(1, .int (nI 0)), (0, .ref h)]) hx hb dX1_wrongInAll_1 rfl hl (by decide) rfl (fun ls hl => ?_)
  refine lv_iconst (v := nI 2) hx hb dX1_wrongInAll_2 (by decide) ?_
  refine lv_istore_n (lv' := [(2, .int (nI 2)), (1, .int (nI 0)), (0, .ref h)]) hx hb dX1_wrongInAll_3 rfl hl (by decide) rfl (fun ls hl => ?_)
  refine lv_iload_n hx hb dX1_wrongInAll_4 rfl (lv_at hl 0 rfl) ?_
  refine lv_bipush (v := nI 6) hx hb dX1_wrongInAll_5 (by decide) ?_
  refine bi_ge (tgt := 24) hx hb dX1_wrongInAll_7 (by decide) (nI_i (by omega)) (nI_i (by omega)) (fun c_7 => False.elim (by omega)) (fun c_7 => ?_)
  refine lv_iload_n hx hb dX1_wrongInAll_10 rfl (lv_at hl 1 rfl) ?_
  refine lv_aload_n hx hb dX1_wrongInAll_11 rfl (lv_at hl 2 rfl) ?_
  refine lv_iload_n hx hb dX1_wrongInAll_12 rfl (lv_at hl 0 rfl) ?_
  refine cRV (As := [.int (nI 2)]) (rest := [.int (nI 0)]) (v := .int (nI (wr f 2 n))) ⟨hx, hb, hml, hown, hts⟩ (c_X1_wrongInRow l G h hc n g sk f 2 (by first | omega | assumption) (by first | omega | assumption)) (cwV 1 hts gX1_wrongInAll_X1_wrongInRow rfl rfl rfl (by decide +kernel) ⟨Nat.le_of_ble_eq_true rfl, Nat.le_of_ble_eq_true rfl⟩) (preV_of hK hP hD [0, 1] (by decide) rfl (ci := 1) (q0 := 0) rfl rfl rfl) rfl hl.1 rfl (lv_room (Nat.le_of_ble_eq_true rfl)) dX1_wrongInAll_13 ⟨Nat.zero_le _, Nat.zero_le _⟩ ?_
  refine nv_iadd0 hx hb dX1_wrongInAll_16 ?_
  refine lv_istore_n (lv' := [(1, .int (nI (wr f 2 n))), (2, .int (nI 2)), (0, .ref h)]) hx hb dX1_wrongInAll_17 rfl hl (by decide) rfl (fun ls hl => ?_)
  refine lv_iinc (v := nI (2 + 1)) (lv' := [(2, .int (nI (2 + 1))), (1, .int (nI (wr f 2 n))), (0, .ref h)]) hx hb dX1_wrongInAll_18 hl (k := 1) rfl (inc_n _ 1) (by decide) rfl (fun ls hl => ?_)
  refine lv_goto (tgt := 4) hx hb dX1_wrongInAll_21 (by decide) ?_
  refine lv_iload_n hx hb dX1_wrongInAll_4 rfl (lv_at hl 0 rfl) ?_
  refine lv_bipush (v := nI 6) hx hb dX1_wrongInAll_5 (by decide) ?_
  refine bi_ge (tgt := 24) hx hb dX1_wrongInAll_7 (by decide) (nI_i (by omega)) (nI_i (by omega)) (fun c_7 => False.elim (by omega)) (fun c_7 => ?_)
  refine lv_iload_n hx hb dX1_wrongInAll_10 rfl (lv_at hl 1 rfl) ?_
  refine lv_aload_n hx hb dX1_wrongInAll_11 rfl (lv_at hl 2 rfl) ?_
  refine lv_iload_n hx hb dX1_wrongInAll_12 rfl (lv_at hl 0 rfl) ?_
  refine cRV (As := [.int (nI (2 + 1))]) (rest := [.int (nI (wr f 2 n))]) (v := .int (nI (wr f 3 n))) ⟨hx, hb, hml, hown, hts⟩ (c_X1_wrongInRow l G h hc n g sk f (2 + 1) (by first | omega | assumption) (by first | omega | assumption)) (cwV 1 hts gX1_wrongInAll_X1_wrongInRow rfl rfl rfl (by decide +kernel) ⟨Nat.le_of_ble_eq_true rfl, Nat.le_of_ble_eq_true rfl⟩) (preV_of hK hP hD [0, 1] (by decide) rfl (ci := 1) (q0 := 0) rfl rfl rfl) rfl hl.1 rfl (lv_room (Nat.le_of_ble_eq_true rfl)) dX1_wrongInAll_13 ⟨Nat.zero_le _, Nat.zero_le _⟩ ?_
  refine nv_iadd hx hb dX1_wrongInAll_16 ?_
  refine lv_istore_n (lv' := [(1, .int (nI ((wr f 2 n) + (wr f 3 n)))), (2, .int (nI (2 + 1))), (0, .ref h)]) hx hb dX1_wrongInAll_17 rfl hl (by decide) rfl (fun ls hl => ?_)
  refine lv_iinc (v := nI (2 + 1 + 1)) (lv' := [(2, .int (nI (2 + 1 + 1))), (1, .int (nI ((wr f 2 n) + (wr f 3 n)))), (0, .ref h)]) hx hb dX1_wrongInAll_18 hl (k := 1) rfl (inc_n _ 1) (by decide) rfl (fun ls hl => ?_)
  refine lv_goto (tgt := 4) hx hb dX1_wrongInAll_21 (by decide) ?_
  refine lv_iload_n hx hb dX1_wrongInAll_4 rfl (lv_at hl 0 rfl) ?_
  refine lv_bipush (v := nI 6) hx hb dX1_wrongInAll_5 (by decide) ?_
  refine bi_ge (tgt := 24) hx hb dX1_wrongInAll_7 (by decide) (nI_i (by omega)) (nI_i (by omega)) (fun c_7 => False.elim (by omega)) (fun c_7 => ?_)
  refine lv_iload_n hx hb dX1_wrongInAll_10 rfl (lv_at hl 1 rfl) ?_
  refine lv_aload_n hx hb dX1_wrongInAll_11 rfl (lv_at hl 2 rfl) ?_
  refine lv_iload_n hx hb dX1_wrongInAll_12 rfl (lv_at hl 0 rfl) ?_
  refine cRV (As := [.int (nI (2 + 1 + 1))]) (rest := [.int (nI ((wr f 2 n) + (wr f 3 n)))]) (v := .int (nI (wr f (2 + 1 + 1) n))) ⟨hx, hb, hml, hown, hts⟩ (c_X1_wrongInRow l G h hc n g sk f (2 + 1 + 1) (by first | omega | assumption) (by first | omega | assumption)) (cwV 1 hts gX1_wrongInAll_X1_wrongInRow rfl rfl rfl (by decide +kernel) ⟨Nat.le_of_ble_eq_true rfl, Nat.le_of_ble_eq_true rfl⟩) (preV_of hK hP hD [0, 1] (by decide) rfl (ci := 1) (q0 := 0) rfl rfl rfl) rfl hl.1 rfl (lv_room (Nat.le_of_ble_eq_true rfl)) dX1_wrongInAll_13 ⟨Nat.zero_le _, Nat.zero_le _⟩ ?_
  refine nv_iadd hx hb dX1_wrongInAll_16 ?_
  refine lv_istore_n (lv' := [(1, .int (nI (((wr f 2 n) + (wr f 3 n)) + (wr f (2 + 1 + 1) n)))), (2, .int (nI (2 + 1 + 1))), (0, .ref h)]) hx hb dX1_wrongInAll_17 rfl hl (by decide) rfl (fun ls hl => ?_)
  refine lv_iinc (v := nI (2 + 1 + 1 + 1)) (lv' := [(2, .int (nI (2 + 1 + 1 + 1))), (1, .int (nI (((wr f 2 n) + (wr f 3 n)) + (wr f (2 + 1 + 1) n)))), (0, .ref h)]) hx hb dX1_wrongInAll_18 hl (k := 1) rfl (inc_n _ 1) (by decide) rfl (fun ls hl => ?_)
  refine lv_goto (tgt := 4) hx hb dX1_wrongInAll_21 (by decide) ?_
  refine lv_iload_n hx hb dX1_wrongInAll_4 rfl (lv_at hl 0 rfl) ?_
  refine lv_bipush (v := nI 6) hx hb dX1_wrongInAll_5 (by decide) ?_
  refine bi_ge (tgt := 24) hx hb dX1_wrongInAll_7 (by decide) (nI_i (by omega)) (nI_i (by omega)) (fun c_7 => False.elim (by omega)) (fun c_7 => ?_)
  refine lv_iload_n hx hb dX1_wrongInAll_10 rfl (lv_at hl 1 rfl) ?_
  refine lv_aload_n hx hb dX1_wrongInAll_11 rfl (lv_at hl 2 rfl) ?_
  refine lv_iload_n hx hb dX1_wrongInAll_12 rfl (lv_at hl 0 rfl) ?_
  refine cRV (As := [.int (nI (2 + 1 + 1 + 1))]) (rest := [.int (nI (((wr f 2 n) + (wr f 3 n)) + (wr f (2 + 1 + 1) n)))]) (v := .int (nI (wr f (2 + 1 + 1 + 1) n))) ⟨hx, hb, hml, hown, hts⟩ (c_X1_wrongInRow l G h hc n g sk f (2 + 1 + 1 + 1) (by first | omega | assumption) (by first | omega | assumption)) (cwV 1 hts gX1_wrongInAll_X1_wrongInRow rfl rfl rfl (by decide +kernel) ⟨Nat.le_of_ble_eq_true rfl, Nat.le_of_ble_eq_true rfl⟩) (preV_of hK hP hD [0, 1] (by decide) rfl (ci := 1) (q0 := 0) rfl rfl rfl) rfl hl.1 rfl (lv_room (Nat.le_of_ble_eq_true rfl)) dX1_wrongInAll_13 ⟨Nat.zero_le _, Nat.zero_le _⟩ ?_
  refine nv_iadd hx hb dX1_wrongInAll_16 ?_
  refine lv_istore_n (lv' := [(1, .int (nI ((((wr f 2 n) + (wr f 3 n)) + (wr f (2 + 1 + 1) n)) + (wr f (2 + 1 + 1 + 1) n)))), (2, .int (nI (2 + 1 + 1 + 1))), (0, .ref h)]) hx hb dX1_wrongInAll_17 rfl hl (by decide) rfl (fun ls hl => ?_)
  refine lv_iinc (v := nI (2 + 1 + 1 + 1 + 1)) (lv' := [(2, .int (nI (2 + 1 + 1 + 1 + 1))), (1, .int (nI ((((wr f 2 n) + (wr f 3 n)) + (wr f (2 + 1 + 1) n)) + (wr f (2 + 1 + 1 + 1) n)))), (0, .ref h)]) hx hb dX1_wrongInAll_18 hl (k := 1) rfl (inc_n _ 1) (by decide) rfl (fun ls hl => ?_)
  refine lv_goto (tgt := 4) hx hb dX1_wrongInAll_21 (by decide) ?_
  refine lv_iload_n hx hb dX1_wrongInAll_4 rfl (lv_at hl 0 rfl) ?_
  refine lv_bipush (v := nI 6) hx hb dX1_wrongInAll_5 (by decide) ?_
  refine bi_ge (tgt := 24) hx hb dX1_wrongInAll_7 (by decide) (nI_i (by omega)) (nI_i (by omega)) (fun c_7 => ?_) (fun c_7 => False.elim (by omega))
  refine lv_iload_n hx hb dX1_wrongInAll_24 rfl (lv_at hl 1 rfl) ?_
  exact R_i hx hb hr hlk dX1_wrongInAll_25 (rfl)

set_option maxHeartbeats 4000000 in
set_option maxRecDepth 100000 in
theorem c_X1_wrongOf (l : Launch) (G : GG) (h : Nat) (hc : Nat) (n : Nat) (g : Nat) (sk : Int32) (f : Nat → Int32) (lv : Nat) (h_lv : lv < 16) : Met l yX1_wrongOf wsX1_wrongOf ({ frames := 2, cells := 0, slots := 0, locals := 44 } : Room) (va_Pc [.ref h, .int (nI lv)] (PB G [(h, .inr (1, [.ref hc, .int (nI n), .int (nI g), .int sk])), (hc, .inl (G.2 0, 144, .inl f))])) (QR (some (.int (nI (nb (¬ f (32 + lv) = f (16 + lv)) + nb (¬ f (48 + lv) = f (16 + lv)) + nb (¬ f (64 + lv) = f (16 + lv)) + nb (¬ f (80 + lv) = f (16 + lv))))))) 0 0 (fun _ => False) := by
  refine Met.go (cc := cX1_wrongOf) (maxL := 4) (ret := (some .int)) (by decide) rfl (Nat.le_of_ble_eq_true rfl) ?_
  intro p e s m below meth c ls hx hb hr hml hown hts hlk hP hK hD hS hl
  have hown : s.vm.findClass RX1 = some m.cls := hown
  have hl : lv_has ls 4 [(0, .ref h), (1, .int (nI lv))] := hl
  refine lv_aload_n hx hb dX1_wrongOf_0 rfl (lv_at hl 0 rfl) ?_
  refine lv_iconst (v := nI 2) hx hb dX1_wrongOf_1 (by decide) ?_
  refine lv_iload_n hx hb dX1_wrongOf_2 rfl (lv_at hl 1 rfl) ?_
  refine cRV (As := [.int (nI 2), .int (nI lv)]) (rest := []) (v := .int (zb (f (32 + lv) = f (16 + lv)))) ⟨hx, hb, hml, hown, hts⟩ (c_X1_isRight l G h hc n g sk f 2 lv (by first | omega | assumption) (by first | omega | assumption)) (cwV 2 hts gX1_wrongOf_X1_isRight rfl rfl rfl (by decide +kernel) ⟨Nat.le_of_ble_eq_true rfl, Nat.le_of_ble_eq_true rfl⟩) (preV_of hK hP hD [0, 1] (by decide) rfl (ci := 1) (q0 := 0) rfl rfl rfl) rfl hl.1 rfl (lv_room (Nat.le_of_ble_eq_true rfl)) dX1_wrongOf_3 ⟨Nat.zero_le _, Nat.zero_le _⟩ ?_
  refine bb_eq (tgt := 13) hx hb dX1_wrongOf_6 (by decide) (fun c_6 => ?_) (fun c_6 => ?_)
  ·
    refine lv_iconst (v := nI 1) hx hb dX1_wrongOf_13 (by decide) ?_
    refine lv_istore_n (lv' := [(2, .int (nI 1)), (0, .ref h), (1, .int (nI lv))]) hx hb dX1_wrongOf_14 rfl hl (by decide) rfl (fun ls hl => ?_)
    refine lv_iconst (v := nI 0) hx hb dX1_wrongOf_15 (by decide) ?_
    refine lv_istore_n (lv' := [(3, .int (nI 0)), (2, .int (nI 1)), (0, .ref h), (1, .int (nI lv))]) hx hb dX1_wrongOf_16 rfl hl (by decide) rfl (fun ls hl => ?_)
    refine lv_iload_n hx hb dX1_wrongOf_17 rfl (lv_at hl 0 rfl) ?_
    refine lv_iconst (v := nI 3) hx hb dX1_wrongOf_18 (by decide) ?_
    refine bi_ge (tgt := 42) hx hb dX1_wrongOf_19 (by decide) (nI_i (by omega)) (nI_i (by omega)) (fun c_19 => False.elim (by omega)) (fun c_19 => ?_)
    refine lv_aload_n hx hb dX1_wrongOf_22 rfl (lv_at hl 2 rfl) ?_
    refine lv_iconst (v := nI 3) hx hb dX1_wrongOf_23 (by decide) ?_
    refine lv_iload_n hx hb dX1_wrongOf_24 rfl (lv_at hl 0 rfl) ?_
    refine nv_iadd hx hb dX1_wrongOf_25 ?_
    refine lv_iload_n hx hb dX1_wrongOf_26 rfl (lv_at hl 3 rfl) ?_
    refine cRV (As := [.int (nI 3), .int (nI lv)]) (rest := []) (v := .int (zb (f (48 + lv) = f (16 + lv)))) ⟨hx, hb, hml, hown, hts⟩ (c_X1_isRight l G h hc n g sk f 3 lv (by first | omega | assumption) (by first | omega | assumption)) (cwV 2 hts gX1_wrongOf_X1_isRight rfl rfl rfl (by decide +kernel) ⟨Nat.le_of_ble_eq_true rfl, Nat.le_of_ble_eq_true rfl⟩) (preV_of hK hP hD [0, 1] (by decide) rfl (ci := 1) (q0 := 0) rfl rfl rfl) rfl hl.1 rfl (lv_room (Nat.le_of_ble_eq_true rfl)) dX1_wrongOf_27 ⟨Nat.zero_le _, Nat.zero_le _⟩ ?_
    refine bb_ne (tgt := 36) hx hb dX1_wrongOf_30 (by decide) (fun c_30 => ?_) (fun c_30 => ?_)
    ·
      refine lv_iinc (v := nI (0 + 1)) (lv' := [(3, .int (nI (0 + 1))), (2, .int (nI 1)), (0, .ref h), (1, .int (nI lv))]) hx hb dX1_wrongOf_36 hl (k := 0) rfl (inc_n _ 1) (by decide) rfl (fun ls hl => ?_)
      refine lv_goto (tgt := 17) hx hb dX1_wrongOf_39 (by decide) ?_
      refine lv_iload_n hx hb dX1_wrongOf_17 rfl (lv_at hl 0 rfl) ?_
      refine lv_iconst (v := nI 3) hx hb dX1_wrongOf_18 (by decide) ?_
      refine bi_ge (tgt := 42) hx hb dX1_wrongOf_19 (by decide) (nI_i (by omega)) (nI_i (by omega)) (fun c_19 => False.elim (by omega)) (fun c_19 => ?_)
      refine lv_aload_n hx hb dX1_wrongOf_22 rfl (lv_at hl 2 rfl) ?_
      refine lv_iconst (v := nI 3) hx hb dX1_wrongOf_23 (by decide) ?_
      refine lv_iload_n hx hb dX1_wrongOf_24 rfl (lv_at hl 0 rfl) ?_
      refine nv_iadd hx hb dX1_wrongOf_25 ?_
      refine lv_iload_n hx hb dX1_wrongOf_26 rfl (lv_at hl 3 rfl) ?_
      refine cRV (As := [.int (nI (3 + (0 + 1))), .int (nI lv)]) (rest := []) (v := .int (zb (f (64 + lv) = f (16 + lv)))) ⟨hx, hb, hml, hown, hts⟩ (c_X1_isRight l G h hc n g sk f (3 + (0 + 1)) lv (by first | omega | assumption) (by first | omega | assumption)) (cwV 2 hts gX1_wrongOf_X1_isRight rfl rfl rfl (by decide +kernel) ⟨Nat.le_of_ble_eq_true rfl, Nat.le_of_ble_eq_true rfl⟩) (preV_of hK hP hD [0, 1] (by decide) rfl (ci := 1) (q0 := 0) rfl rfl rfl) rfl hl.1 rfl (lv_room (Nat.le_of_ble_eq_true rfl)) dX1_wrongOf_27 ⟨Nat.zero_le _, Nat.zero_le _⟩ ?_
      refine bb_ne (tgt := 36) hx hb dX1_wrongOf_30 (by decide) (fun c_30 => ?_) (fun c_30 => ?_)
      ·
        refine lv_iinc (v := nI (0 + 1 + 1)) (lv' := [(3, .int (nI (0 + 1 + 1))), (2, .int (nI 1)), (0, .ref h), (1, .int (nI lv))]) hx hb dX1_wrongOf_36 hl (k := 0) rfl (inc_n _ 1) (by decide) rfl (fun ls hl => ?_)
        refine lv_goto (tgt := 17) hx hb dX1_wrongOf_39 (by decide) ?_
        refine lv_iload_n hx hb dX1_wrongOf_17 rfl (lv_at hl 0 rfl) ?_
        refine lv_iconst (v := nI 3) hx hb dX1_wrongOf_18 (by decide) ?_
        refine bi_ge (tgt := 42) hx hb dX1_wrongOf_19 (by decide) (nI_i (by omega)) (nI_i (by omega)) (fun c_19 => False.elim (by omega)) (fun c_19 => ?_)
        refine lv_aload_n hx hb dX1_wrongOf_22 rfl (lv_at hl 2 rfl) ?_
        refine lv_iconst (v := nI 3) hx hb dX1_wrongOf_23 (by decide) ?_
        refine lv_iload_n hx hb dX1_wrongOf_24 rfl (lv_at hl 0 rfl) ?_
        refine nv_iadd hx hb dX1_wrongOf_25 ?_
        refine lv_iload_n hx hb dX1_wrongOf_26 rfl (lv_at hl 3 rfl) ?_
        refine cRV (As := [.int (nI (3 + (0 + 1 + 1))), .int (nI lv)]) (rest := []) (v := .int (zb (f (80 + lv) = f (16 + lv)))) ⟨hx, hb, hml, hown, hts⟩ (c_X1_isRight l G h hc n g sk f (3 + (0 + 1 + 1)) lv (by first | omega | assumption) (by first | omega | assumption)) (cwV 2 hts gX1_wrongOf_X1_isRight rfl rfl rfl (by decide +kernel) ⟨Nat.le_of_ble_eq_true rfl, Nat.le_of_ble_eq_true rfl⟩) (preV_of hK hP hD [0, 1] (by decide) rfl (ci := 1) (q0 := 0) rfl rfl rfl) rfl hl.1 rfl (lv_room (Nat.le_of_ble_eq_true rfl)) dX1_wrongOf_27 ⟨Nat.zero_le _, Nat.zero_le _⟩ ?_
        refine bb_ne (tgt := 36) hx hb dX1_wrongOf_30 (by decide) (fun c_30 => ?_) (fun c_30 => ?_)
        ·
          refine lv_iinc (v := nI (0 + 1 + 1 + 1)) (lv' := [(3, .int (nI (0 + 1 + 1 + 1))), (2, .int (nI 1)), (0, .ref h), (1, .int (nI lv))]) hx hb dX1_wrongOf_36 hl (k := 0) rfl (inc_n _ 1) (by decide) rfl (fun ls hl => ?_)
          refine lv_goto (tgt := 17) hx hb dX1_wrongOf_39 (by decide) ?_
          refine lv_iload_n hx hb dX1_wrongOf_17 rfl (lv_at hl 0 rfl) ?_
          refine lv_iconst (v := nI 3) hx hb dX1_wrongOf_18 (by decide) ?_
          refine bi_ge (tgt := 42) hx hb dX1_wrongOf_19 (by decide) (nI_i (by omega)) (nI_i (by omega)) (fun c_19 => ?_) (fun c_19 => False.elim (by omega))
          refine lv_iload_n hx hb dX1_wrongOf_42 rfl (lv_at hl 1 rfl) ?_
          exact R_i hx hb hr hlk dX1_wrongOf_43 (by refine congrArg nI ?_; (first | rw [nb_f (fun z_ => z_ (by assumption))] | rw [nb_t (by assumption)]); (first | rw [nb_f (fun z_ => z_ (by assumption))] | rw [nb_t (by assumption)]); (first | rw [nb_f (fun z_ => z_ (by assumption))] | rw [nb_t (by assumption)]); (first | rw [nb_f (fun z_ => z_ (by assumption))] | rw [nb_t (by assumption)]))
        ·
          refine lv_iinc (v := nI (1 + 1)) (lv' := [(2, .int (nI (1 + 1))), (3, .int (nI (0 + 1 + 1))), (0, .ref h), (1, .int (nI lv))]) hx hb dX1_wrongOf_33 hl (k := 1) rfl (inc_n _ 1) (by decide) rfl (fun ls hl => ?_)
          refine lv_iinc (v := nI (0 + 1 + 1 + 1)) (lv' := [(3, .int (nI (0 + 1 + 1 + 1))), (2, .int (nI (1 + 1))), (0, .ref h), (1, .int (nI lv))]) hx hb dX1_wrongOf_36 hl (k := 1) rfl (inc_n _ 1) (by decide) rfl (fun ls hl => ?_)
          refine lv_goto (tgt := 17) hx hb dX1_wrongOf_39 (by decide) ?_
          refine lv_iload_n hx hb dX1_wrongOf_17 rfl (lv_at hl 0 rfl) ?_
          refine lv_iconst (v := nI 3) hx hb dX1_wrongOf_18 (by decide) ?_
          refine bi_ge (tgt := 42) hx hb dX1_wrongOf_19 (by decide) (nI_i (by omega)) (nI_i (by omega)) (fun c_19 => ?_) (fun c_19 => False.elim (by omega))
          refine lv_iload_n hx hb dX1_wrongOf_42 rfl (lv_at hl 1 rfl) ?_
          exact R_i hx hb hr hlk dX1_wrongOf_43 (by refine congrArg nI ?_; (first | rw [nb_f (fun z_ => z_ (by assumption))] | rw [nb_t (by assumption)]); (first | rw [nb_f (fun z_ => z_ (by assumption))] | rw [nb_t (by assumption)]); (first | rw [nb_f (fun z_ => z_ (by assumption))] | rw [nb_t (by assumption)]); (first | rw [nb_f (fun z_ => z_ (by assumption))] | rw [nb_t (by assumption)]))
      ·
        refine lv_iinc (v := nI (1 + 1)) (lv' := [(2, .int (nI (1 + 1))), (3, .int (nI (0 + 1))), (0, .ref h), (1, .int (nI lv))]) hx hb dX1_wrongOf_33 hl (k := 1) rfl (inc_n _ 1) (by decide) rfl (fun ls hl => ?_)
        refine lv_iinc (v := nI (0 + 1 + 1)) (lv' := [(3, .int (nI (0 + 1 + 1))), (2, .int (nI (1 + 1))), (0, .ref h), (1, .int (nI lv))]) hx hb dX1_wrongOf_36 hl (k := 1) rfl (inc_n _ 1) (by decide) rfl (fun ls hl => ?_)
        refine lv_goto (tgt := 17) hx hb dX1_wrongOf_39 (by decide) ?_
        refine lv_iload_n hx hb dX1_wrongOf_17 rfl (lv_at hl 0 rfl) ?_
        refine lv_iconst (v := nI 3) hx hb dX1_wrongOf_18 (by decide) ?_
        refine bi_ge (tgt := 42) hx hb dX1_wrongOf_19 (by decide) (nI_i (by omega)) (nI_i (by omega)) (fun c_19 => False.elim (by omega)) (fun c_19 => ?_)
        refine lv_aload_n hx hb dX1_wrongOf_22 rfl (lv_at hl 2 rfl) ?_
        refine lv_iconst (v := nI 3) hx hb dX1_wrongOf_23 (by decide) ?_
        refine lv_iload_n hx hb dX1_wrongOf_24 rfl (lv_at hl 0 rfl) ?_
        refine nv_iadd hx hb dX1_wrongOf_25 ?_
        refine lv_iload_n hx hb dX1_wrongOf_26 rfl (lv_at hl 3 rfl) ?_
        refine cRV (As := [.int (nI (3 + (0 + 1 + 1))), .int (nI lv)]) (rest := []) (v := .int (zb (f (80 + lv) = f (16 + lv)))) ⟨hx, hb, hml, hown, hts⟩ (c_X1_isRight l G h hc n g sk f (3 + (0 + 1 + 1)) lv (by first | omega | assumption) (by first | omega | assumption)) (cwV 2 hts gX1_wrongOf_X1_isRight rfl rfl rfl (by decide +kernel) ⟨Nat.le_of_ble_eq_true rfl, Nat.le_of_ble_eq_true rfl⟩) (preV_of hK hP hD [0, 1] (by decide) rfl (ci := 1) (q0 := 0) rfl rfl rfl) rfl hl.1 rfl (lv_room (Nat.le_of_ble_eq_true rfl)) dX1_wrongOf_27 ⟨Nat.zero_le _, Nat.zero_le _⟩ ?_
        refine bb_ne (tgt := 36) hx hb dX1_wrongOf_30 (by decide) (fun c_30 => ?_) (fun c_30 => ?_)
        ·
          refine lv_iinc (v := nI (0 + 1 + 1 + 1)) (lv' := [(3, .int (nI (0 + 1 + 1 + 1))), (2, .int (nI (1 + 1))), (0, .ref h), (1, .int (nI lv))]) hx hb dX1_wrongOf_36 hl (k := 0) rfl (inc_n _ 1) (by decide) rfl (fun ls hl => ?_)
          refine lv_goto (tgt := 17) hx hb dX1_wrongOf_39 (by decide) ?_
          refine lv_iload_n hx hb dX1_wrongOf_17 rfl (lv_at hl 0 rfl) ?_
          refine lv_iconst (v := nI 3) hx hb dX1_wrongOf_18 (by decide) ?_
          refine bi_ge (tgt := 42) hx hb dX1_wrongOf_19 (by decide) (nI_i (by omega)) (nI_i (by omega)) (fun c_19 => ?_) (fun c_19 => False.elim (by omega))
          refine lv_iload_n hx hb dX1_wrongOf_42 rfl (lv_at hl 1 rfl) ?_
          exact R_i hx hb hr hlk dX1_wrongOf_43 (by refine congrArg nI ?_; (first | rw [nb_f (fun z_ => z_ (by assumption))] | rw [nb_t (by assumption)]); (first | rw [nb_f (fun z_ => z_ (by assumption))] | rw [nb_t (by assumption)]); (first | rw [nb_f (fun z_ => z_ (by assumption))] | rw [nb_t (by assumption)]); (first | rw [nb_f (fun z_ => z_ (by assumption))] | rw [nb_t (by assumption)]))
        ·
          refine lv_iinc (v := nI (1 + 1 + 1)) (lv' := [(2, .int (nI (1 + 1 + 1))), (3, .int (nI (0 + 1 + 1))), (0, .ref h), (1, .int (nI lv))]) hx hb dX1_wrongOf_33 hl (k := 1) rfl (inc_n _ 1) (by decide) rfl (fun ls hl => ?_)
          refine lv_iinc (v := nI (0 + 1 + 1 + 1)) (lv' := [(3, .int (nI (0 + 1 + 1 + 1))), (2, .int (nI (1 + 1 + 1))), (0, .ref h), (1, .int (nI lv))]) hx hb dX1_wrongOf_36 hl (k := 1) rfl (inc_n _ 1) (by decide) rfl (fun ls hl => ?_)
          refine lv_goto (tgt := 17) hx hb dX1_wrongOf_39 (by decide) ?_
          refine lv_iload_n hx hb dX1_wrongOf_17 rfl (lv_at hl 0 rfl) ?_
          refine lv_iconst (v := nI 3) hx hb dX1_wrongOf_18 (by decide) ?_
          refine bi_ge (tgt := 42) hx hb dX1_wrongOf_19 (by decide) (nI_i (by omega)) (nI_i (by omega)) (fun c_19 => ?_) (fun c_19 => False.elim (by omega))
          refine lv_iload_n hx hb dX1_wrongOf_42 rfl (lv_at hl 1 rfl) ?_
          exact R_i hx hb hr hlk dX1_wrongOf_43 (by refine congrArg nI ?_; (first | rw [nb_f (fun z_ => z_ (by assumption))] | rw [nb_t (by assumption)]); (first | rw [nb_f (fun z_ => z_ (by assumption))] | rw [nb_t (by assumption)]); (first | rw [nb_f (fun z_ => z_ (by assumption))] | rw [nb_t (by assumption)]); (first | rw [nb_f (fun z_ => z_ (by assumption))] | rw [nb_t (by assumption)]))
    ·
      refine lv_iinc (v := nI (1 + 1)) (lv' := [(2, .int (nI (1 + 1))), (3, .int (nI 0)), (0, .ref h), (1, .int (nI lv))]) hx hb dX1_wrongOf_33 hl (k := 1) rfl (inc_n _ 1) (by decide) rfl (fun ls hl => ?_)
      refine lv_iinc (v := nI (0 + 1)) (lv' := [(3, .int (nI (0 + 1))), (2, .int (nI (1 + 1))), (0, .ref h), (1, .int (nI lv))]) hx hb dX1_wrongOf_36 hl (k := 1) rfl (inc_n _ 1) (by decide) rfl (fun ls hl => ?_)
      refine lv_goto (tgt := 17) hx hb dX1_wrongOf_39 (by decide) ?_
      refine lv_iload_n hx hb dX1_wrongOf_17 rfl (lv_at hl 0 rfl) ?_
      refine lv_iconst (v := nI 3) hx hb dX1_wrongOf_18 (by decide) ?_
      refine bi_ge (tgt := 42) hx hb dX1_wrongOf_19 (by decide) (nI_i (by omega)) (nI_i (by omega)) (fun c_19 => False.elim (by omega)) (fun c_19 => ?_)
      refine lv_aload_n hx hb dX1_wrongOf_22 rfl (lv_at hl 2 rfl) ?_
      refine lv_iconst (v := nI 3) hx hb dX1_wrongOf_23 (by decide) ?_
      refine lv_iload_n hx hb dX1_wrongOf_24 rfl (lv_at hl 0 rfl) ?_
      refine nv_iadd hx hb dX1_wrongOf_25 ?_
      refine lv_iload_n hx hb dX1_wrongOf_26 rfl (lv_at hl 3 rfl) ?_
      refine cRV (As := [.int (nI (3 + (0 + 1))), .int (nI lv)]) (rest := []) (v := .int (zb (f (64 + lv) = f (16 + lv)))) ⟨hx, hb, hml, hown, hts⟩ (c_X1_isRight l G h hc n g sk f (3 + (0 + 1)) lv (by first | omega | assumption) (by first | omega | assumption)) (cwV 2 hts gX1_wrongOf_X1_isRight rfl rfl rfl (by decide +kernel) ⟨Nat.le_of_ble_eq_true rfl, Nat.le_of_ble_eq_true rfl⟩) (preV_of hK hP hD [0, 1] (by decide) rfl (ci := 1) (q0 := 0) rfl rfl rfl) rfl hl.1 rfl (lv_room (Nat.le_of_ble_eq_true rfl)) dX1_wrongOf_27 ⟨Nat.zero_le _, Nat.zero_le _⟩ ?_
      refine bb_ne (tgt := 36) hx hb dX1_wrongOf_30 (by decide) (fun c_30 => ?_) (fun c_30 => ?_)
      ·
        refine lv_iinc (v := nI (0 + 1 + 1)) (lv' := [(3, .int (nI (0 + 1 + 1))), (2, .int (nI (1 + 1))), (0, .ref h), (1, .int (nI lv))]) hx hb dX1_wrongOf_36 hl (k := 0) rfl (inc_n _ 1) (by decide) rfl (fun ls hl => ?_)
        refine lv_goto (tgt := 17) hx hb dX1_wrongOf_39 (by decide) ?_
        refine lv_iload_n hx hb dX1_wrongOf_17 rfl (lv_at hl 0 rfl) ?_
        refine lv_iconst (v := nI 3) hx hb dX1_wrongOf_18 (by decide) ?_
        refine bi_ge (tgt := 42) hx hb dX1_wrongOf_19 (by decide) (nI_i (by omega)) (nI_i (by omega)) (fun c_19 => False.elim (by omega)) (fun c_19 => ?_)
        refine lv_aload_n hx hb dX1_wrongOf_22 rfl (lv_at hl 2 rfl) ?_
        refine lv_iconst (v := nI 3) hx hb dX1_wrongOf_23 (by decide) ?_
        refine lv_iload_n hx hb dX1_wrongOf_24 rfl (lv_at hl 0 rfl) ?_
        refine nv_iadd hx hb dX1_wrongOf_25 ?_
        refine lv_iload_n hx hb dX1_wrongOf_26 rfl (lv_at hl 3 rfl) ?_
        refine cRV (As := [.int (nI (3 + (0 + 1 + 1))), .int (nI lv)]) (rest := []) (v := .int (zb (f (80 + lv) = f (16 + lv)))) ⟨hx, hb, hml, hown, hts⟩ (c_X1_isRight l G h hc n g sk f (3 + (0 + 1 + 1)) lv (by first | omega | assumption) (by first | omega | assumption)) (cwV 2 hts gX1_wrongOf_X1_isRight rfl rfl rfl (by decide +kernel) ⟨Nat.le_of_ble_eq_true rfl, Nat.le_of_ble_eq_true rfl⟩) (preV_of hK hP hD [0, 1] (by decide) rfl (ci := 1) (q0 := 0) rfl rfl rfl) rfl hl.1 rfl (lv_room (Nat.le_of_ble_eq_true rfl)) dX1_wrongOf_27 ⟨Nat.zero_le _, Nat.zero_le _⟩ ?_
        refine bb_ne (tgt := 36) hx hb dX1_wrongOf_30 (by decide) (fun c_30 => ?_) (fun c_30 => ?_)
        ·
          refine lv_iinc (v := nI (0 + 1 + 1 + 1)) (lv' := [(3, .int (nI (0 + 1 + 1 + 1))), (2, .int (nI (1 + 1))), (0, .ref h), (1, .int (nI lv))]) hx hb dX1_wrongOf_36 hl (k := 0) rfl (inc_n _ 1) (by decide) rfl (fun ls hl => ?_)
          refine lv_goto (tgt := 17) hx hb dX1_wrongOf_39 (by decide) ?_
          refine lv_iload_n hx hb dX1_wrongOf_17 rfl (lv_at hl 0 rfl) ?_
          refine lv_iconst (v := nI 3) hx hb dX1_wrongOf_18 (by decide) ?_
          refine bi_ge (tgt := 42) hx hb dX1_wrongOf_19 (by decide) (nI_i (by omega)) (nI_i (by omega)) (fun c_19 => ?_) (fun c_19 => False.elim (by omega))
          refine lv_iload_n hx hb dX1_wrongOf_42 rfl (lv_at hl 1 rfl) ?_
          exact R_i hx hb hr hlk dX1_wrongOf_43 (by refine congrArg nI ?_; (first | rw [nb_f (fun z_ => z_ (by assumption))] | rw [nb_t (by assumption)]); (first | rw [nb_f (fun z_ => z_ (by assumption))] | rw [nb_t (by assumption)]); (first | rw [nb_f (fun z_ => z_ (by assumption))] | rw [nb_t (by assumption)]); (first | rw [nb_f (fun z_ => z_ (by assumption))] | rw [nb_t (by assumption)]))
        ·
          refine lv_iinc (v := nI (1 + 1 + 1)) (lv' := [(2, .int (nI (1 + 1 + 1))), (3, .int (nI (0 + 1 + 1))), (0, .ref h), (1, .int (nI lv))]) hx hb dX1_wrongOf_33 hl (k := 1) rfl (inc_n _ 1) (by decide) rfl (fun ls hl => ?_)
          refine lv_iinc (v := nI (0 + 1 + 1 + 1)) (lv' := [(3, .int (nI (0 + 1 + 1 + 1))), (2, .int (nI (1 + 1 + 1))), (0, .ref h), (1, .int (nI lv))]) hx hb dX1_wrongOf_36 hl (k := 1) rfl (inc_n _ 1) (by decide) rfl (fun ls hl => ?_)
          refine lv_goto (tgt := 17) hx hb dX1_wrongOf_39 (by decide) ?_
          refine lv_iload_n hx hb dX1_wrongOf_17 rfl (lv_at hl 0 rfl) ?_
          refine lv_iconst (v := nI 3) hx hb dX1_wrongOf_18 (by decide) ?_
          refine bi_ge (tgt := 42) hx hb dX1_wrongOf_19 (by decide) (nI_i (by omega)) (nI_i (by omega)) (fun c_19 => ?_) (fun c_19 => False.elim (by omega))
          refine lv_iload_n hx hb dX1_wrongOf_42 rfl (lv_at hl 1 rfl) ?_
          exact R_i hx hb hr hlk dX1_wrongOf_43 (by refine congrArg nI ?_; (first | rw [nb_f (fun z_ => z_ (by assumption))] | rw [nb_t (by assumption)]); (first | rw [nb_f (fun z_ => z_ (by assumption))] | rw [nb_t (by assumption)]); (first | rw [nb_f (fun z_ => z_ (by assumption))] | rw [nb_t (by assumption)]); (first | rw [nb_f (fun z_ => z_ (by assumption))] | rw [nb_t (by assumption)]))
      ·
        refine lv_iinc (v := nI (1 + 1 + 1)) (lv' := [(2, .int (nI (1 + 1 + 1))), (3, .int (nI (0 + 1))), (0, .ref h), (1, .int (nI lv))]) hx hb dX1_wrongOf_33 hl (k := 1) rfl (inc_n _ 1) (by decide) rfl (fun ls hl => ?_)
        refine lv_iinc (v := nI (0 + 1 + 1)) (lv' := [(3, .int (nI (0 + 1 + 1))), (2, .int (nI (1 + 1 + 1))), (0, .ref h), (1, .int (nI lv))]) hx hb dX1_wrongOf_36 hl (k := 1) rfl (inc_n _ 1) (by decide) rfl (fun ls hl => ?_)
        refine lv_goto (tgt := 17) hx hb dX1_wrongOf_39 (by decide) ?_
        refine lv_iload_n hx hb dX1_wrongOf_17 rfl (lv_at hl 0 rfl) ?_
        refine lv_iconst (v := nI 3) hx hb dX1_wrongOf_18 (by decide) ?_
        refine bi_ge (tgt := 42) hx hb dX1_wrongOf_19 (by decide) (nI_i (by omega)) (nI_i (by omega)) (fun c_19 => False.elim (by omega)) (fun c_19 => ?_)
        refine lv_aload_n hx hb dX1_wrongOf_22 rfl (lv_at hl 2 rfl) ?_
        refine lv_iconst (v := nI 3) hx hb dX1_wrongOf_23 (by decide) ?_
        refine lv_iload_n hx hb dX1_wrongOf_24 rfl (lv_at hl 0 rfl) ?_
        refine nv_iadd hx hb dX1_wrongOf_25 ?_
        refine lv_iload_n hx hb dX1_wrongOf_26 rfl (lv_at hl 3 rfl) ?_
        refine cRV (As := [.int (nI (3 + (0 + 1 + 1))), .int (nI lv)]) (rest := []) (v := .int (zb (f (80 + lv) = f (16 + lv)))) ⟨hx, hb, hml, hown, hts⟩ (c_X1_isRight l G h hc n g sk f (3 + (0 + 1 + 1)) lv (by first | omega | assumption) (by first | omega | assumption)) (cwV 2 hts gX1_wrongOf_X1_isRight rfl rfl rfl (by decide +kernel) ⟨Nat.le_of_ble_eq_true rfl, Nat.le_of_ble_eq_true rfl⟩) (preV_of hK hP hD [0, 1] (by decide) rfl (ci := 1) (q0 := 0) rfl rfl rfl) rfl hl.1 rfl (lv_room (Nat.le_of_ble_eq_true rfl)) dX1_wrongOf_27 ⟨Nat.zero_le _, Nat.zero_le _⟩ ?_
        refine bb_ne (tgt := 36) hx hb dX1_wrongOf_30 (by decide) (fun c_30 => ?_) (fun c_30 => ?_)
        ·
          refine lv_iinc (v := nI (0 + 1 + 1 + 1)) (lv' := [(3, .int (nI (0 + 1 + 1 + 1))), (2, .int (nI (1 + 1 + 1))), (0, .ref h), (1, .int (nI lv))]) hx hb dX1_wrongOf_36 hl (k := 0) rfl (inc_n _ 1) (by decide) rfl (fun ls hl => ?_)
          refine lv_goto (tgt := 17) hx hb dX1_wrongOf_39 (by decide) ?_
          refine lv_iload_n hx hb dX1_wrongOf_17 rfl (lv_at hl 0 rfl) ?_
          refine lv_iconst (v := nI 3) hx hb dX1_wrongOf_18 (by decide) ?_
          refine bi_ge (tgt := 42) hx hb dX1_wrongOf_19 (by decide) (nI_i (by omega)) (nI_i (by omega)) (fun c_19 => ?_) (fun c_19 => False.elim (by omega))
          refine lv_iload_n hx hb dX1_wrongOf_42 rfl (lv_at hl 1 rfl) ?_
          exact R_i hx hb hr hlk dX1_wrongOf_43 (by refine congrArg nI ?_; (first | rw [nb_f (fun z_ => z_ (by assumption))] | rw [nb_t (by assumption)]); (first | rw [nb_f (fun z_ => z_ (by assumption))] | rw [nb_t (by assumption)]); (first | rw [nb_f (fun z_ => z_ (by assumption))] | rw [nb_t (by assumption)]); (first | rw [nb_f (fun z_ => z_ (by assumption))] | rw [nb_t (by assumption)]))
        ·
          refine lv_iinc (v := nI (1 + 1 + 1 + 1)) (lv' := [(2, .int (nI (1 + 1 + 1 + 1))), (3, .int (nI (0 + 1 + 1))), (0, .ref h), (1, .int (nI lv))]) hx hb dX1_wrongOf_33 hl (k := 1) rfl (inc_n _ 1) (by decide) rfl (fun ls hl => ?_)
          refine lv_iinc (v := nI (0 + 1 + 1 + 1)) (lv' := [(3, .int (nI (0 + 1 + 1 + 1))), (2, .int (nI (1 + 1 + 1 + 1))), (0, .ref h), (1, .int (nI lv))]) hx hb dX1_wrongOf_36 hl (k := 1) rfl (inc_n _ 1) (by decide) rfl (fun ls hl => ?_)
          refine lv_goto (tgt := 17) hx hb dX1_wrongOf_39 (by decide) ?_
          refine lv_iload_n hx hb dX1_wrongOf_17 rfl (lv_at hl 0 rfl) ?_
          refine lv_iconst (v := nI 3) hx hb dX1_wrongOf_18 (by decide) ?_
          refine bi_ge (tgt := 42) hx hb dX1_wrongOf_19 (by decide) (nI_i (by omega)) (nI_i (by omega)) (fun c_19 => ?_) (fun c_19 => False.elim (by omega))
          refine lv_iload_n hx hb dX1_wrongOf_42 rfl (lv_at hl 1 rfl) ?_
          exact R_i hx hb hr hlk dX1_wrongOf_43 (by refine congrArg nI ?_; (first | rw [nb_f (fun z_ => z_ (by assumption))] | rw [nb_t (by assumption)]); (first | rw [nb_f (fun z_ => z_ (by assumption))] | rw [nb_t (by assumption)]); (first | rw [nb_f (fun z_ => z_ (by assumption))] | rw [nb_t (by assumption)]); (first | rw [nb_f (fun z_ => z_ (by assumption))] | rw [nb_t (by assumption)]))
  ·
    refine lv_iconst (v := nI 0) hx hb dX1_wrongOf_9 (by decide) ?_
    refine lv_goto (tgt := 14) hx hb dX1_wrongOf_10 (by decide) ?_
    refine lv_istore_n (lv' := [(2, .int (nI 0)), (0, .ref h), (1, .int (nI lv))]) hx hb dX1_wrongOf_14 rfl hl (by decide) rfl (fun ls hl => ?_)
    refine lv_iconst (v := nI 0) hx hb dX1_wrongOf_15 (by decide) ?_
    refine lv_istore_n (lv' := [(3, .int (nI 0)), (2, .int (nI 0)), (0, .ref h), (1, .int (nI lv))]) hx hb dX1_wrongOf_16 rfl hl (by decide) rfl (fun ls hl => ?_)
    refine lv_iload_n hx hb dX1_wrongOf_17 rfl (lv_at hl 0 rfl) ?_
    refine lv_iconst (v := nI 3) hx hb dX1_wrongOf_18 (by decide) ?_
    refine bi_ge (tgt := 42) hx hb dX1_wrongOf_19 (by decide) (nI_i (by omega)) (nI_i (by omega)) (fun c_19 => False.elim (by omega)) (fun c_19 => ?_)
    refine lv_aload_n hx hb dX1_wrongOf_22 rfl (lv_at hl 2 rfl) ?_
    refine lv_iconst (v := nI 3) hx hb dX1_wrongOf_23 (by decide) ?_
    refine lv_iload_n hx hb dX1_wrongOf_24 rfl (lv_at hl 0 rfl) ?_
    refine nv_iadd hx hb dX1_wrongOf_25 ?_
    refine lv_iload_n hx hb dX1_wrongOf_26 rfl (lv_at hl 3 rfl) ?_
    refine cRV (As := [.int (nI 3), .int (nI lv)]) (rest := []) (v := .int (zb (f (48 + lv) = f (16 + lv)))) ⟨hx, hb, hml, hown, hts⟩ (c_X1_isRight l G h hc n g sk f 3 lv (by first | omega | assumption) (by first | omega | assumption)) (cwV 2 hts gX1_wrongOf_X1_isRight rfl rfl rfl (by decide +kernel) ⟨Nat.le_of_ble_eq_true rfl, Nat.le_of_ble_eq_true rfl⟩) (preV_of hK hP hD [0, 1] (by decide) rfl (ci := 1) (q0 := 0) rfl rfl rfl) rfl hl.1 rfl (lv_room (Nat.le_of_ble_eq_true rfl)) dX1_wrongOf_27 ⟨Nat.zero_le _, Nat.zero_le _⟩ ?_
    refine bb_ne (tgt := 36) hx hb dX1_wrongOf_30 (by decide) (fun c_30 => ?_) (fun c_30 => ?_)
    ·
      refine lv_iinc (v := nI (0 + 1)) (lv' := [(3, .int (nI (0 + 1))), (2, .int (nI 0)), (0, .ref h), (1, .int (nI lv))]) hx hb dX1_wrongOf_36 hl (k := 0) rfl (inc_n _ 1) (by decide) rfl (fun ls hl => ?_)
      refine lv_goto (tgt := 17) hx hb dX1_wrongOf_39 (by decide) ?_
      refine lv_iload_n hx hb dX1_wrongOf_17 rfl (lv_at hl 0 rfl) ?_
      refine lv_iconst (v := nI 3) hx hb dX1_wrongOf_18 (by decide) ?_
      refine bi_ge (tgt := 42) hx hb dX1_wrongOf_19 (by decide) (nI_i (by omega)) (nI_i (by omega)) (fun c_19 => False.elim (by omega)) (fun c_19 => ?_)
      refine lv_aload_n hx hb dX1_wrongOf_22 rfl (lv_at hl 2 rfl) ?_
      refine lv_iconst (v := nI 3) hx hb dX1_wrongOf_23 (by decide) ?_
      refine lv_iload_n hx hb dX1_wrongOf_24 rfl (lv_at hl 0 rfl) ?_
      refine nv_iadd hx hb dX1_wrongOf_25 ?_
      refine lv_iload_n hx hb dX1_wrongOf_26 rfl (lv_at hl 3 rfl) ?_
      refine cRV (As := [.int (nI (3 + (0 + 1))), .int (nI lv)]) (rest := []) (v := .int (zb (f (64 + lv) = f (16 + lv)))) ⟨hx, hb, hml, hown, hts⟩ (c_X1_isRight l G h hc n g sk f (3 + (0 + 1)) lv (by first | omega | assumption) (by first | omega | assumption)) (cwV 2 hts gX1_wrongOf_X1_isRight rfl rfl rfl (by decide +kernel) ⟨Nat.le_of_ble_eq_true rfl, Nat.le_of_ble_eq_true rfl⟩) (preV_of hK hP hD [0, 1] (by decide) rfl (ci := 1) (q0 := 0) rfl rfl rfl) rfl hl.1 rfl (lv_room (Nat.le_of_ble_eq_true rfl)) dX1_wrongOf_27 ⟨Nat.zero_le _, Nat.zero_le _⟩ ?_
      refine bb_ne (tgt := 36) hx hb dX1_wrongOf_30 (by decide) (fun c_30 => ?_) (fun c_30 => ?_)
      ·
        refine lv_iinc (v := nI (0 + 1 + 1)) (lv' := [(3, .int (nI (0 + 1 + 1))), (2, .int (nI 0)), (0, .ref h), (1, .int (nI lv))]) hx hb dX1_wrongOf_36 hl (k := 0) rfl (inc_n _ 1) (by decide) rfl (fun ls hl => ?_)
        refine lv_goto (tgt := 17) hx hb dX1_wrongOf_39 (by decide) ?_
        refine lv_iload_n hx hb dX1_wrongOf_17 rfl (lv_at hl 0 rfl) ?_
        refine lv_iconst (v := nI 3) hx hb dX1_wrongOf_18 (by decide) ?_
        refine bi_ge (tgt := 42) hx hb dX1_wrongOf_19 (by decide) (nI_i (by omega)) (nI_i (by omega)) (fun c_19 => False.elim (by omega)) (fun c_19 => ?_)
        refine lv_aload_n hx hb dX1_wrongOf_22 rfl (lv_at hl 2 rfl) ?_
        refine lv_iconst (v := nI 3) hx hb dX1_wrongOf_23 (by decide) ?_
        refine lv_iload_n hx hb dX1_wrongOf_24 rfl (lv_at hl 0 rfl) ?_
        refine nv_iadd hx hb dX1_wrongOf_25 ?_
        refine lv_iload_n hx hb dX1_wrongOf_26 rfl (lv_at hl 3 rfl) ?_
        refine cRV (As := [.int (nI (3 + (0 + 1 + 1))), .int (nI lv)]) (rest := []) (v := .int (zb (f (80 + lv) = f (16 + lv)))) ⟨hx, hb, hml, hown, hts⟩ (c_X1_isRight l G h hc n g sk f (3 + (0 + 1 + 1)) lv (by first | omega | assumption) (by first | omega | assumption)) (cwV 2 hts gX1_wrongOf_X1_isRight rfl rfl rfl (by decide +kernel) ⟨Nat.le_of_ble_eq_true rfl, Nat.le_of_ble_eq_true rfl⟩) (preV_of hK hP hD [0, 1] (by decide) rfl (ci := 1) (q0 := 0) rfl rfl rfl) rfl hl.1 rfl (lv_room (Nat.le_of_ble_eq_true rfl)) dX1_wrongOf_27 ⟨Nat.zero_le _, Nat.zero_le _⟩ ?_
        refine bb_ne (tgt := 36) hx hb dX1_wrongOf_30 (by decide) (fun c_30 => ?_) (fun c_30 => ?_)
        ·
          refine lv_iinc (v := nI (0 + 1 + 1 + 1)) (lv' := [(3, .int (nI (0 + 1 + 1 + 1))), (2, .int (nI 0)), (0, .ref h), (1, .int (nI lv))]) hx hb dX1_wrongOf_36 hl (k := 0) rfl (inc_n _ 1) (by decide) rfl (fun ls hl => ?_)
          refine lv_goto (tgt := 17) hx hb dX1_wrongOf_39 (by decide) ?_
          refine lv_iload_n hx hb dX1_wrongOf_17 rfl (lv_at hl 0 rfl) ?_
          refine lv_iconst (v := nI 3) hx hb dX1_wrongOf_18 (by decide) ?_
          refine bi_ge (tgt := 42) hx hb dX1_wrongOf_19 (by decide) (nI_i (by omega)) (nI_i (by omega)) (fun c_19 => ?_) (fun c_19 => False.elim (by omega))
          refine lv_iload_n hx hb dX1_wrongOf_42 rfl (lv_at hl 1 rfl) ?_
          exact R_i hx hb hr hlk dX1_wrongOf_43 (by refine congrArg nI ?_; (first | rw [nb_f (fun z_ => z_ (by assumption))] | rw [nb_t (by assumption)]); (first | rw [nb_f (fun z_ => z_ (by assumption))] | rw [nb_t (by assumption)]); (first | rw [nb_f (fun z_ => z_ (by assumption))] | rw [nb_t (by assumption)]); (first | rw [nb_f (fun z_ => z_ (by assumption))] | rw [nb_t (by assumption)]))
        ·
          refine lv_iinc (v := nI (0 + 1)) (lv' := [(2, .int (nI (0 + 1))), (3, .int (nI (0 + 1 + 1))), (0, .ref h), (1, .int (nI lv))]) hx hb dX1_wrongOf_33 hl (k := 1) rfl (inc_n _ 1) (by decide) rfl (fun ls hl => ?_)
          refine lv_iinc (v := nI (0 + 1 + 1 + 1)) (lv' := [(3, .int (nI (0 + 1 + 1 + 1))), (2, .int (nI (0 + 1))), (0, .ref h), (1, .int (nI lv))]) hx hb dX1_wrongOf_36 hl (k := 1) rfl (inc_n _ 1) (by decide) rfl (fun ls hl => ?_)
          refine lv_goto (tgt := 17) hx hb dX1_wrongOf_39 (by decide) ?_
          refine lv_iload_n hx hb dX1_wrongOf_17 rfl (lv_at hl 0 rfl) ?_
          refine lv_iconst (v := nI 3) hx hb dX1_wrongOf_18 (by decide) ?_
          refine bi_ge (tgt := 42) hx hb dX1_wrongOf_19 (by decide) (nI_i (by omega)) (nI_i (by omega)) (fun c_19 => ?_) (fun c_19 => False.elim (by omega))
          refine lv_iload_n hx hb dX1_wrongOf_42 rfl (lv_at hl 1 rfl) ?_
          exact R_i hx hb hr hlk dX1_wrongOf_43 (by refine congrArg nI ?_; (first | rw [nb_f (fun z_ => z_ (by assumption))] | rw [nb_t (by assumption)]); (first | rw [nb_f (fun z_ => z_ (by assumption))] | rw [nb_t (by assumption)]); (first | rw [nb_f (fun z_ => z_ (by assumption))] | rw [nb_t (by assumption)]); (first | rw [nb_f (fun z_ => z_ (by assumption))] | rw [nb_t (by assumption)]))
      ·
        refine lv_iinc (v := nI (0 + 1)) (lv' := [(2, .int (nI (0 + 1))), (3, .int (nI (0 + 1))), (0, .ref h), (1, .int (nI lv))]) hx hb dX1_wrongOf_33 hl (k := 1) rfl (inc_n _ 1) (by decide) rfl (fun ls hl => ?_)
        refine lv_iinc (v := nI (0 + 1 + 1)) (lv' := [(3, .int (nI (0 + 1 + 1))), (2, .int (nI (0 + 1))), (0, .ref h), (1, .int (nI lv))]) hx hb dX1_wrongOf_36 hl (k := 1) rfl (inc_n _ 1) (by decide) rfl (fun ls hl => ?_)
        refine lv_goto (tgt := 17) hx hb dX1_wrongOf_39 (by decide) ?_
        refine lv_iload_n hx hb dX1_wrongOf_17 rfl (lv_at hl 0 rfl) ?_
        refine lv_iconst (v := nI 3) hx hb dX1_wrongOf_18 (by decide) ?_
        refine bi_ge (tgt := 42) hx hb dX1_wrongOf_19 (by decide) (nI_i (by omega)) (nI_i (by omega)) (fun c_19 => False.elim (by omega)) (fun c_19 => ?_)
        refine lv_aload_n hx hb dX1_wrongOf_22 rfl (lv_at hl 2 rfl) ?_
        refine lv_iconst (v := nI 3) hx hb dX1_wrongOf_23 (by decide) ?_
        refine lv_iload_n hx hb dX1_wrongOf_24 rfl (lv_at hl 0 rfl) ?_
        refine nv_iadd hx hb dX1_wrongOf_25 ?_
        refine lv_iload_n hx hb dX1_wrongOf_26 rfl (lv_at hl 3 rfl) ?_
        refine cRV (As := [.int (nI (3 + (0 + 1 + 1))), .int (nI lv)]) (rest := []) (v := .int (zb (f (80 + lv) = f (16 + lv)))) ⟨hx, hb, hml, hown, hts⟩ (c_X1_isRight l G h hc n g sk f (3 + (0 + 1 + 1)) lv (by first | omega | assumption) (by first | omega | assumption)) (cwV 2 hts gX1_wrongOf_X1_isRight rfl rfl rfl (by decide +kernel) ⟨Nat.le_of_ble_eq_true rfl, Nat.le_of_ble_eq_true rfl⟩) (preV_of hK hP hD [0, 1] (by decide) rfl (ci := 1) (q0 := 0) rfl rfl rfl) rfl hl.1 rfl (lv_room (Nat.le_of_ble_eq_true rfl)) dX1_wrongOf_27 ⟨Nat.zero_le _, Nat.zero_le _⟩ ?_
        refine bb_ne (tgt := 36) hx hb dX1_wrongOf_30 (by decide) (fun c_30 => ?_) (fun c_30 => ?_)
        ·
          refine lv_iinc (v := nI (0 + 1 + 1 + 1)) (lv' := [(3, .int (nI (0 + 1 + 1 + 1))), (2, .int (nI (0 + 1))), (0, .ref h), (1, .int (nI lv))]) hx hb dX1_wrongOf_36 hl (k := 0) rfl (inc_n _ 1) (by decide) rfl (fun ls hl => ?_)
          refine lv_goto (tgt := 17) hx hb dX1_wrongOf_39 (by decide) ?_
          refine lv_iload_n hx hb dX1_wrongOf_17 rfl (lv_at hl 0 rfl) ?_
          refine lv_iconst (v := nI 3) hx hb dX1_wrongOf_18 (by decide) ?_
          refine bi_ge (tgt := 42) hx hb dX1_wrongOf_19 (by decide) (nI_i (by omega)) (nI_i (by omega)) (fun c_19 => ?_) (fun c_19 => False.elim (by omega))
          refine lv_iload_n hx hb dX1_wrongOf_42 rfl (lv_at hl 1 rfl) ?_
          exact R_i hx hb hr hlk dX1_wrongOf_43 (by refine congrArg nI ?_; (first | rw [nb_f (fun z_ => z_ (by assumption))] | rw [nb_t (by assumption)]); (first | rw [nb_f (fun z_ => z_ (by assumption))] | rw [nb_t (by assumption)]); (first | rw [nb_f (fun z_ => z_ (by assumption))] | rw [nb_t (by assumption)]); (first | rw [nb_f (fun z_ => z_ (by assumption))] | rw [nb_t (by assumption)]))
        ·
          refine lv_iinc (v := nI (0 + 1 + 1)) (lv' := [(2, .int (nI (0 + 1 + 1))), (3, .int (nI (0 + 1 + 1))), (0, .ref h), (1, .int (nI lv))]) hx hb dX1_wrongOf_33 hl (k := 1) rfl (inc_n _ 1) (by decide) rfl (fun ls hl => ?_)
          refine lv_iinc (v := nI (0 + 1 + 1 + 1)) (lv' := [(3, .int (nI (0 + 1 + 1 + 1))), (2, .int (nI (0 + 1 + 1))), (0, .ref h), (1, .int (nI lv))]) hx hb dX1_wrongOf_36 hl (k := 1) rfl (inc_n _ 1) (by decide) rfl (fun ls hl => ?_)
          refine lv_goto (tgt := 17) hx hb dX1_wrongOf_39 (by decide) ?_
          refine lv_iload_n hx hb dX1_wrongOf_17 rfl (lv_at hl 0 rfl) ?_
          refine lv_iconst (v := nI 3) hx hb dX1_wrongOf_18 (by decide) ?_
          refine bi_ge (tgt := 42) hx hb dX1_wrongOf_19 (by decide) (nI_i (by omega)) (nI_i (by omega)) (fun c_19 => ?_) (fun c_19 => False.elim (by omega))
          refine lv_iload_n hx hb dX1_wrongOf_42 rfl (lv_at hl 1 rfl) ?_
          exact R_i hx hb hr hlk dX1_wrongOf_43 (by refine congrArg nI ?_; (first | rw [nb_f (fun z_ => z_ (by assumption))] | rw [nb_t (by assumption)]); (first | rw [nb_f (fun z_ => z_ (by assumption))] | rw [nb_t (by assumption)]); (first | rw [nb_f (fun z_ => z_ (by assumption))] | rw [nb_t (by assumption)]); (first | rw [nb_f (fun z_ => z_ (by assumption))] | rw [nb_t (by assumption)]))
    ·
      refine lv_iinc (v := nI (0 + 1)) (lv' := [(2, .int (nI (0 + 1))), (3, .int (nI 0)), (0, .ref h), (1, .int (nI lv))]) hx hb dX1_wrongOf_33 hl (k := 1) rfl (inc_n _ 1) (by decide) rfl (fun ls hl => ?_)
      refine lv_iinc (v := nI (0 + 1)) (lv' := [(3, .int (nI (0 + 1))), (2, .int (nI (0 + 1))), (0, .ref h), (1, .int (nI lv))]) hx hb dX1_wrongOf_36 hl (k := 1) rfl (inc_n _ 1) (by decide) rfl (fun ls hl => ?_)
      refine lv_goto (tgt := 17) hx hb dX1_wrongOf_39 (by decide) ?_
      refine lv_iload_n hx hb dX1_wrongOf_17 rfl (lv_at hl 0 rfl) ?_
      refine lv_iconst (v := nI 3) hx hb dX1_wrongOf_18 (by decide) ?_
      refine bi_ge (tgt := 42) hx hb dX1_wrongOf_19 (by decide) (nI_i (by omega)) (nI_i (by omega)) (fun c_19 => False.elim (by omega)) (fun c_19 => ?_)
      refine lv_aload_n hx hb dX1_wrongOf_22 rfl (lv_at hl 2 rfl) ?_
      refine lv_iconst (v := nI 3) hx hb dX1_wrongOf_23 (by decide) ?_
      refine lv_iload_n hx hb dX1_wrongOf_24 rfl (lv_at hl 0 rfl) ?_
      refine nv_iadd hx hb dX1_wrongOf_25 ?_
      refine lv_iload_n hx hb dX1_wrongOf_26 rfl (lv_at hl 3 rfl) ?_
      refine cRV (As := [.int (nI (3 + (0 + 1))), .int (nI lv)]) (rest := []) (v := .int (zb (f (64 + lv) = f (16 + lv)))) ⟨hx, hb, hml, hown, hts⟩ (c_X1_isRight l G h hc n g sk f (3 + (0 + 1)) lv (by first | omega | assumption) (by first | omega | assumption)) (cwV 2 hts gX1_wrongOf_X1_isRight rfl rfl rfl (by decide +kernel) ⟨Nat.le_of_ble_eq_true rfl, Nat.le_of_ble_eq_true rfl⟩) (preV_of hK hP hD [0, 1] (by decide) rfl (ci := 1) (q0 := 0) rfl rfl rfl) rfl hl.1 rfl (lv_room (Nat.le_of_ble_eq_true rfl)) dX1_wrongOf_27 ⟨Nat.zero_le _, Nat.zero_le _⟩ ?_
      refine bb_ne (tgt := 36) hx hb dX1_wrongOf_30 (by decide) (fun c_30 => ?_) (fun c_30 => ?_)
      ·
        refine lv_iinc (v := nI (0 + 1 + 1)) (lv' := [(3, .int (nI (0 + 1 + 1))), (2, .int (nI (0 + 1))), (0, .ref h), (1, .int (nI lv))]) hx hb dX1_wrongOf_36 hl (k := 0) rfl (inc_n _ 1) (by decide) rfl (fun ls hl => ?_)
        refine lv_goto (tgt := 17) hx hb dX1_wrongOf_39 (by decide) ?_
        refine lv_iload_n hx hb dX1_wrongOf_17 rfl (lv_at hl 0 rfl) ?_
        refine lv_iconst (v := nI 3) hx hb dX1_wrongOf_18 (by decide) ?_
        refine bi_ge (tgt := 42) hx hb dX1_wrongOf_19 (by decide) (nI_i (by omega)) (nI_i (by omega)) (fun c_19 => False.elim (by omega)) (fun c_19 => ?_)
        refine lv_aload_n hx hb dX1_wrongOf_22 rfl (lv_at hl 2 rfl) ?_
        refine lv_iconst (v := nI 3) hx hb dX1_wrongOf_23 (by decide) ?_
        refine lv_iload_n hx hb dX1_wrongOf_24 rfl (lv_at hl 0 rfl) ?_
        refine nv_iadd hx hb dX1_wrongOf_25 ?_
        refine lv_iload_n hx hb dX1_wrongOf_26 rfl (lv_at hl 3 rfl) ?_
        refine cRV (As := [.int (nI (3 + (0 + 1 + 1))), .int (nI lv)]) (rest := []) (v := .int (zb (f (80 + lv) = f (16 + lv)))) ⟨hx, hb, hml, hown, hts⟩ (c_X1_isRight l G h hc n g sk f (3 + (0 + 1 + 1)) lv (by first | omega | assumption) (by first | omega | assumption)) (cwV 2 hts gX1_wrongOf_X1_isRight rfl rfl rfl (by decide +kernel) ⟨Nat.le_of_ble_eq_true rfl, Nat.le_of_ble_eq_true rfl⟩) (preV_of hK hP hD [0, 1] (by decide) rfl (ci := 1) (q0 := 0) rfl rfl rfl) rfl hl.1 rfl (lv_room (Nat.le_of_ble_eq_true rfl)) dX1_wrongOf_27 ⟨Nat.zero_le _, Nat.zero_le _⟩ ?_
        refine bb_ne (tgt := 36) hx hb dX1_wrongOf_30 (by decide) (fun c_30 => ?_) (fun c_30 => ?_)
        ·
          refine lv_iinc (v := nI (0 + 1 + 1 + 1)) (lv' := [(3, .int (nI (0 + 1 + 1 + 1))), (2, .int (nI (0 + 1))), (0, .ref h), (1, .int (nI lv))]) hx hb dX1_wrongOf_36 hl (k := 0) rfl (inc_n _ 1) (by decide) rfl (fun ls hl => ?_)
          refine lv_goto (tgt := 17) hx hb dX1_wrongOf_39 (by decide) ?_
          refine lv_iload_n hx hb dX1_wrongOf_17 rfl (lv_at hl 0 rfl) ?_
          refine lv_iconst (v := nI 3) hx hb dX1_wrongOf_18 (by decide) ?_
          refine bi_ge (tgt := 42) hx hb dX1_wrongOf_19 (by decide) (nI_i (by omega)) (nI_i (by omega)) (fun c_19 => ?_) (fun c_19 => False.elim (by omega))
          refine lv_iload_n hx hb dX1_wrongOf_42 rfl (lv_at hl 1 rfl) ?_
          exact R_i hx hb hr hlk dX1_wrongOf_43 (by refine congrArg nI ?_; (first | rw [nb_f (fun z_ => z_ (by assumption))] | rw [nb_t (by assumption)]); (first | rw [nb_f (fun z_ => z_ (by assumption))] | rw [nb_t (by assumption)]); (first | rw [nb_f (fun z_ => z_ (by assumption))] | rw [nb_t (by assumption)]); (first | rw [nb_f (fun z_ => z_ (by assumption))] | rw [nb_t (by assumption)]))
        ·
          refine lv_iinc (v := nI (0 + 1 + 1)) (lv' := [(2, .int (nI (0 + 1 + 1))), (3, .int (nI (0 + 1 + 1))), (0, .ref h), (1, .int (nI lv))]) hx hb dX1_wrongOf_33 hl (k := 1) rfl (inc_n _ 1) (by decide) rfl (fun ls hl => ?_)
          refine lv_iinc (v := nI (0 + 1 + 1 + 1)) (lv' := [(3, .int (nI (0 + 1 + 1 + 1))), (2, .int (nI (0 + 1 + 1))), (0, .ref h), (1, .int (nI lv))]) hx hb dX1_wrongOf_36 hl (k := 1) rfl (inc_n _ 1) (by decide) rfl (fun ls hl => ?_)
          refine lv_goto (tgt := 17) hx hb dX1_wrongOf_39 (by decide) ?_
          refine lv_iload_n hx hb dX1_wrongOf_17 rfl (lv_at hl 0 rfl) ?_
          refine lv_iconst (v := nI 3) hx hb dX1_wrongOf_18 (by decide) ?_
          refine bi_ge (tgt := 42) hx hb dX1_wrongOf_19 (by decide) (nI_i (by omega)) (nI_i (by omega)) (fun c_19 => ?_) (fun c_19 => False.elim (by omega))
          refine lv_iload_n hx hb dX1_wrongOf_42 rfl (lv_at hl 1 rfl) ?_
          exact R_i hx hb hr hlk dX1_wrongOf_43 (by refine congrArg nI ?_; (first | rw [nb_f (fun z_ => z_ (by assumption))] | rw [nb_t (by assumption)]); (first | rw [nb_f (fun z_ => z_ (by assumption))] | rw [nb_t (by assumption)]); (first | rw [nb_f (fun z_ => z_ (by assumption))] | rw [nb_t (by assumption)]); (first | rw [nb_f (fun z_ => z_ (by assumption))] | rw [nb_t (by assumption)]))
      ·
        refine lv_iinc (v := nI (0 + 1 + 1)) (lv' := [(2, .int (nI (0 + 1 + 1))), (3, .int (nI (0 + 1))), (0, .ref h), (1, .int (nI lv))]) hx hb dX1_wrongOf_33 hl (k := 1) rfl (inc_n _ 1) (by decide) rfl (fun ls hl => ?_)
        refine lv_iinc (v := nI (0 + 1 + 1)) (lv' := [(3, .int (nI (0 + 1 + 1))), (2, .int (nI (0 + 1 + 1))), (0, .ref h), (1, .int (nI lv))]) hx hb dX1_wrongOf_36 hl (k := 1) rfl (inc_n _ 1) (by decide) rfl (fun ls hl => ?_)
        refine lv_goto (tgt := 17) hx hb dX1_wrongOf_39 (by decide) ?_
        refine lv_iload_n hx hb dX1_wrongOf_17 rfl (lv_at hl 0 rfl) ?_
        refine lv_iconst (v := nI 3) hx hb dX1_wrongOf_18 (by decide) ?_
        refine bi_ge (tgt := 42) hx hb dX1_wrongOf_19 (by decide) (nI_i (by omega)) (nI_i (by omega)) (fun c_19 => False.elim (by omega)) (fun c_19 => ?_)
        refine lv_aload_n hx hb dX1_wrongOf_22 rfl (lv_at hl 2 rfl) ?_
        refine lv_iconst (v := nI 3) hx hb dX1_wrongOf_23 (by decide) ?_
        refine lv_iload_n hx hb dX1_wrongOf_24 rfl (lv_at hl 0 rfl) ?_
        refine nv_iadd hx hb dX1_wrongOf_25 ?_
        refine lv_iload_n hx hb dX1_wrongOf_26 rfl (lv_at hl 3 rfl) ?_
        refine cRV (As := [.int (nI (3 + (0 + 1 + 1))), .int (nI lv)]) (rest := []) (v := .int (zb (f (80 + lv) = f (16 + lv)))) ⟨hx, hb, hml, hown, hts⟩ (c_X1_isRight l G h hc n g sk f (3 + (0 + 1 + 1)) lv (by first | omega | assumption) (by first | omega | assumption)) (cwV 2 hts gX1_wrongOf_X1_isRight rfl rfl rfl (by decide +kernel) ⟨Nat.le_of_ble_eq_true rfl, Nat.le_of_ble_eq_true rfl⟩) (preV_of hK hP hD [0, 1] (by decide) rfl (ci := 1) (q0 := 0) rfl rfl rfl) rfl hl.1 rfl (lv_room (Nat.le_of_ble_eq_true rfl)) dX1_wrongOf_27 ⟨Nat.zero_le _, Nat.zero_le _⟩ ?_
        refine bb_ne (tgt := 36) hx hb dX1_wrongOf_30 (by decide) (fun c_30 => ?_) (fun c_30 => ?_)
        ·
          refine lv_iinc (v := nI (0 + 1 + 1 + 1)) (lv' := [(3, .int (nI (0 + 1 + 1 + 1))), (2, .int (nI (0 + 1 + 1))), (0, .ref h), (1, .int (nI lv))]) hx hb dX1_wrongOf_36 hl (k := 0) rfl (inc_n _ 1) (by decide) rfl (fun ls hl => ?_)
          refine lv_goto (tgt := 17) hx hb dX1_wrongOf_39 (by decide) ?_
          refine lv_iload_n hx hb dX1_wrongOf_17 rfl (lv_at hl 0 rfl) ?_
          refine lv_iconst (v := nI 3) hx hb dX1_wrongOf_18 (by decide) ?_
          refine bi_ge (tgt := 42) hx hb dX1_wrongOf_19 (by decide) (nI_i (by omega)) (nI_i (by omega)) (fun c_19 => ?_) (fun c_19 => False.elim (by omega))
          refine lv_iload_n hx hb dX1_wrongOf_42 rfl (lv_at hl 1 rfl) ?_
          exact R_i hx hb hr hlk dX1_wrongOf_43 (by refine congrArg nI ?_; (first | rw [nb_f (fun z_ => z_ (by assumption))] | rw [nb_t (by assumption)]); (first | rw [nb_f (fun z_ => z_ (by assumption))] | rw [nb_t (by assumption)]); (first | rw [nb_f (fun z_ => z_ (by assumption))] | rw [nb_t (by assumption)]); (first | rw [nb_f (fun z_ => z_ (by assumption))] | rw [nb_t (by assumption)]))
        ·
          refine lv_iinc (v := nI (0 + 1 + 1 + 1)) (lv' := [(2, .int (nI (0 + 1 + 1 + 1))), (3, .int (nI (0 + 1 + 1))), (0, .ref h), (1, .int (nI lv))]) hx hb dX1_wrongOf_33 hl (k := 1) rfl (inc_n _ 1) (by decide) rfl (fun ls hl => ?_)
          refine lv_iinc (v := nI (0 + 1 + 1 + 1)) (lv' := [(3, .int (nI (0 + 1 + 1 + 1))), (2, .int (nI (0 + 1 + 1 + 1))), (0, .ref h), (1, .int (nI lv))]) hx hb dX1_wrongOf_36 hl (k := 1) rfl (inc_n _ 1) (by decide) rfl (fun ls hl => ?_)
          refine lv_goto (tgt := 17) hx hb dX1_wrongOf_39 (by decide) ?_
          refine lv_iload_n hx hb dX1_wrongOf_17 rfl (lv_at hl 0 rfl) ?_
          refine lv_iconst (v := nI 3) hx hb dX1_wrongOf_18 (by decide) ?_
          refine bi_ge (tgt := 42) hx hb dX1_wrongOf_19 (by decide) (nI_i (by omega)) (nI_i (by omega)) (fun c_19 => ?_) (fun c_19 => False.elim (by omega))
          refine lv_iload_n hx hb dX1_wrongOf_42 rfl (lv_at hl 1 rfl) ?_
          exact R_i hx hb hr hlk dX1_wrongOf_43 (by refine congrArg nI ?_; (first | rw [nb_f (fun z_ => z_ (by assumption))] | rw [nb_t (by assumption)]); (first | rw [nb_f (fun z_ => z_ (by assumption))] | rw [nb_t (by assumption)]); (first | rw [nb_f (fun z_ => z_ (by assumption))] | rw [nb_t (by assumption)]); (first | rw [nb_f (fun z_ => z_ (by assumption))] | rw [nb_t (by assumption)]))

theorem in_c_X1_storeyAbove_X1 : ∀ w ∈ wsX10, w ∈ wsX1_storeyAbove := by decide +kernel
set_option maxHeartbeats 4000000 in
set_option maxRecDepth 100000 in
theorem c_X1_storeyAbove (l : Launch) (G : GG) (h : Nat) (hc : Nat) (n : Nat) (g : Nat) (sk : Int32) (f : Nat → Int32) (q : Nat) (h_q : q ≤ 46) : Met l yX1_storeyAbove wsX1_storeyAbove ({ frames := 0, cells := 0, slots := 0, locals := 0 } : Room) (va_Pc [.ref h, .int (nI q)] (PB G [(h, .inr (1, [.ref hc, .int (nI n), .int (nI g), .int sk])), (hc, .inl (G.2 0, 144, .inl f))])) (QR (some (.int (nI (nx sk (q + 1)))))) 0 0 (fun _ => False) := by
  refine Met.go (cc := cX1_storeyAbove) (maxL := 3) (ret := (some .int)) (by decide) rfl (Nat.le_of_ble_eq_true rfl) ?_
  intro p e s m below meth c ls hx hb hr hml hown hts hlk hP hK hD hS hl
  have hown : s.vm.findClass RX1 = some m.cls := hown
  have hl : lv_has ls 3 [(0, .ref h), (1, .int (nI q))] := hl
  refine lv_iload_n hx hb dX1_storeyAbove_0 rfl (lv_at hl 1 rfl) ?_
  refine lv_iconst (v := nI 1) hx hb dX1_storeyAbove_1 (by decide) ?_
  refine nv_iadd hx hb dX1_storeyAbove_2 ?_
  refine lv_istore_n (lv' := [(2, .int (nI (q + 1))), (0, .ref h), (1, .int (nI q))]) hx hb dX1_storeyAbove_3 rfl hl (by decide) rfl (fun ls hl => ?_)
  have loop_4 : ∀ (k_ : Nat) (t : Nat) (h_t : t ≤ 47) (h_e : nx sk (q + 1) = nx sk t) (_ : 48 - t < k_) (ls : Array Slot), lv_has ls 3 [(2, .int (nI t)), (0, .ref h), (1, .int (nI q))] → W p l e ({ frames := 0, cells := 0, slots := 0, locals := 0 } : Room) s m ([.ref h, .int (nI q)] : List Value).toArray below meth c s.heap [] 0 0 (MQ below (QR (some (.int (nI (nx sk (q + 1)))))) ([.ref h, .int (nI q)] : List Value).toArray s 0 0 (fun _ => False)) (F0 m 4 ls []) := by
    intro k_
    induction k_ with
    | zero => intro t h_t h_e hk_; exact absurd hk_ (Nat.not_lt_zero _)
    | succ k_ ih_4 =>
      intro t h_t h_e hk_ ls hl
      refine lv_iload_n hx hb dX1_storeyAbove_4 rfl (lv_at hl 0 rfl) ?_
      refine lv_bipush (v := nI 30) hx hb dX1_storeyAbove_5 (by decide) ?_
      refine bi_gt (tgt := 28) hx hb dX1_storeyAbove_7 (by decide) (nI_i (by omega)) (nI_i (by omega)) (fun c_7 => ?_) (fun c_7 => ?_)
      ·
        refine lv_iload_n hx hb dX1_storeyAbove_28 rfl (lv_at hl 0 rfl) ?_
        exact R_i hx hb hr hlk dX1_storeyAbove_29 (by rw [h_e, nx_e (fun z_ => by omega)])
      ·
        refine lv_aload_n hx hb dX1_storeyAbove_10 rfl (lv_at hl 1 rfl) ?_
        refine va_get (D := G.1) (ci := 1) (v := .int sk) (C := RX1) (T := TX1) (N := 4) hx hb hts in_c_X1_storeyAbove_X1 hown hK.1 hP 0 rfl rfl 3 (by decide) (hts (.fieldLink RX1 35 "FloorPanels$House" "skipped" "I") (by decide +kernel)) (fun _ h9 => h9) rfl dX1_storeyAbove_11 ?_
        refine lv_iload_n hx hb dX1_storeyAbove_14 rfl (lv_at hl 0 rfl) ?_
        refine lv_iushr hx hb dX1_storeyAbove_15 rfl ?_
        refine lv_iconst (v := nI 1) hx hb dX1_storeyAbove_16 (by decide) ?_
        refine lv_iand hx hb dX1_storeyAbove_17 ?_
        refine lv_iconst (v := nI 1) hx hb dX1_storeyAbove_18 (by decide) ?_
        refine lv_icmp_ne (tgt := 28) hx hb dX1_storeyAbove_19 (by decide) (fun c_19 => ?_) (fun c_19 => ?_)
        ·
          have h_b : ¬ bt sk t = true := fun z_ => c_19 ((sk_u sk (by omega)).mpr z_)
          refine lv_iload_n hx hb dX1_storeyAbove_28 rfl (lv_at hl 0 rfl) ?_
          exact R_i hx hb hr hlk dX1_storeyAbove_29 (by rw [h_e, nx_e (fun z_ => h_b z_.2)])
        ·
          have h_b : bt sk t = true := (sk_u sk (by omega)).mp c_19
          refine lv_iinc (v := nI (t + 1)) (lv' := [(2, .int (nI (t + 1))), (0, .ref h), (1, .int (nI q))]) hx hb dX1_storeyAbove_22 hl (k := 0) rfl (inc_n _ 1) (by decide) rfl (fun ls hl => ?_)
          refine lv_goto (tgt := 4) hx hb dX1_storeyAbove_25 (by decide) ?_
          exact ih_4 (t + 1) (by first | omega | assumption) (h_e.trans (nx_s (by omega) h_b)) (by omega) ls (lv_sub hl [0, 1, 2] (by rfl))
  exact loop_4 (48 - (q + 1) + 1) (q + 1) (by first | omega | assumption) rfl (Nat.lt_succ_self _)  ls (lv_sub hl [0, 1, 2] (by rfl))

set_option maxHeartbeats 4000000 in
set_option maxRecDepth 100000 in
theorem c_X1_nameBy (l : Launch) (G : GG) (h : Nat) (hc : Nat) (n : Nat) (g : Nat) (sk : Int32) (f : Nat → Int32) (lv : Nat) (w : Int32) (h_lv : lv < 16) : Met l yX1_nameBy wsX1_nameBy ({ frames := 1, cells := 0, slots := 0, locals := 23 } : Room) (va_Pc [.ref h, .int (nI lv), .int w] (PB G [(h, .inr (1, [.ref hc, .int (nI n), .int (nI g), .int sk])), (hc, .inl (G.2 0, 144, .inl f))])) (QW G (none) [(h, .inr (1, [.ref hc, .int (nI n), .int (nI g), .int sk])), (hc, .inl (G.2 0, 144, .inl (upd f (16 + lv) (nmr w (f lv)))))] (vA [(h, .inr (1, [.ref hc, .int (nI n), .int (nI g), .int sk])), (hc, .inl (G.2 0, 144, .inl f))])) 0 0 (vA [(h, .inr (1, [.ref hc, .int (nI n), .int (nI g), .int sk])), (hc, .inl (G.2 0, 144, .inl f))]) := by
  refine Met.go (cc := cX1_nameBy) (maxL := 4) (ret := none) (by decide) rfl (Nat.le_of_ble_eq_true rfl) ?_
  intro p e s m below meth c ls hx hb hr hml hown hts hlk hP hK hD hS hl
  have hown : s.vm.findClass RX1 = some m.cls := hown
  have hl : lv_has ls 4 [(0, .ref h), (1, .int (nI lv)), (2, .int w)] := hl
  refine lv_aload_n hx hb dX1_nameBy_0 rfl (lv_at hl 0 rfl) ?_
  refine lv_iconst (v := nI 0) hx hb dX1_nameBy_1 (by decide) ?_
  refine lv_iload_n hx hb dX1_nameBy_2 rfl (lv_at hl 1 rfl) ?_
  refine cRV (As := [.int (nI 0), .int (nI lv)]) (rest := []) (v := .int (f lv)) ⟨hx, hb, hml, hown, hts⟩ (c_X1_cell_0 l G h hc n g sk f lv (by first | omega | assumption)) (cwV 2 hts gX1_nameBy_X1_cell rfl rfl rfl (by decide +kernel) ⟨Nat.le_of_ble_eq_true rfl, Nat.le_of_ble_eq_true rfl⟩) (preV_of hK hP hD [0, 1] (by decide) rfl (ci := 1) (q0 := 0) rfl rfl rfl) rfl hl.1 rfl (lv_room (Nat.le_of_ble_eq_true rfl)) dX1_nameBy_3 ⟨Nat.zero_le _, Nat.zero_le _⟩ ?_
  refine lv_istore_n (lv' := [(3, .int (f lv)), (0, .ref h), (1, .int (nI lv)), (2, .int w)]) hx hb dX1_nameBy_6 rfl hl (by decide) rfl (fun ls hl => ?_)
  refine lv_aload_n hx hb dX1_nameBy_7 rfl (lv_at hl 1 rfl) ?_
  refine lv_iconst (v := nI 1) hx hb dX1_nameBy_8 (by decide) ?_
  refine lv_iload_n hx hb dX1_nameBy_9 rfl (lv_at hl 2 rfl) ?_
  refine lv_iload_n hx hb dX1_nameBy_10 rfl (lv_at hl 0 rfl) ?_
  refine lv_iconst (v := nI 3) hx hb dX1_nameBy_11 (by decide) ?_
  refine lv_icmp_ne (tgt := 19) hx hb dX1_nameBy_12 (by decide) (fun c_12 => ?_) (fun c_12 => ?_)
  ·
    refine lv_iconst (v := nI 4) hx hb dX1_nameBy_19 (by decide) ?_
    refine lv_iload_n hx hb dX1_nameBy_20 rfl (lv_at hl 3 rfl) ?_
    refine lv_imul hx hb dX1_nameBy_21 ?_
    refine lv_iload_n hx hb dX1_nameBy_22 rfl (lv_at hl 0 rfl) ?_
    refine lv_iadd hx hb dX1_nameBy_23 ?_
    refine cWV (As := [.int (nI 1), .int (nI lv), .int (((nI 4) * w) + (f lv))]) (rest := []) (st1 := []) (w3 := [(h, .inr (1, [.ref hc, .int (nI n), .int (nI g), .int sk])), (hc, .inl (G.2 0, 144, .inl (upd f (16 + lv) (nmr w (f lv)))))]) ⟨hx, hb, hml, hown, hts⟩ (c_X1_put l G h hc n g sk f 1 lv (((nI 4) * w) + (f lv)) (by first | omega | assumption) (by first | omega | assumption)) (cwV 3 hts gX1_nameBy_X1_put rfl rfl rfl (by decide +kernel) ⟨Nat.le_of_ble_eq_true rfl, Nat.le_of_ble_eq_true rfl⟩) (preV_of hK hP hD [0, 1] (by decide) rfl (ci := 1) (q0 := 0) rfl rfl rfl) rfl hl.1 rfl (lv_room (Nat.le_of_ble_eq_true rfl)) dX1_nameBy_24 ⟨Nat.zero_le _, Nat.zero_le _⟩ hP hD hS [0, 1] (by decide) rfl rfl (by rw [nmr_n c_12]; rfl) rfl (fun H locs hP hD hS => ?_)
    exact W_v hx hb hr hlk dX1_nameBy_27 hP hS (rfl)
  ·
    refine lv_iconst (v := (-1)) hx hb dX1_nameBy_15 (by decide) ?_
    refine lv_goto (tgt := 24) hx hb dX1_nameBy_16 (by decide) ?_
    refine cWV (As := [.int (nI 1), .int (nI lv), .int (-1)]) (rest := []) (st1 := []) (w3 := [(h, .inr (1, [.ref hc, .int (nI n), .int (nI g), .int sk])), (hc, .inl (G.2 0, 144, .inl (upd f (16 + lv) (nmr w (f lv)))))]) ⟨hx, hb, hml, hown, hts⟩ (c_X1_put l G h hc n g sk f 1 lv (-1) (by first | omega | assumption) (by first | omega | assumption)) (cwV 3 hts gX1_nameBy_X1_put rfl rfl rfl (by decide +kernel) ⟨Nat.le_of_ble_eq_true rfl, Nat.le_of_ble_eq_true rfl⟩) (preV_of hK hP hD [0, 1] (by decide) rfl (ci := 1) (q0 := 0) rfl rfl rfl) rfl hl.1 rfl (lv_room (Nat.le_of_ble_eq_true rfl)) dX1_nameBy_24 ⟨Nat.zero_le _, Nat.zero_le _⟩ hP hD hS [0, 1] (by decide) rfl rfl (by rw [nmr_3 c_12]; rfl) rfl (fun H locs hP hD hS => ?_)
    exact W_v hx hb hr hlk dX1_nameBy_27 hP hS (rfl)

set_option maxHeartbeats 4000000 in
set_option maxRecDepth 100000 in
theorem c_X1_furnish (l : Launch) (G : GG) (h : Nat) (hc : Nat) (n : Nat) (g : Nat) (sk : Int32) (f : Nat → Int32) (lv : Nat) (k : Int32) (h_lv : lv < 16) : Met l yX1_furnish wsX1_furnish ({ frames := 1, cells := 0, slots := 0, locals := 23 } : Room) (va_Pc [.ref h, .int (nI lv), .int k] (PB G [(h, .inr (1, [.ref hc, .int (nI n), .int (nI g), .int sk])), (hc, .inl (G.2 0, 144, .inl f))])) (QW G (none) [(h, .inr (1, [.ref hc, .int (nI n), .int (nI g), .int sk])), (hc, .inl (G.2 0, 144, .inl (fur lv k f)))] (vA [(h, .inr (1, [.ref hc, .int (nI n), .int (nI g), .int sk])), (hc, .inl (G.2 0, 144, .inl f))])) 0 0 (vA [(h, .inr (1, [.ref hc, .int (nI n), .int (nI g), .int sk])), (hc, .inl (G.2 0, 144, .inl f))]) := by
  refine Met.go (cc := cX1_furnish) (maxL := 4) (ret := none) (by decide) rfl (Nat.le_of_ble_eq_true rfl) ?_
  intro p e s m below meth c ls hx hb hr hml hown hts hlk hP hK hD hS hl
  have hown : s.vm.findClass RX1 = some m.cls := hown
  have hl : lv_has ls 4 [(0, .ref h), (1, .int (nI lv)), (2, .int k)] := hl
  refine lv_aload_n hx hb dX1_furnish_0 rfl (lv_at hl 0 rfl) ?_
  refine lv_iconst (v := nI 0) hx hb dX1_furnish_1 (by decide) ?_
  refine lv_iload_n hx hb dX1_furnish_2 rfl (lv_at hl 1 rfl) ?_
  refine lv_iload_n hx hb dX1_furnish_3 rfl (lv_at hl 2 rfl) ?_
  refine cWV (As := [.int (nI 0), .int (nI lv), .int k]) (rest := []) (st1 := []) (w3 := [(h, .inr (1, [.ref hc, .int (nI n), .int (nI g), .int sk])), (hc, .inl (G.2 0, 144, .inl (upd f lv k)))]) ⟨hx, hb, hml, hown, hts⟩ (c_X1_put_0 l G h hc n g sk f lv k (by first | omega | assumption)) (cwV 3 hts gX1_furnish_X1_put rfl rfl rfl (by decide +kernel) ⟨Nat.le_of_ble_eq_true rfl, Nat.le_of_ble_eq_true rfl⟩) (preV_of hK hP hD [0, 1] (by decide) rfl (ci := 1) (q0 := 0) rfl rfl rfl) rfl hl.1 rfl (lv_room (Nat.le_of_ble_eq_true rfl)) dX1_furnish_4 ⟨Nat.zero_le _, Nat.zero_le _⟩ hP hD hS [0, 1] (by decide) rfl rfl (rfl) rfl (fun H locs hP hD hS => ?_)
  refine lv_aload_n hx hb dX1_furnish_7 rfl (lv_at hl 0 rfl) ?_
  refine lv_iconst (v := nI 2) hx hb dX1_furnish_8 (by decide) ?_
  refine lv_iload_n hx hb dX1_furnish_9 rfl (lv_at hl 1 rfl) ?_
  refine lv_iconst (v := (-1)) hx hb dX1_furnish_10 (by decide) ?_
  refine cWV (As := [.int (nI 2), .int (nI lv), .int (-1)]) (rest := []) (st1 := []) (w3 := [(h, .inr (1, [.ref hc, .int (nI n), .int (nI g), .int sk])), (hc, .inl (G.2 0, 144, .inl (upd (upd f lv k) (32 + lv) (-1))))]) ⟨hx, hb, hml, hown, hts⟩ (c_X1_put l G h hc n g sk (upd f lv k) 2 lv (-1) (by first | omega | assumption) (by first | omega | assumption)) (cwV 3 hts gX1_furnish_X1_put rfl rfl rfl (by decide +kernel) ⟨Nat.le_of_ble_eq_true rfl, Nat.le_of_ble_eq_true rfl⟩) (preV_of hK hP hD [0, 1] (by decide) rfl (ci := 1) (q0 := 0) rfl rfl rfl) rfl hl.1 rfl (lv_room (Nat.le_of_ble_eq_true rfl)) dX1_furnish_11 ⟨Nat.zero_le _, Nat.zero_le _⟩ hP hD hS [0, 1] (by decide) rfl rfl (rfl) rfl (fun H locs hP hD hS => ?_)
  refine lv_iconst (v := nI 0) hx hb dX1_furnish_14 (by decide) ?_
  refine lv_istore_n (lv' := [(3, .int (nI 0)), (0, .ref h), (1, .int (nI lv)), (2, .int k)]) hx hb dX1_furnish_15 rfl hl (by decide) rfl (fun ls hl => ?_)
  refine lv_iload_n hx hb dX1_furnish_16 rfl (lv_at hl 0 rfl) ?_
  refine lv_iconst (v := nI 3) hx hb dX1_furnish_17 (by decide) ?_
  refine bi_ge (tgt := 46) hx hb dX1_furnish_18 (by decide) (nI_i (by omega)) (nI_i (by omega)) (fun c_18 => False.elim (by omega)) (fun c_18 => ?_)
  refine lv_aload_n hx hb dX1_furnish_21 rfl (lv_at hl 1 rfl) ?_
  refine lv_iconst (v := nI 3) hx hb dX1_furnish_22 (by decide) ?_
  refine lv_iload_n hx hb dX1_furnish_23 rfl (lv_at hl 0 rfl) ?_
  refine nv_iadd hx hb dX1_furnish_24 ?_
  refine lv_iload_n hx hb dX1_furnish_25 rfl (lv_at hl 2 rfl) ?_
  refine lv_iconst (v := (-1)) hx hb dX1_furnish_26 (by decide) ?_
  refine cWV (As := [.int (nI 3), .int (nI lv), .int (-1)]) (rest := []) (st1 := []) (w3 := [(h, .inr (1, [.ref hc, .int (nI n), .int (nI g), .int sk])), (hc, .inl (G.2 0, 144, .inl (upd (upd (upd f lv k) (32 + lv) (-1)) (48 + lv) (-1))))]) ⟨hx, hb, hml, hown, hts⟩ (c_X1_put l G h hc n g sk (upd (upd f lv k) (32 + lv) (-1)) 3 lv (-1) (by first | omega | assumption) (by first | omega | assumption)) (cwV 3 hts gX1_furnish_X1_put rfl rfl rfl (by decide +kernel) ⟨Nat.le_of_ble_eq_true rfl, Nat.le_of_ble_eq_true rfl⟩) (preV_of hK hP hD [0, 1] (by decide) rfl (ci := 1) (q0 := 0) rfl rfl rfl) rfl hl.1 rfl (lv_room (Nat.le_of_ble_eq_true rfl)) dX1_furnish_27 ⟨Nat.zero_le _, Nat.zero_le _⟩ hP hD hS [0, 1] (by decide) rfl rfl (rfl) rfl (fun H locs hP hD hS => ?_)
  refine lv_aload_n hx hb dX1_furnish_30 rfl (lv_at hl 1 rfl) ?_
  refine lv_bipush (v := nI 6) hx hb dX1_furnish_31 (by decide) ?_
  refine lv_iload_n hx hb dX1_furnish_33 rfl (lv_at hl 0 rfl) ?_
  refine nv_iadd hx hb dX1_furnish_34 ?_
  refine lv_iload_n hx hb dX1_furnish_35 rfl (lv_at hl 2 rfl) ?_
  refine lv_iconst (v := nI 1) hx hb dX1_furnish_36 (by decide) ?_
  refine cWV (As := [.int (nI 6), .int (nI lv), .int (nI 1)]) (rest := []) (st1 := []) (w3 := [(h, .inr (1, [.ref hc, .int (nI n), .int (nI g), .int sk])), (hc, .inl (G.2 0, 144, .inl (upd (upd (upd (upd f lv k) (32 + lv) (-1)) (48 + lv) (-1)) (96 + lv) (nI 1))))]) ⟨hx, hb, hml, hown, hts⟩ (c_X1_put l G h hc n g sk (upd (upd (upd f lv k) (32 + lv) (-1)) (48 + lv) (-1)) 6 lv (nI 1) (by first | omega | assumption) (by first | omega | assumption)) (cwV 3 hts gX1_furnish_X1_put rfl rfl rfl (by decide +kernel) ⟨Nat.le_of_ble_eq_true rfl, Nat.le_of_ble_eq_true rfl⟩) (preV_of hK hP hD [0, 1] (by decide) rfl (ci := 1) (q0 := 0) rfl rfl rfl) rfl hl.1 rfl (lv_room (Nat.le_of_ble_eq_true rfl)) dX1_furnish_37 ⟨Nat.zero_le _, Nat.zero_le _⟩ hP hD hS [0, 1] (by decide) rfl rfl (rfl) rfl (fun H locs hP hD hS => ?_)
  refine lv_iinc (v := nI (0 + 1)) (lv' := [(3, .int (nI (0 + 1))), (0, .ref h), (1, .int (nI lv)), (2, .int k)]) hx hb dX1_furnish_40 hl (k := 0) rfl (inc_n _ 1) (by decide) rfl (fun ls hl => ?_)
  refine lv_goto (tgt := 16) hx hb dX1_furnish_43 (by decide) ?_
  refine lv_iload_n hx hb dX1_furnish_16 rfl (lv_at hl 0 rfl) ?_
  refine lv_iconst (v := nI 3) hx hb dX1_furnish_17 (by decide) ?_
  refine bi_ge (tgt := 46) hx hb dX1_furnish_18 (by decide) (nI_i (by omega)) (nI_i (by omega)) (fun c_18 => False.elim (by omega)) (fun c_18 => ?_)
  refine lv_aload_n hx hb dX1_furnish_21 rfl (lv_at hl 1 rfl) ?_
  refine lv_iconst (v := nI 3) hx hb dX1_furnish_22 (by decide) ?_
  refine lv_iload_n hx hb dX1_furnish_23 rfl (lv_at hl 0 rfl) ?_
  refine nv_iadd hx hb dX1_furnish_24 ?_
  refine lv_iload_n hx hb dX1_furnish_25 rfl (lv_at hl 2 rfl) ?_
  refine lv_iconst (v := (-1)) hx hb dX1_furnish_26 (by decide) ?_
  refine cWV (As := [.int (nI (3 + (0 + 1))), .int (nI lv), .int (-1)]) (rest := []) (st1 := []) (w3 := [(h, .inr (1, [.ref hc, .int (nI n), .int (nI g), .int sk])), (hc, .inl (G.2 0, 144, .inl (upd (upd (upd (upd (upd f lv k) (32 + lv) (-1)) (48 + lv) (-1)) (96 + lv) (nI 1)) (64 + lv) (-1))))]) ⟨hx, hb, hml, hown, hts⟩ (c_X1_put l G h hc n g sk (upd (upd (upd (upd f lv k) (32 + lv) (-1)) (48 + lv) (-1)) (96 + lv) (nI 1)) (3 + (0 + 1)) lv (-1) (by first | omega | assumption) (by first | omega | assumption)) (cwV 3 hts gX1_furnish_X1_put rfl rfl rfl (by decide +kernel) ⟨Nat.le_of_ble_eq_true rfl, Nat.le_of_ble_eq_true rfl⟩) (preV_of hK hP hD [0, 1] (by decide) rfl (ci := 1) (q0 := 0) rfl rfl rfl) rfl hl.1 rfl (lv_room (Nat.le_of_ble_eq_true rfl)) dX1_furnish_27 ⟨Nat.zero_le _, Nat.zero_le _⟩ hP hD hS [0, 1] (by decide) rfl rfl (rfl) rfl (fun H locs hP hD hS => ?_)
  refine lv_aload_n hx hb dX1_furnish_30 rfl (lv_at hl 1 rfl) ?_
  refine lv_bipush (v := nI 6) hx hb dX1_furnish_31 (by decide) ?_
  refine lv_iload_n hx hb dX1_furnish_33 rfl (lv_at hl 0 rfl) ?_
  refine nv_iadd hx hb dX1_furnish_34 ?_
  refine lv_iload_n hx hb dX1_furnish_35 rfl (lv_at hl 2 rfl) ?_
  refine lv_iconst (v := nI 1) hx hb dX1_furnish_36 (by decide) ?_
  refine cWV (As := [.int (nI (6 + (0 + 1))), .int (nI lv), .int (nI 1)]) (rest := []) (st1 := []) (w3 := [(h, .inr (1, [.ref hc, .int (nI n), .int (nI g), .int sk])), (hc, .inl (G.2 0, 144, .inl (upd (upd (upd (upd (upd (upd f lv k) (32 + lv) (-1)) (48 + lv) (-1)) (96 + lv) (nI 1)) (64 + lv) (-1)) (112 + lv) (nI 1))))]) ⟨hx, hb, hml, hown, hts⟩ (c_X1_put l G h hc n g sk (upd (upd (upd (upd (upd f lv k) (32 + lv) (-1)) (48 + lv) (-1)) (96 + lv) (nI 1)) (64 + lv) (-1)) (6 + (0 + 1)) lv (nI 1) (by first | omega | assumption) (by first | omega | assumption)) (cwV 3 hts gX1_furnish_X1_put rfl rfl rfl (by decide +kernel) ⟨Nat.le_of_ble_eq_true rfl, Nat.le_of_ble_eq_true rfl⟩) (preV_of hK hP hD [0, 1] (by decide) rfl (ci := 1) (q0 := 0) rfl rfl rfl) rfl hl.1 rfl (lv_room (Nat.le_of_ble_eq_true rfl)) dX1_furnish_37 ⟨Nat.zero_le _, Nat.zero_le _⟩ hP hD hS [0, 1] (by decide) rfl rfl (rfl) rfl (fun H locs hP hD hS => ?_)
  refine lv_iinc (v := nI (0 + 1 + 1)) (lv' := [(3, .int (nI (0 + 1 + 1))), (0, .ref h), (1, .int (nI lv)), (2, .int k)]) hx hb dX1_furnish_40 hl (k := 0) rfl (inc_n _ 1) (by decide) rfl (fun ls hl => ?_)
  refine lv_goto (tgt := 16) hx hb dX1_furnish_43 (by decide) ?_
  refine lv_iload_n hx hb dX1_furnish_16 rfl (lv_at hl 0 rfl) ?_
  refine lv_iconst (v := nI 3) hx hb dX1_furnish_17 (by decide) ?_
  refine bi_ge (tgt := 46) hx hb dX1_furnish_18 (by decide) (nI_i (by omega)) (nI_i (by omega)) (fun c_18 => False.elim (by omega)) (fun c_18 => ?_)
  refine lv_aload_n hx hb dX1_furnish_21 rfl (lv_at hl 1 rfl) ?_
  refine lv_iconst (v := nI 3) hx hb dX1_furnish_22 (by decide) ?_
  refine lv_iload_n hx hb dX1_furnish_23 rfl (lv_at hl 0 rfl) ?_
  refine nv_iadd hx hb dX1_furnish_24 ?_
  refine lv_iload_n hx hb dX1_furnish_25 rfl (lv_at hl 2 rfl) ?_
  refine lv_iconst (v := (-1)) hx hb dX1_furnish_26 (by decide) ?_
  refine cWV (As := [.int (nI (3 + (0 + 1 + 1))), .int (nI lv), .int (-1)]) (rest := []) (st1 := []) (w3 := [(h, .inr (1, [.ref hc, .int (nI n), .int (nI g), .int sk])), (hc, .inl (G.2 0, 144, .inl (upd (upd (upd (upd (upd (upd (upd f lv k) (32 + lv) (-1)) (48 + lv) (-1)) (96 + lv) (nI 1)) (64 + lv) (-1)) (112 + lv) (nI 1)) (80 + lv) (-1))))]) ⟨hx, hb, hml, hown, hts⟩ (c_X1_put l G h hc n g sk (upd (upd (upd (upd (upd (upd f lv k) (32 + lv) (-1)) (48 + lv) (-1)) (96 + lv) (nI 1)) (64 + lv) (-1)) (112 + lv) (nI 1)) (3 + (0 + 1 + 1)) lv (-1) (by first | omega | assumption) (by first | omega | assumption)) (cwV 3 hts gX1_furnish_X1_put rfl rfl rfl (by decide +kernel) ⟨Nat.le_of_ble_eq_true rfl, Nat.le_of_ble_eq_true rfl⟩) (preV_of hK hP hD [0, 1] (by decide) rfl (ci := 1) (q0 := 0) rfl rfl rfl) rfl hl.1 rfl (lv_room (Nat.le_of_ble_eq_true rfl)) dX1_furnish_27 ⟨Nat.zero_le _, Nat.zero_le _⟩ hP hD hS [0, 1] (by decide) rfl rfl (rfl) rfl (fun H locs hP hD hS => ?_)
  refine lv_aload_n hx hb dX1_furnish_30 rfl (lv_at hl 1 rfl) ?_
  refine lv_bipush (v := nI 6) hx hb dX1_furnish_31 (by decide) ?_
  refine lv_iload_n hx hb dX1_furnish_33 rfl (lv_at hl 0 rfl) ?_
  refine nv_iadd hx hb dX1_furnish_34 ?_
  refine lv_iload_n hx hb dX1_furnish_35 rfl (lv_at hl 2 rfl) ?_
  refine lv_iconst (v := nI 1) hx hb dX1_furnish_36 (by decide) ?_
  refine cWV (As := [.int (nI (6 + (0 + 1 + 1))), .int (nI lv), .int (nI 1)]) (rest := []) (st1 := []) (w3 := [(h, .inr (1, [.ref hc, .int (nI n), .int (nI g), .int sk])), (hc, .inl (G.2 0, 144, .inl (upd (upd (upd (upd (upd (upd (upd (upd f lv k) (32 + lv) (-1)) (48 + lv) (-1)) (96 + lv) (nI 1)) (64 + lv) (-1)) (112 + lv) (nI 1)) (80 + lv) (-1)) (128 + lv) (nI 1))))]) ⟨hx, hb, hml, hown, hts⟩ (c_X1_put l G h hc n g sk (upd (upd (upd (upd (upd (upd (upd f lv k) (32 + lv) (-1)) (48 + lv) (-1)) (96 + lv) (nI 1)) (64 + lv) (-1)) (112 + lv) (nI 1)) (80 + lv) (-1)) (6 + (0 + 1 + 1)) lv (nI 1) (by first | omega | assumption) (by first | omega | assumption)) (cwV 3 hts gX1_furnish_X1_put rfl rfl rfl (by decide +kernel) ⟨Nat.le_of_ble_eq_true rfl, Nat.le_of_ble_eq_true rfl⟩) (preV_of hK hP hD [0, 1] (by decide) rfl (ci := 1) (q0 := 0) rfl rfl rfl) rfl hl.1 rfl (lv_room (Nat.le_of_ble_eq_true rfl)) dX1_furnish_37 ⟨Nat.zero_le _, Nat.zero_le _⟩ hP hD hS [0, 1] (by decide) rfl rfl (rfl) rfl (fun H locs hP hD hS => ?_)
  refine lv_iinc (v := nI (0 + 1 + 1 + 1)) (lv' := [(3, .int (nI (0 + 1 + 1 + 1))), (0, .ref h), (1, .int (nI lv)), (2, .int k)]) hx hb dX1_furnish_40 hl (k := 0) rfl (inc_n _ 1) (by decide) rfl (fun ls hl => ?_)
  refine lv_goto (tgt := 16) hx hb dX1_furnish_43 (by decide) ?_
  refine lv_iload_n hx hb dX1_furnish_16 rfl (lv_at hl 0 rfl) ?_
  refine lv_iconst (v := nI 3) hx hb dX1_furnish_17 (by decide) ?_
  refine bi_ge (tgt := 46) hx hb dX1_furnish_18 (by decide) (nI_i (by omega)) (nI_i (by omega)) (fun c_18 => ?_) (fun c_18 => False.elim (by omega))
  exact W_v hx hb hr hlk dX1_furnish_46 hP hS (rfl)

theorem in_c_X1_renumber_X1 : ∀ w ∈ wsX10, w ∈ wsX1_renumber := by decide +kernel
set_option maxHeartbeats 4000000 in
set_option maxRecDepth 100000 in
theorem c_X1_renumber (l : Launch) (G : GG) (h : Nat) (hc : Nat) (n : Nat) (g : Nat) (sk : Int32) (f : Nat → Int32) (h_n : n ≤ 16) (h_g : g < n) (h_f : f g = 0) : Met l yX1_renumber wsX1_renumber ({ frames := 2, cells := 0, slots := 0, locals := 46 } : Room) (va_Pc [.ref h] (PB G [(h, .inr (1, [.ref hc, .int (nI n), .int (nI g), .int sk])), (hc, .inl (G.2 0, 144, .inl f))])) (QW G (none) [(h, .inr (1, [.ref hc, .int (nI n), .int (nI g), .int sk])), (hc, .inl (G.2 0, 144, .inl (rn sk g 0 n f)))] (vA [(h, .inr (1, [.ref hc, .int (nI n), .int (nI g), .int sk])), (hc, .inl (G.2 0, 144, .inl f))])) 0 0 (vA [(h, .inr (1, [.ref hc, .int (nI n), .int (nI g), .int sk])), (hc, .inl (G.2 0, 144, .inl f))]) := by
  refine Met.go (cc := cX1_renumber) (maxL := 3) (ret := none) (by decide) rfl (Nat.le_of_ble_eq_true rfl) ?_
  intro p e s m below meth c ls hx hb hr hml hown hts hlk hP hK hD hS hl
  have hown : s.vm.findClass RX1 = some m.cls := hown
  have hl : lv_has ls 3 [(0, .ref h)] := hl
  refine lv_iconst (v := nI 0) hx hb dX1_renumber_0 (by decide) ?_
  refine lv_istore_n (lv' := [(1, .int (nI 0)), (0, .ref h)]) hx hb dX1_renumber_1 rfl hl (by decide) rfl (fun ls hl => ?_)
  refine lv_aload_n hx hb dX1_renumber_2 rfl (lv_at hl 1 rfl) ?_
  refine lv_iconst (v := nI 1) hx hb dX1_renumber_3 (by decide) ?_
  refine lv_aload_n hx hb dX1_renumber_4 rfl (lv_at hl 1 rfl) ?_
  refine va_get (D := G.1) (ci := 1) (v := .int (nI g)) (C := RX1) (T := TX1) (N := 4) hx hb hts in_c_X1_renumber_X1 hown hK.1 hP 0 rfl rfl 2 (by decide) (hts (.fieldLink RX1 32 "FloorPanels$House" "groundLevel" "I") (by decide +kernel)) (fun _ h9 => h9) rfl dX1_renumber_5 ?_
  refine lv_iconst (v := nI 0) hx hb dX1_renumber_8 (by decide) ?_
  refine cWV (As := [.int (nI 1), .int (nI g), .int (nI 0)]) (rest := []) (st1 := []) (w3 := [(h, .inr (1, [.ref hc, .int (nI n), .int (nI g), .int sk])), (hc, .inl (G.2 0, 144, .inl (rn sk g g (g + 1) f)))]) ⟨hx, hb, hml, hown, hts⟩ (c_X1_put l G h hc n g sk f 1 g (nI 0) (by first | omega | assumption) (by first | omega | assumption)) (cwV 3 hts gX1_renumber_X1_put rfl rfl rfl (by decide +kernel) ⟨Nat.le_of_ble_eq_true rfl, Nat.le_of_ble_eq_true rfl⟩) (preV_of hK hP hD [0, 1] (by decide) rfl (ci := 1) (q0 := 0) rfl rfl rfl) rfl hl.1 rfl (lv_room (Nat.le_of_ble_eq_true rfl)) dX1_renumber_9 ⟨Nat.zero_le _, Nat.zero_le _⟩ hP hD hS [0, 1] (by decide) rfl rfl (by rw [← rn_first h_f]; rfl) rfl (fun H locs hP hD hS => ?_)
  refine lv_aload_n hx hb dX1_renumber_12 rfl (lv_at hl 1 rfl) ?_
  refine va_get (D := G.1) (ci := 1) (v := .int (nI g)) (C := RX1) (T := TX1) (N := 4) hx hb hts in_c_X1_renumber_X1 hown hK.1 hP 0 rfl rfl 2 (by decide) (hts (.fieldLink RX1 32 "FloorPanels$House" "groundLevel" "I") (by decide +kernel)) (fun _ h9 => h9) rfl dX1_renumber_13 ?_
  refine lv_iconst (v := nI 1) hx hb dX1_renumber_16 (by decide) ?_
  refine nv_iadd hx hb dX1_renumber_17 ?_
  refine lv_istore_n (lv' := [(2, .int (nI (g + 1))), (1, .int (nI 0)), (0, .ref h)]) hx hb dX1_renumber_18 rfl hl (by decide) rfl (fun ls hl => ?_)
  have loop_19 : ∀ (k_ : Nat) (d : Nat) (h_d : g + 1 + d ≤ n) (_ : n - (g + 1 + d) < k_) (H : Heap) (locs : List Loc) (_ : VP G [(h, .inr (1, [.ref hc, .int (nI n), .int (nI g), .int sk])), (hc, .inl (G.2 0, 144, .inl (rn sk g g (g + 1 + d) f)))] H) (_ : va_D (vA [(h, .inr (1, [.ref hc, .int (nI n), .int (nI g), .int sk])), (hc, .inl (G.2 0, 144, .inl f))]) [(h, .inr (1, [.ref hc, .int (nI n), .int (nI g), .int sk])), (hc, .inl (G.2 0, 144, .inl (rn sk g g (g + 1 + d) f)))]) (_ : va_S (vA [(h, .inr (1, [.ref hc, .int (nI n), .int (nI g), .int sk])), (hc, .inl (G.2 0, 144, .inl f))]) s.heap H locs) (ls : Array Slot), lv_has ls 3 [(2, .int (nI (g + 1 + d))), (1, .int (nI (up sk f g d))), (0, .ref h)] → W p l e ({ frames := 2, cells := 0, slots := 0, locals := 46 } : Room) s m ([.ref h] : List Value).toArray below meth c H locs 0 0 (MQ below (QW G (none) [(h, .inr (1, [.ref hc, .int (nI n), .int (nI g), .int sk])), (hc, .inl (G.2 0, 144, .inl (rn sk g 0 n f)))] (vA [(h, .inr (1, [.ref hc, .int (nI n), .int (nI g), .int sk])), (hc, .inl (G.2 0, 144, .inl f))])) ([.ref h] : List Value).toArray s 0 0 (vA [(h, .inr (1, [.ref hc, .int (nI n), .int (nI g), .int sk])), (hc, .inl (G.2 0, 144, .inl f))])) (F0 m 19 ls []) := by
    intro k_
    induction k_ with
    | zero => intro d h_d hk_; exact absurd hk_ (Nat.not_lt_zero _)
    | succ k_ ih_19 =>
      intro d h_d hk_ H locs hP hD hS ls hl
      refine lv_iload_n hx hb dX1_renumber_19 rfl (lv_at hl 0 rfl) ?_
      refine lv_aload_n hx hb dX1_renumber_20 rfl (lv_at hl 2 rfl) ?_
      refine va_get (D := G.1) (ci := 1) (v := .int (nI n)) (C := RX1) (T := TX1) (N := 4) hx hb hts in_c_X1_renumber_X1 hown hK.1 hP 0 rfl rfl 1 (by decide) (hts (.fieldLink RX1 15 "FloorPanels$House" "levels" "I") (by decide +kernel)) (fun _ h9 => h9) rfl dX1_renumber_21 ?_
      refine bi_ge (tgt := 54) hx hb dX1_renumber_24 (by decide) (nI_i (by omega)) (nI_i (by omega)) (fun c_24 => ?_) (fun c_24 => ?_)
      ·
        rw [show g + 1 + d = n by omega] at hP hD
        have hP : VP G [(h, .inr (1, [.ref hc, .int (nI n), .int (nI g), .int sk])), (hc, .inl (G.2 0, 144, .inl (rn sk g g n f)))] H := hP
        have hD : va_D _ [(h, .inr (1, [.ref hc, .int (nI n), .int (nI g), .int sk])), (hc, .inl (G.2 0, 144, .inl (rn sk g g n f)))] := hD
        refine lv_iconst (v := nI 0) hx hb dX1_renumber_54 (by decide) ?_
        refine lv_istore_n (lv' := [(1, .int (nI 0)), (2, .int (nI (g + 1 + d))), (0, .ref h)]) hx hb dX1_renumber_55 rfl hl (by decide) rfl (fun ls hl => ?_)
        refine lv_aload_n hx hb dX1_renumber_56 rfl (lv_at hl 2 rfl) ?_
        refine va_get (D := G.1) (ci := 1) (v := .int (nI g)) (C := RX1) (T := TX1) (N := 4) hx hb hts in_c_X1_renumber_X1 hown hK.1 hP 0 rfl rfl 2 (by decide) (hts (.fieldLink RX1 32 "FloorPanels$House" "groundLevel" "I") (by decide +kernel)) (fun _ h9 => h9) rfl dX1_renumber_57 ?_
        refine lv_iconst (v := nI 1) hx hb dX1_renumber_60 (by decide) ?_
        refine lv_isub hx hb dX1_renumber_61 ?_
        rw [show (nI g) - (nI 1) = zI ((g : Int) - 1) from nI_subZ g 1]
        refine lv_istore_n (lv' := [(2, .int (zI ((g : Int) - 1))), (1, .int (nI 0)), (0, .ref h)]) hx hb dX1_renumber_62 rfl hl (by decide) rfl (fun ls hl => ?_)
        have loop_63 : ∀ (k_ : Nat) (a : Nat) (h_a : a ≤ g) (_ : a < k_) (H : Heap) (locs : List Loc) (_ : VP G [(h, .inr (1, [.ref hc, .int (nI n), .int (nI g), .int sk])), (hc, .inl (G.2 0, 144, .inl (rn sk g a n f)))] H) (_ : va_D (vA [(h, .inr (1, [.ref hc, .int (nI n), .int (nI g), .int sk])), (hc, .inl (G.2 0, 144, .inl f))]) [(h, .inr (1, [.ref hc, .int (nI n), .int (nI g), .int sk])), (hc, .inl (G.2 0, 144, .inl (rn sk g a n f)))]) (_ : va_S (vA [(h, .inr (1, [.ref hc, .int (nI n), .int (nI g), .int sk])), (hc, .inl (G.2 0, 144, .inl f))]) s.heap H locs) (ls : Array Slot), lv_has ls 3 [(2, .int (zI (((a : Nat) : Int) - 1))), (1, .int (zI (-(dn f g (g - a) : Int)))), (0, .ref h)] → W p l e ({ frames := 2, cells := 0, slots := 0, locals := 46 } : Room) s m ([.ref h] : List Value).toArray below meth c H locs 0 0 (MQ below (QW G (none) [(h, .inr (1, [.ref hc, .int (nI n), .int (nI g), .int sk])), (hc, .inl (G.2 0, 144, .inl (rn sk g 0 n f)))] (vA [(h, .inr (1, [.ref hc, .int (nI n), .int (nI g), .int sk])), (hc, .inl (G.2 0, 144, .inl f))])) ([.ref h] : List Value).toArray s 0 0 (vA [(h, .inr (1, [.ref hc, .int (nI n), .int (nI g), .int sk])), (hc, .inl (G.2 0, 144, .inl f))])) (F0 m 63 ls []) := by
          intro k_
          induction k_ with
          | zero => intro a h_a hk_; exact absurd hk_ (Nat.not_lt_zero _)
          | succ k_ ih_63 =>
            intro a h_a hk_ H locs hP hD hS ls hl
            refine lv_iload_n hx hb dX1_renumber_63 rfl (lv_at hl 0 rfl) ?_
            refine b0_lt (tgt := 91) hx hb dX1_renumber_64 (by decide) (zI_toInt (by omega)) (fun c_64 => ?_) (fun c_64 => ?_)
            ·
              exact W_v hx hb hr hlk dX1_renumber_91 hP hS (by rw [show a = 0 by omega])
            ·
              rw [show zI (((a : Nat) : Int) - 1) = nI (a - 1) from zI_nat (by omega)] at hl
              refine lv_aload_n hx hb dX1_renumber_67 rfl (lv_at hl 2 rfl) ?_
              refine lv_iconst (v := nI 0) hx hb dX1_renumber_68 (by decide) ?_
              refine lv_iload_n hx hb dX1_renumber_69 rfl (lv_at hl 0 rfl) ?_
              refine cRV (As := [.int (nI 0), .int (nI (a - 1))]) (rest := []) (v := .int ((rn sk g a n f) (a - 1))) ⟨hx, hb, hml, hown, hts⟩ (c_X1_cell_0 l G h hc n g sk (rn sk g a n f) (a - 1) (by first | omega | assumption)) (cwV 2 hts gX1_renumber_X1_cell rfl rfl rfl (by decide +kernel) ⟨Nat.le_of_ble_eq_true rfl, Nat.le_of_ble_eq_true rfl⟩) (preV_of hK hP hD [0, 1] (by decide) rfl (ci := 1) (q0 := 0) rfl rfl rfl) rfl hl.1 rfl (lv_room (Nat.le_of_ble_eq_true rfl)) dX1_renumber_70 ⟨Nat.zero_le _, Nat.zero_le _⟩ ?_
              rw [show (((rn sk g a n f) (a - 1))) = (f (a - 1)) from by rw [rn_k (by omega)]]
              refine lv_if_ne (tgt := 79) hx hb dX1_renumber_73 (by decide) (fun c_73 => ?_) (fun c_73 => ?_)
              ·
                refine lv_aload_n hx hb dX1_renumber_79 rfl (lv_at hl 2 rfl) ?_
                refine lv_iload_n hx hb dX1_renumber_80 rfl (lv_at hl 0 rfl) ?_
                refine lv_iload_n hx hb dX1_renumber_81 rfl (lv_at hl 1 rfl) ?_
                refine cWV (As := [.int (nI (a - 1)), .int (zI (-(dn f g (g - a) : Int)))]) (rest := []) (st1 := []) (w3 := [(h, .inr (1, [.ref hc, .int (nI n), .int (nI g), .int sk])), (hc, .inl (G.2 0, 144, .inl (rn sk g (a - 1) n f)))]) ⟨hx, hb, hml, hown, hts⟩ (c_X1_nameBy l G h hc n g sk (rn sk g a n f) (a - 1) (zI (-(dn f g (g - a) : Int))) (by first | omega | assumption)) (cwV 2 hts gX1_renumber_X1_nameBy rfl rfl rfl (by decide +kernel) ⟨Nat.le_of_ble_eq_true rfl, Nat.le_of_ble_eq_true rfl⟩) (preV_of hK hP hD [0, 1] (by decide) rfl (ci := 1) (q0 := 0) rfl rfl rfl) rfl hl.1 rfl (lv_room (Nat.le_of_ble_eq_true rfl)) dX1_renumber_82 ⟨Nat.zero_le _, Nat.zero_le _⟩ hP hD hS [0, 1] (by decide) rfl rfl (by rw [← rn_down (w := zI (-(dn f g (g - a) : Int))) (by omega) h_a (by omega) h_g (by rw [dn_an (by omega) h_a c_73])]; rfl) rfl (fun H locs hP hD hS => ?_)
                rw [show nI (a - 1) = zI ((a - 1 : Nat) : Int) from (zI_n _).symm] at hl
                refine lv_iinc (v := zI (((a - 1 : Nat) : Int) - 1)) (lv' := [(2, .int (zI (((a - 1 : Nat) : Int) - 1))), (1, .int (zI (-(dn f g (g - a) : Int)))), (0, .ref h)]) hx hb dX1_renumber_85 hl (k := 0) rfl (decZ _ _ _ rfl) (by decide) rfl (fun ls hl => ?_)
                refine lv_goto (tgt := 63) hx hb dX1_renumber_88 (by decide) ?_
                exact ih_63 (a - 1) (by first | omega | assumption) (by omega) H locs hP hD hS ls (lv_sub hl [0, 1, 2] (by first | (rw [dn_an (by omega) h_a (by assumption)]; rfl) | (rw [dn_a0 (by omega) h_a (by assumption), Int.natCast_add, Int.neg_add]; rfl)))
              ·
                refine lv_iinc (v := zI (-(dn f g (g - a) : Int) - 1)) (lv' := [(1, .int (zI (-(dn f g (g - a) : Int) - 1))), (2, .int (nI (a - 1))), (0, .ref h)]) hx hb dX1_renumber_76 hl (k := 1) rfl (decZ _ _ _ rfl) (by decide) rfl (fun ls hl => ?_)
                refine lv_aload_n hx hb dX1_renumber_79 rfl (lv_at hl 2 rfl) ?_
                refine lv_iload_n hx hb dX1_renumber_80 rfl (lv_at hl 1 rfl) ?_
                refine lv_iload_n hx hb dX1_renumber_81 rfl (lv_at hl 0 rfl) ?_
                refine cWV (As := [.int (nI (a - 1)), .int (zI (-(dn f g (g - a) : Int) - 1))]) (rest := []) (st1 := []) (w3 := [(h, .inr (1, [.ref hc, .int (nI n), .int (nI g), .int sk])), (hc, .inl (G.2 0, 144, .inl (rn sk g (a - 1) n f)))]) ⟨hx, hb, hml, hown, hts⟩ (c_X1_nameBy l G h hc n g sk (rn sk g a n f) (a - 1) (zI (-(dn f g (g - a) : Int) - 1)) (by first | omega | assumption)) (cwV 2 hts gX1_renumber_X1_nameBy rfl rfl rfl (by decide +kernel) ⟨Nat.le_of_ble_eq_true rfl, Nat.le_of_ble_eq_true rfl⟩) (preV_of hK hP hD [0, 1] (by decide) rfl (ci := 1) (q0 := 0) rfl rfl rfl) rfl hl.1 rfl (lv_room (Nat.le_of_ble_eq_true rfl)) dX1_renumber_82 ⟨Nat.zero_le _, Nat.zero_le _⟩ hP hD hS [0, 1] (by decide) rfl rfl (by rw [← rn_down (w := zI (-(dn f g (g - a) : Int) - 1)) (by omega) h_a (by omega) h_g (by rw [dn_a0 (by omega) h_a c_73, Int.natCast_add, Int.neg_add]; rfl)]; rfl) rfl (fun H locs hP hD hS => ?_)
                rw [show nI (a - 1) = zI ((a - 1 : Nat) : Int) from (zI_n _).symm] at hl
                refine lv_iinc (v := zI (((a - 1 : Nat) : Int) - 1)) (lv' := [(2, .int (zI (((a - 1 : Nat) : Int) - 1))), (1, .int (zI (-(dn f g (g - a) : Int) - 1))), (0, .ref h)]) hx hb dX1_renumber_85 hl (k := 1) rfl (decZ _ _ _ rfl) (by decide) rfl (fun ls hl => ?_)
                refine lv_goto (tgt := 63) hx hb dX1_renumber_88 (by decide) ?_
                exact ih_63 (a - 1) (by first | omega | assumption) (by omega) H locs hP hD hS ls (lv_sub hl [0, 1, 2] (by first | (rw [dn_an (by omega) h_a (by assumption)]; rfl) | (rw [dn_a0 (by omega) h_a (by assumption), Int.natCast_add, Int.neg_add]; rfl)))
        exact loop_63 (g + 1) g (by first | omega | assumption) (Nat.lt_succ_self _) H locs hP hD hS ls (lv_sub hl [0, 1, 2] (by rw [Nat.sub_self]; rfl))
      ·
        refine lv_aload_n hx hb dX1_renumber_27 rfl (lv_at hl 2 rfl) ?_
        refine lv_iconst (v := nI 0) hx hb dX1_renumber_28 (by decide) ?_
        refine lv_iload_n hx hb dX1_renumber_29 rfl (lv_at hl 0 rfl) ?_
        refine cRV (As := [.int (nI 0), .int (nI (g + 1 + d))]) (rest := []) (v := .int ((rn sk g g (g + 1 + d) f) (g + 1 + d))) ⟨hx, hb, hml, hown, hts⟩ (c_X1_cell_0 l G h hc n g sk (rn sk g g (g + 1 + d) f) (g + 1 + d) (by first | omega | assumption)) (cwV 2 hts gX1_renumber_X1_cell rfl rfl rfl (by decide +kernel) ⟨Nat.le_of_ble_eq_true rfl, Nat.le_of_ble_eq_true rfl⟩) (preV_of hK hP hD [0, 1] (by decide) rfl (ci := 1) (q0 := 0) rfl rfl rfl) rfl hl.1 rfl (lv_room (Nat.le_of_ble_eq_true rfl)) dX1_renumber_30 ⟨Nat.zero_le _, Nat.zero_le _⟩ ?_
        rw [show (((rn sk g g (g + 1 + d) f) (g + 1 + d))) = (f (g + 1 + d)) from by rw [rn_k (by omega)]]
        refine lv_if_ne (tgt := 42) hx hb dX1_renumber_33 (by decide) (fun c_33 => ?_) (fun c_33 => ?_)
        ·
          refine lv_aload_n hx hb dX1_renumber_42 rfl (lv_at hl 2 rfl) ?_
          refine lv_iload_n hx hb dX1_renumber_43 rfl (lv_at hl 0 rfl) ?_
          refine lv_iload_n hx hb dX1_renumber_44 rfl (lv_at hl 1 rfl) ?_
          refine cWV (As := [.int (nI (g + 1 + d)), .int (nI (up sk f g d))]) (rest := []) (st1 := []) (w3 := [(h, .inr (1, [.ref hc, .int (nI n), .int (nI g), .int sk])), (hc, .inl (G.2 0, 144, .inl (rn sk g g (g + 1 + d + 1) f)))]) ⟨hx, hb, hml, hown, hts⟩ (c_X1_nameBy l G h hc n g sk (rn sk g g (g + 1 + d) f) (g + 1 + d) (nI (up sk f g d)) (by first | omega | assumption)) (cwV 2 hts gX1_renumber_X1_nameBy rfl rfl rfl (by decide +kernel) ⟨Nat.le_of_ble_eq_true rfl, Nat.le_of_ble_eq_true rfl⟩) (preV_of hK hP hD [0, 1] (by decide) rfl (ci := 1) (q0 := 0) rfl rfl rfl) rfl hl.1 rfl (lv_room (Nat.le_of_ble_eq_true rfl)) dX1_renumber_45 ⟨Nat.zero_le _, Nat.zero_le _⟩ hP hD hS [0, 1] (by decide) rfl rfl (by rw [← rn_next (w := nI (up sk f g d)) (by omega) (by rw [up_n c_33])]; rfl) rfl (fun H locs hP hD hS => ?_)
          refine lv_iinc (v := nI (g + 1 + d + 1)) (lv' := [(2, .int (nI (g + 1 + d + 1))), (1, .int (nI (up sk f g d))), (0, .ref h)]) hx hb dX1_renumber_48 hl (k := 0) rfl (inc_n _ 1) (by decide) rfl (fun ls hl => ?_)
          refine lv_goto (tgt := 19) hx hb dX1_renumber_51 (by decide) ?_
          exact ih_19 (d + 1) (by first | omega | assumption) (by omega) H locs hP hD hS ls (lv_sub hl [0, 1, 2] (by first | rfl | (rw [up_n (by assumption)]; rfl) | (rw [up_0 (by assumption)]; rfl)))
        ·
          refine lv_aload_n hx hb dX1_renumber_36 rfl (lv_at hl 2 rfl) ?_
          refine lv_iload_n hx hb dX1_renumber_37 rfl (lv_at hl 1 rfl) ?_
          refine cRV (As := [.int (nI (up sk f g d))]) (rest := []) (v := .int (nI (nx sk ((up sk f g d) + 1)))) ⟨hx, hb, hml, hown, hts⟩ (c_X1_storeyAbove l G h hc n g sk (rn sk g g (g + 1 + d) f) (up sk f g d) (by have := up_le sk f g d; omega)) (cwV 1 hts gX1_renumber_X1_storeyAbove rfl rfl rfl (by decide +kernel) ⟨Nat.le_of_ble_eq_true rfl, Nat.le_of_ble_eq_true rfl⟩) (preV_of hK hP hD [0, 1] (by decide) rfl (ci := 1) (q0 := 0) rfl rfl rfl) rfl hl.1 rfl (lv_room (Nat.le_of_ble_eq_true rfl)) dX1_renumber_38 ⟨Nat.zero_le _, Nat.zero_le _⟩ ?_
          refine lv_istore_n (lv' := [(1, .int (nI (nx sk ((up sk f g d) + 1)))), (2, .int (nI (g + 1 + d))), (0, .ref h)]) hx hb dX1_renumber_41 rfl hl (by decide) rfl (fun ls hl => ?_)
          refine lv_aload_n hx hb dX1_renumber_42 rfl (lv_at hl 2 rfl) ?_
          refine lv_iload_n hx hb dX1_renumber_43 rfl (lv_at hl 1 rfl) ?_
          refine lv_iload_n hx hb dX1_renumber_44 rfl (lv_at hl 0 rfl) ?_
          refine cWV (As := [.int (nI (g + 1 + d)), .int (nI (nx sk ((up sk f g d) + 1)))]) (rest := []) (st1 := []) (w3 := [(h, .inr (1, [.ref hc, .int (nI n), .int (nI g), .int sk])), (hc, .inl (G.2 0, 144, .inl (rn sk g g (g + 1 + d + 1) f)))]) ⟨hx, hb, hml, hown, hts⟩ (c_X1_nameBy l G h hc n g sk (rn sk g g (g + 1 + d) f) (g + 1 + d) (nI (nx sk ((up sk f g d) + 1))) (by first | omega | assumption)) (cwV 2 hts gX1_renumber_X1_nameBy rfl rfl rfl (by decide +kernel) ⟨Nat.le_of_ble_eq_true rfl, Nat.le_of_ble_eq_true rfl⟩) (preV_of hK hP hD [0, 1] (by decide) rfl (ci := 1) (q0 := 0) rfl rfl rfl) rfl hl.1 rfl (lv_room (Nat.le_of_ble_eq_true rfl)) dX1_renumber_45 ⟨Nat.zero_le _, Nat.zero_le _⟩ hP hD hS [0, 1] (by decide) rfl rfl (by rw [← rn_next (w := nI (nx sk (up sk f g d + 1))) (by omega) (by rw [up_0 c_33])]; rfl) rfl (fun H locs hP hD hS => ?_)
          refine lv_iinc (v := nI (g + 1 + d + 1)) (lv' := [(2, .int (nI (g + 1 + d + 1))), (1, .int (nI (nx sk ((up sk f g d) + 1)))), (0, .ref h)]) hx hb dX1_renumber_48 hl (k := 1) rfl (inc_n _ 1) (by decide) rfl (fun ls hl => ?_)
          refine lv_goto (tgt := 19) hx hb dX1_renumber_51 (by decide) ?_
          exact ih_19 (d + 1) (by first | omega | assumption) (by omega) H locs hP hD hS ls (lv_sub hl [0, 1, 2] (by first | rfl | (rw [up_n (by assumption)]; rfl) | (rw [up_0 (by assumption)]; rfl)))
  exact loop_19 (n - (g + 1 + 0) + 1) 0 (by first | omega | assumption) (Nat.lt_succ_self _) H locs hP hD hS ls (lv_sub hl [0, 1, 2] (by first | rfl | (rw [up_n (by assumption)]; rfl) | (rw [up_0 (by assumption)]; rfl)))

