theorem in_c_X1_cell_X1 : ∀ w ∈ wsX10, w ∈ wsX1_cell := by decide +kernel
set_option maxHeartbeats 4000000 in
set_option maxRecDepth 100000 in
theorem c_X1_cell (l : Launch) (G : GG) (h : Nat) (hc : Nat) (n : Nat) (g : Nat) (sk : Int32) (f : Nat → Int32) (ro : Nat) (lv : Nat) (h_ro : ro < 9) (h_lv : lv < 16) : Met l yX1_cell wsX1_cell ({ frames := 0, cells := 0, slots := 0, locals := 0 } : Room) (va_Pc [.ref h, .int (nI ro), .int (nI lv)] (PB G [(h, .inr (1, [.ref hc, .int (nI n), .int (nI g), .int sk])), (hc, .inl (G.2 0, 144, .inl f))])) (QR (some (.int (f (ro * 16 + lv))))) 0 0 (fun _ => False) := by
  refine Met.go (cc := cX1_cell) (maxL := 3) (ret := (some .int)) (by decide) rfl (Nat.le_of_ble_eq_true rfl) ?_
  intro p e s m below meth c ls hx hb hr hml hown hts hlk hP hK hD hS hl
  have hown : s.vm.findClass RX1 = some m.cls := hown
  have hl : lv_has ls 3 [(0, .ref h), (1, .int (nI ro)), (2, .int (nI lv))] := hl
  refine lv_iload_n hx hb dX1_cell_0 rfl (lv_at hl 1 rfl) ?_
  refine b0_lt (tgt := 20) hx hb dX1_cell_1 (by decide) (nI_i (by omega)) (fun c_1 => False.elim (by omega)) (fun c_1 => ?_)
  refine lv_iload_n hx hb dX1_cell_4 rfl (lv_at hl 1 rfl) ?_
  refine lv_bipush (v := nI 9) hx hb dX1_cell_5 (by decide) ?_
  refine bi_ge (tgt := 20) hx hb dX1_cell_7 (by decide) (nI_i (by omega)) (nI_i (by omega)) (fun c_7 => False.elim (by omega)) (fun c_7 => ?_)
  refine lv_iload_n hx hb dX1_cell_10 rfl (lv_at hl 2 rfl) ?_
  refine b0_lt (tgt := 20) hx hb dX1_cell_11 (by decide) (nI_i (by omega)) (fun c_11 => False.elim (by omega)) (fun c_11 => ?_)
  refine lv_iload_n hx hb dX1_cell_14 rfl (lv_at hl 2 rfl) ?_
  refine lv_bipush (v := nI 16) hx hb dX1_cell_15 (by decide) ?_
  refine bi_lt (tgt := 22) hx hb dX1_cell_17 (by decide) (nI_i (by omega)) (nI_i (by omega)) (fun c_17 => ?_) (fun c_17 => False.elim (by omega))
  refine lv_aload_n hx hb dX1_cell_22 rfl (lv_at hl 0 rfl) ?_
  refine va_get (D := G.1) (ci := 1) (v := .ref hc) (C := RX1) (T := TX1) (N := 4) hx hb hts in_c_X1_cell_X1 hown hK.1 hP 0 rfl rfl 0 (by decide) (hts (.fieldLink RX1 11 "FloorPanels$House" "cells" "[I") (by decide +kernel)) (fun _ h9 => h9) rfl dX1_cell_23 ?_
  refine lv_iload_n hx hb dX1_cell_26 rfl (lv_at hl 1 rfl) ?_
  refine lv_bipush (v := nI 16) hx hb dX1_cell_27 (by decide) ?_
  refine nv_imul hx hb dX1_cell_29 ?_
  refine lv_iload_n hx hb dX1_cell_30 rfl (lv_at hl 2 rfl) ?_
  refine nv_iadd hx hb dX1_cell_31 ?_
  refine nv_iald hx hb hK hP 1 rfl (by omega) (by decide) dX1_cell_32 ?_
  exact R_i hx hb hr hlk dX1_cell_33 (rfl)

theorem in_c_X1_put_X1 : ∀ w ∈ wsX10, w ∈ wsX1_put := by decide +kernel
set_option maxHeartbeats 4000000 in
set_option maxRecDepth 100000 in
theorem c_X1_put (l : Launch) (G : GG) (h : Nat) (hc : Nat) (n : Nat) (g : Nat) (sk : Int32) (f : Nat → Int32) (ro : Nat) (lv : Nat) (v : Int32) (h_ro : ro < 9) (h_lv : lv < 16) : Met l yX1_put wsX1_put ({ frames := 0, cells := 0, slots := 0, locals := 0 } : Room) (va_Pc [.ref h, .int (nI ro), .int (nI lv), .int v] (PB G [(h, .inr (1, [.ref hc, .int (nI n), .int (nI g), .int sk])), (hc, .inl (G.2 0, 144, .inl f))])) (QW G (none) [(h, .inr (1, [.ref hc, .int (nI n), .int (nI g), .int sk])), (hc, .inl (G.2 0, 144, .inl (upd f (ro * 16 + lv) v)))] (vA [(h, .inr (1, [.ref hc, .int (nI n), .int (nI g), .int sk])), (hc, .inl (G.2 0, 144, .inl f))])) 0 0 (vA [(h, .inr (1, [.ref hc, .int (nI n), .int (nI g), .int sk])), (hc, .inl (G.2 0, 144, .inl f))]) := by
  refine Met.go (cc := cX1_put) (maxL := 4) (ret := none) (by decide) rfl (Nat.le_of_ble_eq_true rfl) ?_
  intro p e s m below meth c ls hx hb hr hml hown hts hlk hP hK hD hS hl
  have hown : s.vm.findClass RX1 = some m.cls := hown
  have hl : lv_has ls 4 [(0, .ref h), (1, .int (nI ro)), (2, .int (nI lv)), (3, .int v)] := hl
  refine lv_iload_n hx hb dX1_put_0 rfl (lv_at hl 1 rfl) ?_
  refine b0_lt (tgt := 32) hx hb dX1_put_1 (by decide) (nI_i (by omega)) (fun c_1 => False.elim (by omega)) (fun c_1 => ?_)
  refine lv_iload_n hx hb dX1_put_4 rfl (lv_at hl 1 rfl) ?_
  refine lv_bipush (v := nI 9) hx hb dX1_put_5 (by decide) ?_
  refine bi_ge (tgt := 32) hx hb dX1_put_7 (by decide) (nI_i (by omega)) (nI_i (by omega)) (fun c_7 => False.elim (by omega)) (fun c_7 => ?_)
  refine lv_iload_n hx hb dX1_put_10 rfl (lv_at hl 2 rfl) ?_
  refine b0_lt (tgt := 32) hx hb dX1_put_11 (by decide) (nI_i (by omega)) (fun c_11 => False.elim (by omega)) (fun c_11 => ?_)
  refine lv_iload_n hx hb dX1_put_14 rfl (lv_at hl 2 rfl) ?_
  refine lv_bipush (v := nI 16) hx hb dX1_put_15 (by decide) ?_
  refine bi_ge (tgt := 32) hx hb dX1_put_17 (by decide) (nI_i (by omega)) (nI_i (by omega)) (fun c_17 => False.elim (by omega)) (fun c_17 => ?_)
  refine lv_aload_n hx hb dX1_put_20 rfl (lv_at hl 0 rfl) ?_
  refine va_get (D := G.1) (ci := 1) (v := .ref hc) (C := RX1) (T := TX1) (N := 4) hx hb hts in_c_X1_put_X1 hown hK.1 hP 0 rfl rfl 0 (by decide) (hts (.fieldLink RX1 11 "FloorPanels$House" "cells" "[I") (by decide +kernel)) (fun _ h9 => h9) rfl dX1_put_21 ?_
  refine lv_iload_n hx hb dX1_put_24 rfl (lv_at hl 1 rfl) ?_
  refine lv_bipush (v := nI 16) hx hb dX1_put_25 (by decide) ?_
  refine nv_imul hx hb dX1_put_27 ?_
  refine lv_iload_n hx hb dX1_put_28 rfl (lv_at hl 2 rfl) ?_
  refine nv_iadd hx hb dX1_put_29 ?_
  refine lv_iload_n hx hb dX1_put_30 rfl (lv_at hl 3 rfl) ?_
  refine nv_iast hx hb hK hP hD hS 1 rfl (v := v) rfl (by omega) (by decide) dX1_put_31 (w3 := [(h, .inr (1, [.ref hc, .int (nI n), .int (nI g), .int sk])), (hc, .inl (G.2 0, 144, .inl (upd f ((ro * 16) + lv) v)))]) (rfl) (fun H locs hP hD hS => ?_)
  exact W_v hx hb hr hlk dX1_put_32 hP hS (rfl)

set_option maxHeartbeats 4000000 in
set_option maxRecDepth 100000 in
theorem c_X1_isRight (l : Launch) (G : GG) (h : Nat) (hc : Nat) (n : Nat) (g : Nat) (sk : Int32) (f : Nat → Int32) (ro : Nat) (lv : Nat) (h_ro : ro < 9) (h_lv : lv < 16) : Met l yX1_isRight wsX1_isRight ({ frames := 1, cells := 0, slots := 0, locals := 22 } : Room) (va_Pc [.ref h, .int (nI ro), .int (nI lv)] (PB G [(h, .inr (1, [.ref hc, .int (nI n), .int (nI g), .int sk])), (hc, .inl (G.2 0, 144, .inl f))])) (QR (some (.int (zb (f (ro * 16 + lv) = f (16 + lv)))))) 0 0 (fun _ => False) := by
  refine Met.go (cc := cX1_isRight) (maxL := 3) (ret := (some .boolean)) (by decide) rfl (Nat.le_of_ble_eq_true rfl) ?_
  intro p e s m below meth c ls hx hb hr hml hown hts hlk hP hK hD hS hl
  have hown : s.vm.findClass RX1 = some m.cls := hown
  have hl : lv_has ls 3 [(0, .ref h), (1, .int (nI ro)), (2, .int (nI lv))] := hl
  refine lv_aload_n hx hb dX1_isRight_0 rfl (lv_at hl 0 rfl) ?_
  refine lv_iload_n hx hb dX1_isRight_1 rfl (lv_at hl 1 rfl) ?_
  refine lv_iload_n hx hb dX1_isRight_2 rfl (lv_at hl 2 rfl) ?_
  refine cRV (As := [.int (nI ro), .int (nI lv)]) (rest := []) (v := .int (f (ro * 16 + lv))) ⟨hx, hb, hml, hown, hts⟩ (c_X1_cell l G h hc n g sk f ro lv (by first | omega | assumption) (by first | omega | assumption)) (cwV 2 hts gX1_isRight_X1_cell rfl rfl rfl (by decide +kernel) ⟨Nat.le_of_ble_eq_true rfl, Nat.le_of_ble_eq_true rfl⟩) (preV_of hK hP hD [0, 1] (by decide) rfl (ci := 1) (q0 := 0) rfl rfl rfl) rfl hl.1 rfl (lv_room (Nat.le_of_ble_eq_true rfl)) dX1_isRight_3 ⟨Nat.zero_le _, Nat.zero_le _⟩ ?_
  refine lv_aload_n hx hb dX1_isRight_6 rfl (lv_at hl 0 rfl) ?_
  refine lv_iconst (v := nI 1) hx hb dX1_isRight_7 (by decide) ?_
  refine lv_iload_n hx hb dX1_isRight_8 rfl (lv_at hl 2 rfl) ?_
  refine cRV (As := [.int (nI 1), .int (nI lv)]) (rest := [.int (f (ro * 16 + lv))]) (v := .int (f (16 + lv))) ⟨hx, hb, hml, hown, hts⟩ (c_X1_cell l G h hc n g sk f 1 lv (by first | omega | assumption) (by first | omega | assumption)) (cwV 2 hts gX1_isRight_X1_cell rfl rfl rfl (by decide +kernel) ⟨Nat.le_of_ble_eq_true rfl, Nat.le_of_ble_eq_true rfl⟩) (preV_of hK hP hD [0, 1] (by decide) rfl (ci := 1) (q0 := 0) rfl rfl rfl) rfl hl.1 rfl (lv_room (Nat.le_of_ble_eq_true rfl)) dX1_isRight_9 ⟨Nat.zero_le _, Nat.zero_le _⟩ ?_
  refine lv_icmp_ne (tgt := 19) hx hb dX1_isRight_12 (by decide) (fun c_12 => ?_) (fun c_12 => ?_)
  ·
    refine lv_iconst (v := nI 0) hx hb dX1_isRight_19 (by decide) ?_
    exact R_z hx hb hr hlk dX1_isRight_20 ((zb_f (by first | omega | assumption)).symm) zb_nar
  ·
    refine lv_iconst (v := nI 1) hx hb dX1_isRight_15 (by decide) ?_
    refine lv_goto (tgt := 20) hx hb dX1_isRight_16 (by decide) ?_
    exact R_z hx hb hr hlk dX1_isRight_20 ((zb_t (by first | omega | assumption)).symm) zb_nar

theorem in_c_X1_wrongInRow_X1 : ∀ w ∈ wsX10, w ∈ wsX1_wrongInRow := by decide +kernel
set_option maxHeartbeats 4000000 in
set_option maxRecDepth 100000 in
theorem c_X1_wrongInRow (l : Launch) (G : GG) (h : Nat) (hc : Nat) (n : Nat) (g : Nat) (sk : Int32) (f : Nat → Int32) (ro : Nat) (h_ro : ro < 9) (h_n : n ≤ 16) : Met l yX1_wrongInRow wsX1_wrongInRow ({ frames := 2, cells := 0, slots := 0, locals := 44 } : Room) (va_Pc [.ref h, .int (nI ro)] (PB G [(h, .inr (1, [.ref hc, .int (nI n), .int (nI g), .int sk])), (hc, .inl (G.2 0, 144, .inl f))])) (QR (some (.int (nI (ct (fun x_ => ¬ f (ro * 16 + x_) = f (16 + x_)) n))))) 0 0 (fun _ => False) := by
  refine Met.go (cc := cX1_wrongInRow) (maxL := 4) (ret := (some .int)) (by decide) rfl (Nat.le_of_ble_eq_true rfl) ?_
  intro p e s m below meth c ls hx hb hr hml hown hts hlk hP hK hD hS hl
  have hown : s.vm.findClass RX1 = some m.cls := hown
  have hl : lv_has ls 4 [(0, .ref h), (1, .int (nI ro))] := hl
  refine lv_iconst (v := nI 0) hx hb dX1_wrongInRow_0 (by decide) ?_
  refine lv_istore_n (lv' := [(2, .int (nI 0)), (0, .ref h), (1, .int (nI ro))]) hx hb dX1_wrongInRow_1 rfl hl (by decide) rfl (fun ls hl => ?_)
  refine lv_iconst (v := nI 0) hx hb dX1_wrongInRow_2 (by decide) ?_
  refine lv_istore_n (lv' := [(3, .int (nI 0)), (2, .int (nI 0)), (0, .ref h), (1, .int (nI ro))]) hx hb dX1_wrongInRow_3 rfl hl (by decide) rfl (fun ls hl => ?_)
  have loop_4 : ∀ (k_ : Nat) (i : Nat) (h_i : i ≤ n) (_ : n - i < k_) (ls : Array Slot), lv_has ls 4 [(3, .int (nI i)), (2, .int (nI (ct (fun x_ => ¬ f (ro * 16 + x_) = f (16 + x_)) i))), (0, .ref h), (1, .int (nI ro))] → W p l e ({ frames := 2, cells := 0, slots := 0, locals := 44 } : Room) s m ([.ref h, .int (nI ro)] : List Value).toArray below meth c s.heap [] 0 0 (MQ below (QR (some (.int (nI (ct (fun x_ => ¬ f (ro * 16 + x_) = f (16 + x_)) n))))) ([.ref h, .int (nI ro)] : List Value).toArray s 0 0 (fun _ => False)) (F0 m 4 ls []) := by
    intro k_
    induction k_ with
    | zero => intro i h_i hk_; exact absurd hk_ (Nat.not_lt_zero _)
    | succ k_ ih_4 =>
      intro i h_i hk_ ls hl
      refine lv_iload_n hx hb dX1_wrongInRow_4 rfl (lv_at hl 0 rfl) ?_
      refine lv_aload_n hx hb dX1_wrongInRow_5 rfl (lv_at hl 2 rfl) ?_
      refine va_get (D := G.1) (ci := 1) (v := .int (nI n)) (C := RX1) (T := TX1) (N := 4) hx hb hts in_c_X1_wrongInRow_X1 hown hK.1 hP 0 rfl rfl 1 (by decide) (hts (.fieldLink RX1 15 "FloorPanels$House" "levels" "I") (by decide +kernel)) (fun _ h9 => h9) rfl dX1_wrongInRow_6 ?_
      refine bi_ge (tgt := 30) hx hb dX1_wrongInRow_9 (by decide) (nI_i (by omega)) (nI_i (by omega)) (fun c_9 => ?_) (fun c_9 => ?_)
      ·
        refine lv_iload_n hx hb dX1_wrongInRow_30 rfl (lv_at hl 1 rfl) ?_
        exact R_i hx hb hr hlk dX1_wrongInRow_31 (by rw [show i = n by omega])
      ·
        refine lv_aload_n hx hb dX1_wrongInRow_12 rfl (lv_at hl 2 rfl) ?_
        refine lv_iload_n hx hb dX1_wrongInRow_13 rfl (lv_at hl 3 rfl) ?_
        refine lv_iload_n hx hb dX1_wrongInRow_14 rfl (lv_at hl 0 rfl) ?_
        refine cRV (As := [.int (nI ro), .int (nI i)]) (rest := []) (v := .int (zb (f (ro * 16 + i) = f (16 + i)))) ⟨hx, hb, hml, hown, hts⟩ (c_X1_isRight l G h hc n g sk f ro i (by first | omega | assumption) (by first | omega | assumption)) (cwV 2 hts gX1_wrongInRow_X1_isRight rfl rfl rfl (by decide +kernel) ⟨Nat.le_of_ble_eq_true rfl, Nat.le_of_ble_eq_true rfl⟩) (preV_of hK hP hD [0, 1] (by decide) rfl (ci := 1) (q0 := 0) rfl rfl rfl) rfl hl.1 rfl (lv_room (Nat.le_of_ble_eq_true rfl)) dX1_wrongInRow_15 ⟨Nat.zero_le _, Nat.zero_le _⟩ ?_
        refine bb_ne (tgt := 24) hx hb dX1_wrongInRow_18 (by decide) (fun c_18 => ?_) (fun c_18 => ?_)
        ·
          refine lv_iinc (v := nI (i + 1)) (lv' := [(3, .int (nI (i + 1))), (2, .int (nI (ct (fun x_ => ¬ f (ro * 16 + x_) = f (16 + x_)) i))), (0, .ref h), (1, .int (nI ro))]) hx hb dX1_wrongInRow_24 hl (k := 0) rfl (inc_n _ 1) (by decide) rfl (fun ls hl => ?_)
          refine lv_goto (tgt := 4) hx hb dX1_wrongInRow_27 (by decide) ?_
          exact ih_4 (i + 1) (by first | omega | assumption) (by omega) ls (lv_sub hl [0, 1, 2, 3] (by first | rfl | (rw [ct_t (by assumption)]; rfl) | (rw [ct_f (fun z_ => z_ (by assumption))]; rfl)))
        ·
          refine lv_iinc (v := nI (ct (fun x_ => ¬ f (ro * 16 + x_) = f (16 + x_)) i + 1)) (lv' := [(2, .int (nI (ct (fun x_ => ¬ f (ro * 16 + x_) = f (16 + x_)) i + 1))), (3, .int (nI i)), (0, .ref h), (1, .int (nI ro))]) hx hb dX1_wrongInRow_21 hl (k := 1) rfl (inc_n _ 1) (by decide) rfl (fun ls hl => ?_)
          refine lv_iinc (v := nI (i + 1)) (lv' := [(3, .int (nI (i + 1))), (2, .int (nI (ct (fun x_ => ¬ f (ro * 16 + x_) = f (16 + x_)) i + 1))), (0, .ref h), (1, .int (nI ro))]) hx hb dX1_wrongInRow_24 hl (k := 1) rfl (inc_n _ 1) (by decide) rfl (fun ls hl => ?_)
          refine lv_goto (tgt := 4) hx hb dX1_wrongInRow_27 (by decide) ?_
          exact ih_4 (i + 1) (by first | omega | assumption) (by omega) ls (lv_sub hl [0, 1, 2, 3] (by first | rfl | (rw [ct_t (by assumption)]; rfl) | (rw [ct_f (fun z_ => z_ (by assumption))]; rfl)))
  exact loop_4 (n - 0 + 1) 0 (by first | omega | assumption) (Nat.lt_succ_self _)  ls (lv_sub hl [0, 1, 2, 3] (by first | rfl | (rw [ct_t (by assumption)]; rfl) | (rw [ct_f (fun z_ => z_ (by assumption))]; rfl)))

