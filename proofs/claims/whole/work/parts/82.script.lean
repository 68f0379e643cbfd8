set_option maxHeartbeats 4000000 in
set_option maxRecDepth 100000 in
theorem c_X4_succeeds (l : Launch) (G : GG) (h : Nat) (hc : Nat) (u : HS) (co : Nat) (h_u : hOK u) (h_c : co < 10000) : Met l yX4_succeeds wsX4_succeeds ({ frames := 4, cells := 0, slots := 0, locals := 92 } : Room) (va_Pc [.ref h, .int (nI co)] (PB G [(h, .inr (1, [.ref hc, .int (nI u.1), .int (nI u.2.1), .int u.2.2.1])), (hc, .inl (G.2 0, 144, .inl u.2.2.2))])) (QW G (some (.int (zb (sok (co / 1000) (co / 100 % 10) (co / 10 % 10) (co % 10) u)))) [(h, .inr (1, [.ref hc, .int (nI ((scm (co / 1000) (co / 100 % 10) (co / 10 % 10) (co % 10) u).1)), .int (nI ((scm (co / 1000) (co / 100 % 10) (co / 10 % 10) (co % 10) u).2.1)), .int ((scm (co / 1000) (co / 100 % 10) (co / 10 % 10) (co % 10) u).2.2.1)])), (hc, .inl (G.2 0, 144, .inl ((scm (co / 1000) (co / 100 % 10) (co / 10 % 10) (co % 10) u).2.2.2)))] (vA [(h, .inr (1, [.ref hc, .int (nI u.1), .int (nI u.2.1), .int u.2.2.1])), (hc, .inl (G.2 0, 144, .inl u.2.2.2))])) 0 0 (vA [(h, .inr (1, [.ref hc, .int (nI u.1), .int (nI u.2.1), .int u.2.2.1])), (hc, .inl (G.2 0, 144, .inl u.2.2.2))]) := by
  obtain ⟨h_n1, h_n, h_g, h_f, h_nm, h_kd⟩ := h_u
  refine Met.go (cc := cX4_succeeds) (maxL := 6) (ret := (some .boolean)) (by decide) rfl (Nat.le_of_ble_eq_true rfl) ?_
  intro p e s m below meth c ls hx hb hr hml hown hts hlk hP hK hD hS hl
  have hown : s.vm.findClass RX4 = some m.cls := hown
  have hl : lv_has ls 6 [(0, .ref h), (1, .int (nI co))] := hl
  refine lv_iload_n hx hb dX4_succeeds_0 rfl (lv_at hl 1 rfl) ?_
  refine lv_bipush (v := nI 100) hx hb dX4_succeeds_1 (by decide) ?_
  refine nv_idiv hx hb ⟨by omega, by omega, by omega⟩ dX4_succeeds_3 ?_
  refine lv_bipush (v := nI 10) hx hb dX4_succeeds_4 (by decide) ?_
  refine nv_irem hx hb ⟨by omega, by omega, by omega⟩ dX4_succeeds_6 ?_
  refine lv_istore_n (lv' := [(2, .int (nI ((co / 100) % 10))), (0, .ref h), (1, .int (nI co))]) hx hb dX4_succeeds_7 rfl hl (by decide) rfl (fun ls hl => ?_)
  refine lv_iload_n hx hb dX4_succeeds_8 rfl (lv_at hl 2 rfl) ?_
  refine lv_bipush (v := nI 10) hx hb dX4_succeeds_9 (by decide) ?_
  refine nv_idiv hx hb ⟨by omega, by omega, by omega⟩ dX4_succeeds_11 ?_
  refine lv_bipush (v := nI 100) hx hb dX4_succeeds_12 (by decide) ?_
  refine nv_irem hx hb ⟨by omega, by omega, by omega⟩ dX4_succeeds_14 ?_
  refine lv_istore_n (lv' := [(3, .int (nI ((co / 10) % 100))), (2, .int (nI ((co / 100) % 10))), (0, .ref h), (1, .int (nI co))]) hx hb dX4_succeeds_15 rfl hl (by decide) rfl (fun ls hl => ?_)
  refine lv_iload_n hx hb dX4_succeeds_16 rfl (lv_at hl 3 rfl) ?_
  refine lv_bipush (v := nI 10) hx hb dX4_succeeds_17 (by decide) ?_
  refine nv_irem hx hb ⟨by omega, by omega, by omega⟩ dX4_succeeds_19 ?_
  refine lv_istore (lv' := [(4, .int (nI (co % 10))), (3, .int (nI ((co / 10) % 100))), (2, .int (nI ((co / 100) % 10))), (0, .ref h), (1, .int (nI co))]) hx hb dX4_succeeds_20 hl (by decide) rfl (fun ls hl => ?_)
  refine lv_iload_n hx hb dX4_succeeds_22 rfl (lv_at hl 4 rfl) ?_
  refine lv_bipush (v := nI 100) hx hb dX4_succeeds_23 (by decide) ?_
  refine nv_irem hx hb ⟨by omega, by omega, by omega⟩ dX4_succeeds_25 ?_
  refine lv_istore (lv' := [(5, .int (nI (co % 100))), (4, .int (nI (co % 10))), (3, .int (nI ((co / 10) % 100))), (2, .int (nI ((co / 100) % 10))), (0, .ref h), (1, .int (nI co))]) hx hb dX4_succeeds_26 hl (by decide) rfl (fun ls hl => ?_)
  rw [show nI ((co / 10) % 100) = nI (10 * (co / 100 % 10) + co / 10 % 10) from congrArg nI (by omega)] at hl
  rw [show nI (co % 100) = nI (10 * (co / 10 % 10) + co % 10) from congrArg nI (by omega)] at hl
  refine lv_iload_n hx hb dX4_succeeds_28 rfl (lv_at hl 5 rfl) ?_
  refine lv_sipush (v := nI 1000) hx hb dX4_succeeds_29 (by decide) ?_
  refine nv_idiv hx hb ⟨by omega, by omega, by omega⟩ dX4_succeeds_32 ?_
  rcases (show co / 1000 = 1 ∨ co / 1000 = 2 ∨ co / 1000 = 3 ∨ co / 1000 = 4 ∨ co / 1000 = 5 ∨ co / 1000 = 6 ∨ co / 1000 = 7 ∨ co / 1000 = 8 ∨ co / 1000 = 9 ∨ co / 1000 = 0 by omega) with h_h | h_h | h_h | h_h | h_h | h_h | h_h | h_h | h_h | h_h
  ·
    rw [show nI (co / 1000) = nI 1 from congrArg nI h_h]
    refine lv_tableIn (off := 51) (tgt := 84) hx hb dX4_succeeds_33 (by decide) (by decide) (by decide) (by decide) ?_
    refine lv_aload_n hx hb dX4_succeeds_84 rfl (lv_at hl 4 rfl) ?_
    refine lv_iload_n hx hb dX4_succeeds_85 rfl (lv_at hl 2 rfl) ?_
    refine lv_iload hx hb dX4_succeeds_86 (lv_at hl 1 rfl) ?_
    by_cases h_q : 10 * (co / 100 % 10) + co / 10 % 10 ≤ u.1 ∧ co % 10 < 4 ∧ u.1 < 16
    ·
      refine cWV (As := [.int (nI (10 * (co / 100 % 10) + co / 10 % 10)), .int (nI (co % 10))]) (rest := []) (st1 := [.int (nI 1)]) (w3 := [(h, .inr (1, [.ref hc, .int (nI (u.1 + 1)), .int (nI (insG (10 * (co / 100 % 10) + co / 10 % 10) u.2.1)), .int u.2.2.1])), (hc, .inl (G.2 0, 144, .inl (rn u.2.2.1 (insG (10 * (co / 100 % 10) + co / 10 % 10) u.2.1) 0 (u.1 + 1) (fur (10 * (co / 100 % 10) + co / 10 % 10) (nI (co % 10)) (sh (10 * (co / 100 % 10) + co / 10 % 10) u.1 9 u.1 u.2.2.2)))))]) ⟨hx, hb, hml, hown, hts⟩ (c_X1_insertLevel l G h hc u.1 u.2.1 u.2.2.1 u.2.2.2 (10 * (co / 100 % 10) + co / 10 % 10) (co % 10) (by first | omega | assumption) (by first | omega | assumption) (by first | omega | assumption) (by first | omega | assumption) (by first | omega | assumption)) (cwV 2 hts gX4_succeeds_X1_insertLevel rfl rfl rfl (by decide +kernel) ⟨Nat.le_of_ble_eq_true rfl, Nat.le_of_ble_eq_true rfl⟩) (preV_of hK hP hD [0, 1] (by decide) rfl (ci := 1) (q0 := 0) rfl rfl rfl) rfl hl.1 rfl (lv_room (Nat.le_of_ble_eq_true rfl)) dX4_succeeds_88 ⟨Nat.zero_le _, Nat.zero_le _⟩ hP hD hS [0, 1] (by decide) rfl (Eq.trans (b := [h, hc]) rfl rfl) (rfl) rfl (fun H locs hP hD hS => ?_)
      exact W_z hx hb hr hlk dX4_succeeds_91 hP hS ((zb_t (by first | exact (sok_1 h_h).mpr (by omega) | exact fun z_ => absurd ((sok_1 h_h).mp z_) (by omega))).symm) (by first | (rw [scm_1t h_h (by omega)]; rfl) | rw [scm_1f h_h (by omega)]) zb_nar
    ·
      refine cRV (As := [.int (nI (10 * (co / 100 % 10) + co / 10 % 10)), .int (nI (co % 10))]) (rest := []) (v := .int (nI 0)) ⟨hx, hb, hml, hown, hts⟩ (c_X1_insertLevel_no l G h hc u.1 u.2.1 u.2.2.1 u.2.2.2 (10 * (co / 100 % 10) + co / 10 % 10) (co % 10) (by first | omega | assumption) (by first | omega | assumption) (by first | omega | assumption) (by first | omega | assumption)) (cwV 2 hts gX4_succeeds_X1_insertLevel rfl rfl rfl (by decide +kernel) ⟨Nat.le_of_ble_eq_true rfl, Nat.le_of_ble_eq_true rfl⟩) (preV_of hK hP hD [0, 1] (by decide) rfl (ci := 1) (q0 := 0) rfl rfl rfl) rfl hl.1 rfl (lv_room (Nat.le_of_ble_eq_true rfl)) dX4_succeeds_88 ⟨Nat.zero_le _, Nat.zero_le _⟩ ?_
      exact W_z hx hb hr hlk dX4_succeeds_91 hP hS ((zb_f (by first | exact (sok_1 h_h).mpr (by omega) | exact fun z_ => absurd ((sok_1 h_h).mp z_) (by omega))).symm) (by first | (rw [scm_1t h_h (by omega)]; rfl) | rw [scm_1f h_h (by omega)]) zb_nar
  ·
    rw [show nI (co / 1000) = nI 2 from congrArg nI h_h]
    refine lv_tableIn (off := 59) (tgt := 92) hx hb dX4_succeeds_33 (by decide) (by decide) (by decide) (by decide) ?_
    refine lv_iload hx hb dX4_succeeds_92 (lv_at hl 1 rfl) ?_
    refine b0_ne (tgt := 109) hx hb dX4_succeeds_94 (by decide) (nI_i (by omega)) (fun c_94 => ?_) (fun c_94 => ?_)
    ·
      refine lv_iconst (v := nI 0) hx hb dX4_succeeds_109 (by decide) ?_
      exact W_z hx hb hr hlk dX4_succeeds_110 hP hS ((zb_f (by first | exact (sok_2 h_h).mpr (by omega) | exact fun z_ => absurd ((sok_2 h_h).mp z_) (by omega))).symm) (by first | (rw [scm_2t h_h (by omega)]; rfl) | rw [scm_2f h_h (by omega)]) zb_nar
    ·
      refine lv_aload_n hx hb dX4_succeeds_97 rfl (lv_at hl 4 rfl) ?_
      refine lv_iload_n hx hb dX4_succeeds_98 rfl (lv_at hl 2 rfl) ?_
      by_cases h_q : 10 * (co / 100 % 10) + co / 10 % 10 < u.1 ∧ 10 * (co / 100 % 10) + co / 10 % 10 ≠ u.2.1
      ·
        refine cWV (As := [.int (nI (10 * (co / 100 % 10) + co / 10 % 10))]) (rest := []) (st1 := [.int (nI 1)]) (w3 := [(h, .inr (1, [.ref hc, .int (nI (u.1 - 1)), .int (nI (delG (10 * (co / 100 % 10) + co / 10 % 10) u.2.1)), .int u.2.2.1])), (hc, .inl (G.2 0, 144, .inl (rn u.2.2.1 (delG (10 * (co / 100 % 10) + co / 10 % 10) u.2.1) 0 (u.1 - 1) (sd (10 * (co / 100 % 10) + co / 10 % 10) (u.1 - 1) 9 (10 * (co / 100 % 10) + co / 10 % 10) u.2.2.2))))]) ⟨hx, hb, hml, hown, hts⟩ (c_X1_deleteLevel l G h hc u.1 u.2.1 u.2.2.1 u.2.2.2 (10 * (co / 100 % 10) + co / 10 % 10) (by first | omega | assumption) (by first | omega | assumption) (by first | omega | assumption) (by first | omega | assumption) (by first | omega | assumption)) (cwV 1 hts gX4_succeeds_X1_deleteLevel rfl rfl rfl (by decide +kernel) ⟨Nat.le_of_ble_eq_true rfl, Nat.le_of_ble_eq_true rfl⟩) (preV_of hK hP hD [0, 1] (by decide) rfl (ci := 1) (q0 := 0) rfl rfl rfl) rfl hl.1 rfl (lv_room (Nat.le_of_ble_eq_true rfl)) dX4_succeeds_99 ⟨Nat.zero_le _, Nat.zero_le _⟩ hP hD hS [0, 1] (by decide) rfl (Eq.trans (b := [h, hc]) rfl rfl) (rfl) rfl (fun H locs hP hD hS => ?_)
        refine b0_eq (tgt := 109) hx hb dX4_succeeds_102 (by decide) (nI_i (by omega)) (fun c_102 => False.elim (by omega)) (fun c_102 => ?_)
        refine lv_iconst (v := nI 1) hx hb dX4_succeeds_105 (by decide) ?_
        refine lv_goto (tgt := 110) hx hb dX4_succeeds_106 (by decide) ?_
        exact W_z hx hb hr hlk dX4_succeeds_110 hP hS ((zb_t (by first | exact (sok_2 h_h).mpr (by omega) | exact fun z_ => absurd ((sok_2 h_h).mp z_) (by omega))).symm) (by first | (rw [scm_2t h_h (by omega)]; rfl) | rw [scm_2f h_h (by omega)]) zb_nar
      ·
        refine cRV (As := [.int (nI (10 * (co / 100 % 10) + co / 10 % 10))]) (rest := []) (v := .int (nI 0)) ⟨hx, hb, hml, hown, hts⟩ (c_X1_deleteLevel_no l G h hc u.1 u.2.1 u.2.2.1 u.2.2.2 (10 * (co / 100 % 10) + co / 10 % 10) (by first | omega | assumption) (by first | omega | assumption) (by first | omega | assumption) (by first | omega | assumption)) (cwV 1 hts gX4_succeeds_X1_deleteLevel rfl rfl rfl (by decide +kernel) ⟨Nat.le_of_ble_eq_true rfl, Nat.le_of_ble_eq_true rfl⟩) (preV_of hK hP hD [0, 1] (by decide) rfl (ci := 1) (q0 := 0) rfl rfl rfl) rfl hl.1 rfl (lv_room (Nat.le_of_ble_eq_true rfl)) dX4_succeeds_99 ⟨Nat.zero_le _, Nat.zero_le _⟩ ?_
        refine b0_eq (tgt := 109) hx hb dX4_succeeds_102 (by decide) (nI_i (by omega)) (fun c_102 => ?_) (fun c_102 => False.elim (by omega))
        refine lv_iconst (v := nI 0) hx hb dX4_succeeds_109 (by decide) ?_
        exact W_z hx hb hr hlk dX4_succeeds_110 hP hS ((zb_f (by first | exact (sok_2 h_h).mpr (by omega) | exact fun z_ => absurd ((sok_2 h_h).mp z_) (by omega))).symm) (by first | (rw [scm_2t h_h (by omega)]; rfl) | rw [scm_2f h_h (by omega)]) zb_nar
  ·
    rw [show nI (co / 1000) = nI 3 from congrArg nI h_h]
    refine lv_tableIn (off := 78) (tgt := 111) hx hb dX4_succeeds_33 (by decide) (by decide) (by decide) (by decide) ?_
    refine lv_aload_n hx hb dX4_succeeds_111 rfl (lv_at hl 4 rfl) ?_
    refine lv_iload_n hx hb dX4_succeeds_112 rfl (lv_at hl 2 rfl) ?_
    refine lv_iload hx hb dX4_succeeds_113 (lv_at hl 1 rfl) ?_
    by_cases h_q : 10 * (co / 100 % 10) + co / 10 % 10 < u.1 ∧ co % 10 < 4 ∧ ¬ (10 * (co / 100 % 10) + co / 10 % 10 = u.2.1 ∧ co % 10 ≠ 0)
    ·
      refine cWV (As := [.int (nI (10 * (co / 100 % 10) + co / 10 % 10)), .int (nI (co % 10))]) (rest := []) (st1 := [.int (nI 1)]) (w3 := [(h, .inr (1, [.ref hc, .int (nI u.1), .int (nI u.2.1), .int u.2.2.1])), (hc, .inl (G.2 0, 144, .inl (rn u.2.2.1 u.2.1 0 u.1 (upd u.2.2.2 (10 * (co / 100 % 10) + co / 10 % 10) (nI (co % 10))))))]) ⟨hx, hb, hml, hown, hts⟩ (c_X1_changeKind l G h hc u.1 u.2.1 u.2.2.1 u.2.2.2 (10 * (co / 100 % 10) + co / 10 % 10) (co % 10) (by first | omega | assumption) (by first | omega | assumption) (by first | omega | assumption) (by first | omega | assumption) (by first | omega | assumption) (by first | omega | assumption)) (cwV 2 hts gX4_succeeds_X1_changeKind rfl rfl rfl (by decide +kernel) ⟨Nat.le_of_ble_eq_true rfl, Nat.le_of_ble_eq_true rfl⟩) (preV_of hK hP hD [0, 1] (by decide) rfl (ci := 1) (q0 := 0) rfl rfl rfl) rfl hl.1 rfl (lv_room (Nat.le_of_ble_eq_true rfl)) dX4_succeeds_115 ⟨Nat.zero_le _, Nat.zero_le _⟩ hP hD hS [0, 1] (by decide) rfl (Eq.trans (b := [h, hc]) rfl rfl) (rfl) rfl (fun H locs hP hD hS => ?_)
      exact W_z hx hb hr hlk dX4_succeeds_118 hP hS ((zb_t (by first | exact (sok_3 h_h).mpr (by omega) | exact fun z_ => absurd ((sok_3 h_h).mp z_) (by omega))).symm) (by first | (rw [scm_3t h_h (by omega)]; rfl) | rw [scm_3f h_h (by omega)]) zb_nar
    ·
      refine cRV (As := [.int (nI (10 * (co / 100 % 10) + co / 10 % 10)), .int (nI (co % 10))]) (rest := []) (v := .int (nI 0)) ⟨hx, hb, hml, hown, hts⟩ (c_X1_changeKind_no l G h hc u.1 u.2.1 u.2.2.1 u.2.2.2 (10 * (co / 100 % 10) + co / 10 % 10) (co % 10) (by first | omega | assumption) (by first | omega | assumption) (by first | omega | assumption) (by first | omega | assumption) (by first | omega | assumption)) (cwV 2 hts gX4_succeeds_X1_changeKind rfl rfl rfl (by decide +kernel) ⟨Nat.le_of_ble_eq_true rfl, Nat.le_of_ble_eq_true rfl⟩) (preV_of hK hP hD [0, 1] (by decide) rfl (ci := 1) (q0 := 0) rfl rfl rfl) rfl hl.1 rfl (lv_room (Nat.le_of_ble_eq_true rfl)) dX4_succeeds_115 ⟨Nat.zero_le _, Nat.zero_le _⟩ ?_
      exact W_z hx hb hr hlk dX4_succeeds_118 hP hS ((zb_f (by first | exact (sok_3 h_h).mpr (by omega) | exact fun z_ => absurd ((sok_3 h_h).mp z_) (by omega))).symm) (by first | (rw [scm_3t h_h (by omega)]; rfl) | rw [scm_3f h_h (by omega)]) zb_nar
  ·
    rw [show nI (co / 1000) = nI 4 from congrArg nI h_h]
    refine lv_tableIn (off := 86) (tgt := 119) hx hb dX4_succeeds_33 (by decide) (by decide) (by decide) (by decide) ?_
    refine lv_iload hx hb dX4_succeeds_119 (lv_at hl 1 rfl) ?_
    refine lv_iconst (v := nI 1) hx hb dX4_succeeds_121 (by decide) ?_
    refine bi_gt (tgt := 148) hx hb dX4_succeeds_122 (by decide) (nI_i (by omega)) (nI_i (by omega)) (fun c_122 => ?_) (fun c_122 => ?_)
    ·
      refine lv_iconst (v := nI 0) hx hb dX4_succeeds_148 (by decide) ?_
      exact W_z hx hb hr hlk dX4_succeeds_149 hP hS ((zb_f (by first | exact (sok_4 h_h).mpr (by omega) | exact fun z_ => absurd ((sok_4 h_h).mp z_) (by omega))).symm) (by first | (rw [scm_4t h_h (by omega)]; rfl) | rw [scm_4f h_h (by omega)]) zb_nar
    ·
      refine lv_aload_n hx hb dX4_succeeds_125 rfl (lv_at hl 4 rfl) ?_
      refine lv_iload_n hx hb dX4_succeeds_126 rfl (lv_at hl 2 rfl) ?_
      refine lv_iload hx hb dX4_succeeds_127 (lv_at hl 1 rfl) ?_
      refine lv_iconst (v := nI 1) hx hb dX4_succeeds_129 (by decide) ?_
      refine bi_ne (tgt := 137) hx hb dX4_succeeds_130 (by decide) (nI_i (by omega)) (nI_i (by omega)) (fun c_130 => ?_) (fun c_130 => ?_)
      ·
        refine lv_iconst (v := zb (co % 10 = 1)) hx hb dX4_succeeds_137 (zb_f (by omega)).symm ?_
        by_cases h_q : 1 ≤ 10 * (co / 100 % 10) + co / 10 % 10 ∧ 10 * (co / 100 % 10) + co / 10 % 10 ≤ 30
        ·
          refine cWV (As := [.int (nI (10 * (co / 100 % 10) + co / 10 % 10)), .int (zb (co % 10 = 1))]) (rest := []) (st1 := [.int (nI 1)]) (w3 := [(h, .inr (1, [.ref hc, .int (nI u.1), .int (nI u.2.1), .int (skp u.2.2.1 (10 * (co / 100 % 10) + co / 10 % 10) (co % 10 = 1))])), (hc, .inl (G.2 0, 144, .inl (rn (skp u.2.2.1 (10 * (co / 100 % 10) + co / 10 % 10) (co % 10 = 1)) u.2.1 0 u.1 u.2.2.2)))]) ⟨hx, hb, hml, hown, hts⟩ (c_X1_changeSkip l G h hc u.1 u.2.1 u.2.2.1 u.2.2.2 (10 * (co / 100 % 10) + co / 10 % 10) (co % 10 = 1) (by first | omega | assumption) (by first | omega | assumption) (by first | omega | assumption) (by first | omega | assumption)) (cwV 2 hts gX4_succeeds_X1_changeSkip rfl rfl rfl (by decide +kernel) ⟨Nat.le_of_ble_eq_true rfl, Nat.le_of_ble_eq_true rfl⟩) (preV_of hK hP hD [0, 1] (by decide) rfl (ci := 1) (q0 := 0) rfl rfl rfl) rfl hl.1 rfl (lv_room (Nat.le_of_ble_eq_true rfl)) dX4_succeeds_138 ⟨Nat.zero_le _, Nat.zero_le _⟩ hP hD hS [0, 1] (by decide) rfl (Eq.trans (b := [h, hc]) rfl rfl) (rfl) rfl (fun H locs hP hD hS => ?_)
          refine b0_eq (tgt := 148) hx hb dX4_succeeds_141 (by decide) (nI_i (by omega)) (fun c_141 => False.elim (by omega)) (fun c_141 => ?_)
          refine lv_iconst (v := nI 1) hx hb dX4_succeeds_144 (by decide) ?_
          refine lv_goto (tgt := 149) hx hb dX4_succeeds_145 (by decide) ?_
          exact W_z hx hb hr hlk dX4_succeeds_149 hP hS ((zb_t (by first | exact (sok_4 h_h).mpr (by omega) | exact fun z_ => absurd ((sok_4 h_h).mp z_) (by omega))).symm) (by first | (rw [scm_4t h_h (by omega)]; rfl) | rw [scm_4f h_h (by omega)]) zb_nar
        ·
          refine cRV (As := [.int (nI (10 * (co / 100 % 10) + co / 10 % 10)), .int (zb (co % 10 = 1))]) (rest := []) (v := .int (nI 0)) ⟨hx, hb, hml, hown, hts⟩ (c_X1_changeSkip_no l G h hc u.1 u.2.1 u.2.2.1 u.2.2.2 (10 * (co / 100 % 10) + co / 10 % 10) (co % 10 = 1) (by first | omega | assumption) (by first | omega | assumption)) (cwV 2 hts gX4_succeeds_X1_changeSkip rfl rfl rfl (by decide +kernel) ⟨Nat.le_of_ble_eq_true rfl, Nat.le_of_ble_eq_true rfl⟩) (preV_of hK hP hD [0, 1] (by decide) rfl (ci := 1) (q0 := 0) rfl rfl rfl) rfl hl.1 rfl (lv_room (Nat.le_of_ble_eq_true rfl)) dX4_succeeds_138 ⟨Nat.zero_le _, Nat.zero_le _⟩ ?_
          refine b0_eq (tgt := 148) hx hb dX4_succeeds_141 (by decide) (nI_i (by omega)) (fun c_141 => ?_) (fun c_141 => False.elim (by omega))
          refine lv_iconst (v := nI 0) hx hb dX4_succeeds_148 (by decide) ?_
          exact W_z hx hb hr hlk dX4_succeeds_149 hP hS ((zb_f (by first | exact (sok_4 h_h).mpr (by omega) | exact fun z_ => absurd ((sok_4 h_h).mp z_) (by omega))).symm) (by first | (rw [scm_4t h_h (by omega)]; rfl) | rw [scm_4f h_h (by omega)]) zb_nar
      ·
        refine lv_iconst (v := zb (co % 10 = 1)) hx hb dX4_succeeds_133 (zb_t (by omega)).symm ?_
        refine lv_goto (tgt := 138) hx hb dX4_succeeds_134 (by decide) ?_
        by_cases h_q : 1 ≤ 10 * (co / 100 % 10) + co / 10 % 10 ∧ 10 * (co / 100 % 10) + co / 10 % 10 ≤ 30
        ·
          refine cWV (As := [.int (nI (10 * (co / 100 % 10) + co / 10 % 10)), .int (zb (co % 10 = 1))]) (rest := []) (st1 := [.int (nI 1)]) (w3 := [(h, .inr (1, [.ref hc, .int (nI u.1), .int (nI u.2.1), .int (skp u.2.2.1 (10 * (co / 100 % 10) + co / 10 % 10) (co % 10 = 1))])), (hc, .inl (G.2 0, 144, .inl (rn (skp u.2.2.1 (10 * (co / 100 % 10) + co / 10 % 10) (co % 10 = 1)) u.2.1 0 u.1 u.2.2.2)))]) ⟨hx, hb, hml, hown, hts⟩ (c_X1_changeSkip l G h hc u.1 u.2.1 u.2.2.1 u.2.2.2 (10 * (co / 100 % 10) + co / 10 % 10) (co % 10 = 1) (by first | omega | assumption) (by first | omega | assumption) (by first | omega | assumption) (by first | omega | assumption)) (cwV 2 hts gX4_succeeds_X1_changeSkip rfl rfl rfl (by decide +kernel) ⟨Nat.le_of_ble_eq_true rfl, Nat.le_of_ble_eq_true rfl⟩) (preV_of hK hP hD [0, 1] (by decide) rfl (ci := 1) (q0 := 0) rfl rfl rfl) rfl hl.1 rfl (lv_room (Nat.le_of_ble_eq_true rfl)) dX4_succeeds_138 ⟨Nat.zero_le _, Nat.zero_le _⟩ hP hD hS [0, 1] (by decide) rfl (Eq.trans (b := [h, hc]) rfl rfl) (rfl) rfl (fun H locs hP hD hS => ?_)
          refine b0_eq (tgt := 148) hx hb dX4_succeeds_141 (by decide) (nI_i (by omega)) (fun c_141 => False.elim (by omega)) (fun c_141 => ?_)
          refine lv_iconst (v := nI 1) hx hb dX4_succeeds_144 (by decide) ?_
          refine lv_goto (tgt := 149) hx hb dX4_succeeds_145 (by decide) ?_
          exact W_z hx hb hr hlk dX4_succeeds_149 hP hS ((zb_t (by first | exact (sok_4 h_h).mpr (by omega) | exact fun z_ => absurd ((sok_4 h_h).mp z_) (by omega))).symm) (by first | (rw [scm_4t h_h (by omega)]; rfl) | rw [scm_4f h_h (by omega)]) zb_nar
        ·
          refine cRV (As := [.int (nI (10 * (co / 100 % 10) + co / 10 % 10)), .int (zb (co % 10 = 1))]) (rest := []) (v := .int (nI 0)) ⟨hx, hb, hml, hown, hts⟩ (c_X1_changeSkip_no l G h hc u.1 u.2.1 u.2.2.1 u.2.2.2 (10 * (co / 100 % 10) + co / 10 % 10) (co % 10 = 1) (by first | omega | assumption) (by first | omega | assumption)) (cwV 2 hts gX4_succeeds_X1_changeSkip rfl rfl rfl (by decide +kernel) ⟨Nat.le_of_ble_eq_true rfl, Nat.le_of_ble_eq_true rfl⟩) (preV_of hK hP hD [0, 1] (by decide) rfl (ci := 1) (q0 := 0) rfl rfl rfl) rfl hl.1 rfl (lv_room (Nat.le_of_ble_eq_true rfl)) dX4_succeeds_138 ⟨Nat.zero_le _, Nat.zero_le _⟩ ?_
          refine b0_eq (tgt := 148) hx hb dX4_succeeds_141 (by decide) (nI_i (by omega)) (fun c_141 => ?_) (fun c_141 => False.elim (by omega))
          refine lv_iconst (v := nI 0) hx hb dX4_succeeds_148 (by decide) ?_
          exact W_z hx hb hr hlk dX4_succeeds_149 hP hS ((zb_f (by first | exact (sok_4 h_h).mpr (by omega) | exact fun z_ => absurd ((sok_4 h_h).mp z_) (by omega))).symm) (by first | (rw [scm_4t h_h (by omega)]; rfl) | rw [scm_4f h_h (by omega)]) zb_nar
  ·
    rw [show nI (co / 1000) = nI 5 from congrArg nI h_h]
    refine lv_tableIn (off := 117) (tgt := 150) hx hb dX4_succeeds_33 (by decide) (by decide) (by decide) (by decide) ?_
    refine lv_iload hx hb dX4_succeeds_150 (lv_at hl 1 rfl) ?_
    refine b0_ne (tgt := 167) hx hb dX4_succeeds_152 (by decide) (nI_i (by omega)) (fun c_152 => ?_) (fun c_152 => ?_)
    ·
      refine lv_iconst (v := nI 0) hx hb dX4_succeeds_167 (by decide) ?_
      exact W_z hx hb hr hlk dX4_succeeds_168 hP hS ((zb_f (by first | exact (sok_5 h_h).mpr (by omega) | exact fun z_ => absurd ((sok_5 h_h).mp z_) (by omega))).symm) (by first | (rw [scm_5t h_h (by omega)]; rfl) | rw [scm_5f h_h (by omega)]) zb_nar
    ·
      refine lv_aload_n hx hb dX4_succeeds_155 rfl (lv_at hl 4 rfl) ?_
      refine lv_iload_n hx hb dX4_succeeds_156 rfl (lv_at hl 2 rfl) ?_
      by_cases h_q : 10 * (co / 100 % 10) + co / 10 % 10 < u.1
      ·
        refine cWV (As := [.int (nI (10 * (co / 100 % 10) + co / 10 % 10))]) (rest := []) (st1 := [.int (nI 1)]) (w3 := [(h, .inr (1, [.ref hc, .int (nI u.1), .int (nI u.2.1), .int u.2.2.1])), (hc, .inl (G.2 0, 144, .inl (upd u.2.2.2 (32 + (10 * (co / 100 % 10) + co / 10 % 10)) (u.2.2.2 (16 + (10 * (co / 100 % 10) + co / 10 % 10))))))]) ⟨hx, hb, hml, hown, hts⟩ (c_X1_correctSign l G h hc u.1 u.2.1 u.2.2.1 u.2.2.2 (10 * (co / 100 % 10) + co / 10 % 10) (by first | omega | assumption) (by first | omega | assumption)) (cwV 1 hts gX4_succeeds_X1_correctSign rfl rfl rfl (by decide +kernel) ⟨Nat.le_of_ble_eq_true rfl, Nat.le_of_ble_eq_true rfl⟩) (preV_of hK hP hD [0, 1] (by decide) rfl (ci := 1) (q0 := 0) rfl rfl rfl) rfl hl.1 rfl (lv_room (Nat.le_of_ble_eq_true rfl)) dX4_succeeds_157 ⟨Nat.zero_le _, Nat.zero_le _⟩ hP hD hS [0, 1] (by decide) rfl (Eq.trans (b := [h, hc]) rfl rfl) (rfl) rfl (fun H locs hP hD hS => ?_)
        refine b0_eq (tgt := 167) hx hb dX4_succeeds_160 (by decide) (nI_i (by omega)) (fun c_160 => False.elim (by omega)) (fun c_160 => ?_)
        refine lv_iconst (v := nI 1) hx hb dX4_succeeds_163 (by decide) ?_
        refine lv_goto (tgt := 168) hx hb dX4_succeeds_164 (by decide) ?_
        exact W_z hx hb hr hlk dX4_succeeds_168 hP hS ((zb_t (by first | exact (sok_5 h_h).mpr (by omega) | exact fun z_ => absurd ((sok_5 h_h).mp z_) (by omega))).symm) (by first | (rw [scm_5t h_h (by omega)]; rfl) | rw [scm_5f h_h (by omega)]) zb_nar
      ·
        refine cRV (As := [.int (nI (10 * (co / 100 % 10) + co / 10 % 10))]) (rest := []) (v := .int (nI 0)) ⟨hx, hb, hml, hown, hts⟩ (c_X1_correctSign_no l G h hc u.1 u.2.1 u.2.2.1 u.2.2.2 (10 * (co / 100 % 10) + co / 10 % 10) (by first | omega | assumption) (by first | omega | assumption) (by first | omega | assumption)) (cwV 1 hts gX4_succeeds_X1_correctSign rfl rfl rfl (by decide +kernel) ⟨Nat.le_of_ble_eq_true rfl, Nat.le_of_ble_eq_true rfl⟩) (preV_of hK hP hD [0, 1] (by decide) rfl (ci := 1) (q0 := 0) rfl rfl rfl) rfl hl.1 rfl (lv_room (Nat.le_of_ble_eq_true rfl)) dX4_succeeds_157 ⟨Nat.zero_le _, Nat.zero_le _⟩ ?_
        refine b0_eq (tgt := 167) hx hb dX4_succeeds_160 (by decide) (nI_i (by omega)) (fun c_160 => ?_) (fun c_160 => False.elim (by omega))
        refine lv_iconst (v := nI 0) hx hb dX4_succeeds_167 (by decide) ?_
        exact W_z hx hb hr hlk dX4_succeeds_168 hP hS ((zb_f (by first | exact (sok_5 h_h).mpr (by omega) | exact fun z_ => absurd ((sok_5 h_h).mp z_) (by omega))).symm) (by first | (rw [scm_5t h_h (by omega)]; rfl) | rw [scm_5f h_h (by omega)]) zb_nar
  ·
    rw [show nI (co / 1000) = nI 6 from congrArg nI h_h]
    refine lv_tableIn (off := 136) (tgt := 169) hx hb dX4_succeeds_33 (by decide) (by decide) (by decide) (by decide) ?_
    refine lv_aload_n hx hb dX4_succeeds_169 rfl (lv_at hl 4 rfl) ?_
    refine lv_iload_n hx hb dX4_succeeds_170 rfl (lv_at hl 3 rfl) ?_
    refine lv_iload hx hb dX4_succeeds_171 (lv_at hl 0 rfl) ?_
    by_cases h_q : co / 100 % 10 < 3 ∧ 10 * (co / 10 % 10) + co % 10 < u.1
    ·
      refine cWV (As := [.int (nI ((co / 100) % 10)), .int (nI (10 * (co / 10 % 10) + co % 10))]) (rest := []) (st1 := [.int (nI 1)]) (w3 := [(h, .inr (1, [.ref hc, .int (nI u.1), .int (nI u.2.1), .int u.2.2.1])), (hc, .inl (G.2 0, 144, .inl (upd u.2.2.2 ((3 + ((co / 100) % 10)) * 16 + (10 * (co / 10 % 10) + co % 10)) (u.2.2.2 (16 + (10 * (co / 10 % 10) + co % 10))))))]) ⟨hx, hb, hml, hown, hts⟩ (c_X1_correctButton l G h hc u.1 u.2.1 u.2.2.1 u.2.2.2 ((co / 100) % 10) (10 * (co / 10 % 10) + co % 10) (by first | omega | assumption) (by first | omega | assumption) (by first | omega | assumption)) (cwV 2 hts gX4_succeeds_X1_correctButton rfl rfl rfl (by decide +kernel) ⟨Nat.le_of_ble_eq_true rfl, Nat.le_of_ble_eq_true rfl⟩) (preV_of hK hP hD [0, 1] (by decide) rfl (ci := 1) (q0 := 0) rfl rfl rfl) rfl hl.1 rfl (lv_room (Nat.le_of_ble_eq_true rfl)) dX4_succeeds_173 ⟨Nat.zero_le _, Nat.zero_le _⟩ hP hD hS [0, 1] (by decide) rfl (Eq.trans (b := [h, hc]) rfl rfl) (rfl) rfl (fun H locs hP hD hS => ?_)
      exact W_z hx hb hr hlk dX4_succeeds_176 hP hS ((zb_t (by first | exact (sok_6 h_h).mpr (by omega) | exact fun z_ => absurd ((sok_6 h_h).mp z_) (by omega))).symm) (by first | (rw [scm_6t h_h (by omega)]; rfl) | rw [scm_6f h_h (by omega)]) zb_nar
    ·
      refine cRV (As := [.int (nI ((co / 100) % 10)), .int (nI (10 * (co / 10 % 10) + co % 10))]) (rest := []) (v := .int (nI 0)) ⟨hx, hb, hml, hown, hts⟩ (c_X1_correctButton_no l G h hc u.1 u.2.1 u.2.2.1 u.2.2.2 ((co / 100) % 10) (10 * (co / 10 % 10) + co % 10) (by first | omega | assumption) (by first | omega | assumption) (by first | omega | assumption) (by first | omega | assumption)) (cwV 2 hts gX4_succeeds_X1_correctButton rfl rfl rfl (by decide +kernel) ⟨Nat.le_of_ble_eq_true rfl, Nat.le_of_ble_eq_true rfl⟩) (preV_of hK hP hD [0, 1] (by decide) rfl (ci := 1) (q0 := 0) rfl rfl rfl) rfl hl.1 rfl (lv_room (Nat.le_of_ble_eq_true rfl)) dX4_succeeds_173 ⟨Nat.zero_le _, Nat.zero_le _⟩ ?_
      exact W_z hx hb hr hlk dX4_succeeds_176 hP hS ((zb_f (by first | exact (sok_6 h_h).mpr (by omega) | exact fun z_ => absurd ((sok_6 h_h).mp z_) (by omega))).symm) (by first | (rw [scm_6t h_h (by omega)]; rfl) | rw [scm_6f h_h (by omega)]) zb_nar
  ·
    rw [show nI (co / 1000) = nI 7 from congrArg nI h_h]
    refine lv_tableIn (off := 144) (tgt := 177) hx hb dX4_succeeds_33 (by decide) (by decide) (by decide) (by decide) ?_
    refine lv_iload hx hb dX4_succeeds_177 (lv_at hl 0 rfl) ?_
    refine b0_ne (tgt := 194) hx hb dX4_succeeds_179 (by decide) (nI_i (by omega)) (fun c_179 => ?_) (fun c_179 => ?_)
    ·
      refine lv_iconst (v := nI 0) hx hb dX4_succeeds_194 (by decide) ?_
      exact W_z hx hb hr hlk dX4_succeeds_195 hP hS ((zb_f (by first | exact (sok_7 h_h).mpr (by omega) | exact fun z_ => absurd ((sok_7 h_h).mp z_) (by omega))).symm) (by first | (rw [scm_7t h_h (by omega)]; rfl) | rw [scm_7f h_h (by omega)]) zb_nar
    ·
      refine lv_aload_n hx hb dX4_succeeds_182 rfl (lv_at hl 4 rfl) ?_
      refine lv_iload_n hx hb dX4_succeeds_183 rfl (lv_at hl 3 rfl) ?_
      by_cases h_q : co / 100 % 10 < 3
      ·
        refine cWV (As := [.int (nI ((co / 100) % 10))]) (rest := []) (st1 := [.int (nI 1)]) (w3 := [(h, .inr (1, [.ref hc, .int (nI u.1), .int (nI u.2.1), .int u.2.2.1])), (hc, .inl (G.2 0, 144, .inl (ccar u.2.2.2 ((co / 100) % 10) u.1)))]) ⟨hx, hb, hml, hown, hts⟩ (c_X1_correctCar l G h hc u.1 u.2.1 u.2.2.1 u.2.2.2 ((co / 100) % 10) (by first | omega | assumption) (by first | omega | assumption)) (cwV 1 hts gX4_succeeds_X1_correctCar rfl rfl rfl (by decide +kernel) ⟨Nat.le_of_ble_eq_true rfl, Nat.le_of_ble_eq_true rfl⟩) (preV_of hK hP hD [0, 1] (by decide) rfl (ci := 1) (q0 := 0) rfl rfl rfl) rfl hl.1 rfl (lv_room (Nat.le_of_ble_eq_true rfl)) dX4_succeeds_184 ⟨Nat.zero_le _, Nat.zero_le _⟩ hP hD hS [0, 1] (by decide) rfl (Eq.trans (b := [h, hc]) rfl rfl) (rfl) rfl (fun H locs hP hD hS => ?_)
        refine b0_eq (tgt := 194) hx hb dX4_succeeds_187 (by decide) (nI_i (by omega)) (fun c_187 => False.elim (by omega)) (fun c_187 => ?_)
        refine lv_iconst (v := nI 1) hx hb dX4_succeeds_190 (by decide) ?_
        refine lv_goto (tgt := 195) hx hb dX4_succeeds_191 (by decide) ?_
        exact W_z hx hb hr hlk dX4_succeeds_195 hP hS ((zb_t (by first | exact (sok_7 h_h).mpr (by omega) | exact fun z_ => absurd ((sok_7 h_h).mp z_) (by omega))).symm) (by first | (rw [scm_7t h_h (by omega)]; rfl) | rw [scm_7f h_h (by omega)]) zb_nar
      ·
        refine cRV (As := [.int (nI ((co / 100) % 10))]) (rest := []) (v := .int (nI 0)) ⟨hx, hb, hml, hown, hts⟩ (c_X1_correctCar_no l G h hc u.1 u.2.1 u.2.2.1 u.2.2.2 ((co / 100) % 10) (by first | omega | assumption) (by first | omega | assumption)) (cwV 1 hts gX4_succeeds_X1_correctCar rfl rfl rfl (by decide +kernel) ⟨Nat.le_of_ble_eq_true rfl, Nat.le_of_ble_eq_true rfl⟩) (preV_of hK hP hD [0, 1] (by decide) rfl (ci := 1) (q0 := 0) rfl rfl rfl) rfl hl.1 rfl (lv_room (Nat.le_of_ble_eq_true rfl)) dX4_succeeds_184 ⟨Nat.zero_le _, Nat.zero_le _⟩ ?_
        refine b0_eq (tgt := 194) hx hb dX4_succeeds_187 (by decide) (nI_i (by omega)) (fun c_187 => ?_) (fun c_187 => False.elim (by omega))
        refine lv_iconst (v := nI 0) hx hb dX4_succeeds_194 (by decide) ?_
        exact W_z hx hb hr hlk dX4_succeeds_195 hP hS ((zb_f (by first | exact (sok_7 h_h).mpr (by omega) | exact fun z_ => absurd ((sok_7 h_h).mp z_) (by omega))).symm) (by first | (rw [scm_7t h_h (by omega)]; rfl) | rw [scm_7f h_h (by omega)]) zb_nar
  ·
    rw [show nI (co / 1000) = nI 8 from congrArg nI h_h]
    refine lv_tableIn (off := 163) (tgt := 196) hx hb dX4_succeeds_33 (by decide) (by decide) (by decide) (by decide) ?_
    refine lv_iload_n hx hb dX4_succeeds_196 rfl (lv_at hl 3 rfl) ?_
    refine cRSN (host := RX6) (As := [.int (nI ((co / 100) % 10))]) (rest := []) (v := .int (zb (((co / 100) % 10) < 3))) ⟨hx, hb, hml, hown, hts⟩ (c_X6_isCar_n l G ((co / 100) % 10) (by first | omega | assumption)) ⟨va_cnB 1 hts gX4_succeeds_X6_isCar_n47 rfl rfl rfl (hK.2 (.methodLinkNest RX4 47 yX6_isCar RX6) (by decide +kernel)) (hts (.initialized RX6) (by decide +kernel)) (by decide +kernel) ⟨Nat.le_of_ble_eq_true rfl, Nat.le_of_ble_eq_true rfl⟩, hts (.static yX6_isCar) (by decide +kernel), trivial⟩ (preS_of hK hP hD [] (by decide) rfl) rfl hl.1 rfl (lv_room (Nat.le_of_ble_eq_true rfl)) dX4_succeeds_197 ⟨Nat.zero_le _, Nat.zero_le _⟩ ?_
    refine bb_eq (tgt := 226) hx hb dX4_succeeds_200 (by decide) (fun c_200 => ?_) (fun c_200 => ?_)
    ·
      refine lv_iconst (v := nI 0) hx hb dX4_succeeds_226 (by decide) ?_
      exact W_z hx hb hr hlk dX4_succeeds_227 hP hS ((zb_f (by first | exact (sok_8 h_h).mpr ⟨by omega, by omega, by assumption⟩ | exact fun z_ => absurd ((sok_8 h_h).mp z_) (fun y_ => by first | omega | exact absurd y_.2.2 (by assumption)))).symm) (by rw [scm_n (by omega)]) zb_nar
    ·
      refine lv_aload_n hx hb dX4_succeeds_203 rfl (lv_at hl 4 rfl) ?_
      refine lv_iload hx hb dX4_succeeds_204 (lv_at hl 0 rfl) ?_
      refine cRV (As := [.int (nI (10 * (co / 10 % 10) + co % 10))]) (rest := []) (v := .int (zb ((10 * (co / 10 % 10) + co % 10) < u.1))) ⟨hx, hb, hml, hown, hts⟩ (c_X1_hasLevel_n l G h hc u.1 u.2.1 u.2.2.1 u.2.2.2 (10 * (co / 10 % 10) + co % 10) (by first | omega | assumption) (by first | omega | assumption)) (cwV 1 hts gX4_succeeds_X1_hasLevel rfl rfl rfl (by decide +kernel) ⟨Nat.le_of_ble_eq_true rfl, Nat.le_of_ble_eq_true rfl⟩) (preV_of hK hP hD [0, 1] (by decide) rfl (ci := 1) (q0 := 0) rfl rfl rfl) rfl hl.1 rfl (lv_room (Nat.le_of_ble_eq_true rfl)) dX4_succeeds_206 ⟨Nat.zero_le _, Nat.zero_le _⟩ ?_
      refine bb_eq (tgt := 226) hx hb dX4_succeeds_209 (by decide) (fun c_209 => ?_) (fun c_209 => ?_)
      ·
        refine lv_iconst (v := nI 0) hx hb dX4_succeeds_226 (by decide) ?_
        exact W_z hx hb hr hlk dX4_succeeds_227 hP hS ((zb_f (by first | exact (sok_8 h_h).mpr ⟨by omega, by omega, by assumption⟩ | exact fun z_ => absurd ((sok_8 h_h).mp z_) (fun y_ => by first | omega | exact absurd y_.2.2 (by assumption)))).symm) (by rw [scm_n (by omega)]) zb_nar
      ·
        refine lv_aload_n hx hb dX4_succeeds_212 rfl (lv_at hl 4 rfl) ?_
        refine lv_iload_n hx hb dX4_succeeds_213 rfl (lv_at hl 3 rfl) ?_
        refine lv_iload hx hb dX4_succeeds_214 (lv_at hl 0 rfl) ?_
        refine cRV (As := [.int (nI ((co / 100) % 10)), .int (nI (10 * (co / 10 % 10) + co % 10))]) (rest := []) (v := .int (zb (u.2.2.2 ((3 + ((co / 100) % 10)) * 16 + (10 * (co / 10 % 10) + co % 10)) = u.2.2.2 (16 + (10 * (co / 10 % 10) + co % 10))))) ⟨hx, hb, hml, hown, hts⟩ (c_X1_isButtonRight l G h hc u.1 u.2.1 u.2.2.1 u.2.2.2 ((co / 100) % 10) (10 * (co / 10 % 10) + co % 10) (by first | omega | assumption) (by first | omega | assumption)) (cwV 2 hts gX4_succeeds_X1_isButtonRight rfl rfl rfl (by decide +kernel) ⟨Nat.le_of_ble_eq_true rfl, Nat.le_of_ble_eq_true rfl⟩) (preV_of hK hP hD [0, 1] (by decide) rfl (ci := 1) (q0 := 0) rfl rfl rfl) rfl hl.1 rfl (lv_room (Nat.le_of_ble_eq_true rfl)) dX4_succeeds_216 ⟨Nat.zero_le _, Nat.zero_le _⟩ ?_
        refine bb_eq (tgt := 226) hx hb dX4_succeeds_219 (by decide) (fun c_219 => ?_) (fun c_219 => ?_)
        ·
          refine lv_iconst (v := nI 0) hx hb dX4_succeeds_226 (by decide) ?_
          exact W_z hx hb hr hlk dX4_succeeds_227 hP hS ((zb_f (by first | exact (sok_8 h_h).mpr ⟨by omega, by omega, by assumption⟩ | exact fun z_ => absurd ((sok_8 h_h).mp z_) (fun y_ => by first | omega | exact absurd y_.2.2 (by assumption)))).symm) (by rw [scm_n (by omega)]) zb_nar
        ·
          refine lv_iconst (v := nI 1) hx hb dX4_succeeds_222 (by decide) ?_
          refine lv_goto (tgt := 227) hx hb dX4_succeeds_223 (by decide) ?_
          exact W_z hx hb hr hlk dX4_succeeds_227 hP hS ((zb_t (by first | exact (sok_8 h_h).mpr ⟨by omega, by omega, by assumption⟩ | exact fun z_ => absurd ((sok_8 h_h).mp z_) (fun y_ => by first | omega | exact absurd y_.2.2 (by assumption)))).symm) (by rw [scm_n (by omega)]) zb_nar
  ·
    rw [show nI (co / 1000) = nI 9 from congrArg nI h_h]
    refine lv_tableIn (off := 195) (tgt := 228) hx hb dX4_succeeds_33 (by decide) (by decide) (by decide) (by decide) ?_
    refine lv_iload_n hx hb dX4_succeeds_228 rfl (lv_at hl 3 rfl) ?_
    refine b0_ne (tgt := 245) hx hb dX4_succeeds_229 (by decide) (nI_i (by omega)) (fun c_229 => ?_) (fun c_229 => ?_)
    ·
      refine lv_iconst (v := nI 0) hx hb dX4_succeeds_245 (by decide) ?_
      exact W_z hx hb hr hlk dX4_succeeds_246 hP hS ((zb_f (by first | exact (sok_9 h_h).mpr (by omega) | exact fun z_ => absurd ((sok_9 h_h).mp z_) (by omega))).symm) (by rw [scm_n (by omega)]) zb_nar
    ·
      have h_tw := tw_le u.2.2.2 h_n
      refine lv_aload_n hx hb dX4_succeeds_232 rfl (lv_at hl 4 rfl) ?_
      refine cRV (As := []) (rest := []) (v := .int (nI (tw u.2.2.2 u.1))) ⟨hx, hb, hml, hown, hts⟩ (c_X1_wrongInAll l G h hc u.1 u.2.1 u.2.2.1 u.2.2.2 (by first | omega | assumption)) (cwV 0 hts gX4_succeeds_X1_wrongInAll rfl rfl rfl (by decide +kernel) ⟨Nat.le_of_ble_eq_true rfl, Nat.le_of_ble_eq_true rfl⟩) (preV_of hK hP hD [0, 1] (by decide) rfl (ci := 1) (q0 := 0) rfl rfl rfl) rfl hl.1 rfl (lv_room (Nat.le_of_ble_eq_true rfl)) dX4_succeeds_233 ⟨Nat.zero_le _, Nat.zero_le _⟩ ?_
      refine lv_iload hx hb dX4_succeeds_236 (lv_at hl 0 rfl) ?_
      refine bi_gt (tgt := 245) hx hb dX4_succeeds_238 (by decide) (nI_i (by omega)) (nI_i (by omega)) (fun c_238 => ?_) (fun c_238 => ?_)
      ·
        refine lv_iconst (v := nI 0) hx hb dX4_succeeds_245 (by decide) ?_
        exact W_z hx hb hr hlk dX4_succeeds_246 hP hS ((zb_f (by first | exact (sok_9 h_h).mpr (by omega) | exact fun z_ => absurd ((sok_9 h_h).mp z_) (by omega))).symm) (by rw [scm_n (by omega)]) zb_nar
      ·
        refine lv_iconst (v := nI 1) hx hb dX4_succeeds_241 (by decide) ?_
        refine lv_goto (tgt := 246) hx hb dX4_succeeds_242 (by decide) ?_
        exact W_z hx hb hr hlk dX4_succeeds_246 hP hS ((zb_t (by first | exact (sok_9 h_h).mpr (by omega) | exact fun z_ => absurd ((sok_9 h_h).mp z_) (by omega))).symm) (by rw [scm_n (by omega)]) zb_nar
  ·
    rw [show nI (co / 1000) = nI 0 from congrArg nI h_h]
    refine lv_tableOut (tgt := 247) hx hb dX4_succeeds_33 (by decide) (by decide) ?_
    refine lv_iconst (v := nI 0) hx hb dX4_succeeds_247 (by decide) ?_
    exact W_z hx hb hr hlk dX4_succeeds_248 hP hS ((zb_f (sok_n (by omega))).symm) (by rw [scm_n (by omega)]) zb_nar

set_option maxHeartbeats 4000000 in
set_option maxRecDepth 100000 in
theorem c_X4_command (l : Launch) (G : GG) (S : Nat) (j : Nat) (h_S : S < 1000000000000) (h_j : j ≤ 2) : Met l yX4_command wsX4_command ({ frames := 0, cells := 0, slots := 0, locals := 0 } : Room) (va_Pc [.long (lN S), .int (nI j)] (PB G [])) (QR (some (.int (nI (cmd S j))))) 0 0 (fun _ => False) := by
  refine Met.go (cc := cX4_command) (maxL := 6) (ret := (some .int)) (by decide) rfl (Nat.le_of_ble_eq_true rfl) ?_
  intro p e s m below meth c ls hx hb hr hml hown hts hlk hP hK hD hS hl
  have hown : s.vm.findClass RX4 = some m.cls := hown
  have hl : lv_has ls 6 [(0, .long (lN S)), (2, .int (nI j))] := hl
  refine lv_lload_n hx hb dX4_command_0 rfl (lv_at hl 0 rfl) ?_
  refine lv_lstore_n (lv' := [(3, .long (lN S)), (0, .long (lN S)), (2, .int (nI j))]) hx hb dX4_command_1 rfl hl (by decide) rfl (fun ls hl => ?_)
  refine lv_iconst (v := nI 0) hx hb dX4_command_2 (by decide) ?_
  refine lv_istore (lv' := [(5, .int (nI 0)), (3, .long (lN S)), (0, .long (lN S)), (2, .int (nI j))]) hx hb dX4_command_3 hl (by decide) rfl (fun ls hl => ?_)
  have loop_5 : ∀ (k_ : Nat) (i : Nat) (h_i : i ≤ j) (_ : j - i < k_) (ls : Array Slot), lv_has ls 6 [(5, .int (nI i)), (3, .long (lN (grS S i))), (0, .long (lN S)), (2, .int (nI j))] → W p l e ({ frames := 0, cells := 0, slots := 0, locals := 0 } : Room) s m ([.long (lN S), .int (nI j)] : List Value).toArray below meth c s.heap [] 0 0 (MQ below (QR (some (.int (nI (cmd S j))))) ([.long (lN S), .int (nI j)] : List Value).toArray s 0 0 (fun _ => False)) (F0 m 5 ls []) := by
    intro k_
    induction k_ with
    | zero => intro i h_i hk_; exact absurd hk_ (Nat.not_lt_zero _)
    | succ k_ ih_5 =>
      intro i h_i hk_ ls hl
      refine lv_iload hx hb dX4_command_5 (lv_at hl 0 rfl) ?_
      refine lv_iload_n hx hb dX4_command_7 rfl (lv_at hl 3 rfl) ?_
      refine bi_ge (tgt := 23) hx hb dX4_command_8 (by decide) (nI_i (by omega)) (nI_i (by omega)) (fun c_8 => ?_) (fun c_8 => ?_)
      ·
        have h_gr := grS_le S i
        refine lv_lload_n hx hb dX4_command_23 rfl (lv_at hl 1 rfl) ?_
        refine lv_ldc2 (own := RX4) (v := lN 10000) hx hb hown (hts (.constantLong RX4 11 (10000)) (by decide +kernel)) dX4_command_24 ?_
        refine lv_lrem hx hb dX4_command_27 (by decide) ?_
        rw [show lN (grS S i) - lN (grS S i) / lN 10000 * lN 10000 = lN ((grS S i) % 10000) from pk_lRem (by omega) (by omega) (by omega)]
        refine lv_l2i (v := nI ((grS S i) % 10000)) hx hb dX4_command_28 (lN_i _) ?_
        exact R_i hx hb hr hlk dX4_command_29 (by rw [show i = j by omega]; rfl)
      ·
        have h_gr := grS_le S i
        refine lv_lload_n hx hb dX4_command_11 rfl (lv_at hl 1 rfl) ?_
        refine lv_ldc2 (own := RX4) (v := lN 10000) hx hb hown (hts (.constantLong RX4 11 (10000)) (by decide +kernel)) dX4_command_12 ?_
        refine lv_ldiv hx hb dX4_command_15 (by decide) ?_
        rw [show lN (grS S i) / lN 10000 = lN ((grS S i) / 10000) from pk_lDiv (by omega) (by omega) (by omega)]
        refine lv_lstore_n (lv' := [(3, .long (lN ((grS S i) / 10000))), (5, .int (nI i)), (0, .long (lN S)), (2, .int (nI j))]) hx hb dX4_command_16 rfl hl (by decide) rfl (fun ls hl => ?_)
        refine lv_iinc (v := nI (i + 1)) (lv' := [(5, .int (nI (i + 1))), (3, .long (lN ((grS S i) / 10000))), (0, .long (lN S)), (2, .int (nI j))]) hx hb dX4_command_17 hl (k := 1) rfl (inc_n _ 1) (by decide) rfl (fun ls hl => ?_)
        refine lv_goto (tgt := 5) hx hb dX4_command_20 (by decide) ?_
        exact ih_5 (i + 1) (by first | omega | assumption) (by omega) ls (lv_sub hl [0, 1, 2, 3] (by rfl))
  exact loop_5 (j - 0 + 1) 0 (by first | omega | assumption) (Nat.lt_succ_self _)  ls (lv_sub hl [0, 1, 2, 3] (by rfl))

set_option maxHeartbeats 4000000 in
set_option maxRecDepth 100000 in
theorem c_X4_above (l : Launch) (G : GG) (k : Nat) (h_k : 1 ≤ k ∧ k ≤ 3) : Met l yX4_above wsX4_above ({ frames := 0, cells := 0, slots := 0, locals := 0 } : Room) (va_Pc [.int (nI k)] (PB G [])) (QR (some (.long (lN (10000 ^ k))))) 0 0 (fun _ => False) := by
  rcases (show k = 1 ∨ k = 2 ∨ k = 3 by omega) with rfl | rfl | rfl
  · refine Met.go (cc := cX4_above) (maxL := 4) (ret := (some .long)) (by decide) rfl (Nat.le_of_ble_eq_true rfl) ?_
    intro p e s m below meth c ls hx hb hr hml hown hts hlk hP hK hD hS hl
    have hown : s.vm.findClass RX4 = some m.cls := hown
    have hl : lv_has ls 4 [(0, .int (nI 1))] := hl
    refine lv_lconst (v := lN 1) hx hb dX4_above_0 rfl ?_
    refine lv_lstore_n (lv' := [(1, .long (lN 1)), (0, .int (nI 1))]) hx hb dX4_above_1 rfl hl (by decide) rfl (fun ls hl => ?_)
    refine lv_iconst (v := nI 0) hx hb dX4_above_2 (by decide) ?_
    refine lv_istore_n (lv' := [(3, .int (nI 0)), (1, .long (lN 1)), (0, .int (nI 1))]) hx hb dX4_above_3 rfl hl (by decide) rfl (fun ls hl => ?_)
    refine lv_iload_n hx hb dX4_above_4 rfl (lv_at hl 0 rfl) ?_
    refine lv_iload_n hx hb dX4_above_5 rfl (lv_at hl 2 rfl) ?_
    refine bi_ge (tgt := 26) hx hb dX4_above_6 (by decide) (nI_i (by omega)) (nI_i (by omega)) (fun c_6 => False.elim (by omega)) (fun c_6 => ?_)
    refine lv_iload_n hx hb dX4_above_9 rfl (lv_at hl 0 rfl) ?_
    refine lv_iconst (v := nI 3) hx hb dX4_above_10 (by decide) ?_
    refine bi_ge (tgt := 26) hx hb dX4_above_11 (by decide) (nI_i (by omega)) (nI_i (by omega)) (fun c_11 => False.elim (by omega)) (fun c_11 => ?_)
    refine lv_lload_n hx hb dX4_above_14 rfl (lv_at hl 1 rfl) ?_
    refine lv_ldc2 (own := RX4) (v := lN 10000) hx hb hown (hts (.constantLong RX4 11 (10000)) (by decide +kernel)) dX4_above_15 ?_
    refine lv_lmul hx hb dX4_above_18 ?_
    rw [show lN 1 * lN 10000 = lN (1 * 10000) from lN_mul _ _]
    refine lv_lstore_n (lv' := [(1, .long (lN (1 * 10000))), (3, .int (nI 0)), (0, .int (nI 1))]) hx hb dX4_above_19 rfl hl (by decide) rfl (fun ls hl => ?_)
    refine lv_iinc (v := nI (0 + 1)) (lv' := [(3, .int (nI (0 + 1))), (1, .long (lN (1 * 10000))), (0, .int (nI 1))]) hx hb dX4_above_20 hl (k := 1) rfl (inc_n _ 1) (by decide) rfl (fun ls hl => ?_)
    refine lv_goto (tgt := 4) hx hb dX4_above_23 (by decide) ?_
    refine lv_iload_n hx hb dX4_above_4 rfl (lv_at hl 0 rfl) ?_
    refine lv_iload_n hx hb dX4_above_5 rfl (lv_at hl 2 rfl) ?_
    refine bi_ge (tgt := 26) hx hb dX4_above_6 (by decide) (nI_i (by omega)) (nI_i (by omega)) (fun c_6 => ?_) (fun c_6 => False.elim (by omega))
    refine lv_lload_n hx hb dX4_above_26 rfl (lv_at hl 1 rfl) ?_
    exact R_l hx hb hr hlk dX4_above_27 (rfl)
  · refine Met.go (cc := cX4_above) (maxL := 4) (ret := (some .long)) (by decide) rfl (Nat.le_of_ble_eq_true rfl) ?_
    intro p e s m below meth c ls hx hb hr hml hown hts hlk hP hK hD hS hl
    have hown : s.vm.findClass RX4 = some m.cls := hown
    have hl : lv_has ls 4 [(0, .int (nI 2))] := hl
    refine lv_lconst (v := lN 1) hx hb dX4_above_0 rfl ?_
    refine lv_lstore_n (lv' := [(1, .long (lN 1)), (0, .int (nI 2))]) hx hb dX4_above_1 rfl hl (by decide) rfl (fun ls hl => ?_)
    refine lv_iconst (v := nI 0) hx hb dX4_above_2 (by decide) ?_
    refine lv_istore_n (lv' := [(3, .int (nI 0)), (1, .long (lN 1)), (0, .int (nI 2))]) hx hb dX4_above_3 rfl hl (by decide) rfl (fun ls hl => ?_)
    refine lv_iload_n hx hb dX4_above_4 rfl (lv_at hl 0 rfl) ?_
    refine lv_iload_n hx hb dX4_above_5 rfl (lv_at hl 2 rfl) ?_
    refine bi_ge (tgt := 26) hx hb dX4_above_6 (by decide) (nI_i (by omega)) (nI_i (by omega)) (fun c_6 => False.elim (by omega)) (fun c_6 => ?_)
    refine lv_iload_n hx hb dX4_above_9 rfl (lv_at hl 0 rfl) ?_
    refine lv_iconst (v := nI 3) hx hb dX4_above_10 (by decide) ?_
    refine bi_ge (tgt := 26) hx hb dX4_above_11 (by decide) (nI_i (by omega)) (nI_i (by omega)) (fun c_11 => False.elim (by omega)) (fun c_11 => ?_)
    refine lv_lload_n hx hb dX4_above_14 rfl (lv_at hl 1 rfl) ?_
    refine lv_ldc2 (own := RX4) (v := lN 10000) hx hb hown (hts (.constantLong RX4 11 (10000)) (by decide +kernel)) dX4_above_15 ?_
    refine lv_lmul hx hb dX4_above_18 ?_
    rw [show lN 1 * lN 10000 = lN (1 * 10000) from lN_mul _ _]
    refine lv_lstore_n (lv' := [(1, .long (lN (1 * 10000))), (3, .int (nI 0)), (0, .int (nI 2))]) hx hb dX4_above_19 rfl hl (by decide) rfl (fun ls hl => ?_)
    refine lv_iinc (v := nI (0 + 1)) (lv' := [(3, .int (nI (0 + 1))), (1, .long (lN (1 * 10000))), (0, .int (nI 2))]) hx hb dX4_above_20 hl (k := 1) rfl (inc_n _ 1) (by decide) rfl (fun ls hl => ?_)
    refine lv_goto (tgt := 4) hx hb dX4_above_23 (by decide) ?_
    refine lv_iload_n hx hb dX4_above_4 rfl (lv_at hl 0 rfl) ?_
    refine lv_iload_n hx hb dX4_above_5 rfl (lv_at hl 2 rfl) ?_
    refine bi_ge (tgt := 26) hx hb dX4_above_6 (by decide) (nI_i (by omega)) (nI_i (by omega)) (fun c_6 => False.elim (by omega)) (fun c_6 => ?_)
    refine lv_iload_n hx hb dX4_above_9 rfl (lv_at hl 0 rfl) ?_
    refine lv_iconst (v := nI 3) hx hb dX4_above_10 (by decide) ?_
    refine bi_ge (tgt := 26) hx hb dX4_above_11 (by decide) (nI_i (by omega)) (nI_i (by omega)) (fun c_11 => False.elim (by omega)) (fun c_11 => ?_)
    refine lv_lload_n hx hb dX4_above_14 rfl (lv_at hl 1 rfl) ?_
    refine lv_ldc2 (own := RX4) (v := lN 10000) hx hb hown (hts (.constantLong RX4 11 (10000)) (by decide +kernel)) dX4_above_15 ?_
    refine lv_lmul hx hb dX4_above_18 ?_
    rw [show lN (1 * 10000) * lN 10000 = lN ((1 * 10000) * 10000) from lN_mul _ _]
    refine lv_lstore_n (lv' := [(1, .long (lN ((1 * 10000) * 10000))), (3, .int (nI (0 + 1))), (0, .int (nI 2))]) hx hb dX4_above_19 rfl hl (by decide) rfl (fun ls hl => ?_)
    refine lv_iinc (v := nI (0 + 1 + 1)) (lv' := [(3, .int (nI (0 + 1 + 1))), (1, .long (lN ((1 * 10000) * 10000))), (0, .int (nI 2))]) hx hb dX4_above_20 hl (k := 1) rfl (inc_n _ 1) (by decide) rfl (fun ls hl => ?_)
    refine lv_goto (tgt := 4) hx hb dX4_above_23 (by decide) ?_
    refine lv_iload_n hx hb dX4_above_4 rfl (lv_at hl 0 rfl) ?_
    refine lv_iload_n hx hb dX4_above_5 rfl (lv_at hl 2 rfl) ?_
    refine bi_ge (tgt := 26) hx hb dX4_above_6 (by decide) (nI_i (by omega)) (nI_i (by omega)) (fun c_6 => ?_) (fun c_6 => False.elim (by omega))
    refine lv_lload_n hx hb dX4_above_26 rfl (lv_at hl 1 rfl) ?_
    exact R_l hx hb hr hlk dX4_above_27 (rfl)
  · refine Met.go (cc := cX4_above) (maxL := 4) (ret := (some .long)) (by decide) rfl (Nat.le_of_ble_eq_true rfl) ?_
    intro p e s m below meth c ls hx hb hr hml hown hts hlk hP hK hD hS hl
    have hown : s.vm.findClass RX4 = some m.cls := hown
    have hl : lv_has ls 4 [(0, .int (nI 3))] := hl
    refine lv_lconst (v := lN 1) hx hb dX4_above_0 rfl ?_
    refine lv_lstore_n (lv' := [(1, .long (lN 1)), (0, .int (nI 3))]) hx hb dX4_above_1 rfl hl (by decide) rfl (fun ls hl => ?_)
    refine lv_iconst (v := nI 0) hx hb dX4_above_2 (by decide) ?_
    refine lv_istore_n (lv' := [(3, .int (nI 0)), (1, .long (lN 1)), (0, .int (nI 3))]) hx hb dX4_above_3 rfl hl (by decide) rfl (fun ls hl => ?_)
    refine lv_iload_n hx hb dX4_above_4 rfl (lv_at hl 0 rfl) ?_
    refine lv_iload_n hx hb dX4_above_5 rfl (lv_at hl 2 rfl) ?_
    refine bi_ge (tgt := 26) hx hb dX4_above_6 (by decide) (nI_i (by omega)) (nI_i (by omega)) (fun c_6 => False.elim (by omega)) (fun c_6 => ?_)
    refine lv_iload_n hx hb dX4_above_9 rfl (lv_at hl 0 rfl) ?_
    refine lv_iconst (v := nI 3) hx hb dX4_above_10 (by decide) ?_
    refine bi_ge (tgt := 26) hx hb dX4_above_11 (by decide) (nI_i (by omega)) (nI_i (by omega)) (fun c_11 => False.elim (by omega)) (fun c_11 => ?_)
    refine lv_lload_n hx hb dX4_above_14 rfl (lv_at hl 1 rfl) ?_
    refine lv_ldc2 (own := RX4) (v := lN 10000) hx hb hown (hts (.constantLong RX4 11 (10000)) (by decide +kernel)) dX4_above_15 ?_
    refine lv_lmul hx hb dX4_above_18 ?_
    rw [show lN 1 * lN 10000 = lN (1 * 10000) from lN_mul _ _]
    refine lv_lstore_n (lv' := [(1, .long (lN (1 * 10000))), (3, .int (nI 0)), (0, .int (nI 3))]) hx hb dX4_above_19 rfl hl (by decide) rfl (fun ls hl => ?_)
    refine lv_iinc (v := nI (0 + 1)) (lv' := [(3, .int (nI (0 + 1))), (1, .long (lN (1 * 10000))), (0, .int (nI 3))]) hx hb dX4_above_20 hl (k := 1) rfl (inc_n _ 1) (by decide) rfl (fun ls hl => ?_)
    refine lv_goto (tgt := 4) hx hb dX4_above_23 (by decide) ?_
    refine lv_iload_n hx hb dX4_above_4 rfl (lv_at hl 0 rfl) ?_
    refine lv_iload_n hx hb dX4_above_5 rfl (lv_at hl 2 rfl) ?_
    refine bi_ge (tgt := 26) hx hb dX4_above_6 (by decide) (nI_i (by omega)) (nI_i (by omega)) (fun c_6 => False.elim (by omega)) (fun c_6 => ?_)
    refine lv_iload_n hx hb dX4_above_9 rfl (lv_at hl 0 rfl) ?_
    refine lv_iconst (v := nI 3) hx hb dX4_above_10 (by decide) ?_
    refine bi_ge (tgt := 26) hx hb dX4_above_11 (by decide) (nI_i (by omega)) (nI_i (by omega)) (fun c_11 => False.elim (by omega)) (fun c_11 => ?_)
    refine lv_lload_n hx hb dX4_above_14 rfl (lv_at hl 1 rfl) ?_
    refine lv_ldc2 (own := RX4) (v := lN 10000) hx hb hown (hts (.constantLong RX4 11 (10000)) (by decide +kernel)) dX4_above_15 ?_
    refine lv_lmul hx hb dX4_above_18 ?_
    rw [show lN (1 * 10000) * lN 10000 = lN ((1 * 10000) * 10000) from lN_mul _ _]
    refine lv_lstore_n (lv' := [(1, .long (lN ((1 * 10000) * 10000))), (3, .int (nI (0 + 1))), (0, .int (nI 3))]) hx hb dX4_above_19 rfl hl (by decide) rfl (fun ls hl => ?_)
    refine lv_iinc (v := nI (0 + 1 + 1)) (lv' := [(3, .int (nI (0 + 1 + 1))), (1, .long (lN ((1 * 10000) * 10000))), (0, .int (nI 3))]) hx hb dX4_above_20 hl (k := 1) rfl (inc_n _ 1) (by decide) rfl (fun ls hl => ?_)
    refine lv_goto (tgt := 4) hx hb dX4_above_23 (by decide) ?_
    refine lv_iload_n hx hb dX4_above_4 rfl (lv_at hl 0 rfl) ?_
    refine lv_iload_n hx hb dX4_above_5 rfl (lv_at hl 2 rfl) ?_
    refine bi_ge (tgt := 26) hx hb dX4_above_6 (by decide) (nI_i (by omega)) (nI_i (by omega)) (fun c_6 => False.elim (by omega)) (fun c_6 => ?_)
    refine lv_iload_n hx hb dX4_above_9 rfl (lv_at hl 0 rfl) ?_
    refine lv_iconst (v := nI 3) hx hb dX4_above_10 (by decide) ?_
    refine bi_ge (tgt := 26) hx hb dX4_above_11 (by decide) (nI_i (by omega)) (nI_i (by omega)) (fun c_11 => False.elim (by omega)) (fun c_11 => ?_)
    refine lv_lload_n hx hb dX4_above_14 rfl (lv_at hl 1 rfl) ?_
    refine lv_ldc2 (own := RX4) (v := lN 10000) hx hb hown (hts (.constantLong RX4 11 (10000)) (by decide +kernel)) dX4_above_15 ?_
    refine lv_lmul hx hb dX4_above_18 ?_
    rw [show lN ((1 * 10000) * 10000) * lN 10000 = lN (((1 * 10000) * 10000) * 10000) from lN_mul _ _]
    refine lv_lstore_n (lv' := [(1, .long (lN (((1 * 10000) * 10000) * 10000))), (3, .int (nI (0 + 1 + 1))), (0, .int (nI 3))]) hx hb dX4_above_19 rfl hl (by decide) rfl (fun ls hl => ?_)
    refine lv_iinc (v := nI (0 + 1 + 1 + 1)) (lv' := [(3, .int (nI (0 + 1 + 1 + 1))), (1, .long (lN (((1 * 10000) * 10000) * 10000))), (0, .int (nI 3))]) hx hb dX4_above_20 hl (k := 1) rfl (inc_n _ 1) (by decide) rfl (fun ls hl => ?_)
    refine lv_goto (tgt := 4) hx hb dX4_above_23 (by decide) ?_
    refine lv_iload_n hx hb dX4_above_4 rfl (lv_at hl 0 rfl) ?_
    refine lv_iload_n hx hb dX4_above_5 rfl (lv_at hl 2 rfl) ?_
    refine bi_ge (tgt := 26) hx hb dX4_above_6 (by decide) (nI_i (by omega)) (nI_i (by omega)) (fun c_6 => ?_) (fun c_6 => False.elim (by omega))
    refine lv_lload_n hx hb dX4_above_26 rfl (lv_at hl 1 rfl) ?_
    exact R_l hx hb hr hlk dX4_above_27 (rfl)

set_option maxHeartbeats 4000000 in
set_option maxRecDepth 100000 in
theorem c_X4_firstFailure (l : Launch) (G : GG) (h : Nat) (hc : Nat) (u : HS) (k : Nat) (S : Nat) (h_u : hOK u) (h_k : 1 ≤ k ∧ k ≤ 3) (h_S : S < 1000000000000) : Met l yX4_firstFailure wsX4_firstFailure ({ frames := 5, cells := 0, slots := 0, locals := 117 } : Room) (va_Pc [.ref h, .int (nI k), .long (lN S)] (PB G [(h, .inr (1, [.ref hc, .int (nI u.1), .int (nI u.2.1), .int u.2.2.1])), (hc, .inl (G.2 0, 144, .inl u.2.2.2))])) (QW G (some (.int (srr S k u k 0))) [(h, .inr (1, [.ref hc, .int (nI ((sru S k u (src S k u k 0)).1)), .int (nI ((sru S k u (src S k u k 0)).2.1)), .int ((sru S k u (src S k u k 0)).2.2.1)])), (hc, .inl (G.2 0, 144, .inl ((sru S k u (src S k u k 0)).2.2.2)))] (vA [(h, .inr (1, [.ref hc, .int (nI u.1), .int (nI u.2.1), .int u.2.2.1])), (hc, .inl (G.2 0, 144, .inl u.2.2.2))])) 0 0 (vA [(h, .inr (1, [.ref hc, .int (nI u.1), .int (nI u.2.1), .int u.2.2.1])), (hc, .inl (G.2 0, 144, .inl u.2.2.2))]) := by
  refine Met.go (cc := cX4_firstFailure) (maxL := 5) (ret := (some .int)) (by decide) rfl (Nat.le_of_ble_eq_true rfl) ?_
  intro p e s m below meth c ls hx hb hr hml hown hts hlk hP hK hD hS hl
  have hown : s.vm.findClass RX4 = some m.cls := hown
  have hl : lv_has ls 5 [(0, .ref h), (1, .int (nI k)), (2, .long (lN S))] := hl
  refine lv_iconst (v := nI 0) hx hb dX4_firstFailure_0 (by decide) ?_
  refine lv_istore (lv' := [(4, .int (nI 0)), (0, .ref h), (1, .int (nI k)), (2, .long (lN S))]) hx hb dX4_firstFailure_1 hl (by decide) rfl (fun ls hl => ?_)
  have loop_3 : ∀ (k_ : Nat) (i : Nat) (h_i : i ≤ k) (h_e : srr S k u k 0 = srr S k u (k - i) i) (h_e2 : src S k u k 0 = src S k u (k - i) i) (_ : k - i < k_) (H : Heap) (locs : List Loc) (_ : VP G [(h, .inr (1, [.ref hc, .int (nI ((sru S k u i).1)), .int (nI ((sru S k u i).2.1)), .int ((sru S k u i).2.2.1)])), (hc, .inl (G.2 0, 144, .inl ((sru S k u i).2.2.2)))] H) (_ : va_D (vA [(h, .inr (1, [.ref hc, .int (nI u.1), .int (nI u.2.1), .int u.2.2.1])), (hc, .inl (G.2 0, 144, .inl u.2.2.2))]) [(h, .inr (1, [.ref hc, .int (nI ((sru S k u i).1)), .int (nI ((sru S k u i).2.1)), .int ((sru S k u i).2.2.1)])), (hc, .inl (G.2 0, 144, .inl ((sru S k u i).2.2.2)))]) (_ : va_S (vA [(h, .inr (1, [.ref hc, .int (nI u.1), .int (nI u.2.1), .int u.2.2.1])), (hc, .inl (G.2 0, 144, .inl u.2.2.2))]) s.heap H locs) (ls : Array Slot), lv_has ls 5 [(4, .int (nI i)), (0, .ref h), (1, .int (nI k)), (2, .long (lN S))] → W p l e ({ frames := 5, cells := 0, slots := 0, locals := 117 } : Room) s m ([.ref h, .int (nI k), .long (lN S)] : List Value).toArray below meth c H locs 0 0 (MQ below (QW G (some (.int (srr S k u k 0))) [(h, .inr (1, [.ref hc, .int (nI ((sru S k u (src S k u k 0)).1)), .int (nI ((sru S k u (src S k u k 0)).2.1)), .int ((sru S k u (src S k u k 0)).2.2.1)])), (hc, .inl (G.2 0, 144, .inl ((sru S k u (src S k u k 0)).2.2.2)))] (vA [(h, .inr (1, [.ref hc, .int (nI u.1), .int (nI u.2.1), .int u.2.2.1])), (hc, .inl (G.2 0, 144, .inl u.2.2.2))])) ([.ref h, .int (nI k), .long (lN S)] : List Value).toArray s 0 0 (vA [(h, .inr (1, [.ref hc, .int (nI u.1), .int (nI u.2.1), .int u.2.2.1])), (hc, .inl (G.2 0, 144, .inl u.2.2.2))])) (F0 m 3 ls []) := by
    intro k_
    induction k_ with
    | zero => intro i h_i h_e h_e2 hk_; exact absurd hk_ (Nat.not_lt_zero _)
    | succ k_ ih_3 =>
      intro i h_i h_e h_e2 hk_ H locs hP hD hS ls hl
      refine lv_iload hx hb dX4_firstFailure_3 (lv_at hl 0 rfl) ?_
      refine lv_iload_n hx hb dX4_firstFailure_5 rfl (lv_at hl 2 rfl) ?_
      refine bi_ge (tgt := 35) hx hb dX4_firstFailure_6 (by decide) (nI_i (by omega)) (nI_i (by omega)) (fun c_6 => ?_) (fun c_6 => ?_)
      ·
        refine lv_iconst (v := (-1)) hx hb dX4_firstFailure_35 (by decide) ?_
        exact W_i hx hb hr hlk dX4_firstFailure_36 hP hS (by rw [h_e, show k - i = 0 by omega]; rfl) (by rw [h_e2, show k - i = 0 by omega]; rfl)
      ·
        refine lv_aload_n hx hb dX4_firstFailure_9 rfl (lv_at hl 1 rfl) ?_
        refine lv_lload_n hx hb dX4_firstFailure_10 rfl (lv_at hl 3 rfl) ?_
        refine lv_iload_n hx hb dX4_firstFailure_11 rfl (lv_at hl 2 rfl) ?_
        refine lv_iconst (v := nI 1) hx hb dX4_firstFailure_12 (by decide) ?_
        refine nv_isub hx hb (by omega) dX4_firstFailure_13 ?_
        refine lv_iload hx hb dX4_firstFailure_14 (lv_at hl 0 rfl) ?_
        refine nv_isub hx hb (by omega) dX4_firstFailure_16 ?_
        refine cRS (As := [.long (lN S), .int (nI ((k - 1) - i))]) (rest := [.ref h]) (v := .int (nI (cmd S ((k - 1) - i)))) ⟨hx, hb, hml, hown, hts⟩ (c_X4_command l G S ((k - 1) - i) (by first | omega | assumption) (by first | omega | assumption)) (va_cwS 2 hts gX4_firstFailure_X4_command rfl rfl rfl (by decide +kernel) ⟨Nat.le_of_ble_eq_true rfl, Nat.le_of_ble_eq_true rfl⟩) (preS_of hK hP hD [] (by decide) rfl) rfl hl.1 rfl (lv_room (Nat.le_of_ble_eq_true rfl)) dX4_firstFailure_17 ⟨Nat.zero_le _, Nat.zero_le _⟩ ?_
        refine cWS (As := [.ref h, .int (nI (cmd S ((k - 1) - i)))]) (rest := []) (st1 := [.int (zb (sok ((cmd S ((k - 1) - i)) / 1000) ((cmd S ((k - 1) - i)) / 100 % 10) ((cmd S ((k - 1) - i)) / 10 % 10) ((cmd S ((k - 1) - i)) % 10) (sru S k u i)))]) (w3 := [(h, .inr (1, [.ref hc, .int (nI ((scm ((cmd S ((k - 1) - i)) / 1000) ((cmd S ((k - 1) - i)) / 100 % 10) ((cmd S ((k - 1) - i)) / 10 % 10) ((cmd S ((k - 1) - i)) % 10) (sru S k u i)).1)), .int (nI ((scm ((cmd S ((k - 1) - i)) / 1000) ((cmd S ((k - 1) - i)) / 100 % 10) ((cmd S ((k - 1) - i)) / 10 % 10) ((cmd S ((k - 1) - i)) % 10) (sru S k u i)).2.1)), .int ((scm ((cmd S ((k - 1) - i)) / 1000) ((cmd S ((k - 1) - i)) / 100 % 10) ((cmd S ((k - 1) - i)) / 10 % 10) ((cmd S ((k - 1) - i)) % 10) (sru S k u i)).2.2.1)])), (hc, .inl (G.2 0, 144, .inl ((scm ((cmd S ((k - 1) - i)) / 1000) ((cmd S ((k - 1) - i)) / 100 % 10) ((cmd S ((k - 1) - i)) / 10 % 10) ((cmd S ((k - 1) - i)) % 10) (sru S k u i)).2.2.2)))]) ⟨hx, hb, hml, hown, hts⟩ (c_X4_succeeds l G h hc (sru S k u i) (cmd S ((k - 1) - i)) (ok_sru h_u i) (cmd_lt _ _)) (va_cwS 2 hts gX4_firstFailure_X4_succeeds rfl rfl rfl (by decide +kernel) ⟨Nat.le_of_ble_eq_true rfl, Nat.le_of_ble_eq_true rfl⟩) (preS_of hK hP hD [0, 1] (by decide) rfl) rfl hl.1 rfl (lv_room (Nat.le_of_ble_eq_true rfl)) dX4_firstFailure_20 ⟨Nat.zero_le _, Nat.zero_le _⟩ hP hD hS [0, 1] (by decide) rfl (Eq.trans (b := [h, hc]) rfl rfl) (rfl) rfl (fun H locs hP hD hS => ?_)
        refine bb_ne (tgt := 29) hx hb dX4_firstFailure_23 (by decide) (fun c_23 => ?_) (fun c_23 => ?_)
        ·
          refine lv_iinc (v := nI (i + 1)) (lv' := [(4, .int (nI (i + 1))), (0, .ref h), (1, .int (nI k)), (2, .long (lN S))]) hx hb dX4_firstFailure_29 hl (k := 0) rfl (inc_n _ 1) (by decide) rfl (fun ls hl => ?_)
          refine lv_goto (tgt := 3) hx hb dX4_firstFailure_32 (by decide) ?_
          exact ih_3 (i + 1) (by first | omega | assumption) (by rw [h_e, show k - i = k - (i + 1) + 1 by omega]; exact srr_t c_23) (by rw [h_e2, show k - i = k - (i + 1) + 1 by omega]; exact src_t c_23) (by omega) _ _ hP hD hS ls (lv_sub hl [0, 1, 2, 3] (by rfl))
        ·
          refine lv_iload hx hb dX4_firstFailure_26 (lv_at hl 0 rfl) ?_
          exact W_i hx hb hr hlk dX4_firstFailure_28 hP hS (by rw [h_e, show k - i = k - (i + 1) + 1 by omega]; exact (srr_f c_23).symm) (by rw [h_e2, show k - i = k - (i + 1) + 1 by omega, src_f c_23]; rfl)
  exact loop_3 (k - 0 + 1) 0 (by first | omega | assumption) rfl rfl (Nat.lt_succ_self _) _ _ hP hD hS ls (lv_sub hl [0, 1, 2, 3] (by rfl))

set_option maxHeartbeats 4000000 in
set_option maxRecDepth 100000 in
theorem c_X5_turn (l : Launch) (G : GG) (h : Nat) (hc : Nat) (u : HS) (r : Nat) (h_u : hOK u) (h_r : r < 2147483648) : Met l yX5_turn wsX5_turn ({ frames := 4, cells := 0, slots := 0, locals := 92 } : Room) (va_Pc [.ref h, .int (nI r)] (PB G [(h, .inr (1, [.ref hc, .int (nI u.1), .int (nI u.2.1), .int u.2.2.1])), (hc, .inl (G.2 0, 144, .inl u.2.2.2))])) (QW G (none) [(h, .inr (1, [.ref hc, .int (nI ((tur r u).1)), .int (nI ((tur r u).2.1)), .int ((tur r u).2.2.1)])), (hc, .inl (G.2 0, 144, .inl ((tur r u).2.2.2)))] (vA [(h, .inr (1, [.ref hc, .int (nI u.1), .int (nI u.2.1), .int u.2.2.1])), (hc, .inl (G.2 0, 144, .inl u.2.2.2))])) 0 0 (vA [(h, .inr (1, [.ref hc, .int (nI u.1), .int (nI u.2.1), .int u.2.2.1])), (hc, .inl (G.2 0, 144, .inl u.2.2.2))]) := by
  obtain ⟨h_n1, h_n, h_g, h_f, h_nm, h_kd⟩ := h_u
  refine Met.go (cc := cX5_turn) (maxL := 5) (ret := none) (by decide) rfl (Nat.le_of_ble_eq_true rfl) ?_
  intro p e s m below meth c ls hx hb hr hml hown hts hlk hP hK hD hS hl
  have hown : s.vm.findClass RX5 = some m.cls := hown
  have hl : lv_has ls 5 [(0, .ref h), (1, .int (nI r))] := hl
  refine lv_iload_n hx hb dX5_turn_0 rfl (lv_at hl 1 rfl) ?_
  refine lv_bipush (v := nI 16) hx hb dX5_turn_1 (by decide) ?_
  refine nv_idiv hx hb ⟨by omega, by omega, by omega⟩ dX5_turn_3 ?_
  refine lv_bipush (v := nI 16) hx hb dX5_turn_4 (by decide) ?_
  refine nv_irem hx hb ⟨by omega, by omega, by omega⟩ dX5_turn_6 ?_
  refine lv_istore_n (lv' := [(2, .int (nI ((r / 16) % 16))), (0, .ref h), (1, .int (nI r))]) hx hb dX5_turn_7 rfl hl (by decide) rfl (fun ls hl => ?_)
  refine lv_iload_n hx hb dX5_turn_8 rfl (lv_at hl 2 rfl) ?_
  refine lv_sipush (v := nI 256) hx hb dX5_turn_9 (by decide) ?_
  refine nv_idiv hx hb ⟨by omega, by omega, by omega⟩ dX5_turn_12 ?_
  refine lv_iconst (v := nI 4) hx hb dX5_turn_13 (by decide) ?_
  refine nv_irem hx hb ⟨by omega, by omega, by omega⟩ dX5_turn_14 ?_
  refine lv_istore_n (lv' := [(3, .int (nI ((r / 256) % 4))), (2, .int (nI ((r / 16) % 16))), (0, .ref h), (1, .int (nI r))]) hx hb dX5_turn_15 rfl hl (by decide) rfl (fun ls hl => ?_)
  refine lv_iload_n hx hb dX5_turn_16 rfl (lv_at hl 3 rfl) ?_
  refine lv_sipush (v := nI 256) hx hb dX5_turn_17 (by decide) ?_
  refine nv_idiv hx hb ⟨by omega, by omega, by omega⟩ dX5_turn_20 ?_
  refine lv_iconst (v := nI 3) hx hb dX5_turn_21 (by decide) ?_
  refine nv_irem hx hb ⟨by omega, by omega, by omega⟩ dX5_turn_22 ?_
  refine lv_istore (lv' := [(4, .int (nI ((r / 256) % 3))), (3, .int (nI ((r / 256) % 4))), (2, .int (nI ((r / 16) % 16))), (0, .ref h), (1, .int (nI r))]) hx hb dX5_turn_23 hl (by decide) rfl (fun ls hl => ?_)
  refine lv_iload_n hx hb dX5_turn_25 rfl (lv_at hl 4 rfl) ?_
  refine lv_bipush (v := nI 16) hx hb dX5_turn_26 (by decide) ?_
  refine nv_irem hx hb ⟨by omega, by omega, by omega⟩ dX5_turn_28 ?_
  rcases (show r % 16 = 0 ∨ r % 16 = 1 ∨ r % 16 = 2 ∨ r % 16 = 3 ∨ r % 16 = 4 ∨ r % 16 = 5 ∨ r % 16 = 6 ∨ r % 16 = 7 ∨ r % 16 = 8 ∨ r % 16 = 9 ∨ r % 16 = 10 ∨ r % 16 = 11 ∨ r % 16 = 12 ∨ r % 16 = 13 ∨ r % 16 = 14 ∨ r % 16 = 15 by omega) with h_h | h_h | h_h | h_h | h_h | h_h | h_h | h_h | h_h | h_h | h_h | h_h | h_h | h_h | h_h | h_h
  ·
    rw [show nI (r % 16) = nI 0 from congrArg nI h_h]
    refine lv_tableIn (off := 67) (tgt := 96) hx hb dX5_turn_29 (by decide) (by decide) (by decide) (by decide) ?_
    refine lv_aload_n hx hb dX5_turn_96 rfl (lv_at hl 3 rfl) ?_
    refine lv_iload_n hx hb dX5_turn_97 rfl (lv_at hl 2 rfl) ?_
    refine lv_iload_n hx hb dX5_turn_98 rfl (lv_at hl 1 rfl) ?_
    by_cases h_q : r / 16 % 16 ≤ u.1 ∧ r / 256 % 4 < 4 ∧ u.1 < 16
    ·
      refine cWV (As := [.int (nI ((r / 16) % 16)), .int (nI ((r / 256) % 4))]) (rest := []) (st1 := [.int (nI 1)]) (w3 := [(h, .inr (1, [.ref hc, .int (nI (u.1 + 1)), .int (nI (insG ((r / 16) % 16) u.2.1)), .int u.2.2.1])), (hc, .inl (G.2 0, 144, .inl (rn u.2.2.1 (insG ((r / 16) % 16) u.2.1) 0 (u.1 + 1) (fur ((r / 16) % 16) (nI ((r / 256) % 4)) (sh ((r / 16) % 16) u.1 9 u.1 u.2.2.2)))))]) ⟨hx, hb, hml, hown, hts⟩ (c_X1_insertLevel l G h hc u.1 u.2.1 u.2.2.1 u.2.2.2 ((r / 16) % 16) ((r / 256) % 4) (by first | omega | assumption) (by first | omega | assumption) (by first | omega | assumption) (by first | omega | assumption) (by first | omega | assumption)) (cwV 2 hts gX5_turn_X1_insertLevel rfl rfl rfl (by decide +kernel) ⟨Nat.le_of_ble_eq_true rfl, Nat.le_of_ble_eq_true rfl⟩) (preV_of hK hP hD [0, 1] (by decide) rfl (ci := 1) (q0 := 0) rfl rfl rfl) rfl hl.1 rfl (lv_room (Nat.le_of_ble_eq_true rfl)) dX5_turn_99 ⟨Nat.zero_le _, Nat.zero_le _⟩ hP hD hS [0, 1] (by decide) rfl (Eq.trans (b := [h, hc]) rfl rfl) (rfl) rfl (fun H locs hP hD hS => ?_)
      refine lv_pop hx hb dX5_turn_102 rfl ?_
      refine lv_goto (tgt := 235) hx hb dX5_turn_103 (by decide) ?_
      exact W_v hx hb hr hlk dX5_turn_235 hP hS (by unfold tur; rw [tst_0t (by omega) h_q]; rfl)
    ·
      refine cRV (As := [.int (nI ((r / 16) % 16)), .int (nI ((r / 256) % 4))]) (rest := []) (v := .int (nI 0)) ⟨hx, hb, hml, hown, hts⟩ (c_X1_insertLevel_no l G h hc u.1 u.2.1 u.2.2.1 u.2.2.2 ((r / 16) % 16) ((r / 256) % 4) (by first | omega | assumption) (by first | omega | assumption) (by first | omega | assumption) (by first | omega | assumption)) (cwV 2 hts gX5_turn_X1_insertLevel rfl rfl rfl (by decide +kernel) ⟨Nat.le_of_ble_eq_true rfl, Nat.le_of_ble_eq_true rfl⟩) (preV_of hK hP hD [0, 1] (by decide) rfl (ci := 1) (q0 := 0) rfl rfl rfl) rfl hl.1 rfl (lv_room (Nat.le_of_ble_eq_true rfl)) dX5_turn_99 ⟨Nat.zero_le _, Nat.zero_le _⟩ ?_
      refine lv_pop hx hb dX5_turn_102 rfl ?_
      refine lv_goto (tgt := 235) hx hb dX5_turn_103 (by decide) ?_
      exact W_v hx hb hr hlk dX5_turn_235 hP hS (by unfold tur; rw [tst_0f (by omega) h_q])
  ·
    rw [show nI (r % 16) = nI 1 from congrArg nI h_h]
    refine lv_tableIn (off := 67) (tgt := 96) hx hb dX5_turn_29 (by decide) (by decide) (by decide) (by decide) ?_
    refine lv_aload_n hx hb dX5_turn_96 rfl (lv_at hl 3 rfl) ?_
    refine lv_iload_n hx hb dX5_turn_97 rfl (lv_at hl 2 rfl) ?_
    refine lv_iload_n hx hb dX5_turn_98 rfl (lv_at hl 1 rfl) ?_
    by_cases h_q : r / 16 % 16 ≤ u.1 ∧ r / 256 % 4 < 4 ∧ u.1 < 16
    ·
      refine cWV (As := [.int (nI ((r / 16) % 16)), .int (nI ((r / 256) % 4))]) (rest := []) (st1 := [.int (nI 1)]) (w3 := [(h, .inr (1, [.ref hc, .int (nI (u.1 + 1)), .int (nI (insG ((r / 16) % 16) u.2.1)), .int u.2.2.1])), (hc, .inl (G.2 0, 144, .inl (rn u.2.2.1 (insG ((r / 16) % 16) u.2.1) 0 (u.1 + 1) (fur ((r / 16) % 16) (nI ((r / 256) % 4)) (sh ((r / 16) % 16) u.1 9 u.1 u.2.2.2)))))]) ⟨hx, hb, hml, hown, hts⟩ (c_X1_insertLevel l G h hc u.1 u.2.1 u.2.2.1 u.2.2.2 ((r / 16) % 16) ((r / 256) % 4) (by first | omega | assumption) (by first | omega | assumption) (by first | omega | assumption) (by first | omega | assumption) (by first | omega | assumption)) (cwV 2 hts gX5_turn_X1_insertLevel rfl rfl rfl (by decide +kernel) ⟨Nat.le_of_ble_eq_true rfl, Nat.le_of_ble_eq_true rfl⟩) (preV_of hK hP hD [0, 1] (by decide) rfl (ci := 1) (q0 := 0) rfl rfl rfl) rfl hl.1 rfl (lv_room (Nat.le_of_ble_eq_true rfl)) dX5_turn_99 ⟨Nat.zero_le _, Nat.zero_le _⟩ hP hD hS [0, 1] (by decide) rfl (Eq.trans (b := [h, hc]) rfl rfl) (rfl) rfl (fun H locs hP hD hS => ?_)
      refine lv_pop hx hb dX5_turn_102 rfl ?_
      refine lv_goto (tgt := 235) hx hb dX5_turn_103 (by decide) ?_
      exact W_v hx hb hr hlk dX5_turn_235 hP hS (by unfold tur; rw [tst_0t (by omega) h_q]; rfl)
    ·
      refine cRV (As := [.int (nI ((r / 16) % 16)), .int (nI ((r / 256) % 4))]) (rest := []) (v := .int (nI 0)) ⟨hx, hb, hml, hown, hts⟩ (c_X1_insertLevel_no l G h hc u.1 u.2.1 u.2.2.1 u.2.2.2 ((r / 16) % 16) ((r / 256) % 4) (by first | omega | assumption) (by first | omega | assumption) (by first | omega | assumption) (by first | omega | assumption)) (cwV 2 hts gX5_turn_X1_insertLevel rfl rfl rfl (by decide +kernel) ⟨Nat.le_of_ble_eq_true rfl, Nat.le_of_ble_eq_true rfl⟩) (preV_of hK hP hD [0, 1] (by decide) rfl (ci := 1) (q0 := 0) rfl rfl rfl) rfl hl.1 rfl (lv_room (Nat.le_of_ble_eq_true rfl)) dX5_turn_99 ⟨Nat.zero_le _, Nat.zero_le _⟩ ?_
      refine lv_pop hx hb dX5_turn_102 rfl ?_
      refine lv_goto (tgt := 235) hx hb dX5_turn_103 (by decide) ?_
      exact W_v hx hb hr hlk dX5_turn_235 hP hS (by unfold tur; rw [tst_0f (by omega) h_q])
  ·
    rw [show nI (r % 16) = nI 2 from congrArg nI h_h]
    refine lv_tableIn (off := 77) (tgt := 106) hx hb dX5_turn_29 (by decide) (by decide) (by decide) (by decide) ?_
    refine lv_aload_n hx hb dX5_turn_106 rfl (lv_at hl 3 rfl) ?_
    refine lv_iload_n hx hb dX5_turn_107 rfl (lv_at hl 2 rfl) ?_
    by_cases h_q : r / 16 % 16 < u.1 ∧ r / 16 % 16 ≠ u.2.1
    ·
      refine cWV (As := [.int (nI ((r / 16) % 16))]) (rest := []) (st1 := [.int (nI 1)]) (w3 := [(h, .inr (1, [.ref hc, .int (nI (u.1 - 1)), .int (nI (delG ((r / 16) % 16) u.2.1)), .int u.2.2.1])), (hc, .inl (G.2 0, 144, .inl (rn u.2.2.1 (delG ((r / 16) % 16) u.2.1) 0 (u.1 - 1) (sd ((r / 16) % 16) (u.1 - 1) 9 ((r / 16) % 16) u.2.2.2))))]) ⟨hx, hb, hml, hown, hts⟩ (c_X1_deleteLevel l G h hc u.1 u.2.1 u.2.2.1 u.2.2.2 ((r / 16) % 16) (by first | omega | assumption) (by first | omega | assumption) (by first | omega | assumption) (by first | omega | assumption) (by first | omega | assumption)) (cwV 1 hts gX5_turn_X1_deleteLevel rfl rfl rfl (by decide +kernel) ⟨Nat.le_of_ble_eq_true rfl, Nat.le_of_ble_eq_true rfl⟩) (preV_of hK hP hD [0, 1] (by decide) rfl (ci := 1) (q0 := 0) rfl rfl rfl) rfl hl.1 rfl (lv_room (Nat.le_of_ble_eq_true rfl)) dX5_turn_108 ⟨Nat.zero_le _, Nat.zero_le _⟩ hP hD hS [0, 1] (by decide) rfl (Eq.trans (b := [h, hc]) rfl rfl) (rfl) rfl (fun H locs hP hD hS => ?_)
      refine lv_pop hx hb dX5_turn_111 rfl ?_
      refine lv_goto (tgt := 235) hx hb dX5_turn_112 (by decide) ?_
      exact W_v hx hb hr hlk dX5_turn_235 hP hS (by unfold tur; rw [tst_1t (by omega) h_q]; rfl)
    ·
      refine cRV (As := [.int (nI ((r / 16) % 16))]) (rest := []) (v := .int (nI 0)) ⟨hx, hb, hml, hown, hts⟩ (c_X1_deleteLevel_no l G h hc u.1 u.2.1 u.2.2.1 u.2.2.2 ((r / 16) % 16) (by first | omega | assumption) (by first | omega | assumption) (by first | omega | assumption) (by first | omega | assumption)) (cwV 1 hts gX5_turn_X1_deleteLevel rfl rfl rfl (by decide +kernel) ⟨Nat.le_of_ble_eq_true rfl, Nat.le_of_ble_eq_true rfl⟩) (preV_of hK hP hD [0, 1] (by decide) rfl (ci := 1) (q0 := 0) rfl rfl rfl) rfl hl.1 rfl (lv_room (Nat.le_of_ble_eq_true rfl)) dX5_turn_108 ⟨Nat.zero_le _, Nat.zero_le _⟩ ?_
      refine lv_pop hx hb dX5_turn_111 rfl ?_
      refine lv_goto (tgt := 235) hx hb dX5_turn_112 (by decide) ?_
      exact W_v hx hb hr hlk dX5_turn_235 hP hS (by unfold tur; rw [tst_1f (by omega) h_q])
  ·
    rw [show nI (r % 16) = nI 3 from congrArg nI h_h]
    refine lv_tableIn (off := 86) (tgt := 115) hx hb dX5_turn_29 (by decide) (by decide) (by decide) (by decide) ?_
    refine lv_aload_n hx hb dX5_turn_115 rfl (lv_at hl 3 rfl) ?_
    refine lv_iload_n hx hb dX5_turn_116 rfl (lv_at hl 2 rfl) ?_
    refine lv_iload_n hx hb dX5_turn_117 rfl (lv_at hl 1 rfl) ?_
    by_cases h_q : r / 16 % 16 < u.1 ∧ r / 256 % 4 < 4 ∧ ¬ (r / 16 % 16 = u.2.1 ∧ r / 256 % 4 ≠ 0)
    ·
      refine cWV (As := [.int (nI ((r / 16) % 16)), .int (nI ((r / 256) % 4))]) (rest := []) (st1 := [.int (nI 1)]) (w3 := [(h, .inr (1, [.ref hc, .int (nI u.1), .int (nI u.2.1), .int u.2.2.1])), (hc, .inl (G.2 0, 144, .inl (rn u.2.2.1 u.2.1 0 u.1 (upd u.2.2.2 ((r / 16) % 16) (nI ((r / 256) % 4))))))]) ⟨hx, hb, hml, hown, hts⟩ (c_X1_changeKind l G h hc u.1 u.2.1 u.2.2.1 u.2.2.2 ((r / 16) % 16) ((r / 256) % 4) (by first | omega | assumption) (by first | omega | assumption) (by first | omega | assumption) (by first | omega | assumption) (by first | omega | assumption) (by first | omega | assumption)) (cwV 2 hts gX5_turn_X1_changeKind rfl rfl rfl (by decide +kernel) ⟨Nat.le_of_ble_eq_true rfl, Nat.le_of_ble_eq_true rfl⟩) (preV_of hK hP hD [0, 1] (by decide) rfl (ci := 1) (q0 := 0) rfl rfl rfl) rfl hl.1 rfl (lv_room (Nat.le_of_ble_eq_true rfl)) dX5_turn_118 ⟨Nat.zero_le _, Nat.zero_le _⟩ hP hD hS [0, 1] (by decide) rfl (Eq.trans (b := [h, hc]) rfl rfl) (rfl) rfl (fun H locs hP hD hS => ?_)
      refine lv_pop hx hb dX5_turn_121 rfl ?_
      refine lv_goto (tgt := 235) hx hb dX5_turn_122 (by decide) ?_
      exact W_v hx hb hr hlk dX5_turn_235 hP hS (by unfold tur; rw [tst_2t (by omega) h_q]; rfl)
    ·
      refine cRV (As := [.int (nI ((r / 16) % 16)), .int (nI ((r / 256) % 4))]) (rest := []) (v := .int (nI 0)) ⟨hx, hb, hml, hown, hts⟩ (c_X1_changeKind_no l G h hc u.1 u.2.1 u.2.2.1 u.2.2.2 ((r / 16) % 16) ((r / 256) % 4) (by first | omega | assumption) (by first | omega | assumption) (by first | omega | assumption) (by first | omega | assumption) (by first | omega | assumption)) (cwV 2 hts gX5_turn_X1_changeKind rfl rfl rfl (by decide +kernel) ⟨Nat.le_of_ble_eq_true rfl, Nat.le_of_ble_eq_true rfl⟩) (preV_of hK hP hD [0, 1] (by decide) rfl (ci := 1) (q0 := 0) rfl rfl rfl) rfl hl.1 rfl (lv_room (Nat.le_of_ble_eq_true rfl)) dX5_turn_118 ⟨Nat.zero_le _, Nat.zero_le _⟩ ?_
      refine lv_pop hx hb dX5_turn_121 rfl ?_
      refine lv_goto (tgt := 235) hx hb dX5_turn_122 (by decide) ?_
      exact W_v hx hb hr hlk dX5_turn_235 hP hS (by unfold tur; rw [tst_2f (by omega) h_q])
  ·
    rw [show nI (r % 16) = nI 4 from congrArg nI h_h]
    refine lv_tableIn (off := 96) (tgt := 125) hx hb dX5_turn_29 (by decide) (by decide) (by decide) (by decide) ?_
    refine lv_aload_n hx hb dX5_turn_125 rfl (lv_at hl 3 rfl) ?_
    refine lv_iload_n hx hb dX5_turn_126 rfl (lv_at hl 2 rfl) ?_
    by_cases h_q : r / 16 % 16 < u.1 ∧ u.2.2.2 (r / 16 % 16) = 0
    ·
      refine cWV (As := [.int (nI ((r / 16) % 16))]) (rest := []) (st1 := []) (w3 := [(h, .inr (1, [.ref hc, .int (nI u.1), .int (nI ((r / 16) % 16)), .int u.2.2.1])), (hc, .inl (G.2 0, 144, .inl (rn u.2.2.1 ((r / 16) % 16) 0 u.1 u.2.2.2)))]) ⟨hx, hb, hml, hown, hts⟩ (c_X1_moveGround l G h hc u.1 u.2.1 u.2.2.1 u.2.2.2 ((r / 16) % 16) (by first | omega | assumption) (by first | exact h_q.1 | omega) h_q.2) (cwV 1 hts gX5_turn_X1_moveGround rfl rfl rfl (by decide +kernel) ⟨Nat.le_of_ble_eq_true rfl, Nat.le_of_ble_eq_true rfl⟩) (preV_of hK hP hD [0, 1] (by decide) rfl (ci := 1) (q0 := 0) rfl rfl rfl) rfl hl.1 rfl (lv_room (Nat.le_of_ble_eq_true rfl)) dX5_turn_127 ⟨Nat.zero_le _, Nat.zero_le _⟩ hP hD hS [0, 1] (by decide) rfl (Eq.trans (b := [h, hc]) rfl rfl) (rfl) rfl (fun H locs hP hD hS => ?_)
      refine lv_goto (tgt := 235) hx hb dX5_turn_130 (by decide) ?_
      exact W_v hx hb hr hlk dX5_turn_235 hP hS (by unfold tur; rw [tst_3t (by omega) h_q]; rfl)
    ·
      refine cRVv (As := [.int (nI ((r / 16) % 16))]) (rest := []) ⟨hx, hb, hml, hown, hts⟩ (c_X1_moveGround_no l G h hc u.1 u.2.1 u.2.2.1 u.2.2.2 ((r / 16) % 16) (by first | omega | assumption) (by first | exact h_q.1 | omega) (by first | omega | assumption)) (cwV 1 hts gX5_turn_X1_moveGround rfl rfl rfl (by decide +kernel) ⟨Nat.le_of_ble_eq_true rfl, Nat.le_of_ble_eq_true rfl⟩) (preV_of hK hP hD [0, 1] (by decide) rfl (ci := 1) (q0 := 0) rfl rfl rfl) rfl hl.1 rfl (lv_room (Nat.le_of_ble_eq_true rfl)) dX5_turn_127 ⟨Nat.zero_le _, Nat.zero_le _⟩ ?_
      refine lv_goto (tgt := 235) hx hb dX5_turn_130 (by decide) ?_
      exact W_v hx hb hr hlk dX5_turn_235 hP hS (by unfold tur; rw [tst_3f (by omega) h_q])
  ·
    rw [show nI (r % 16) = nI 5 from congrArg nI h_h]
    refine lv_tableIn (off := 104) (tgt := 133) hx hb dX5_turn_29 (by decide) (by decide) (by decide) (by decide) ?_
    refine lv_aload_n hx hb dX5_turn_133 rfl (lv_at hl 3 rfl) ?_
    refine lv_iconst (v := nI 1) hx hb dX5_turn_134 (by decide) ?_
    refine lv_iload_n hx hb dX5_turn_135 rfl (lv_at hl 4 rfl) ?_
    refine lv_bipush (v := nI 16) hx hb dX5_turn_136 (by decide) ?_
    refine nv_idiv hx hb ⟨by omega, by omega, by omega⟩ dX5_turn_138 ?_
    refine lv_bipush (v := nI 30) hx hb dX5_turn_139 (by decide) ?_
    refine nv_irem hx hb ⟨by omega, by omega, by omega⟩ dX5_turn_141 ?_
    refine nv_iadd hx hb dX5_turn_142 ?_
    refine lv_iload_n hx hb dX5_turn_143 rfl (lv_at hl 4 rfl) ?_
    refine lv_sipush (v := nI 512) hx hb dX5_turn_144 (by decide) ?_
    refine nv_idiv hx hb ⟨by omega, by omega, by omega⟩ dX5_turn_147 ?_
    refine lv_iconst (v := nI 2) hx hb dX5_turn_148 (by decide) ?_
    refine nv_irem hx hb ⟨by omega, by omega, by omega⟩ dX5_turn_149 ?_
    refine b0_ne (tgt := 157) hx hb dX5_turn_150 (by decide) (nI_i (by omega)) (fun c_150 => ?_) (fun c_150 => ?_)
    ·
      refine lv_iconst (v := zb (r / 512 % 2 = 0)) hx hb dX5_turn_157 (zb_f (by omega)).symm ?_
      refine cWV (As := [.int (nI (1 + ((r / 16) % 30))), .int (zb (r / 512 % 2 = 0))]) (rest := []) (st1 := [.int (nI 1)]) (w3 := [(h, .inr (1, [.ref hc, .int (nI u.1), .int (nI u.2.1), .int (skp u.2.2.1 (1 + ((r / 16) % 30)) (r / 512 % 2 = 0))])), (hc, .inl (G.2 0, 144, .inl (rn (skp u.2.2.1 (1 + ((r / 16) % 30)) (r / 512 % 2 = 0)) u.2.1 0 u.1 u.2.2.2)))]) ⟨hx, hb, hml, hown, hts⟩ (c_X1_changeSkip l G h hc u.1 u.2.1 u.2.2.1 u.2.2.2 (1 + ((r / 16) % 30)) (r / 512 % 2 = 0) (by first | omega | assumption) (by first | omega | assumption) (by first | omega | assumption) (by first | omega | assumption)) (cwV 2 hts gX5_turn_X1_changeSkip rfl rfl rfl (by decide +kernel) ⟨Nat.le_of_ble_eq_true rfl, Nat.le_of_ble_eq_true rfl⟩) (preV_of hK hP hD [0, 1] (by decide) rfl (ci := 1) (q0 := 0) rfl rfl rfl) rfl hl.1 rfl (lv_room (Nat.le_of_ble_eq_true rfl)) dX5_turn_158 ⟨Nat.zero_le _, Nat.zero_le _⟩ hP hD hS [0, 1] (by decide) rfl (Eq.trans (b := [h, hc]) rfl rfl) (rfl) rfl (fun H locs hP hD hS => ?_)
      refine lv_pop hx hb dX5_turn_161 rfl ?_
      refine lv_goto (tgt := 235) hx hb dX5_turn_162 (by decide) ?_
      exact W_v hx hb hr hlk dX5_turn_235 hP hS (by unfold tur; rw [tst_4 (by omega)]; rfl)
    ·
      refine lv_iconst (v := zb (r / 512 % 2 = 0)) hx hb dX5_turn_153 (zb_t (by omega)).symm ?_
      refine lv_goto (tgt := 158) hx hb dX5_turn_154 (by decide) ?_
      refine cWV (As := [.int (nI (1 + ((r / 16) % 30))), .int (zb (r / 512 % 2 = 0))]) (rest := []) (st1 := [.int (nI 1)]) (w3 := [(h, .inr (1, [.ref hc, .int (nI u.1), .int (nI u.2.1), .int (skp u.2.2.1 (1 + ((r / 16) % 30)) (r / 512 % 2 = 0))])), (hc, .inl (G.2 0, 144, .inl (rn (skp u.2.2.1 (1 + ((r / 16) % 30)) (r / 512 % 2 = 0)) u.2.1 0 u.1 u.2.2.2)))]) ⟨hx, hb, hml, hown, hts⟩ (c_X1_changeSkip l G h hc u.1 u.2.1 u.2.2.1 u.2.2.2 (1 + ((r / 16) % 30)) (r / 512 % 2 = 0) (by first | omega | assumption) (by first | omega | assumption) (by first | omega | assumption) (by first | omega | assumption)) (cwV 2 hts gX5_turn_X1_changeSkip rfl rfl rfl (by decide +kernel) ⟨Nat.le_of_ble_eq_true rfl, Nat.le_of_ble_eq_true rfl⟩) (preV_of hK hP hD [0, 1] (by decide) rfl (ci := 1) (q0 := 0) rfl rfl rfl) rfl hl.1 rfl (lv_room (Nat.le_of_ble_eq_true rfl)) dX5_turn_158 ⟨Nat.zero_le _, Nat.zero_le _⟩ hP hD hS [0, 1] (by decide) rfl (Eq.trans (b := [h, hc]) rfl rfl) (rfl) rfl (fun H locs hP hD hS => ?_)
      refine lv_pop hx hb dX5_turn_161 rfl ?_
      refine lv_goto (tgt := 235) hx hb dX5_turn_162 (by decide) ?_
      exact W_v hx hb hr hlk dX5_turn_235 hP hS (by unfold tur; rw [tst_4 (by omega)]; rfl)
  ·
    rw [show nI (r % 16) = nI 6 from congrArg nI h_h]
    refine lv_tableIn (off := 104) (tgt := 133) hx hb dX5_turn_29 (by decide) (by decide) (by decide) (by decide) ?_
    refine lv_aload_n hx hb dX5_turn_133 rfl (lv_at hl 3 rfl) ?_
    refine lv_iconst (v := nI 1) hx hb dX5_turn_134 (by decide) ?_
    refine lv_iload_n hx hb dX5_turn_135 rfl (lv_at hl 4 rfl) ?_
    refine lv_bipush (v := nI 16) hx hb dX5_turn_136 (by decide) ?_
    refine nv_idiv hx hb ⟨by omega, by omega, by omega⟩ dX5_turn_138 ?_
    refine lv_bipush (v := nI 30) hx hb dX5_turn_139 (by decide) ?_
    refine nv_irem hx hb ⟨by omega, by omega, by omega⟩ dX5_turn_141 ?_
    refine nv_iadd hx hb dX5_turn_142 ?_
    refine lv_iload_n hx hb dX5_turn_143 rfl (lv_at hl 4 rfl) ?_
    refine lv_sipush (v := nI 512) hx hb dX5_turn_144 (by decide) ?_
    refine nv_idiv hx hb ⟨by omega, by omega, by omega⟩ dX5_turn_147 ?_
    refine lv_iconst (v := nI 2) hx hb dX5_turn_148 (by decide) ?_
    refine nv_irem hx hb ⟨by omega, by omega, by omega⟩ dX5_turn_149 ?_
    refine b0_ne (tgt := 157) hx hb dX5_turn_150 (by decide) (nI_i (by omega)) (fun c_150 => ?_) (fun c_150 => ?_)
    ·
      refine lv_iconst (v := zb (r / 512 % 2 = 0)) hx hb dX5_turn_157 (zb_f (by omega)).symm ?_
      refine cWV (As := [.int (nI (1 + ((r / 16) % 30))), .int (zb (r / 512 % 2 = 0))]) (rest := []) (st1 := [.int (nI 1)]) (w3 := [(h, .inr (1, [.ref hc, .int (nI u.1), .int (nI u.2.1), .int (skp u.2.2.1 (1 + ((r / 16) % 30)) (r / 512 % 2 = 0))])), (hc, .inl (G.2 0, 144, .inl (rn (skp u.2.2.1 (1 + ((r / 16) % 30)) (r / 512 % 2 = 0)) u.2.1 0 u.1 u.2.2.2)))]) ⟨hx, hb, hml, hown, hts⟩ (c_X1_changeSkip l G h hc u.1 u.2.1 u.2.2.1 u.2.2.2 (1 + ((r / 16) % 30)) (r / 512 % 2 = 0) (by first | omega | assumption) (by first | omega | assumption) (by first | omega | assumption) (by first | omega | assumption)) (cwV 2 hts gX5_turn_X1_changeSkip rfl rfl rfl (by decide +kernel) ⟨Nat.le_of_ble_eq_true rfl, Nat.le_of_ble_eq_true rfl⟩) (preV_of hK hP hD [0, 1] (by decide) rfl (ci := 1) (q0 := 0) rfl rfl rfl) rfl hl.1 rfl (lv_room (Nat.le_of_ble_eq_true rfl)) dX5_turn_158 ⟨Nat.zero_le _, Nat.zero_le _⟩ hP hD hS [0, 1] (by decide) rfl (Eq.trans (b := [h, hc]) rfl rfl) (rfl) rfl (fun H locs hP hD hS => ?_)
      refine lv_pop hx hb dX5_turn_161 rfl ?_
      refine lv_goto (tgt := 235) hx hb dX5_turn_162 (by decide) ?_
      exact W_v hx hb hr hlk dX5_turn_235 hP hS (by unfold tur; rw [tst_4 (by omega)]; rfl)
    ·
      refine lv_iconst (v := zb (r / 512 % 2 = 0)) hx hb dX5_turn_153 (zb_t (by omega)).symm ?_
      refine lv_goto (tgt := 158) hx hb dX5_turn_154 (by decide) ?_
      refine cWV (As := [.int (nI (1 + ((r / 16) % 30))), .int (zb (r / 512 % 2 = 0))]) (rest := []) (st1 := [.int (nI 1)]) (w3 := [(h, .inr (1, [.ref hc, .int (nI u.1), .int (nI u.2.1), .int (skp u.2.2.1 (1 + ((r / 16) % 30)) (r / 512 % 2 = 0))])), (hc, .inl (G.2 0, 144, .inl (rn (skp u.2.2.1 (1 + ((r / 16) % 30)) (r / 512 % 2 = 0)) u.2.1 0 u.1 u.2.2.2)))]) ⟨hx, hb, hml, hown, hts⟩ (c_X1_changeSkip l G h hc u.1 u.2.1 u.2.2.1 u.2.2.2 (1 + ((r / 16) % 30)) (r / 512 % 2 = 0) (by first | omega | assumption) (by first | omega | assumption) (by first | omega | assumption) (by first | omega | assumption)) (cwV 2 hts gX5_turn_X1_changeSkip rfl rfl rfl (by decide +kernel) ⟨Nat.le_of_ble_eq_true rfl, Nat.le_of_ble_eq_true rfl⟩) (preV_of hK hP hD [0, 1] (by decide) rfl (ci := 1) (q0 := 0) rfl rfl rfl) rfl hl.1 rfl (lv_room (Nat.le_of_ble_eq_true rfl)) dX5_turn_158 ⟨Nat.zero_le _, Nat.zero_le _⟩ hP hD hS [0, 1] (by decide) rfl (Eq.trans (b := [h, hc]) rfl rfl) (rfl) rfl (fun H locs hP hD hS => ?_)
      refine lv_pop hx hb dX5_turn_161 rfl ?_
      refine lv_goto (tgt := 235) hx hb dX5_turn_162 (by decide) ?_
      exact W_v hx hb hr hlk dX5_turn_235 hP hS (by unfold tur; rw [tst_4 (by omega)]; rfl)
  ·
    rw [show nI (r % 16) = nI 7 from congrArg nI h_h]
    refine lv_tableIn (off := 136) (tgt := 165) hx hb dX5_turn_29 (by decide) (by decide) (by decide) (by decide) ?_
    refine lv_aload_n hx hb dX5_turn_165 rfl (lv_at hl 3 rfl) ?_
    refine lv_iload hx hb dX5_turn_166 (lv_at hl 0 rfl) ?_
    refine lv_iload_n hx hb dX5_turn_168 rfl (lv_at hl 2 rfl) ?_
    refine lv_iload_n hx hb dX5_turn_169 rfl (lv_at hl 4 rfl) ?_
    refine lv_sipush (v := nI 1024) hx hb dX5_turn_170 (by decide) ?_
    refine nv_idiv hx hb ⟨by omega, by omega, by omega⟩ dX5_turn_173 ?_
    refine lv_iconst (v := nI 2) hx hb dX5_turn_174 (by decide) ?_
    refine nv_irem hx hb ⟨by omega, by omega, by omega⟩ dX5_turn_175 ?_
    refine b0_ne (tgt := 183) hx hb dX5_turn_176 (by decide) (nI_i (by omega)) (fun c_176 => ?_) (fun c_176 => ?_)
    ·
      refine lv_iconst (v := zb (r / 1024 % 2 = 0)) hx hb dX5_turn_183 (zb_f (by omega)).symm ?_
      by_cases h_q : r / 16 % 16 < u.1
      ·
        refine cWV (As := [.int (nI ((r / 256) % 3)), .int (nI ((r / 16) % 16)), .int (zb (r / 1024 % 2 = 0))]) (rest := []) (st1 := []) (w3 := [(h, .inr (1, [.ref hc, .int (nI u.1), .int (nI u.2.1), .int u.2.2.1])), (hc, .inl (G.2 0, 144, .inl (upd u.2.2.2 ((6 + ((r / 256) % 3)) * 16 + ((r / 16) % 16)) (zb (r / 1024 % 2 = 0)))))]) ⟨hx, hb, hml, hown, hts⟩ (c_X1_changeService l G h hc u.1 u.2.1 u.2.2.1 u.2.2.2 ((r / 256) % 3) ((r / 16) % 16) (r / 1024 % 2 = 0) (by first | omega | assumption) (by first | omega | assumption) (by first | omega | assumption)) (cwV 3 hts gX5_turn_X1_changeService rfl rfl rfl (by decide +kernel) ⟨Nat.le_of_ble_eq_true rfl, Nat.le_of_ble_eq_true rfl⟩) (preV_of hK hP hD [0, 1] (by decide) rfl (ci := 1) (q0 := 0) rfl rfl rfl) rfl hl.1 rfl (lv_room (Nat.le_of_ble_eq_true rfl)) dX5_turn_184 ⟨Nat.zero_le _, Nat.zero_le _⟩ hP hD hS [0, 1] (by decide) rfl (Eq.trans (b := [h, hc]) rfl rfl) (rfl) rfl (fun H locs hP hD hS => ?_)
        refine lv_goto (tgt := 235) hx hb dX5_turn_187 (by decide) ?_
        exact W_v hx hb hr hlk dX5_turn_235 hP hS (by unfold tur; rw [tst_5t (by omega) h_q]; rfl)
      ·
        refine cRVv (As := [.int (nI ((r / 256) % 3)), .int (nI ((r / 16) % 16)), .int (zb (r / 1024 % 2 = 0))]) (rest := []) ⟨hx, hb, hml, hown, hts⟩ (c_X1_changeService_no l G h hc u.1 u.2.1 u.2.2.1 u.2.2.2 ((r / 256) % 3) ((r / 16) % 16) (r / 1024 % 2 = 0) (by first | omega | assumption) (by first | omega | assumption) (by first | omega | assumption) (by first | omega | assumption)) (cwV 3 hts gX5_turn_X1_changeService rfl rfl rfl (by decide +kernel) ⟨Nat.le_of_ble_eq_true rfl, Nat.le_of_ble_eq_true rfl⟩) (preV_of hK hP hD [0, 1] (by decide) rfl (ci := 1) (q0 := 0) rfl rfl rfl) rfl hl.1 rfl (lv_room (Nat.le_of_ble_eq_true rfl)) dX5_turn_184 ⟨Nat.zero_le _, Nat.zero_le _⟩ ?_
        refine lv_goto (tgt := 235) hx hb dX5_turn_187 (by decide) ?_
        exact W_v hx hb hr hlk dX5_turn_235 hP hS (by unfold tur; rw [tst_5f (by omega) h_q])
    ·
      refine lv_iconst (v := zb (r / 1024 % 2 = 0)) hx hb dX5_turn_179 (zb_t (by omega)).symm ?_
      refine lv_goto (tgt := 184) hx hb dX5_turn_180 (by decide) ?_
      by_cases h_q : r / 16 % 16 < u.1
      ·
        refine cWV (As := [.int (nI ((r / 256) % 3)), .int (nI ((r / 16) % 16)), .int (zb (r / 1024 % 2 = 0))]) (rest := []) (st1 := []) (w3 := [(h, .inr (1, [.ref hc, .int (nI u.1), .int (nI u.2.1), .int u.2.2.1])), (hc, .inl (G.2 0, 144, .inl (upd u.2.2.2 ((6 + ((r / 256) % 3)) * 16 + ((r / 16) % 16)) (zb (r / 1024 % 2 = 0)))))]) ⟨hx, hb, hml, hown, hts⟩ (c_X1_changeService l G h hc u.1 u.2.1 u.2.2.1 u.2.2.2 ((r / 256) % 3) ((r / 16) % 16) (r / 1024 % 2 = 0) (by first | omega | assumption) (by first | omega | assumption) (by first | omega | assumption)) (cwV 3 hts gX5_turn_X1_changeService rfl rfl rfl (by decide +kernel) ⟨Nat.le_of_ble_eq_true rfl, Nat.le_of_ble_eq_true rfl⟩) (preV_of hK hP hD [0, 1] (by decide) rfl (ci := 1) (q0 := 0) rfl rfl rfl) rfl hl.1 rfl (lv_room (Nat.le_of_ble_eq_true rfl)) dX5_turn_184 ⟨Nat.zero_le _, Nat.zero_le _⟩ hP hD hS [0, 1] (by decide) rfl (Eq.trans (b := [h, hc]) rfl rfl) (rfl) rfl (fun H locs hP hD hS => ?_)
        refine lv_goto (tgt := 235) hx hb dX5_turn_187 (by decide) ?_
        exact W_v hx hb hr hlk dX5_turn_235 hP hS (by unfold tur; rw [tst_5t (by omega) h_q]; rfl)
      ·
        refine cRVv (As := [.int (nI ((r / 256) % 3)), .int (nI ((r / 16) % 16)), .int (zb (r / 1024 % 2 = 0))]) (rest := []) ⟨hx, hb, hml, hown, hts⟩ (c_X1_changeService_no l G h hc u.1 u.2.1 u.2.2.1 u.2.2.2 ((r / 256) % 3) ((r / 16) % 16) (r / 1024 % 2 = 0) (by first | omega | assumption) (by first | omega | assumption) (by first | omega | assumption) (by first | omega | assumption)) (cwV 3 hts gX5_turn_X1_changeService rfl rfl rfl (by decide +kernel) ⟨Nat.le_of_ble_eq_true rfl, Nat.le_of_ble_eq_true rfl⟩) (preV_of hK hP hD [0, 1] (by decide) rfl (ci := 1) (q0 := 0) rfl rfl rfl) rfl hl.1 rfl (lv_room (Nat.le_of_ble_eq_true rfl)) dX5_turn_184 ⟨Nat.zero_le _, Nat.zero_le _⟩ ?_
        refine lv_goto (tgt := 235) hx hb dX5_turn_187 (by decide) ?_
        exact W_v hx hb hr hlk dX5_turn_235 hP hS (by unfold tur; rw [tst_5f (by omega) h_q])
  ·
    rw [show nI (r % 16) = nI 8 from congrArg nI h_h]
    refine lv_tableIn (off := 161) (tgt := 190) hx hb dX5_turn_29 (by decide) (by decide) (by decide) (by decide) ?_
    refine lv_aload_n hx hb dX5_turn_190 rfl (lv_at hl 3 rfl) ?_
    refine lv_iload_n hx hb dX5_turn_191 rfl (lv_at hl 2 rfl) ?_
    by_cases h_q : r / 16 % 16 < u.1
    ·
      refine cWV (As := [.int (nI ((r / 16) % 16))]) (rest := []) (st1 := [.int (nI 1)]) (w3 := [(h, .inr (1, [.ref hc, .int (nI u.1), .int (nI u.2.1), .int u.2.2.1])), (hc, .inl (G.2 0, 144, .inl (upd u.2.2.2 (32 + ((r / 16) % 16)) (u.2.2.2 (16 + ((r / 16) % 16))))))]) ⟨hx, hb, hml, hown, hts⟩ (c_X1_correctSign l G h hc u.1 u.2.1 u.2.2.1 u.2.2.2 ((r / 16) % 16) (by first | omega | assumption) (by first | omega | assumption)) (cwV 1 hts gX5_turn_X1_correctSign rfl rfl rfl (by decide +kernel) ⟨Nat.le_of_ble_eq_true rfl, Nat.le_of_ble_eq_true rfl⟩) (preV_of hK hP hD [0, 1] (by decide) rfl (ci := 1) (q0 := 0) rfl rfl rfl) rfl hl.1 rfl (lv_room (Nat.le_of_ble_eq_true rfl)) dX5_turn_192 ⟨Nat.zero_le _, Nat.zero_le _⟩ hP hD hS [0, 1] (by decide) rfl (Eq.trans (b := [h, hc]) rfl rfl) (rfl) rfl (fun H locs hP hD hS => ?_)
      refine lv_pop hx hb dX5_turn_195 rfl ?_
      refine lv_goto (tgt := 235) hx hb dX5_turn_196 (by decide) ?_
      exact W_v hx hb hr hlk dX5_turn_235 hP hS (by unfold tur; rw [tst_6t (by omega) h_q]; rfl)
    ·
      refine cRV (As := [.int (nI ((r / 16) % 16))]) (rest := []) (v := .int (nI 0)) ⟨hx, hb, hml, hown, hts⟩ (c_X1_correctSign_no l G h hc u.1 u.2.1 u.2.2.1 u.2.2.2 ((r / 16) % 16) (by first | omega | assumption) (by first | omega | assumption) (by first | omega | assumption)) (cwV 1 hts gX5_turn_X1_correctSign rfl rfl rfl (by decide +kernel) ⟨Nat.le_of_ble_eq_true rfl, Nat.le_of_ble_eq_true rfl⟩) (preV_of hK hP hD [0, 1] (by decide) rfl (ci := 1) (q0 := 0) rfl rfl rfl) rfl hl.1 rfl (lv_room (Nat.le_of_ble_eq_true rfl)) dX5_turn_192 ⟨Nat.zero_le _, Nat.zero_le _⟩ ?_
      refine lv_pop hx hb dX5_turn_195 rfl ?_
      refine lv_goto (tgt := 235) hx hb dX5_turn_196 (by decide) ?_
      exact W_v hx hb hr hlk dX5_turn_235 hP hS (by unfold tur; rw [tst_6f (by omega) h_q])
  ·
    rw [show nI (r % 16) = nI 9 from congrArg nI h_h]
    refine lv_tableIn (off := 161) (tgt := 190) hx hb dX5_turn_29 (by decide) (by decide) (by decide) (by decide) ?_
    refine lv_aload_n hx hb dX5_turn_190 rfl (lv_at hl 3 rfl) ?_
    refine lv_iload_n hx hb dX5_turn_191 rfl (lv_at hl 2 rfl) ?_
    by_cases h_q : r / 16 % 16 < u.1
    ·
      refine cWV (As := [.int (nI ((r / 16) % 16))]) (rest := []) (st1 := [.int (nI 1)]) (w3 := [(h, .inr (1, [.ref hc, .int (nI u.1), .int (nI u.2.1), .int u.2.2.1])), (hc, .inl (G.2 0, 144, .inl (upd u.2.2.2 (32 + ((r / 16) % 16)) (u.2.2.2 (16 + ((r / 16) % 16))))))]) ⟨hx, hb, hml, hown, hts⟩ (c_X1_correctSign l G h hc u.1 u.2.1 u.2.2.1 u.2.2.2 ((r / 16) % 16) (by first | omega | assumption) (by first | omega | assumption)) (cwV 1 hts gX5_turn_X1_correctSign rfl rfl rfl (by decide +kernel) ⟨Nat.le_of_ble_eq_true rfl, Nat.le_of_ble_eq_true rfl⟩) (preV_of hK hP hD [0, 1] (by decide) rfl (ci := 1) (q0 := 0) rfl rfl rfl) rfl hl.1 rfl (lv_room (Nat.le_of_ble_eq_true rfl)) dX5_turn_192 ⟨Nat.zero_le _, Nat.zero_le _⟩ hP hD hS [0, 1] (by decide) rfl (Eq.trans (b := [h, hc]) rfl rfl) (rfl) rfl (fun H locs hP hD hS => ?_)
      refine lv_pop hx hb dX5_turn_195 rfl ?_
      refine lv_goto (tgt := 235) hx hb dX5_turn_196 (by decide) ?_
      exact W_v hx hb hr hlk dX5_turn_235 hP hS (by unfold tur; rw [tst_6t (by omega) h_q]; rfl)
    ·
      refine cRV (As := [.int (nI ((r / 16) % 16))]) (rest := []) (v := .int (nI 0)) ⟨hx, hb, hml, hown, hts⟩ (c_X1_correctSign_no l G h hc u.1 u.2.1 u.2.2.1 u.2.2.2 ((r / 16) % 16) (by first | omega | assumption) (by first | omega | assumption) (by first | omega | assumption)) (cwV 1 hts gX5_turn_X1_correctSign rfl rfl rfl (by decide +kernel) ⟨Nat.le_of_ble_eq_true rfl, Nat.le_of_ble_eq_true rfl⟩) (preV_of hK hP hD [0, 1] (by decide) rfl (ci := 1) (q0 := 0) rfl rfl rfl) rfl hl.1 rfl (lv_room (Nat.le_of_ble_eq_true rfl)) dX5_turn_192 ⟨Nat.zero_le _, Nat.zero_le _⟩ ?_
      refine lv_pop hx hb dX5_turn_195 rfl ?_
      refine lv_goto (tgt := 235) hx hb dX5_turn_196 (by decide) ?_
      exact W_v hx hb hr hlk dX5_turn_235 hP hS (by unfold tur; rw [tst_6f (by omega) h_q])
  ·
    rw [show nI (r % 16) = nI 10 from congrArg nI h_h]
    refine lv_tableIn (off := 161) (tgt := 190) hx hb dX5_turn_29 (by decide) (by decide) (by decide) (by decide) ?_
    refine lv_aload_n hx hb dX5_turn_190 rfl (lv_at hl 3 rfl) ?_
    refine lv_iload_n hx hb dX5_turn_191 rfl (lv_at hl 2 rfl) ?_
    by_cases h_q : r / 16 % 16 < u.1
    ·
      refine cWV (As := [.int (nI ((r / 16) % 16))]) (rest := []) (st1 := [.int (nI 1)]) (w3 := [(h, .inr (1, [.ref hc, .int (nI u.1), .int (nI u.2.1), .int u.2.2.1])), (hc, .inl (G.2 0, 144, .inl (upd u.2.2.2 (32 + ((r / 16) % 16)) (u.2.2.2 (16 + ((r / 16) % 16))))))]) ⟨hx, hb, hml, hown, hts⟩ (c_X1_correctSign l G h hc u.1 u.2.1 u.2.2.1 u.2.2.2 ((r / 16) % 16) (by first | omega | assumption) (by first | omega | assumption)) (cwV 1 hts gX5_turn_X1_correctSign rfl rfl rfl (by decide +kernel) ⟨Nat.le_of_ble_eq_true rfl, Nat.le_of_ble_eq_true rfl⟩) (preV_of hK hP hD [0, 1] (by decide) rfl (ci := 1) (q0 := 0) rfl rfl rfl) rfl hl.1 rfl (lv_room (Nat.le_of_ble_eq_true rfl)) dX5_turn_192 ⟨Nat.zero_le _, Nat.zero_le _⟩ hP hD hS [0, 1] (by decide) rfl (Eq.trans (b := [h, hc]) rfl rfl) (rfl) rfl (fun H locs hP hD hS => ?_)
      refine lv_pop hx hb dX5_turn_195 rfl ?_
      refine lv_goto (tgt := 235) hx hb dX5_turn_196 (by decide) ?_
      exact W_v hx hb hr hlk dX5_turn_235 hP hS (by unfold tur; rw [tst_6t (by omega) h_q]; rfl)
    ·
      refine cRV (As := [.int (nI ((r / 16) % 16))]) (rest := []) (v := .int (nI 0)) ⟨hx, hb, hml, hown, hts⟩ (c_X1_correctSign_no l G h hc u.1 u.2.1 u.2.2.1 u.2.2.2 ((r / 16) % 16) (by first | omega | assumption) (by first | omega | assumption) (by first | omega | assumption)) (cwV 1 hts gX5_turn_X1_correctSign rfl rfl rfl (by decide +kernel) ⟨Nat.le_of_ble_eq_true rfl, Nat.le_of_ble_eq_true rfl⟩) (preV_of hK hP hD [0, 1] (by decide) rfl (ci := 1) (q0 := 0) rfl rfl rfl) rfl hl.1 rfl (lv_room (Nat.le_of_ble_eq_true rfl)) dX5_turn_192 ⟨Nat.zero_le _, Nat.zero_le _⟩ ?_
      refine lv_pop hx hb dX5_turn_195 rfl ?_
      refine lv_goto (tgt := 235) hx hb dX5_turn_196 (by decide) ?_
      exact W_v hx hb hr hlk dX5_turn_235 hP hS (by unfold tur; rw [tst_6f (by omega) h_q])
  ·
    rw [show nI (r % 16) = nI 11 from congrArg nI h_h]
    refine lv_tableIn (off := 170) (tgt := 199) hx hb dX5_turn_29 (by decide) (by decide) (by decide) (by decide) ?_
    refine lv_aload_n hx hb dX5_turn_199 rfl (lv_at hl 3 rfl) ?_
    refine lv_iload hx hb dX5_turn_200 (lv_at hl 0 rfl) ?_
    refine cWV (As := [.int (nI ((r / 256) % 3))]) (rest := []) (st1 := [.int (nI 1)]) (w3 := [(h, .inr (1, [.ref hc, .int (nI u.1), .int (nI u.2.1), .int u.2.2.1])), (hc, .inl (G.2 0, 144, .inl (ccar u.2.2.2 ((r / 256) % 3) u.1)))]) ⟨hx, hb, hml, hown, hts⟩ (c_X1_correctCar l G h hc u.1 u.2.1 u.2.2.1 u.2.2.2 ((r / 256) % 3) (by first | omega | assumption) (by first | omega | assumption)) (cwV 1 hts gX5_turn_X1_correctCar rfl rfl rfl (by decide +kernel) ⟨Nat.le_of_ble_eq_true rfl, Nat.le_of_ble_eq_true rfl⟩) (preV_of hK hP hD [0, 1] (by decide) rfl (ci := 1) (q0 := 0) rfl rfl rfl) rfl hl.1 rfl (lv_room (Nat.le_of_ble_eq_true rfl)) dX5_turn_202 ⟨Nat.zero_le _, Nat.zero_le _⟩ hP hD hS [0, 1] (by decide) rfl (Eq.trans (b := [h, hc]) rfl rfl) (rfl) rfl (fun H locs hP hD hS => ?_)
    refine lv_pop hx hb dX5_turn_205 rfl ?_
    refine lv_goto (tgt := 235) hx hb dX5_turn_206 (by decide) ?_
    exact W_v hx hb hr hlk dX5_turn_235 hP hS (by unfold tur; rw [tst_7 (by omega)]; rfl)
  ·
    rw [show nI (r % 16) = nI 12 from congrArg nI h_h]
    refine lv_tableIn (off := 180) (tgt := 209) hx hb dX5_turn_29 (by decide) (by decide) (by decide) (by decide) ?_
    refine lv_aload_n hx hb dX5_turn_209 rfl (lv_at hl 3 rfl) ?_
    refine lv_iload hx hb dX5_turn_210 (lv_at hl 0 rfl) ?_
    refine lv_iload_n hx hb dX5_turn_212 rfl (lv_at hl 2 rfl) ?_
    refine lv_iload_n hx hb dX5_turn_213 rfl (lv_at hl 4 rfl) ?_
    refine lv_sipush (v := nI 1024) hx hb dX5_turn_214 (by decide) ?_
    refine nv_idiv hx hb ⟨by omega, by omega, by omega⟩ dX5_turn_217 ?_
    refine lv_bipush (v := nI 16) hx hb dX5_turn_218 (by decide) ?_
    refine nv_irem hx hb ⟨by omega, by omega, by omega⟩ dX5_turn_220 ?_
    by_cases h_q : r / 16 % 16 < u.1 ∧ r / 1024 % 16 < u.1
    ·
      refine cWV (As := [.int (nI ((r / 256) % 3)), .int (nI ((r / 16) % 16)), .int (nI ((r / 1024) % 16))]) (rest := []) (st1 := []) (w3 := [(h, .inr (1, [.ref hc, .int (nI u.1), .int (nI u.2.1), .int u.2.2.1])), (hc, .inl (G.2 0, 144, .inl (swp u.2.2.2 ((3 + ((r / 256) % 3)) * 16 + ((r / 16) % 16)) ((3 + ((r / 256) % 3)) * 16 + ((r / 1024) % 16)))))]) ⟨hx, hb, hml, hown, hts⟩ (c_X1_swapButtons l G h hc u.1 u.2.1 u.2.2.1 u.2.2.2 ((r / 256) % 3) ((r / 16) % 16) ((r / 1024) % 16) (by first | omega | assumption) (by first | omega | assumption) (by first | omega | assumption) (by first | omega | assumption)) (cwV 3 hts gX5_turn_X1_swapButtons rfl rfl rfl (by decide +kernel) ⟨Nat.le_of_ble_eq_true rfl, Nat.le_of_ble_eq_true rfl⟩) (preV_of hK hP hD [0, 1] (by decide) rfl (ci := 1) (q0 := 0) rfl rfl rfl) rfl hl.1 rfl (lv_room (Nat.le_of_ble_eq_true rfl)) dX5_turn_221 ⟨Nat.zero_le _, Nat.zero_le _⟩ hP hD hS [0, 1] (by decide) rfl (Eq.trans (b := [h, hc]) rfl rfl) (rfl) rfl (fun H locs hP hD hS => ?_)
      refine lv_goto (tgt := 235) hx hb dX5_turn_224 (by decide) ?_
      exact W_v hx hb hr hlk dX5_turn_235 hP hS (by unfold tur; rw [tst_8t (by omega) h_q]; rfl)
    ·
      refine cRVv (As := [.int (nI ((r / 256) % 3)), .int (nI ((r / 16) % 16)), .int (nI ((r / 1024) % 16))]) (rest := []) ⟨hx, hb, hml, hown, hts⟩ (c_X1_swapButtons_no l G h hc u.1 u.2.1 u.2.2.1 u.2.2.2 ((r / 256) % 3) ((r / 16) % 16) ((r / 1024) % 16) (by first | omega | assumption) (by first | omega | assumption) (by first | omega | assumption) (by first | omega | assumption) (by first | omega | assumption)) (cwV 3 hts gX5_turn_X1_swapButtons rfl rfl rfl (by decide +kernel) ⟨Nat.le_of_ble_eq_true rfl, Nat.le_of_ble_eq_true rfl⟩) (preV_of hK hP hD [0, 1] (by decide) rfl (ci := 1) (q0 := 0) rfl rfl rfl) rfl hl.1 rfl (lv_room (Nat.le_of_ble_eq_true rfl)) dX5_turn_221 ⟨Nat.zero_le _, Nat.zero_le _⟩ ?_
      refine lv_goto (tgt := 235) hx hb dX5_turn_224 (by decide) ?_
      exact W_v hx hb hr hlk dX5_turn_235 hP hS (by unfold tur; rw [tst_8f (by omega) h_q])
  ·
    rw [show nI (r % 16) = nI 13 from congrArg nI h_h]
    refine lv_tableOut (tgt := 227) hx hb dX5_turn_29 (by decide) (by decide) ?_
    refine lv_aload_n hx hb dX5_turn_227 rfl (lv_at hl 3 rfl) ?_
    refine lv_iload hx hb dX5_turn_228 (lv_at hl 0 rfl) ?_
    refine lv_iload_n hx hb dX5_turn_230 rfl (lv_at hl 2 rfl) ?_
    by_cases h_q : r / 16 % 16 < u.1
    ·
      refine cWV (As := [.int (nI ((r / 256) % 3)), .int (nI ((r / 16) % 16))]) (rest := []) (st1 := [.int (nI 1)]) (w3 := [(h, .inr (1, [.ref hc, .int (nI u.1), .int (nI u.2.1), .int u.2.2.1])), (hc, .inl (G.2 0, 144, .inl (upd u.2.2.2 ((3 + ((r / 256) % 3)) * 16 + ((r / 16) % 16)) (u.2.2.2 (16 + ((r / 16) % 16))))))]) ⟨hx, hb, hml, hown, hts⟩ (c_X1_correctButton l G h hc u.1 u.2.1 u.2.2.1 u.2.2.2 ((r / 256) % 3) ((r / 16) % 16) (by first | omega | assumption) (by first | omega | assumption) (by first | omega | assumption)) (cwV 2 hts gX5_turn_X1_correctButton rfl rfl rfl (by decide +kernel) ⟨Nat.le_of_ble_eq_true rfl, Nat.le_of_ble_eq_true rfl⟩) (preV_of hK hP hD [0, 1] (by decide) rfl (ci := 1) (q0 := 0) rfl rfl rfl) rfl hl.1 rfl (lv_room (Nat.le_of_ble_eq_true rfl)) dX5_turn_231 ⟨Nat.zero_le _, Nat.zero_le _⟩ hP hD hS [0, 1] (by decide) rfl (Eq.trans (b := [h, hc]) rfl rfl) (rfl) rfl (fun H locs hP hD hS => ?_)
      refine lv_pop hx hb dX5_turn_234 rfl ?_
      exact W_v hx hb hr hlk dX5_turn_235 hP hS (by unfold tur; rw [tst_9t (by omega) h_q]; rfl)
    ·
      refine cRV (As := [.int (nI ((r / 256) % 3)), .int (nI ((r / 16) % 16))]) (rest := []) (v := .int (nI 0)) ⟨hx, hb, hml, hown, hts⟩ (c_X1_correctButton_no l G h hc u.1 u.2.1 u.2.2.1 u.2.2.2 ((r / 256) % 3) ((r / 16) % 16) (by first | omega | assumption) (by first | omega | assumption) (by first | omega | assumption) (by first | omega | assumption)) (cwV 2 hts gX5_turn_X1_correctButton rfl rfl rfl (by decide +kernel) ⟨Nat.le_of_ble_eq_true rfl, Nat.le_of_ble_eq_true rfl⟩) (preV_of hK hP hD [0, 1] (by decide) rfl (ci := 1) (q0 := 0) rfl rfl rfl) rfl hl.1 rfl (lv_room (Nat.le_of_ble_eq_true rfl)) dX5_turn_231 ⟨Nat.zero_le _, Nat.zero_le _⟩ ?_
      refine lv_pop hx hb dX5_turn_234 rfl ?_
      exact W_v hx hb hr hlk dX5_turn_235 hP hS (by unfold tur; rw [tst_9f (by omega) h_q])
  ·
    rw [show nI (r % 16) = nI 14 from congrArg nI h_h]
    refine lv_tableOut (tgt := 227) hx hb dX5_turn_29 (by decide) (by decide) ?_
    refine lv_aload_n hx hb dX5_turn_227 rfl (lv_at hl 3 rfl) ?_
    refine lv_iload hx hb dX5_turn_228 (lv_at hl 0 rfl) ?_
    refine lv_iload_n hx hb dX5_turn_230 rfl (lv_at hl 2 rfl) ?_
    by_cases h_q : r / 16 % 16 < u.1
    ·
      refine cWV (As := [.int (nI ((r / 256) % 3)), .int (nI ((r / 16) % 16))]) (rest := []) (st1 := [.int (nI 1)]) (w3 := [(h, .inr (1, [.ref hc, .int (nI u.1), .int (nI u.2.1), .int u.2.2.1])), (hc, .inl (G.2 0, 144, .inl (upd u.2.2.2 ((3 + ((r / 256) % 3)) * 16 + ((r / 16) % 16)) (u.2.2.2 (16 + ((r / 16) % 16))))))]) ⟨hx, hb, hml, hown, hts⟩ (c_X1_correctButton l G h hc u.1 u.2.1 u.2.2.1 u.2.2.2 ((r / 256) % 3) ((r / 16) % 16) (by first | omega | assumption) (by first | omega | assumption) (by first | omega | assumption)) (cwV 2 hts gX5_turn_X1_correctButton rfl rfl rfl (by decide +kernel) ⟨Nat.le_of_ble_eq_true rfl, Nat.le_of_ble_eq_true rfl⟩) (preV_of hK hP hD [0, 1] (by decide) rfl (ci := 1) (q0 := 0) rfl rfl rfl) rfl hl.1 rfl (lv_room (Nat.le_of_ble_eq_true rfl)) dX5_turn_231 ⟨Nat.zero_le _, Nat.zero_le _⟩ hP hD hS [0, 1] (by decide) rfl (Eq.trans (b := [h, hc]) rfl rfl) (rfl) rfl (fun H locs hP hD hS => ?_)
      refine lv_pop hx hb dX5_turn_234 rfl ?_
      exact W_v hx hb hr hlk dX5_turn_235 hP hS (by unfold tur; rw [tst_9t (by omega) h_q]; rfl)
    ·
      refine cRV (As := [.int (nI ((r / 256) % 3)), .int (nI ((r / 16) % 16))]) (rest := []) (v := .int (nI 0)) ⟨hx, hb, hml, hown, hts⟩ (c_X1_correctButton_no l G h hc u.1 u.2.1 u.2.2.1 u.2.2.2 ((r / 256) % 3) ((r / 16) % 16) (by first | omega | assumption) (by first | omega | assumption) (by first | omega | assumption) (by first | omega | assumption)) (cwV 2 hts gX5_turn_X1_correctButton rfl rfl rfl (by decide +kernel) ⟨Nat.le_of_ble_eq_true rfl, Nat.le_of_ble_eq_true rfl⟩) (preV_of hK hP hD [0, 1] (by decide) rfl (ci := 1) (q0 := 0) rfl rfl rfl) rfl hl.1 rfl (lv_room (Nat.le_of_ble_eq_true rfl)) dX5_turn_231 ⟨Nat.zero_le _, Nat.zero_le _⟩ ?_
      refine lv_pop hx hb dX5_turn_234 rfl ?_
      exact W_v hx hb hr hlk dX5_turn_235 hP hS (by unfold tur; rw [tst_9f (by omega) h_q])
  ·
    rw [show nI (r % 16) = nI 15 from congrArg nI h_h]
    refine lv_tableOut (tgt := 227) hx hb dX5_turn_29 (by decide) (by decide) ?_
    refine lv_aload_n hx hb dX5_turn_227 rfl (lv_at hl 3 rfl) ?_
    refine lv_iload hx hb dX5_turn_228 (lv_at hl 0 rfl) ?_
    refine lv_iload_n hx hb dX5_turn_230 rfl (lv_at hl 2 rfl) ?_
    by_cases h_q : r / 16 % 16 < u.1
    ·
      refine cWV (As := [.int (nI ((r / 256) % 3)), .int (nI ((r / 16) % 16))]) (rest := []) (st1 := [.int (nI 1)]) (w3 := [(h, .inr (1, [.ref hc, .int (nI u.1), .int (nI u.2.1), .int u.2.2.1])), (hc, .inl (G.2 0, 144, .inl (upd u.2.2.2 ((3 + ((r / 256) % 3)) * 16 + ((r / 16) % 16)) (u.2.2.2 (16 + ((r / 16) % 16))))))]) ⟨hx, hb, hml, hown, hts⟩ (c_X1_correctButton l G h hc u.1 u.2.1 u.2.2.1 u.2.2.2 ((r / 256) % 3) ((r / 16) % 16) (by first | omega | assumption) (by first | omega | assumption) (by first | omega | assumption)) (cwV 2 hts gX5_turn_X1_correctButton rfl rfl rfl (by decide +kernel) ⟨Nat.le_of_ble_eq_true rfl, Nat.le_of_ble_eq_true rfl⟩) (preV_of hK hP hD [0, 1] (by decide) rfl (ci := 1) (q0 := 0) rfl rfl rfl) rfl hl.1 rfl (lv_room (Nat.le_of_ble_eq_true rfl)) dX5_turn_231 ⟨Nat.zero_le _, Nat.zero_le _⟩ hP hD hS [0, 1] (by decide) rfl (Eq.trans (b := [h, hc]) rfl rfl) (rfl) rfl (fun H locs hP hD hS => ?_)
      refine lv_pop hx hb dX5_turn_234 rfl ?_
      exact W_v hx hb hr hlk dX5_turn_235 hP hS (by unfold tur; rw [tst_9t (by omega) h_q]; rfl)
    ·
      refine cRV (As := [.int (nI ((r / 256) % 3)), .int (nI ((r / 16) % 16))]) (rest := []) (v := .int (nI 0)) ⟨hx, hb, hml, hown, hts⟩ (c_X1_correctButton_no l G h hc u.1 u.2.1 u.2.2.1 u.2.2.2 ((r / 256) % 3) ((r / 16) % 16) (by first | omega | assumption) (by first | omega | assumption) (by first | omega | assumption) (by first | omega | assumption)) (cwV 2 hts gX5_turn_X1_correctButton rfl rfl rfl (by decide +kernel) ⟨Nat.le_of_ble_eq_true rfl, Nat.le_of_ble_eq_true rfl⟩) (preV_of hK hP hD [0, 1] (by decide) rfl (ci := 1) (q0 := 0) rfl rfl rfl) rfl hl.1 rfl (lv_room (Nat.le_of_ble_eq_true rfl)) dX5_turn_231 ⟨Nat.zero_le _, Nat.zero_le _⟩ ?_
      refine lv_pop hx hb dX5_turn_234 rfl ?_
      exact W_v hx hb hr hlk dX5_turn_235 hP hS (by unfold tur; rw [tst_9f (by omega) h_q])

set_option maxHeartbeats 4000000 in
set_option maxRecDepth 100000 in
theorem c_X5_run (l : Launch) (G : GG) (h : Nat) (hc : Nat) (u : HS) (sx : Int64) (tn : Nat) (h_u : hOK u) (h_m : tn ≤ 80) : Met l yX5_run wsX5_run ({ frames := 5, cells := 0, slots := 0, locals := 116 } : Room) (va_Pc [.ref h, .long sx, .int (nI tn)] (PB G [(h, .inr (1, [.ref hc, .int (nI u.1), .int (nI u.2.1), .int u.2.2.1])), (hc, .inl (G.2 0, 144, .inl u.2.2.2))])) (QW G (none) [(h, .inr (1, [.ref hc, .int (nI ((smu sx u tn).1)), .int (nI ((smu sx u tn).2.1)), .int ((smu sx u tn).2.2.1)])), (hc, .inl (G.2 0, 144, .inl ((smu sx u tn).2.2.2)))] (vA [(h, .inr (1, [.ref hc, .int (nI u.1), .int (nI u.2.1), .int u.2.2.1])), (hc, .inl (G.2 0, 144, .inl u.2.2.2))])) 0 0 (vA [(h, .inr (1, [.ref hc, .int (nI u.1), .int (nI u.2.1), .int u.2.2.1])), (hc, .inl (G.2 0, 144, .inl u.2.2.2))]) := by
  refine Met.go (cc := cX5_run) (maxL := 7) (ret := none) (by decide) rfl (Nat.le_of_ble_eq_true rfl) ?_
  intro p e s m below meth c ls hx hb hr hml hown hts hlk hP hK hD hS hl
  have hown : s.vm.findClass RX5 = some m.cls := hown
  have hl : lv_has ls 7 [(0, .ref h), (1, .long sx), (3, .int (nI tn))] := hl
  refine lv_lload_n hx hb dX5_run_0 rfl (lv_at hl 1 rfl) ?_
  refine lv_lstore (lv' := [(4, .long sx), (0, .ref h), (1, .long sx), (3, .int (nI tn))]) hx hb dX5_run_1 hl (by decide) rfl (fun ls hl => ?_)
  refine lv_iconst (v := nI 0) hx hb dX5_run_3 (by decide) ?_
  refine lv_istore (lv' := [(6, .int (nI 0)), (4, .long sx), (0, .ref h), (1, .long sx), (3, .int (nI tn))]) hx hb dX5_run_4 hl (by decide) rfl (fun ls hl => ?_)
  have loop_6 : ∀ (k_ : Nat) (i : Nat) (h_i : i ≤ tn) (_ : tn - i < k_) (H : Heap) (locs : List Loc) (_ : VP G [(h, .inr (1, [.ref hc, .int (nI ((smu sx u i).1)), .int (nI ((smu sx u i).2.1)), .int ((smu sx u i).2.2.1)])), (hc, .inl (G.2 0, 144, .inl ((smu sx u i).2.2.2)))] H) (_ : va_D (vA [(h, .inr (1, [.ref hc, .int (nI u.1), .int (nI u.2.1), .int u.2.2.1])), (hc, .inl (G.2 0, 144, .inl u.2.2.2))]) [(h, .inr (1, [.ref hc, .int (nI ((smu sx u i).1)), .int (nI ((smu sx u i).2.1)), .int ((smu sx u i).2.2.1)])), (hc, .inl (G.2 0, 144, .inl ((smu sx u i).2.2.2)))]) (_ : va_S (vA [(h, .inr (1, [.ref hc, .int (nI u.1), .int (nI u.2.1), .int u.2.2.1])), (hc, .inl (G.2 0, 144, .inl u.2.2.2))]) s.heap H locs) (ls : Array Slot), lv_has ls 7 [(6, .int (nI i)), (4, .long (lcx sx i)), (0, .ref h), (1, .long sx), (3, .int (nI tn))] → W p l e ({ frames := 5, cells := 0, slots := 0, locals := 116 } : Room) s m ([.ref h, .long sx, .int (nI tn)] : List Value).toArray below meth c H locs 0 0 (MQ below (QW G (none) [(h, .inr (1, [.ref hc, .int (nI ((smu sx u tn).1)), .int (nI ((smu sx u tn).2.1)), .int ((smu sx u tn).2.2.1)])), (hc, .inl (G.2 0, 144, .inl ((smu sx u tn).2.2.2)))] (vA [(h, .inr (1, [.ref hc, .int (nI u.1), .int (nI u.2.1), .int u.2.2.1])), (hc, .inl (G.2 0, 144, .inl u.2.2.2))])) ([.ref h, .long sx, .int (nI tn)] : List Value).toArray s 0 0 (vA [(h, .inr (1, [.ref hc, .int (nI u.1), .int (nI u.2.1), .int u.2.2.1])), (hc, .inl (G.2 0, 144, .inl u.2.2.2))])) (F0 m 6 ls []) := by
    intro k_
    induction k_ with
    | zero => intro i h_i hk_; exact absurd hk_ (Nat.not_lt_zero _)
    | succ k_ ih_6 =>
      intro i h_i hk_ H locs hP hD hS ls hl
      refine lv_iload hx hb dX5_run_6 (lv_at hl 0 rfl) ?_
      refine lv_iload_n hx hb dX5_run_8 rfl (lv_at hl 4 rfl) ?_
      refine bi_ge (tgt := 40) hx hb dX5_run_9 (by decide) (nI_i (by omega)) (nI_i (by omega)) (fun c_9 => ?_) (fun c_9 => ?_)
      ·
        exact W_v hx hb hr hlk dX5_run_40 hP hS (by rw [show i = tn by omega])
      ·
        refine lv_lload hx hb dX5_run_12 (lv_at hl 1 rfl) ?_
        refine lv_ldc2 (own := RX5) (v := 6364136223846793005) hx hb hown (hts (.constantLong RX5 7 (6364136223846793005)) (by decide +kernel)) dX5_run_14 ?_
        refine lv_lmul hx hb dX5_run_17 ?_
        refine lv_ldc2 (own := RX5) (v := 1442695040888963407) hx hb hown (hts (.constantLong RX5 9 (1442695040888963407)) (by decide +kernel)) dX5_run_18 ?_
        refine lv_ladd hx hb dX5_run_21 ?_
        rw [← lcx_s]
        refine lv_lstore (lv' := [(4, .long (lcx sx (i + 1))), (6, .int (nI i)), (0, .ref h), (1, .long sx), (3, .int (nI tn))]) hx hb dX5_run_22 hl (by decide) rfl (fun ls hl => ?_)
        refine lv_aload_n hx hb dX5_run_24 rfl (lv_at hl 2 rfl) ?_
        refine lv_lload hx hb dX5_run_25 (lv_at hl 0 rfl) ?_
        refine lv_bipush (v := nI 33) hx hb dX5_run_27 (by decide) ?_
        refine lv_lushr (v := ((lcx sx (i + 1)).toUInt64 >>> ((nI 33).toInt64.toUInt64 &&& Int64.toUInt64 63)).toInt64) hx hb dX5_run_29 rfl ?_
        refine lv_l2i (v := nI (rof (lcx sx (i + 1)))) hx hb dX5_run_30 (rof_i _) ?_
        refine cWS (As := [.ref h, .int (nI (rof (lcx sx (i + 1))))]) (rest := []) (st1 := []) (w3 := [(h, .inr (1, [.ref hc, .int (nI ((tur (rof (lcx sx (i + 1))) (smu sx u i)).1)), .int (nI ((tur (rof (lcx sx (i + 1))) (smu sx u i)).2.1)), .int ((tur (rof (lcx sx (i + 1))) (smu sx u i)).2.2.1)])), (hc, .inl (G.2 0, 144, .inl ((tur (rof (lcx sx (i + 1))) (smu sx u i)).2.2.2)))]) ⟨hx, hb, hml, hown, hts⟩ (c_X5_turn l G h hc (smu sx u i) (rof (lcx sx (i + 1))) (ok_smu h_u i) (rof_lt _)) (va_cwS 2 hts gX5_run_X5_turn rfl rfl rfl (by decide +kernel) ⟨Nat.le_of_ble_eq_true rfl, Nat.le_of_ble_eq_true rfl⟩) (preS_of hK hP hD [0, 1] (by decide) rfl) rfl hl.1 rfl (lv_room (Nat.le_of_ble_eq_true rfl)) dX5_run_31 ⟨Nat.zero_le _, Nat.zero_le _⟩ hP hD hS [0, 1] (by decide) rfl (Eq.trans (b := [h, hc]) rfl rfl) (rfl) rfl (fun H locs hP hD hS => ?_)
        refine lv_iinc (v := nI (i + 1)) (lv' := [(6, .int (nI (i + 1))), (4, .long (lcx sx (i + 1))), (0, .ref h), (1, .long sx), (3, .int (nI tn))]) hx hb dX5_run_34 hl (k := 1) rfl (inc_n _ 1) (by decide) rfl (fun ls hl => ?_)
        refine lv_goto (tgt := 6) hx hb dX5_run_37 (by decide) ?_
        exact ih_6 (i + 1) (by first | omega | assumption) (by omega) _ _ (by rw [smu_s]; exact hP) (by rw [smu_s]; exact hD) hS ls (lv_sub hl [0, 1, 2, 3, 4] (by rfl))
  exact loop_6 (tn - 0 + 1) 0 (by first | omega | assumption) (Nat.lt_succ_self _) _ _ hP hD hS ls (lv_sub hl [0, 1, 2, 3, 4] (by rfl))

theorem in_c_X6_runScript_X6 : ∀ w ∈ wsX60, w ∈ wsX6_runScript := by decide +kernel
set_option maxHeartbeats 4000000 in
set_option maxRecDepth 100000 in
theorem c_X6_runScript (l : Launch) (G : GG) (x : Nat) (tx : Nat) (tr : Nat) (hi : Nat) (sl : Nat) (sv : Nat) (h : Nat) (hc : Nat) (n : Nat) (g : Nat) (sk : Int32) (f : Nat → Int32) (trc : Nat) (n2 : Nat) (g2 : Nat) (sk2 : Int32) (f2 : Nat → Int32) (k : Nat) (S : Nat) (h_u : hOK (n, g, sk, f)) (h_k : 1 ≤ k ∧ k ≤ 3) (h_S : S < 10000 ^ k) : Met l yX6_runScript wsX6_runScript ({ frames := 6, cells := 0, slots := 0, locals := 141 } : Room) (va_Pc [.ref x, .int (nI k), .long (lN S)] (PB G [(x, .inr (3, [.ref tx, .ref h, .ref tr, .ref hi, .ref sl, .ref sv])), (h, .inr (1, [.ref hc, .int (nI n), .int (nI g), .int sk])), (hc, .inl (G.2 0, 144, .inl f)), (tr, .inr (1, [.ref trc, .int (nI n2), .int (nI g2), .int sk2])), (trc, .inl (G.2 0, 144, .inl f2))])) (QW G (some (.int (srr S k (n, g, sk, f) k 0))) [(x, .inr (3, [.ref tx, .ref h, .ref tr, .ref hi, .ref sl, .ref sv])), (h, .inr (1, [.ref hc, .int (nI n), .int (nI g), .int sk])), (hc, .inl (G.2 0, 144, .inl f)), (tr, .inr (1, [.ref trc, .int (nI ((sru S k (n, g, sk, f) (src S k (n, g, sk, f) k 0)).1)), .int (nI ((sru S k (n, g, sk, f) (src S k (n, g, sk, f) k 0)).2.1)), .int ((sru S k (n, g, sk, f) (src S k (n, g, sk, f) k 0)).2.2.1)])), (trc, .inl (G.2 0, 144, .inl ((sru S k (n, g, sk, f) (src S k (n, g, sk, f) k 0)).2.2.2)))] (vA [(x, .inr (3, [.ref tx, .ref h, .ref tr, .ref hi, .ref sl, .ref sv])), (h, .inr (1, [.ref hc, .int (nI n), .int (nI g), .int sk])), (hc, .inl (G.2 0, 144, .inl f)), (tr, .inr (1, [.ref trc, .int (nI n2), .int (nI g2), .int sk2])), (trc, .inl (G.2 0, 144, .inl f2))])) 0 0 (vA [(x, .inr (3, [.ref tx, .ref h, .ref tr, .ref hi, .ref sl, .ref sv])), (h, .inr (1, [.ref hc, .int (nI n), .int (nI g), .int sk])), (hc, .inl (G.2 0, 144, .inl f)), (tr, .inr (1, [.ref trc, .int (nI n2), .int (nI g2), .int sk2])), (trc, .inl (G.2 0, 144, .inl f2))]) := by
  refine Met.go (cc := cX6_runScript) (maxL := 4) (ret := (some .int)) (by decide) rfl (Nat.le_of_ble_eq_true rfl) ?_
  intro p e s m below meth c ls hx hb hr hml hown hts hlk hP hK hD hS hl
  have hown : s.vm.findClass RX6 = some m.cls := hown
  have hl : lv_has ls 4 [(0, .ref x), (1, .int (nI k)), (2, .long (lN S))] := hl
  have h_pw := pw_le h_k.2
  refine lv_iload_n hx hb dX6_runScript_0 rfl (lv_at hl 1 rfl) ?_
  refine lv_iconst (v := nI 1) hx hb dX6_runScript_1 (by decide) ?_
  refine bi_lt (tgt := 10) hx hb dX6_runScript_2 (by decide) (nI_i (by omega)) (nI_i (by omega)) (fun c_2 => False.elim (by omega)) (fun c_2 => ?_)
  refine lv_iload_n hx hb dX6_runScript_5 rfl (lv_at hl 1 rfl) ?_
  refine lv_iconst (v := nI 3) hx hb dX6_runScript_6 (by decide) ?_
  refine bi_le (tgt := 20) hx hb dX6_runScript_7 (by decide) (nI_i (by omega)) (nI_i (by omega)) (fun c_7 => ?_) (fun c_7 => False.elim (by omega))
  refine lv_lload_n hx hb dX6_runScript_20 rfl (lv_at hl 2 rfl) ?_
  refine lv_lconst (v := 0) hx hb dX6_runScript_21 rfl ?_
  refine W.lcmp hx hb dX6_runScript_22 ?_
  refine bl_lt (tgt := 35) hx hb dX6_runScript_23 (by decide) (fun c_23 => False.elim (by (rw [pk_lT (by omega)] at c_23; exact absurd c_23 (show ¬ ((S : Nat) : Int) < 0 by omega)))) (fun c_23 => ?_)
  refine lv_lload_n hx hb dX6_runScript_26 rfl (lv_at hl 2 rfl) ?_
  refine lv_iload_n hx hb dX6_runScript_27 rfl (lv_at hl 1 rfl) ?_
  refine cRS (As := [.int (nI k)]) (rest := [.long (lN S)]) (v := .long (lN (10000 ^ k))) ⟨hx, hb, hml, hown, hts⟩ (c_X4_above l G k (by first | omega | assumption)) (va_cwS 1 hts gX6_runScript_X4_above rfl rfl rfl (by decide +kernel) ⟨Nat.le_of_ble_eq_true rfl, Nat.le_of_ble_eq_true rfl⟩) (preS_of hK hP hD [] (by decide) rfl) rfl hl.1 rfl (lv_room (Nat.le_of_ble_eq_true rfl)) dX6_runScript_28 ⟨Nat.zero_le _, Nat.zero_le _⟩ ?_
  refine W.lcmp hx hb dX6_runScript_31 ?_
  refine bl_lt (tgt := 46) hx hb dX6_runScript_32 (by decide) (fun c_32 => ?_) (fun c_32 => False.elim (by (rw [pk_lT (by omega), pk_lT (by omega)] at c_32; omega)))
  refine lv_aload_n hx hb dX6_runScript_46 rfl (lv_at hl 0 rfl) ?_
  refine va_get (D := G.1) (ci := 3) (v := .ref tr) (C := RX6) (T := TX6) (N := 6) hx hb hts in_c_X6_runScript_X6 hown hK.1 hP 0 rfl rfl 2 (by decide) (hts (.fieldLink RX6 23 "FloorPanels" "trial" "LFloorPanels$House;") (by decide +kernel)) (fun _ h9 => h9) rfl dX6_runScript_47 ?_
  refine lv_aload_n hx hb dX6_runScript_50 rfl (lv_at hl 0 rfl) ?_
  refine va_get (D := G.1) (ci := 3) (v := .ref h) (C := RX6) (T := TX6) (N := 6) hx hb hts in_c_X6_runScript_X6 hown hK.1 hP 0 rfl rfl 1 (by decide) (hts (.fieldLink RX6 19 "FloorPanels" "house" "LFloorPanels$House;") (by decide +kernel)) (fun _ h9 => h9) rfl dX6_runScript_51 ?_
  refine cWV (As := [.ref h]) (rest := []) (st1 := []) (w3 := [(x, .inr (3, [.ref tx, .ref h, .ref tr, .ref hi, .ref sl, .ref sv])), (h, .inr (1, [.ref hc, .int (nI n), .int (nI g), .int sk])), (hc, .inl (G.2 0, 144, .inl f)), (tr, .inr (1, [.ref trc, .int (nI n), .int (nI g), .int sk])), (trc, .inl (G.2 0, 144, .inl f))]) ⟨hx, hb, hml, hown, hts⟩ (c_X1_copyFrom l G tr trc n2 g2 sk2 f2 h hc n g sk f ) (cwV 1 hts gX6_runScript_X1_copyFrom rfl rfl rfl (by decide +kernel) ⟨Nat.le_of_ble_eq_true rfl, Nat.le_of_ble_eq_true rfl⟩) (preV_of hK hP hD [3, 4, 1, 2] (by decide) rfl (ci := 1) (q0 := 3) rfl rfl rfl) rfl hl.1 rfl (lv_room (Nat.le_of_ble_eq_true rfl)) dX6_runScript_54 ⟨Nat.zero_le _, Nat.zero_le _⟩ hP hD hS [3, 4, 1, 2] (by decide) rfl (Eq.trans (b := [tr, trc, h, hc]) rfl rfl) (rfl) rfl (fun H locs hP hD hS => ?_)
  refine lv_aload_n hx hb dX6_runScript_57 rfl (lv_at hl 0 rfl) ?_
  refine va_get (D := G.1) (ci := 3) (v := .ref tr) (C := RX6) (T := TX6) (N := 6) hx hb hts in_c_X6_runScript_X6 hown hK.1 hP 0 rfl rfl 2 (by decide) (hts (.fieldLink RX6 23 "FloorPanels" "trial" "LFloorPanels$House;") (by decide +kernel)) (fun _ h9 => h9) rfl dX6_runScript_58 ?_
  refine lv_iload_n hx hb dX6_runScript_61 rfl (lv_at hl 1 rfl) ?_
  refine lv_lload_n hx hb dX6_runScript_62 rfl (lv_at hl 2 rfl) ?_
  refine cWS (As := [.ref tr, .int (nI k), .long (lN S)]) (rest := []) (st1 := [.int (srr S k (n, g, sk, f) k 0)]) (w3 := [(x, .inr (3, [.ref tx, .ref h, .ref tr, .ref hi, .ref sl, .ref sv])), (h, .inr (1, [.ref hc, .int (nI n), .int (nI g), .int sk])), (hc, .inl (G.2 0, 144, .inl f)), (tr, .inr (1, [.ref trc, .int (nI ((sru S k (n, g, sk, f) (src S k (n, g, sk, f) k 0)).1)), .int (nI ((sru S k (n, g, sk, f) (src S k (n, g, sk, f) k 0)).2.1)), .int ((sru S k (n, g, sk, f) (src S k (n, g, sk, f) k 0)).2.2.1)])), (trc, .inl (G.2 0, 144, .inl ((sru S k (n, g, sk, f) (src S k (n, g, sk, f) k 0)).2.2.2)))]) ⟨hx, hb, hml, hown, hts⟩ (c_X4_firstFailure l G tr trc (n, g, sk, f) k S (by first | omega | assumption) (by first | omega | assumption) (by omega)) (va_cwS 3 hts gX6_runScript_X4_firstFailure rfl rfl rfl (by decide +kernel) ⟨Nat.le_of_ble_eq_true rfl, Nat.le_of_ble_eq_true rfl⟩) (preS_of hK hP hD [3, 4] (by decide) rfl) rfl hl.1 rfl (lv_room (Nat.le_of_ble_eq_true rfl)) dX6_runScript_63 ⟨Nat.zero_le _, Nat.zero_le _⟩ hP hD hS [3, 4] (by decide) rfl (Eq.trans (b := [tr, trc]) rfl rfl) (rfl) rfl (fun H locs hP hD hS => ?_)
  exact W_i hx hb hr hlk dX6_runScript_66 hP hS (rfl) (rfl)

theorem xi_x_X6_runScript_n_IAE : ∀ w ∈ (vx_atS RX6 45 xIAE xNMS).filter goodWord, w ∈ wsX6_runScript := by decide +kernel
set_option maxHeartbeats 4000000 in
set_option maxRecDepth 100000 in
theorem x_X6_runScript_n (l : Launch) (hst : l.stackTraces = false) (G : GG) (x : Nat) (tx : Nat) (tr : Nat) (hi : Nat) (sl : Nat) (sv : Nat) (h : Nat) (y : Int32) (sx : Int64) (h_ny : ¬ (1 ≤ y.toInt ∧ y.toInt ≤ 3)) : vx_Met l yX6_runScript wsX6_runScript ({ frames := 6, cells := 1, slots := 6, locals := 82 } : Room) (va_Pc [.ref x, .int y, .long sx] (PBX G [(x, .inr (3, [.ref tx, .ref h, .ref tr, .ref hi, .ref sl, .ref sv]))])) NQ (XT xIAE) 1 6 (fun _ => False) := by
  refine Met.goX (cc := cX6_runScript) (maxL := 4) (ret := (some .int)) (by decide) rfl (Nat.le_of_ble_eq_true rfl) ?_
  intro p e s m below meth c ls hx hb hr hml hown hts hlk hnt hP hK hD hE hZ hl
  have hown : s.vm.findClass RX6 = some m.cls := hown
  have hl : lv_has ls 4 [(0, .ref x), (1, .int y), (2, .long sx)] := hl
  refine lv_iload_n hx hb dX6_runScript_0 rfl (lv_at hl 1 rfl) ?_
  refine lv_iconst (v := nI 1) hx hb dX6_runScript_1 (by decide) ?_
  refine bi_lt (tgt := 10) hx hb dX6_runScript_2 (by decide) (toI_r _) (nI_i (by omega)) (fun c_2 => ?_) (fun c_2 => ?_)
  ·
    exact X_throw (text := "a script has 1 to 3 commands") hx hb hst hown xf_IAE (hts (.classLink RX6 41 xIAE) (by decide +kernel)) (hts (.initialized xIAE) (by decide +kernel)) (hE.2.2 (254, "a script has 1 to 3 commands") (by decide +kernel)) (fun w hw => hts w (xi_x_X6_runScript_n_IAE w hw)) xa_IAE xg_IAE hE hZ (hl.1.trans hml.symm) dX6_runScript_10 dX6_runScript_13 dX6_runScript_14 dX6_runScript_16 dX6_runScript_19 hnt (Nat.le_of_ble_eq_true rfl) (Nat.le_of_ble_eq_true rfl) (Nat.le_of_ble_eq_true rfl) (Nat.le_of_ble_eq_true rfl) hlk
  ·
    refine lv_iload_n hx hb dX6_runScript_5 rfl (lv_at hl 1 rfl) ?_
    refine lv_iconst (v := nI 3) hx hb dX6_runScript_6 (by decide) ?_
    refine bi_le (tgt := 20) hx hb dX6_runScript_7 (by decide) (toI_r _) (nI_i (by omega)) (fun c_7 => False.elim (by omega)) (fun c_7 => ?_)
    exact X_throw (text := "a script has 1 to 3 commands") hx hb hst hown xf_IAE (hts (.classLink RX6 41 xIAE) (by decide +kernel)) (hts (.initialized xIAE) (by decide +kernel)) (hE.2.2 (254, "a script has 1 to 3 commands") (by decide +kernel)) (fun w hw => hts w (xi_x_X6_runScript_n_IAE w hw)) xa_IAE xg_IAE hE hZ (hl.1.trans hml.symm) dX6_runScript_10 dX6_runScript_13 dX6_runScript_14 dX6_runScript_16 dX6_runScript_19 hnt (Nat.le_of_ble_eq_true rfl) (Nat.le_of_ble_eq_true rfl) (Nat.le_of_ble_eq_true rfl) (Nat.le_of_ble_eq_true rfl) hlk

theorem xi_x_X6_runScript_s_IAE : ∀ w ∈ (vx_atS RX6 45 xIAE xNMS).filter goodWord, w ∈ wsX6_runScript := by decide +kernel
set_option maxHeartbeats 4000000 in
set_option maxRecDepth 100000 in
theorem x_X6_runScript_s (l : Launch) (hst : l.stackTraces = false) (G : GG) (x : Nat) (tx : Nat) (tr : Nat) (hi : Nat) (sl : Nat) (sv : Nat) (h : Nat) (k : Nat) (sx : Int64) (h_k : 1 ≤ k ∧ k ≤ 3) (h_ns : ¬ (0 ≤ sx.toInt ∧ sx.toInt < ((10000 ^ k : Nat) : Int))) : vx_Met l yX6_runScript wsX6_runScript ({ frames := 6, cells := 1, slots := 6, locals := 82 } : Room) (va_Pc [.ref x, .int (nI k), .long sx] (PBX G [(x, .inr (3, [.ref tx, .ref h, .ref tr, .ref hi, .ref sl, .ref sv]))])) NQ (XT xIAE) 1 6 (fun _ => False) := by
  refine Met.goX (cc := cX6_runScript) (maxL := 4) (ret := (some .int)) (by decide) rfl (Nat.le_of_ble_eq_true rfl) ?_
  intro p e s m below meth c ls hx hb hr hml hown hts hlk hnt hP hK hD hE hZ hl
  have hown : s.vm.findClass RX6 = some m.cls := hown
  have hl : lv_has ls 4 [(0, .ref x), (1, .int (nI k)), (2, .long sx)] := hl
  have h_pw := pw_le h_k.2
  refine lv_iload_n hx hb dX6_runScript_0 rfl (lv_at hl 1 rfl) ?_
  refine lv_iconst (v := nI 1) hx hb dX6_runScript_1 (by decide) ?_
  refine bi_lt (tgt := 10) hx hb dX6_runScript_2 (by decide) (nI_i (by omega)) (nI_i (by omega)) (fun c_2 => False.elim (by omega)) (fun c_2 => ?_)
  refine lv_iload_n hx hb dX6_runScript_5 rfl (lv_at hl 1 rfl) ?_
  refine lv_iconst (v := nI 3) hx hb dX6_runScript_6 (by decide) ?_
  refine bi_le (tgt := 20) hx hb dX6_runScript_7 (by decide) (nI_i (by omega)) (nI_i (by omega)) (fun c_7 => ?_) (fun c_7 => False.elim (by omega))
  refine lv_lload_n hx hb dX6_runScript_20 rfl (lv_at hl 2 rfl) ?_
  refine lv_lconst (v := 0) hx hb dX6_runScript_21 rfl ?_
  refine W.lcmp hx hb dX6_runScript_22 ?_
  refine bl_lt (tgt := 35) hx hb dX6_runScript_23 (by decide) (fun c_23 => ?_) (fun c_23 => ?_)
  ·
    exact X_throwW (text := "a command has four digits") hx hb hst hown xf_IAE (hts (.classLink RX6 41 xIAE) (by decide +kernel)) (hts (.initialized xIAE) (by decide +kernel)) (hE.2.2 (260, "a command has four digits") (by decide +kernel)) (fun w hw => hts w (xi_x_X6_runScript_s_IAE w hw)) xa_IAE xg_IAE hE hZ (hl.1.trans hml.symm) dX6_runScript_35 dX6_runScript_38 dX6_runScript_39 dX6_runScript_42 dX6_runScript_45 hnt (Nat.le_of_ble_eq_true rfl) (Nat.le_of_ble_eq_true rfl) (Nat.le_of_ble_eq_true rfl) (Nat.le_of_ble_eq_true rfl) hlk
  ·
    refine lv_lload_n hx hb dX6_runScript_26 rfl (lv_at hl 2 rfl) ?_
    refine lv_iload_n hx hb dX6_runScript_27 rfl (lv_at hl 1 rfl) ?_
    refine cRS (As := [.int (nI k)]) (rest := [.long sx]) (v := .long (lN (10000 ^ k))) ⟨hx, hb, hml, hown, hts⟩ (c_X4_above l G k (by first | omega | assumption)) (va_cwS 1 hts gX6_runScript_X4_above rfl rfl rfl (by decide +kernel) ⟨Nat.le_of_ble_eq_true rfl, Nat.le_of_ble_eq_true rfl⟩) (preS_of hK hP hD [] (by decide) rfl) rfl hl.1 rfl (lv_room (Nat.le_of_ble_eq_true rfl)) dX6_runScript_28 ⟨Nat.zero_le _, Nat.zero_le _⟩ ?_
    refine W.lcmp hx hb dX6_runScript_31 ?_
    refine bl_lt (tgt := 46) hx hb dX6_runScript_32 (by decide) (fun c_32 => False.elim (by (rw [pk_lT (by omega)] at c_32; exact h_ns ⟨c_23, c_32⟩))) (fun c_32 => ?_)
    exact X_throwW (text := "a command has four digits") hx hb hst hown xf_IAE (hts (.classLink RX6 41 xIAE) (by decide +kernel)) (hts (.initialized xIAE) (by decide +kernel)) (hE.2.2 (260, "a command has four digits") (by decide +kernel)) (fun w hw => hts w (xi_x_X6_runScript_s_IAE w hw)) xa_IAE xg_IAE hE hZ (hl.1.trans hml.symm) dX6_runScript_35 dX6_runScript_38 dX6_runScript_39 dX6_runScript_42 dX6_runScript_45 hnt (Nat.le_of_ble_eq_true rfl) (Nat.le_of_ble_eq_true rfl) (Nat.le_of_ble_eq_true rfl) (Nat.le_of_ble_eq_true rfl) hlk

theorem in_c_X6_simulate_X6 : ∀ w ∈ wsX60, w ∈ wsX6_simulate := by decide +kernel
set_option maxHeartbeats 4000000 in
set_option maxRecDepth 100000 in
theorem c_X6_simulate (l : Launch) (G : GG) (x : Nat) (tx : Nat) (tr : Nat) (hi : Nat) (sl : Nat) (sv : Nat) (h : Nat) (hc : Nat) (n : Nat) (g : Nat) (sk : Int32) (f : Nat → Int32) (trc : Nat) (n2 : Nat) (g2 : Nat) (sk2 : Int32) (f2 : Nat → Int32) (sx : Int64) (tn : Nat) (h_u : hOK (n, g, sk, f)) (h_m : 1 ≤ tn ∧ tn ≤ 80) : Met l yX6_simulate wsX6_simulate ({ frames := 6, cells := 0, slots := 0, locals := 142 } : Room) (va_Pc [.ref x, .long sx, .int (nI tn)] (PB G [(x, .inr (3, [.ref tx, .ref h, .ref tr, .ref hi, .ref sl, .ref sv])), (h, .inr (1, [.ref hc, .int (nI n), .int (nI g), .int sk])), (hc, .inl (G.2 0, 144, .inl f)), (tr, .inr (1, [.ref trc, .int (nI n2), .int (nI g2), .int sk2])), (trc, .inl (G.2 0, 144, .inl f2))])) (QW G (some (.int (nI (1000 * tw (smu sx (n, g, sk, f) tn).2.2.2 (smu sx (n, g, sk, f) tn).1 + (smu sx (n, g, sk, f) tn).1)))) [(x, .inr (3, [.ref tx, .ref h, .ref tr, .ref hi, .ref sl, .ref sv])), (h, .inr (1, [.ref hc, .int (nI n), .int (nI g), .int sk])), (hc, .inl (G.2 0, 144, .inl f)), (tr, .inr (1, [.ref trc, .int (nI ((smu sx (n, g, sk, f) tn).1)), .int (nI ((smu sx (n, g, sk, f) tn).2.1)), .int ((smu sx (n, g, sk, f) tn).2.2.1)])), (trc, .inl (G.2 0, 144, .inl ((smu sx (n, g, sk, f) tn).2.2.2)))] (vA [(x, .inr (3, [.ref tx, .ref h, .ref tr, .ref hi, .ref sl, .ref sv])), (h, .inr (1, [.ref hc, .int (nI n), .int (nI g), .int sk])), (hc, .inl (G.2 0, 144, .inl f)), (tr, .inr (1, [.ref trc, .int (nI n2), .int (nI g2), .int sk2])), (trc, .inl (G.2 0, 144, .inl f2))])) 0 0 (vA [(x, .inr (3, [.ref tx, .ref h, .ref tr, .ref hi, .ref sl, .ref sv])), (h, .inr (1, [.ref hc, .int (nI n), .int (nI g), .int sk])), (hc, .inl (G.2 0, 144, .inl f)), (tr, .inr (1, [.ref trc, .int (nI n2), .int (nI g2), .int sk2])), (trc, .inl (G.2 0, 144, .inl f2))]) := by
  refine Met.go (cc := cX6_simulate) (maxL := 4) (ret := (some .int)) (by decide) rfl (Nat.le_of_ble_eq_true rfl) ?_
  intro p e s m below meth c ls hx hb hr hml hown hts hlk hP hK hD hS hl
  have hown : s.vm.findClass RX6 = some m.cls := hown
  have hl : lv_has ls 4 [(0, .ref x), (1, .long sx), (3, .int (nI tn))] := hl
  refine lv_iload_n hx hb dX6_simulate_0 rfl (lv_at hl 2 rfl) ?_
  refine lv_iconst (v := nI 1) hx hb dX6_simulate_1 (by decide) ?_
  refine bi_lt (tgt := 11) hx hb dX6_simulate_2 (by decide) (nI_i (by omega)) (nI_i (by omega)) (fun c_2 => False.elim (by omega)) (fun c_2 => ?_)
  refine lv_iload_n hx hb dX6_simulate_5 rfl (lv_at hl 2 rfl) ?_
  refine lv_bipush (v := nI 80) hx hb dX6_simulate_6 (by decide) ?_
  refine bi_le (tgt := 22) hx hb dX6_simulate_8 (by decide) (nI_i (by omega)) (nI_i (by omega)) (fun c_8 => ?_) (fun c_8 => False.elim (by omega))
  refine lv_aload_n hx hb dX6_simulate_22 rfl (lv_at hl 0 rfl) ?_
  refine va_get (D := G.1) (ci := 3) (v := .ref tr) (C := RX6) (T := TX6) (N := 6) hx hb hts in_c_X6_simulate_X6 hown hK.1 hP 0 rfl rfl 2 (by decide) (hts (.fieldLink RX6 23 "FloorPanels" "trial" "LFloorPanels$House;") (by decide +kernel)) (fun _ h9 => h9) rfl dX6_simulate_23 ?_
  refine lv_aload_n hx hb dX6_simulate_26 rfl (lv_at hl 0 rfl) ?_
  refine va_get (D := G.1) (ci := 3) (v := .ref h) (C := RX6) (T := TX6) (N := 6) hx hb hts in_c_X6_simulate_X6 hown hK.1 hP 0 rfl rfl 1 (by decide) (hts (.fieldLink RX6 19 "FloorPanels" "house" "LFloorPanels$House;") (by decide +kernel)) (fun _ h9 => h9) rfl dX6_simulate_27 ?_
  refine cWV (As := [.ref h]) (rest := []) (st1 := []) (w3 := [(x, .inr (3, [.ref tx, .ref h, .ref tr, .ref hi, .ref sl, .ref sv])), (h, .inr (1, [.ref hc, .int (nI n), .int (nI g), .int sk])), (hc, .inl (G.2 0, 144, .inl f)), (tr, .inr (1, [.ref trc, .int (nI n), .int (nI g), .int sk])), (trc, .inl (G.2 0, 144, .inl f))]) ⟨hx, hb, hml, hown, hts⟩ (c_X1_copyFrom l G tr trc n2 g2 sk2 f2 h hc n g sk f ) (cwV 1 hts gX6_simulate_X1_copyFrom rfl rfl rfl (by decide +kernel) ⟨Nat.le_of_ble_eq_true rfl, Nat.le_of_ble_eq_true rfl⟩) (preV_of hK hP hD [3, 4, 1, 2] (by decide) rfl (ci := 1) (q0 := 3) rfl rfl rfl) rfl hl.1 rfl (lv_room (Nat.le_of_ble_eq_true rfl)) dX6_simulate_30 ⟨Nat.zero_le _, Nat.zero_le _⟩ hP hD hS [3, 4, 1, 2] (by decide) rfl (Eq.trans (b := [tr, trc, h, hc]) rfl rfl) (rfl) rfl (fun H locs hP hD hS => ?_)
  refine lv_aload_n hx hb dX6_simulate_33 rfl (lv_at hl 0 rfl) ?_
  refine va_get (D := G.1) (ci := 3) (v := .ref tr) (C := RX6) (T := TX6) (N := 6) hx hb hts in_c_X6_simulate_X6 hown hK.1 hP 0 rfl rfl 2 (by decide) (hts (.fieldLink RX6 23 "FloorPanels" "trial" "LFloorPanels$House;") (by decide +kernel)) (fun _ h9 => h9) rfl dX6_simulate_34 ?_
  refine lv_lload_n hx hb dX6_simulate_37 rfl (lv_at hl 1 rfl) ?_
  refine lv_iload_n hx hb dX6_simulate_38 rfl (lv_at hl 2 rfl) ?_
  refine cWS (As := [.ref tr, .long sx, .int (nI tn)]) (rest := []) (st1 := []) (w3 := [(x, .inr (3, [.ref tx, .ref h, .ref tr, .ref hi, .ref sl, .ref sv])), (h, .inr (1, [.ref hc, .int (nI n), .int (nI g), .int sk])), (hc, .inl (G.2 0, 144, .inl f)), (tr, .inr (1, [.ref trc, .int (nI ((smu sx (n, g, sk, f) tn).1)), .int (nI ((smu sx (n, g, sk, f) tn).2.1)), .int ((smu sx (n, g, sk, f) tn).2.2.1)])), (trc, .inl (G.2 0, 144, .inl ((smu sx (n, g, sk, f) tn).2.2.2)))]) ⟨hx, hb, hml, hown, hts⟩ (c_X5_run l G tr trc (n, g, sk, f) sx tn (by first | omega | assumption) (by first | omega | assumption)) (va_cwS 3 hts gX6_simulate_X5_run rfl rfl rfl (by decide +kernel) ⟨Nat.le_of_ble_eq_true rfl, Nat.le_of_ble_eq_true rfl⟩) (preS_of hK hP hD [3, 4] (by decide) rfl) rfl hl.1 rfl (lv_room (Nat.le_of_ble_eq_true rfl)) dX6_simulate_39 ⟨Nat.zero_le _, Nat.zero_le _⟩ hP hD hS [3, 4] (by decide) rfl (Eq.trans (b := [tr, trc]) rfl rfl) (rfl) rfl (fun H locs hP hD hS => ?_)
  refine lv_sipush (v := nI 1000) hx hb dX6_simulate_42 (by decide) ?_
  refine lv_aload_n hx hb dX6_simulate_45 rfl (lv_at hl 0 rfl) ?_
  refine va_get (D := G.1) (ci := 3) (v := .ref tr) (C := RX6) (T := TX6) (N := 6) hx hb hts in_c_X6_simulate_X6 hown hK.1 hP 0 rfl rfl 2 (by decide) (hts (.fieldLink RX6 23 "FloorPanels" "trial" "LFloorPanels$House;") (by decide +kernel)) (fun _ h9 => h9) rfl dX6_simulate_46 ?_
  refine cRV (As := []) (rest := [.int (nI 1000)]) (v := .int (nI (tw ((smu sx (n, g, sk, f) tn).2.2.2) ((smu sx (n, g, sk, f) tn).1)))) ⟨hx, hb, hml, hown, hts⟩ (c_X1_wrongInAll l G tr trc ((smu sx (n, g, sk, f) tn).1) ((smu sx (n, g, sk, f) tn).2.1) ((smu sx (n, g, sk, f) tn).2.2.1) ((smu sx (n, g, sk, f) tn).2.2.2) (ok_smu h_u tn).2.1) (cwV 0 hts gX6_simulate_X1_wrongInAll rfl rfl rfl (by decide +kernel) ⟨Nat.le_of_ble_eq_true rfl, Nat.le_of_ble_eq_true rfl⟩) (preV_of hK hP hD [3, 4] (by decide) rfl (ci := 1) (q0 := 3) rfl rfl rfl) rfl hl.1 rfl (lv_room (Nat.le_of_ble_eq_true rfl)) dX6_simulate_49 ⟨Nat.zero_le _, Nat.zero_le _⟩ ?_
  refine nv_imul hx hb dX6_simulate_52 ?_
  refine lv_aload_n hx hb dX6_simulate_53 rfl (lv_at hl 0 rfl) ?_
  refine va_get (D := G.1) (ci := 3) (v := .ref tr) (C := RX6) (T := TX6) (N := 6) hx hb hts in_c_X6_simulate_X6 hown hK.1 hP 0 rfl rfl 2 (by decide) (hts (.fieldLink RX6 23 "FloorPanels" "trial" "LFloorPanels$House;") (by decide +kernel)) (fun _ h9 => h9) rfl dX6_simulate_54 ?_
  refine cRV (As := []) (rest := [.int (nI (1000 * (tw ((smu sx (n, g, sk, f) tn).2.2.2) ((smu sx (n, g, sk, f) tn).1))))]) (v := .int (nI ((smu sx (n, g, sk, f) tn).1))) ⟨hx, hb, hml, hown, hts⟩ (c_X1_levels l G tr trc ((smu sx (n, g, sk, f) tn).1) ((smu sx (n, g, sk, f) tn).2.1) ((smu sx (n, g, sk, f) tn).2.2.1) ((smu sx (n, g, sk, f) tn).2.2.2) ) (cwV 0 hts gX6_simulate_X1_levels rfl rfl rfl (by decide +kernel) ⟨Nat.le_of_ble_eq_true rfl, Nat.le_of_ble_eq_true rfl⟩) (preV_of hK hP hD [3, 4] (by decide) rfl (ci := 1) (q0 := 3) rfl rfl rfl) rfl hl.1 rfl (lv_room (Nat.le_of_ble_eq_true rfl)) dX6_simulate_57 ⟨Nat.zero_le _, Nat.zero_le _⟩ ?_
  refine nv_iadd hx hb dX6_simulate_60 ?_
  exact W_i hx hb hr hlk dX6_simulate_61 hP hS (rfl) (rfl)

theorem xi_x_X6_simulate_IAE : ∀ w ∈ (vx_atS RX6 45 xIAE xNMS).filter goodWord, w ∈ wsX6_simulate := by decide +kernel
set_option maxHeartbeats 4000000 in
set_option maxRecDepth 100000 in
theorem x_X6_simulate (l : Launch) (hst : l.stackTraces = false) (G : GG) (x : Nat) (tx : Nat) (tr : Nat) (hi : Nat) (sl : Nat) (sv : Nat) (h : Nat) (sx : Int64) (y : Int32) (h_ny : ¬ (1 ≤ y.toInt ∧ y.toInt ≤ 80)) : vx_Met l yX6_simulate wsX6_simulate ({ frames := 6, cells := 1, slots := 6, locals := 82 } : Room) (va_Pc [.ref x, .long sx, .int y] (PBX G [(x, .inr (3, [.ref tx, .ref h, .ref tr, .ref hi, .ref sl, .ref sv]))])) NQ (XT xIAE) 1 6 (fun _ => False) := by
  refine Met.goX (cc := cX6_simulate) (maxL := 4) (ret := (some .int)) (by decide) rfl (Nat.le_of_ble_eq_true rfl) ?_
  intro p e s m below meth c ls hx hb hr hml hown hts hlk hnt hP hK hD hE hZ hl
  have hown : s.vm.findClass RX6 = some m.cls := hown
  have hl : lv_has ls 4 [(0, .ref x), (1, .long sx), (3, .int y)] := hl
  refine lv_iload_n hx hb dX6_simulate_0 rfl (lv_at hl 2 rfl) ?_
  refine lv_iconst (v := nI 1) hx hb dX6_simulate_1 (by decide) ?_
  refine bi_lt (tgt := 11) hx hb dX6_simulate_2 (by decide) (toI_r _) (nI_i (by omega)) (fun c_2 => ?_) (fun c_2 => ?_)
  ·
    exact X_throwW (text := "1 to 80 turns are simulated") hx hb hst hown xf_IAE (hts (.classLink RX6 41 xIAE) (by decide +kernel)) (hts (.initialized xIAE) (by decide +kernel)) (hE.2.2 (266, "1 to 80 turns are simulated") (by decide +kernel)) (fun w hw => hts w (xi_x_X6_simulate_IAE w hw)) xa_IAE xg_IAE hE hZ (hl.1.trans hml.symm) dX6_simulate_11 dX6_simulate_14 dX6_simulate_15 dX6_simulate_18 dX6_simulate_21 hnt (Nat.le_of_ble_eq_true rfl) (Nat.le_of_ble_eq_true rfl) (Nat.le_of_ble_eq_true rfl) (Nat.le_of_ble_eq_true rfl) hlk
  ·
    refine lv_iload_n hx hb dX6_simulate_5 rfl (lv_at hl 2 rfl) ?_
    refine lv_bipush (v := nI 80) hx hb dX6_simulate_6 (by decide) ?_
    refine bi_le (tgt := 22) hx hb dX6_simulate_8 (by decide) (toI_r _) (nI_i (by omega)) (fun c_8 => False.elim (by omega)) (fun c_8 => ?_)
    exact X_throwW (text := "1 to 80 turns are simulated") hx hb hst hown xf_IAE (hts (.classLink RX6 41 xIAE) (by decide +kernel)) (hts (.initialized xIAE) (by decide +kernel)) (hE.2.2 (266, "1 to 80 turns are simulated") (by decide +kernel)) (fun w hw => hts w (xi_x_X6_simulate_IAE w hw)) xa_IAE xg_IAE hE hZ (hl.1.trans hml.symm) dX6_simulate_11 dX6_simulate_14 dX6_simulate_15 dX6_simulate_18 dX6_simulate_21 hnt (Nat.le_of_ble_eq_true rfl) (Nat.le_of_ble_eq_true rfl) (Nat.le_of_ble_eq_true rfl) (Nat.le_of_ble_eq_true rfl) hlk

