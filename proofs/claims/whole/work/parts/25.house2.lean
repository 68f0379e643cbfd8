set_option maxHeartbeats 4000000 in
set_option maxRecDepth 100000 in
theorem c_X6_isCar (l : Launch) (G : GG) (x : Int32)  : Met l yX6_isCar wsX6_isCar ({ frames := 0, cells := 0, slots := 0, locals := 0 } : Room) (va_Pc [.int x] (PB G [])) (QR (some (.int (zb (0 ≤ x.toInt ∧ x.toInt < 3))))) 0 0 (fun _ => False) := by
  refine Met.go (cc := cX6_isCar) (maxL := 1) (ret := (some .boolean)) (by decide) rfl (Nat.le_of_ble_eq_true rfl) ?_
  intro p e s m below meth c ls hx hb hr hml hown hts hlk hP hK hD hS hl
  have hown : s.vm.findClass RX6 = some m.cls := hown
  have hl : lv_has ls 1 [(0, .int x)] := hl
  refine lv_iload_n hx hb dX6_isCar_0 rfl (lv_at hl 0 rfl) ?_
  refine b0_lt (tgt := 13) hx hb dX6_isCar_1 (by decide) (toI_r _) (fun c_1 => ?_) (fun c_1 => ?_)
  ·
    refine lv_iconst (v := nI 0) hx hb dX6_isCar_13 (by decide) ?_
    exact R_z hx hb hr hlk dX6_isCar_14 ((zb_f (by first | omega | assumption | exact ⟨by assumption, by assumption⟩ | exact fun z_ => z_ (by assumption) | exact fun z_ => absurd z_.1 (by assumption) | exact fun z_ => absurd z_.2 (by assumption) | exact fun z_ => z_.1 (by assumption) | exact fun z_ => z_.2 (by assumption))).symm) zb_nar
  ·
    refine lv_iload_n hx hb dX6_isCar_4 rfl (lv_at hl 0 rfl) ?_
    refine lv_iconst (v := nI 3) hx hb dX6_isCar_5 (by decide) ?_
    refine bi_ge (tgt := 13) hx hb dX6_isCar_6 (by decide) (toI_r _) (nI_i (by omega)) (fun c_6 => ?_) (fun c_6 => ?_)
    ·
      refine lv_iconst (v := nI 0) hx hb dX6_isCar_13 (by decide) ?_
      exact R_z hx hb hr hlk dX6_isCar_14 ((zb_f (by first | omega | assumption | exact ⟨by assumption, by assumption⟩ | exact fun z_ => z_ (by assumption) | exact fun z_ => absurd z_.1 (by assumption) | exact fun z_ => absurd z_.2 (by assumption) | exact fun z_ => z_.1 (by assumption) | exact fun z_ => z_.2 (by assumption))).symm) zb_nar
    ·
      refine lv_iconst (v := nI 1) hx hb dX6_isCar_9 (by decide) ?_
      refine lv_goto (tgt := 14) hx hb dX6_isCar_10 (by decide) ?_
      exact R_z hx hb hr hlk dX6_isCar_14 ((zb_t (by first | omega | assumption | exact ⟨by assumption, by assumption⟩ | exact fun z_ => z_ (by assumption) | exact fun z_ => absurd z_.1 (by assumption) | exact fun z_ => absurd z_.2 (by assumption) | exact fun z_ => z_.1 (by assumption) | exact fun z_ => z_.2 (by assumption))).symm) zb_nar

set_option maxHeartbeats 4000000 in
set_option maxRecDepth 100000 in
theorem c_X6_isCar_n (l : Launch) (G : GG) (x : Nat) (h_x : x < 2147483648) : Met l yX6_isCar wsX6_isCar ({ frames := 0, cells := 0, slots := 0, locals := 0 } : Room) (va_Pc [.int (nI x)] (PB G [])) (QR (some (.int (zb (x < 3))))) 0 0 (fun _ => False) := by
  refine Met.go (cc := cX6_isCar) (maxL := 1) (ret := (some .boolean)) (by decide) rfl (Nat.le_of_ble_eq_true rfl) ?_
  intro p e s m below meth c ls hx hb hr hml hown hts hlk hP hK hD hS hl
  have hown : s.vm.findClass RX6 = some m.cls := hown
  have hl : lv_has ls 1 [(0, .int (nI x))] := hl
  refine lv_iload_n hx hb dX6_isCar_0 rfl (lv_at hl 0 rfl) ?_
  refine b0_lt (tgt := 13) hx hb dX6_isCar_1 (by decide) (nI_i (by omega)) (fun c_1 => False.elim (by omega)) (fun c_1 => ?_)
  refine lv_iload_n hx hb dX6_isCar_4 rfl (lv_at hl 0 rfl) ?_
  refine lv_iconst (v := nI 3) hx hb dX6_isCar_5 (by decide) ?_
  refine bi_ge (tgt := 13) hx hb dX6_isCar_6 (by decide) (nI_i (by omega)) (nI_i (by omega)) (fun c_6 => ?_) (fun c_6 => ?_)
  ·
    refine lv_iconst (v := nI 0) hx hb dX6_isCar_13 (by decide) ?_
    exact R_z hx hb hr hlk dX6_isCar_14 ((zb_f (by first | omega | assumption | exact ⟨by assumption, by assumption⟩ | exact fun z_ => z_ (by assumption) | exact fun z_ => absurd z_.1 (by assumption) | exact fun z_ => absurd z_.2 (by assumption) | exact fun z_ => z_.1 (by assumption) | exact fun z_ => z_.2 (by assumption))).symm) zb_nar
  ·
    refine lv_iconst (v := nI 1) hx hb dX6_isCar_9 (by decide) ?_
    refine lv_goto (tgt := 14) hx hb dX6_isCar_10 (by decide) ?_
    exact R_z hx hb hr hlk dX6_isCar_14 ((zb_t (by first | omega | assumption | exact ⟨by assumption, by assumption⟩ | exact fun z_ => z_ (by assumption) | exact fun z_ => absurd z_.1 (by assumption) | exact fun z_ => absurd z_.2 (by assumption) | exact fun z_ => z_.1 (by assumption) | exact fun z_ => z_.2 (by assumption))).symm) zb_nar

set_option maxHeartbeats 4000000 in
set_option maxRecDepth 100000 in
theorem c_X6_isKind (l : Launch) (G : GG) (x : Int32)  : Met l yX6_isKind wsX6_isKind ({ frames := 0, cells := 0, slots := 0, locals := 0 } : Room) (va_Pc [.int x] (PB G [])) (QR (some (.int (zb (0 ≤ x.toInt ∧ x.toInt < 4))))) 0 0 (fun _ => False) := by
  refine Met.go (cc := cX6_isKind) (maxL := 1) (ret := (some .boolean)) (by decide) rfl (Nat.le_of_ble_eq_true rfl) ?_
  intro p e s m below meth c ls hx hb hr hml hown hts hlk hP hK hD hS hl
  have hown : s.vm.findClass RX6 = some m.cls := hown
  have hl : lv_has ls 1 [(0, .int x)] := hl
  refine lv_iload_n hx hb dX6_isKind_0 rfl (lv_at hl 0 rfl) ?_
  refine b0_lt (tgt := 13) hx hb dX6_isKind_1 (by decide) (toI_r _) (fun c_1 => ?_) (fun c_1 => ?_)
  ·
    refine lv_iconst (v := nI 0) hx hb dX6_isKind_13 (by decide) ?_
    exact R_z hx hb hr hlk dX6_isKind_14 ((zb_f (by first | omega | assumption | exact ⟨by assumption, by assumption⟩ | exact fun z_ => z_ (by assumption) | exact fun z_ => absurd z_.1 (by assumption) | exact fun z_ => absurd z_.2 (by assumption) | exact fun z_ => z_.1 (by assumption) | exact fun z_ => z_.2 (by assumption))).symm) zb_nar
  ·
    refine lv_iload_n hx hb dX6_isKind_4 rfl (lv_at hl 0 rfl) ?_
    refine lv_iconst (v := nI 3) hx hb dX6_isKind_5 (by decide) ?_
    refine bi_gt (tgt := 13) hx hb dX6_isKind_6 (by decide) (toI_r _) (nI_i (by omega)) (fun c_6 => ?_) (fun c_6 => ?_)
    ·
      refine lv_iconst (v := nI 0) hx hb dX6_isKind_13 (by decide) ?_
      exact R_z hx hb hr hlk dX6_isKind_14 ((zb_f (by first | omega | assumption | exact ⟨by assumption, by assumption⟩ | exact fun z_ => z_ (by assumption) | exact fun z_ => absurd z_.1 (by assumption) | exact fun z_ => absurd z_.2 (by assumption) | exact fun z_ => z_.1 (by assumption) | exact fun z_ => z_.2 (by assumption))).symm) zb_nar
    ·
      refine lv_iconst (v := nI 1) hx hb dX6_isKind_9 (by decide) ?_
      refine lv_goto (tgt := 14) hx hb dX6_isKind_10 (by decide) ?_
      exact R_z hx hb hr hlk dX6_isKind_14 ((zb_t (by first | omega | assumption | exact ⟨by assumption, by assumption⟩ | exact fun z_ => z_ (by assumption) | exact fun z_ => absurd z_.1 (by assumption) | exact fun z_ => absurd z_.2 (by assumption) | exact fun z_ => z_.1 (by assumption) | exact fun z_ => z_.2 (by assumption))).symm) zb_nar

set_option maxHeartbeats 4000000 in
set_option maxRecDepth 100000 in
theorem c_X6_isKind_n (l : Launch) (G : GG) (x : Nat) (h_x : x < 2147483648) : Met l yX6_isKind wsX6_isKind ({ frames := 0, cells := 0, slots := 0, locals := 0 } : Room) (va_Pc [.int (nI x)] (PB G [])) (QR (some (.int (zb (x < 4))))) 0 0 (fun _ => False) := by
  refine Met.go (cc := cX6_isKind) (maxL := 1) (ret := (some .boolean)) (by decide) rfl (Nat.le_of_ble_eq_true rfl) ?_
  intro p e s m below meth c ls hx hb hr hml hown hts hlk hP hK hD hS hl
  have hown : s.vm.findClass RX6 = some m.cls := hown
  have hl : lv_has ls 1 [(0, .int (nI x))] := hl
  refine lv_iload_n hx hb dX6_isKind_0 rfl (lv_at hl 0 rfl) ?_
  refine b0_lt (tgt := 13) hx hb dX6_isKind_1 (by decide) (nI_i (by omega)) (fun c_1 => False.elim (by omega)) (fun c_1 => ?_)
  refine lv_iload_n hx hb dX6_isKind_4 rfl (lv_at hl 0 rfl) ?_
  refine lv_iconst (v := nI 3) hx hb dX6_isKind_5 (by decide) ?_
  refine bi_gt (tgt := 13) hx hb dX6_isKind_6 (by decide) (nI_i (by omega)) (nI_i (by omega)) (fun c_6 => ?_) (fun c_6 => ?_)
  ·
    refine lv_iconst (v := nI 0) hx hb dX6_isKind_13 (by decide) ?_
    exact R_z hx hb hr hlk dX6_isKind_14 ((zb_f (by first | omega | assumption | exact ⟨by assumption, by assumption⟩ | exact fun z_ => z_ (by assumption) | exact fun z_ => absurd z_.1 (by assumption) | exact fun z_ => absurd z_.2 (by assumption) | exact fun z_ => z_.1 (by assumption) | exact fun z_ => z_.2 (by assumption))).symm) zb_nar
  ·
    refine lv_iconst (v := nI 1) hx hb dX6_isKind_9 (by decide) ?_
    refine lv_goto (tgt := 14) hx hb dX6_isKind_10 (by decide) ?_
    exact R_z hx hb hr hlk dX6_isKind_14 ((zb_t (by first | omega | assumption | exact ⟨by assumption, by assumption⟩ | exact fun z_ => z_ (by assumption) | exact fun z_ => absurd z_.1 (by assumption) | exact fun z_ => absurd z_.2 (by assumption) | exact fun z_ => z_.1 (by assumption) | exact fun z_ => z_.2 (by assumption))).symm) zb_nar

set_option maxHeartbeats 4000000 in
set_option maxRecDepth 100000 in
theorem c_X6_canBeSkipped (l : Launch) (G : GG) (x : Int32)  : Met l yX6_canBeSkipped wsX6_canBeSkipped ({ frames := 0, cells := 0, slots := 0, locals := 0 } : Room) (va_Pc [.int x] (PB G [])) (QR (some (.int (zb (1 ≤ x.toInt ∧ x.toInt ≤ 30))))) 0 0 (fun _ => False) := by
  refine Met.go (cc := cX6_canBeSkipped) (maxL := 1) (ret := (some .boolean)) (by decide) rfl (Nat.le_of_ble_eq_true rfl) ?_
  intro p e s m below meth c ls hx hb hr hml hown hts hlk hP hK hD hS hl
  have hown : s.vm.findClass RX6 = some m.cls := hown
  have hl : lv_has ls 1 [(0, .int x)] := hl
  refine lv_iload_n hx hb dX6_canBeSkipped_0 rfl (lv_at hl 0 rfl) ?_
  refine lv_iconst (v := nI 1) hx hb dX6_canBeSkipped_1 (by decide) ?_
  refine bi_lt (tgt := 15) hx hb dX6_canBeSkipped_2 (by decide) (toI_r _) (nI_i (by omega)) (fun c_2 => ?_) (fun c_2 => ?_)
  ·
    refine lv_iconst (v := nI 0) hx hb dX6_canBeSkipped_15 (by decide) ?_
    exact R_z hx hb hr hlk dX6_canBeSkipped_16 ((zb_f (by first | omega | assumption | exact ⟨by assumption, by assumption⟩ | exact fun z_ => z_ (by assumption) | exact fun z_ => absurd z_.1 (by assumption) | exact fun z_ => absurd z_.2 (by assumption) | exact fun z_ => z_.1 (by assumption) | exact fun z_ => z_.2 (by assumption))).symm) zb_nar
  ·
    refine lv_iload_n hx hb dX6_canBeSkipped_5 rfl (lv_at hl 0 rfl) ?_
    refine lv_bipush (v := nI 30) hx hb dX6_canBeSkipped_6 (by decide) ?_
    refine bi_gt (tgt := 15) hx hb dX6_canBeSkipped_8 (by decide) (toI_r _) (nI_i (by omega)) (fun c_8 => ?_) (fun c_8 => ?_)
    ·
      refine lv_iconst (v := nI 0) hx hb dX6_canBeSkipped_15 (by decide) ?_
      exact R_z hx hb hr hlk dX6_canBeSkipped_16 ((zb_f (by first | omega | assumption | exact ⟨by assumption, by assumption⟩ | exact fun z_ => z_ (by assumption) | exact fun z_ => absurd z_.1 (by assumption) | exact fun z_ => absurd z_.2 (by assumption) | exact fun z_ => z_.1 (by assumption) | exact fun z_ => z_.2 (by assumption))).symm) zb_nar
    ·
      refine lv_iconst (v := nI 1) hx hb dX6_canBeSkipped_11 (by decide) ?_
      refine lv_goto (tgt := 16) hx hb dX6_canBeSkipped_12 (by decide) ?_
      exact R_z hx hb hr hlk dX6_canBeSkipped_16 ((zb_t (by first | omega | assumption | exact ⟨by assumption, by assumption⟩ | exact fun z_ => z_ (by assumption) | exact fun z_ => absurd z_.1 (by assumption) | exact fun z_ => absurd z_.2 (by assumption) | exact fun z_ => z_.1 (by assumption) | exact fun z_ => z_.2 (by assumption))).symm) zb_nar

set_option maxHeartbeats 4000000 in
set_option maxRecDepth 100000 in
theorem c_X6_canBeSkipped_n (l : Launch) (G : GG) (x : Nat) (h_x : x < 2147483648) : Met l yX6_canBeSkipped wsX6_canBeSkipped ({ frames := 0, cells := 0, slots := 0, locals := 0 } : Room) (va_Pc [.int (nI x)] (PB G [])) (QR (some (.int (zb (1 ≤ x ∧ x ≤ 30))))) 0 0 (fun _ => False) := by
  refine Met.go (cc := cX6_canBeSkipped) (maxL := 1) (ret := (some .boolean)) (by decide) rfl (Nat.le_of_ble_eq_true rfl) ?_
  intro p e s m below meth c ls hx hb hr hml hown hts hlk hP hK hD hS hl
  have hown : s.vm.findClass RX6 = some m.cls := hown
  have hl : lv_has ls 1 [(0, .int (nI x))] := hl
  refine lv_iload_n hx hb dX6_canBeSkipped_0 rfl (lv_at hl 0 rfl) ?_
  refine lv_iconst (v := nI 1) hx hb dX6_canBeSkipped_1 (by decide) ?_
  refine bi_lt (tgt := 15) hx hb dX6_canBeSkipped_2 (by decide) (nI_i (by omega)) (nI_i (by omega)) (fun c_2 => ?_) (fun c_2 => ?_)
  ·
    refine lv_iconst (v := nI 0) hx hb dX6_canBeSkipped_15 (by decide) ?_
    exact R_z hx hb hr hlk dX6_canBeSkipped_16 ((zb_f (by first | omega | assumption | exact ⟨by assumption, by assumption⟩ | exact fun z_ => z_ (by assumption) | exact fun z_ => absurd z_.1 (by assumption) | exact fun z_ => absurd z_.2 (by assumption) | exact fun z_ => z_.1 (by assumption) | exact fun z_ => z_.2 (by assumption))).symm) zb_nar
  ·
    refine lv_iload_n hx hb dX6_canBeSkipped_5 rfl (lv_at hl 0 rfl) ?_
    refine lv_bipush (v := nI 30) hx hb dX6_canBeSkipped_6 (by decide) ?_
    refine bi_gt (tgt := 15) hx hb dX6_canBeSkipped_8 (by decide) (nI_i (by omega)) (nI_i (by omega)) (fun c_8 => ?_) (fun c_8 => ?_)
    ·
      refine lv_iconst (v := nI 0) hx hb dX6_canBeSkipped_15 (by decide) ?_
      exact R_z hx hb hr hlk dX6_canBeSkipped_16 ((zb_f (by first | omega | assumption | exact ⟨by assumption, by assumption⟩ | exact fun z_ => z_ (by assumption) | exact fun z_ => absurd z_.1 (by assumption) | exact fun z_ => absurd z_.2 (by assumption) | exact fun z_ => z_.1 (by assumption) | exact fun z_ => z_.2 (by assumption))).symm) zb_nar
    ·
      refine lv_iconst (v := nI 1) hx hb dX6_canBeSkipped_11 (by decide) ?_
      refine lv_goto (tgt := 16) hx hb dX6_canBeSkipped_12 (by decide) ?_
      exact R_z hx hb hr hlk dX6_canBeSkipped_16 ((zb_t (by first | omega | assumption | exact ⟨by assumption, by assumption⟩ | exact fun z_ => z_ (by assumption) | exact fun z_ => absurd z_.1 (by assumption) | exact fun z_ => absurd z_.2 (by assumption) | exact fun z_ => z_.1 (by assumption) | exact fun z_ => z_.2 (by assumption))).symm) zb_nar

set_option maxHeartbeats 4000000 in
set_option maxRecDepth 100000 in
theorem c_J9_floorDiv_7cf53 (l : Launch) (G : GG) (x : Int32) (h_x : -64 ≤ x.toInt ∧ x.toInt < 192) : Met l yJ9_floorDiv_7cf53 wsJ9_floorDiv_7cf53 ({ frames := 0, cells := 0, slots := 0, locals := 0 } : Room) (va_Pc [.int x, .int (nI 4)] (PB G [])) (QR (some (.int (zI (x.toInt / 4))))) 0 0 (fun _ => False) := by
  refine Met.goF (cc := cJ9_floorDiv_7cf53) (maxL := 3) (ret := (some .int)) (by decide +kernel) rfl (Nat.le_of_ble_eq_true rfl) ?_
  intro p e s m below meth c ls hx hb hr hml hown hts hlk hP hK hD hS hl
  have hown : s.vm.findClass RJ9 = some m.cls := hown
  have hl : lv_has ls 3 [(0, .int x), (1, .int (nI 4))] := hl
  refine lv_iload_n hx hb dJ9_floorDiv_7cf53_0 rfl (lv_at hl 0 rfl) ?_
  refine lv_iload_n hx hb dJ9_floorDiv_7cf53_1 rfl (lv_at hl 1 rfl) ?_
  refine lv_idiv hx hb dJ9_floorDiv_7cf53_2 (by decide) ?_
  refine lv_istore_n (lv' := [(2, .int (x / (nI 4))), (0, .int x), (1, .int (nI 4))]) hx hb dJ9_floorDiv_7cf53_3 rfl hl (by decide) rfl (fun ls hl => ?_)
  refine lv_iload_n hx hb dJ9_floorDiv_7cf53_4 rfl (lv_at hl 1 rfl) ?_
  refine lv_iload_n hx hb dJ9_floorDiv_7cf53_5 rfl (lv_at hl 2 rfl) ?_
  refine lv_ixor hx hb dJ9_floorDiv_7cf53_6 ?_
  refine b0_ge (tgt := 21) hx hb dJ9_floorDiv_7cf53_7 (by decide) (toI_r _) (fun c_7 => ?_) (fun c_7 => ?_)
  ·
    refine lv_iload_n hx hb dJ9_floorDiv_7cf53_21 rfl (lv_at hl 0 rfl) ?_
    exact R_i hx hb hr hlk dJ9_floorDiv_7cf53_22 (by rcases (fd_of h_x).1 with z_ | z_ <;> first | exact z_ | (exfalso; omega))
  ·
    refine lv_iload_n hx hb dJ9_floorDiv_7cf53_10 rfl (lv_at hl 0 rfl) ?_
    refine lv_iload_n hx hb dJ9_floorDiv_7cf53_11 rfl (lv_at hl 2 rfl) ?_
    refine lv_imul hx hb dJ9_floorDiv_7cf53_12 ?_
    refine lv_iload_n hx hb dJ9_floorDiv_7cf53_13 rfl (lv_at hl 1 rfl) ?_
    refine lv_icmp_eq (tgt := 21) hx hb dJ9_floorDiv_7cf53_14 (by decide) (fun c_14 => ?_) (fun c_14 => ?_)
    ·
      refine lv_iload_n hx hb dJ9_floorDiv_7cf53_21 rfl (lv_at hl 0 rfl) ?_
      exact R_i hx hb hr hlk dJ9_floorDiv_7cf53_22 (by have z_ := (fd_of h_x).2.resolve_left (by omega); rw [if_pos c_14] at z_; exact z_)
    ·
      refine lv_iload_n hx hb dJ9_floorDiv_7cf53_17 rfl (lv_at hl 0 rfl) ?_
      refine lv_iconst (v := nI 1) hx hb dJ9_floorDiv_7cf53_18 (by decide) ?_
      refine lv_isub hx hb dJ9_floorDiv_7cf53_19 ?_
      exact R_i hx hb hr hlk dJ9_floorDiv_7cf53_20 (by have z_ := (fd_of h_x).2.resolve_left (by omega); rw [if_neg c_14] at z_; exact z_)

set_option maxHeartbeats 4000000 in
set_option maxRecDepth 100000 in
theorem c_J9_floorMod_7cf53 (l : Launch) (G : GG) (a : Nat) (h_a : a < 2147483648) : Met l yJ9_floorMod_7cf53 wsJ9_floorMod_7cf53 ({ frames := 0, cells := 0, slots := 0, locals := 0 } : Room) (va_Pc [.int (nI a), .int (nI 14)] (PB G [])) (QR (some (.int (nI (a % 14))))) 0 0 (fun _ => False) := by
  refine Met.goF (cc := cJ9_floorMod_7cf53) (maxL := 3) (ret := (some .int)) (by decide +kernel) rfl (Nat.le_of_ble_eq_true rfl) ?_
  intro p e s m below meth c ls hx hb hr hml hown hts hlk hP hK hD hS hl
  have hown : s.vm.findClass RJ9 = some m.cls := hown
  have hl : lv_has ls 3 [(0, .int (nI a)), (1, .int (nI 14))] := hl
  refine lv_iload_n hx hb dJ9_floorMod_7cf53_0 rfl (lv_at hl 0 rfl) ?_
  refine lv_iload_n hx hb dJ9_floorMod_7cf53_1 rfl (lv_at hl 1 rfl) ?_
  refine nv_irem hx hb ⟨by omega, by omega, by omega⟩ dJ9_floorMod_7cf53_2 ?_
  refine lv_istore_n (lv' := [(2, .int (nI (a % 14))), (0, .int (nI a)), (1, .int (nI 14))]) hx hb dJ9_floorMod_7cf53_3 rfl hl (by decide) rfl (fun ls hl => ?_)
  refine lv_iload_n hx hb dJ9_floorMod_7cf53_4 rfl (lv_at hl 1 rfl) ?_
  refine lv_iload_n hx hb dJ9_floorMod_7cf53_5 rfl (lv_at hl 2 rfl) ?_
  refine lv_ixor hx hb dJ9_floorMod_7cf53_6 ?_
  rw [show (nI a) ^^^ (nI 14) = nI (a ^^^ 14) from fb_xorI a 14]
  have h_xr : a ^^^ 14 < 2147483648 := Nat.xor_lt_two_pow (n := 31) h_a (by decide)
  refine b0_ge (tgt := 18) hx hb dJ9_floorMod_7cf53_7 (by decide) (nI_i (by omega)) (fun c_7 => ?_) (fun c_7 => False.elim (by omega))
  refine lv_iload_n hx hb dJ9_floorMod_7cf53_18 rfl (lv_at hl 0 rfl) ?_
  exact R_i hx hb hr hlk dJ9_floorMod_7cf53_19 (rfl)

set_option maxHeartbeats 4000000 in
set_option maxRecDepth 100000 in
theorem c_J9_floorMod_m1 (l : Launch) (G : GG)  : Met l yJ9_floorMod_7cf53 wsJ9_floorMod_7cf53 ({ frames := 0, cells := 0, slots := 0, locals := 0 } : Room) (va_Pc [.int (-1), .int (nI 14)] (PB G [])) (QR (some (.int (nI 13)))) 0 0 (fun _ => False) := by
  refine Met.goF (cc := cJ9_floorMod_7cf53) (maxL := 3) (ret := (some .int)) (by decide +kernel) rfl (Nat.le_of_ble_eq_true rfl) ?_
  intro p e s m below meth c ls hx hb hr hml hown hts hlk hP hK hD hS hl
  have hown : s.vm.findClass RJ9 = some m.cls := hown
  have hl : lv_has ls 3 [(0, .int (-1)), (1, .int (nI 14))] := hl
  refine lv_iload_n hx hb dJ9_floorMod_7cf53_0 rfl (lv_at hl 0 rfl) ?_
  refine lv_iload_n hx hb dJ9_floorMod_7cf53_1 rfl (lv_at hl 1 rfl) ?_
  refine lv_irem hx hb dJ9_floorMod_7cf53_2 (by decide) ?_
  rw [show (-1) - (-1) / (nI 14) * (nI 14) = (-1) from by decide]
  refine lv_istore_n (lv' := [(2, .int (-1)), (0, .int (-1)), (1, .int (nI 14))]) hx hb dJ9_floorMod_7cf53_3 rfl hl (by decide) rfl (fun ls hl => ?_)
  refine lv_iload_n hx hb dJ9_floorMod_7cf53_4 rfl (lv_at hl 1 rfl) ?_
  refine lv_iload_n hx hb dJ9_floorMod_7cf53_5 rfl (lv_at hl 2 rfl) ?_
  refine lv_ixor hx hb dJ9_floorMod_7cf53_6 ?_
  rw [show (-1) ^^^ (nI 14) = (-15) from by decide]
  refine b0_ge (tgt := 18) hx hb dJ9_floorMod_7cf53_7 (by decide) (toI_r _) (fun c_7 => False.elim (by exact absurd c_7 (by decide))) (fun c_7 => ?_)
  refine lv_iload_n hx hb dJ9_floorMod_7cf53_10 rfl (lv_at hl 0 rfl) ?_
  refine lv_if_eq (tgt := 18) hx hb dJ9_floorMod_7cf53_11 (by decide) (fun c_11 => False.elim (by exact absurd c_11 (by decide))) (fun c_11 => ?_)
  refine lv_iload_n hx hb dJ9_floorMod_7cf53_14 rfl (lv_at hl 0 rfl) ?_
  refine lv_iload_n hx hb dJ9_floorMod_7cf53_15 rfl (lv_at hl 2 rfl) ?_
  refine lv_iadd hx hb dJ9_floorMod_7cf53_16 ?_
  rw [show (-1) + (nI 14) = nI 13 from by decide]
  exact R_i hx hb hr hlk dJ9_floorMod_7cf53_17 (rfl)

set_option maxHeartbeats 4000000 in
set_option maxRecDepth 100000 in
theorem c_J6_bitCount_0f7a4 (l : Launch) (G : GG) (x : Int32)  : Met l yJ6_bitCount_0f7a4 wsJ6_bitCount_0f7a4 ({ frames := 0, cells := 0, slots := 0, locals := 0 } : Room) (va_Pc [.int x] (PB G [])) (QR (some (.int (bcj x)))) 0 0 (fun _ => False) := by
  refine Met.goF (cc := cJ6_bitCount_0f7a4) (maxL := 1) (ret := (some .int)) (by decide +kernel) rfl (Nat.le_of_ble_eq_true rfl) ?_
  intro p e s m below meth c ls hx hb hr hml hown hts hlk hP hK hD hS hl
  have hown : s.vm.findClass RJ6 = some m.cls := hown
  have hl : lv_has ls 1 [(0, .int x)] := hl
  refine lv_iload_n hx hb dJ6_bitCount_0f7a4_0 rfl (lv_at hl 0 rfl) ?_
  refine lv_iload_n hx hb dJ6_bitCount_0f7a4_1 rfl (lv_at hl 0 rfl) ?_
  refine lv_iconst (v := nI 1) hx hb dJ6_bitCount_0f7a4_2 (by decide) ?_
  refine lv_iushr hx hb dJ6_bitCount_0f7a4_3 rfl ?_
  refine lv_ldcw (own := RJ6) (v := 1431655765) hx hb hown (hts (.constant RJ6 265 (1431655765)) (by decide +kernel)) dJ6_bitCount_0f7a4_4 ?_
  refine lv_iand hx hb dJ6_bitCount_0f7a4_7 ?_
  refine lv_isub hx hb dJ6_bitCount_0f7a4_8 ?_
  refine lv_istore_n (lv' := [(0, .int (x - (((x.toUInt32 >>> ((nI 1).toUInt32 &&& Int32.toUInt32 31)).toInt32) &&& 1431655765)))]) hx hb dJ6_bitCount_0f7a4_9 rfl hl (by decide) rfl (fun ls hl => ?_)
  refine lv_iload_n hx hb dJ6_bitCount_0f7a4_10 rfl (lv_at hl 0 rfl) ?_
  refine lv_ldcw (own := RJ6) (v := 858993459) hx hb hown (hts (.constant RJ6 266 (858993459)) (by decide +kernel)) dJ6_bitCount_0f7a4_11 ?_
  refine lv_iand hx hb dJ6_bitCount_0f7a4_14 ?_
  refine lv_iload_n hx hb dJ6_bitCount_0f7a4_15 rfl (lv_at hl 0 rfl) ?_
  refine lv_iconst (v := nI 2) hx hb dJ6_bitCount_0f7a4_16 (by decide) ?_
  refine lv_iushr hx hb dJ6_bitCount_0f7a4_17 rfl ?_
  refine lv_ldcw (own := RJ6) (v := 858993459) hx hb hown (hts (.constant RJ6 266 (858993459)) (by decide +kernel)) dJ6_bitCount_0f7a4_18 ?_
  refine lv_iand hx hb dJ6_bitCount_0f7a4_21 ?_
  refine lv_iadd hx hb dJ6_bitCount_0f7a4_22 ?_
  refine lv_istore_n (lv' := [(0, .int (((x - (((x.toUInt32 >>> ((nI 1).toUInt32 &&& Int32.toUInt32 31)).toInt32) &&& 1431655765)) &&& 858993459) + ((((x - (((x.toUInt32 >>> ((nI 1).toUInt32 &&& Int32.toUInt32 31)).toInt32) &&& 1431655765)).toUInt32 >>> ((nI 2).toUInt32 &&& Int32.toUInt32 31)).toInt32) &&& 858993459)))]) hx hb dJ6_bitCount_0f7a4_23 rfl hl (by decide) rfl (fun ls hl => ?_)
  refine lv_iload_n hx hb dJ6_bitCount_0f7a4_24 rfl (lv_at hl 0 rfl) ?_
  refine lv_iload_n hx hb dJ6_bitCount_0f7a4_25 rfl (lv_at hl 0 rfl) ?_
  refine lv_iconst (v := nI 4) hx hb dJ6_bitCount_0f7a4_26 (by decide) ?_
  refine lv_iushr hx hb dJ6_bitCount_0f7a4_27 rfl ?_
  refine lv_iadd hx hb dJ6_bitCount_0f7a4_28 ?_
  refine lv_ldcw (own := RJ6) (v := 252645135) hx hb hown (hts (.constant RJ6 267 (252645135)) (by decide +kernel)) dJ6_bitCount_0f7a4_29 ?_
  refine lv_iand hx hb dJ6_bitCount_0f7a4_32 ?_
  refine lv_istore_n (lv' := [(0, .int (((((x - (((x.toUInt32 >>> ((nI 1).toUInt32 &&& Int32.toUInt32 31)).toInt32) &&& 1431655765)) &&& 858993459) + ((((x - (((x.toUInt32 >>> ((nI 1).toUInt32 &&& Int32.toUInt32 31)).toInt32) &&& 1431655765)).toUInt32 >>> ((nI 2).toUInt32 &&& Int32.toUInt32 31)).toInt32) &&& 858993459)) + (((((x - (((x.toUInt32 >>> ((nI 1).toUInt32 &&& Int32.toUInt32 31)).toInt32) &&& 1431655765)) &&& 858993459) + ((((x - (((x.toUInt32 >>> ((nI 1).toUInt32 &&& Int32.toUInt32 31)).toInt32) &&& 1431655765)).toUInt32 >>> ((nI 2).toUInt32 &&& Int32.toUInt32 31)).toInt32) &&& 858993459)).toUInt32 >>> ((nI 4).toUInt32 &&& Int32.toUInt32 31)).toInt32)) &&& 252645135))]) hx hb dJ6_bitCount_0f7a4_33 rfl hl (by decide) rfl (fun ls hl => ?_)
  refine lv_iload_n hx hb dJ6_bitCount_0f7a4_34 rfl (lv_at hl 0 rfl) ?_
  refine lv_iload_n hx hb dJ6_bitCount_0f7a4_35 rfl (lv_at hl 0 rfl) ?_
  refine lv_bipush (v := nI 8) hx hb dJ6_bitCount_0f7a4_36 (by decide) ?_
  refine lv_iushr hx hb dJ6_bitCount_0f7a4_38 rfl ?_
  refine lv_iadd hx hb dJ6_bitCount_0f7a4_39 ?_
  refine lv_istore_n (lv' := [(0, .int ((((((x - (((x.toUInt32 >>> ((nI 1).toUInt32 &&& Int32.toUInt32 31)).toInt32) &&& 1431655765)) &&& 858993459) + ((((x - (((x.toUInt32 >>> ((nI 1).toUInt32 &&& Int32.toUInt32 31)).toInt32) &&& 1431655765)).toUInt32 >>> ((nI 2).toUInt32 &&& Int32.toUInt32 31)).toInt32) &&& 858993459)) + (((((x - (((x.toUInt32 >>> ((nI 1).toUInt32 &&& Int32.toUInt32 31)).toInt32) &&& 1431655765)) &&& 858993459) + ((((x - (((x.toUInt32 >>> ((nI 1).toUInt32 &&& Int32.toUInt32 31)).toInt32) &&& 1431655765)).toUInt32 >>> ((nI 2).toUInt32 &&& Int32.toUInt32 31)).toInt32) &&& 858993459)).toUInt32 >>> ((nI 4).toUInt32 &&& Int32.toUInt32 31)).toInt32)) &&& 252645135) + (((((((x - (((x.toUInt32 >>> ((nI 1).toUInt32 &&& Int32.toUInt32 31)).toInt32) &&& 1431655765)) &&& 858993459) + ((((x - (((x.toUInt32 >>> ((nI 1).toUInt32 &&& Int32.toUInt32 31)).toInt32) &&& 1431655765)).toUInt32 >>> ((nI 2).toUInt32 &&& Int32.toUInt32 31)).toInt32) &&& 858993459)) + (((((x - (((x.toUInt32 >>> ((nI 1).toUInt32 &&& Int32.toUInt32 31)).toInt32) &&& 1431655765)) &&& 858993459) + ((((x - (((x.toUInt32 >>> ((nI 1).toUInt32 &&& Int32.toUInt32 31)).toInt32) &&& 1431655765)).toUInt32 >>> ((nI 2).toUInt32 &&& Int32.toUInt32 31)).toInt32) &&& 858993459)).toUInt32 >>> ((nI 4).toUInt32 &&& Int32.toUInt32 31)).toInt32)) &&& 252645135).toUInt32 >>> ((nI 8).toUInt32 &&& Int32.toUInt32 31)).toInt32)))]) hx hb dJ6_bitCount_0f7a4_40 rfl hl (by decide) rfl (fun ls hl => ?_)
  refine lv_iload_n hx hb dJ6_bitCount_0f7a4_41 rfl (lv_at hl 0 rfl) ?_
  refine lv_iload_n hx hb dJ6_bitCount_0f7a4_42 rfl (lv_at hl 0 rfl) ?_
  refine lv_bipush (v := nI 16) hx hb dJ6_bitCount_0f7a4_43 (by decide) ?_
  refine lv_iushr hx hb dJ6_bitCount_0f7a4_45 rfl ?_
  refine lv_iadd hx hb dJ6_bitCount_0f7a4_46 ?_
  refine lv_istore_n (lv' := [(0, .int (((((((x - (((x.toUInt32 >>> ((nI 1).toUInt32 &&& Int32.toUInt32 31)).toInt32) &&& 1431655765)) &&& 858993459) + ((((x - (((x.toUInt32 >>> ((nI 1).toUInt32 &&& Int32.toUInt32 31)).toInt32) &&& 1431655765)).toUInt32 >>> ((nI 2).toUInt32 &&& Int32.toUInt32 31)).toInt32) &&& 858993459)) + (((((x - (((x.toUInt32 >>> ((nI 1).toUInt32 &&& Int32.toUInt32 31)).toInt32) &&& 1431655765)) &&& 858993459) + ((((x - (((x.toUInt32 >>> ((nI 1).toUInt32 &&& Int32.toUInt32 31)).toInt32) &&& 1431655765)).toUInt32 >>> ((nI 2).toUInt32 &&& Int32.toUInt32 31)).toInt32) &&& 858993459)).toUInt32 >>> ((nI 4).toUInt32 &&& Int32.toUInt32 31)).toInt32)) &&& 252645135) + (((((((x - (((x.toUInt32 >>> ((nI 1).toUInt32 &&& Int32.toUInt32 31)).toInt32) &&& 1431655765)) &&& 858993459) + ((((x - (((x.toUInt32 >>> ((nI 1).toUInt32 &&& Int32.toUInt32 31)).toInt32) &&& 1431655765)).toUInt32 >>> ((nI 2).toUInt32 &&& Int32.toUInt32 31)).toInt32) &&& 858993459)) + (((((x - (((x.toUInt32 >>> ((nI 1).toUInt32 &&& Int32.toUInt32 31)).toInt32) &&& 1431655765)) &&& 858993459) + ((((x - (((x.toUInt32 >>> ((nI 1).toUInt32 &&& Int32.toUInt32 31)).toInt32) &&& 1431655765)).toUInt32 >>> ((nI 2).toUInt32 &&& Int32.toUInt32 31)).toInt32) &&& 858993459)).toUInt32 >>> ((nI 4).toUInt32 &&& Int32.toUInt32 31)).toInt32)) &&& 252645135).toUInt32 >>> ((nI 8).toUInt32 &&& Int32.toUInt32 31)).toInt32)) + ((((((((x - (((x.toUInt32 >>> ((nI 1).toUInt32 &&& Int32.toUInt32 31)).toInt32) &&& 1431655765)) &&& 858993459) + ((((x - (((x.toUInt32 >>> ((nI 1).toUInt32 &&& Int32.toUInt32 31)).toInt32) &&& 1431655765)).toUInt32 >>> ((nI 2).toUInt32 &&& Int32.toUInt32 31)).toInt32) &&& 858993459)) + (((((x - (((x.toUInt32 >>> ((nI 1).toUInt32 &&& Int32.toUInt32 31)).toInt32) &&& 1431655765)) &&& 858993459) + ((((x - (((x.toUInt32 >>> ((nI 1).toUInt32 &&& Int32.toUInt32 31)).toInt32) &&& 1431655765)).toUInt32 >>> ((nI 2).toUInt32 &&& Int32.toUInt32 31)).toInt32) &&& 858993459)).toUInt32 >>> ((nI 4).toUInt32 &&& Int32.toUInt32 31)).toInt32)) &&& 252645135) + (((((((x - (((x.toUInt32 >>> ((nI 1).toUInt32 &&& Int32.toUInt32 31)).toInt32) &&& 1431655765)) &&& 858993459) + ((((x - (((x.toUInt32 >>> ((nI 1).toUInt32 &&& Int32.toUInt32 31)).toInt32) &&& 1431655765)).toUInt32 >>> ((nI 2).toUInt32 &&& Int32.toUInt32 31)).toInt32) &&& 858993459)) + (((((x - (((x.toUInt32 >>> ((nI 1).toUInt32 &&& Int32.toUInt32 31)).toInt32) &&& 1431655765)) &&& 858993459) + ((((x - (((x.toUInt32 >>> ((nI 1).toUInt32 &&& Int32.toUInt32 31)).toInt32) &&& 1431655765)).toUInt32 >>> ((nI 2).toUInt32 &&& Int32.toUInt32 31)).toInt32) &&& 858993459)).toUInt32 >>> ((nI 4).toUInt32 &&& Int32.toUInt32 31)).toInt32)) &&& 252645135).toUInt32 >>> ((nI 8).toUInt32 &&& Int32.toUInt32 31)).toInt32)).toUInt32 >>> ((nI 16).toUInt32 &&& Int32.toUInt32 31)).toInt32)))]) hx hb dJ6_bitCount_0f7a4_47 rfl hl (by decide) rfl (fun ls hl => ?_)
  refine lv_iload_n hx hb dJ6_bitCount_0f7a4_48 rfl (lv_at hl 0 rfl) ?_
  refine lv_bipush (v := nI 63) hx hb dJ6_bitCount_0f7a4_49 (by decide) ?_
  refine lv_iand hx hb dJ6_bitCount_0f7a4_51 ?_
  exact R_i hx hb hr hlk dJ6_bitCount_0f7a4_52 (rfl)

theorem in_c_X1_skips_X1 : ∀ w ∈ wsX10, w ∈ wsX1_skips := by decide +kernel
set_option maxHeartbeats 4000000 in
set_option maxRecDepth 100000 in
theorem c_X1_skips (l : Launch) (G : GG) (h : Nat) (hc : Nat) (n : Nat) (g : Nat) (sk : Int32) (f : Nat → Int32) (q : Nat) (h_q : 1 ≤ q ∧ q ≤ 30) : Met l yX1_skips wsX1_skips ({ frames := 1, cells := 0, slots := 0, locals := 20 } : Room) (va_Pc [.ref h, .int (nI q)] (PB G [(h, .inr (1, [.ref hc, .int (nI n), .int (nI g), .int sk])), (hc, .inl (G.2 0, 144, .inl f))])) (QR (some (.int (zb (bt sk q = true))))) 0 0 (fun _ => False) := by
  refine Met.go (cc := cX1_skips) (maxL := 2) (ret := (some .boolean)) (by decide) rfl (Nat.le_of_ble_eq_true rfl) ?_
  intro p e s m below meth c ls hx hb hr hml hown hts hlk hP hK hD hS hl
  have hown : s.vm.findClass RX1 = some m.cls := hown
  have hl : lv_has ls 2 [(0, .ref h), (1, .int (nI q))] := hl
  refine lv_iload_n hx hb dX1_skips_0 rfl (lv_at hl 1 rfl) ?_
  refine cRSN (host := RX6) (As := [.int (nI q)]) (rest := []) (v := .int (zb (1 ≤ q ∧ q ≤ 30))) ⟨hx, hb, hml, hown, hts⟩ (c_X6_canBeSkipped_n l G q (by first | omega | assumption)) ⟨va_cnB 1 hts gX1_skips_X6_canBeSkipped_n62 rfl rfl rfl (hK.2 (.methodLinkNest RX1 62 yX6_canBeSkipped RX6) (by decide +kernel)) (hts (.initialized RX6) (by decide +kernel)) (by decide +kernel) ⟨Nat.le_of_ble_eq_true rfl, Nat.le_of_ble_eq_true rfl⟩, hts (.static yX6_canBeSkipped) (by decide +kernel), trivial⟩ (preS_of hK hP hD [] (by decide) rfl) rfl hl.1 rfl (lv_room (Nat.le_of_ble_eq_true rfl)) dX1_skips_1 ⟨Nat.zero_le _, Nat.zero_le _⟩ ?_
  refine bb_eq (tgt := 23) hx hb dX1_skips_4 (by decide) (fun c_4 => False.elim (by omega)) (fun c_4 => ?_)
  refine lv_aload_n hx hb dX1_skips_7 rfl (lv_at hl 0 rfl) ?_
  refine va_get (D := G.1) (ci := 1) (v := .int sk) (C := RX1) (T := TX1) (N := 4) hx hb hts in_c_X1_skips_X1 hown hK.1 hP 0 rfl rfl 3 (by decide) (hts (.fieldLink RX1 35 "FloorPanels$House" "skipped" "I") (by decide +kernel)) (fun _ h9 => h9) rfl dX1_skips_8 ?_
  refine lv_iload_n hx hb dX1_skips_11 rfl (lv_at hl 1 rfl) ?_
  refine lv_iushr hx hb dX1_skips_12 rfl ?_
  refine lv_iconst (v := nI 1) hx hb dX1_skips_13 (by decide) ?_
  refine lv_iand hx hb dX1_skips_14 ?_
  refine lv_iconst (v := nI 1) hx hb dX1_skips_15 (by decide) ?_
  refine lv_icmp_ne (tgt := 23) hx hb dX1_skips_16 (by decide) (fun c_16 => ?_) (fun c_16 => ?_)
  ·
    have c_16 : ¬ bt sk q = true := fun z_ => c_16 ((sk_u sk (by omega)).mpr z_)
    refine lv_iconst (v := nI 0) hx hb dX1_skips_23 (by decide) ?_
    exact R_z hx hb hr hlk dX1_skips_24 ((zb_f (by first | omega | assumption | exact ⟨by assumption, by assumption⟩ | exact fun z_ => z_ (by assumption) | exact fun z_ => absurd z_.1 (by assumption) | exact fun z_ => absurd z_.2 (by assumption) | exact fun z_ => z_.1 (by assumption) | exact fun z_ => z_.2 (by assumption))).symm) zb_nar
  ·
    have c_16 : bt sk q = true := (sk_u sk (by omega)).mp c_16
    refine lv_iconst (v := nI 1) hx hb dX1_skips_19 (by decide) ?_
    refine lv_goto (tgt := 24) hx hb dX1_skips_20 (by decide) ?_
    exact R_z hx hb hr hlk dX1_skips_24 ((zb_t (by first | omega | assumption | exact ⟨by assumption, by assumption⟩ | exact fun z_ => z_ (by assumption) | exact fun z_ => absurd z_.1 (by assumption) | exact fun z_ => absurd z_.2 (by assumption) | exact fun z_ => z_.1 (by assumption) | exact fun z_ => z_.2 (by assumption))).symm) zb_nar

theorem in_c_X1_skippedStoreys_X1 : ∀ w ∈ wsX10, w ∈ wsX1_skippedStoreys := by decide +kernel
set_option maxHeartbeats 4000000 in
set_option maxRecDepth 100000 in
theorem c_X1_skippedStoreys (l : Launch) (G : GG) (h : Nat) (hc : Nat) (n : Nat) (g : Nat) (sk : Int32) (f : Nat → Int32)  : Met l yX1_skippedStoreys wsX1_skippedStoreys ({ frames := 1, cells := 0, slots := 0, locals := 20 } : Room) (va_Pc [.ref h] (PB G [(h, .inr (1, [.ref hc, .int (nI n), .int (nI g), .int sk])), (hc, .inl (G.2 0, 144, .inl f))])) (QR (some (.int (bcj sk)))) 0 0 (fun _ => False) := by
  refine Met.go (cc := cX1_skippedStoreys) (maxL := 1) (ret := (some .int)) (by decide) rfl (Nat.le_of_ble_eq_true rfl) ?_
  intro p e s m below meth c ls hx hb hr hml hown hts hlk hP hK hD hS hl
  have hown : s.vm.findClass RX1 = some m.cls := hown
  have hl : lv_has ls 1 [(0, .ref h)] := hl
  refine lv_aload_n hx hb dX1_skippedStoreys_0 rfl (lv_at hl 0 rfl) ?_
  refine va_get (D := G.1) (ci := 1) (v := .int sk) (C := RX1) (T := TX1) (N := 4) hx hb hts in_c_X1_skippedStoreys_X1 hown hK.1 hP 0 rfl rfl 3 (by decide) (hts (.fieldLink RX1 35 "FloorPanels$House" "skipped" "I") (by decide +kernel)) (fun _ h9 => h9) rfl dX1_skippedStoreys_1 ?_
  refine cRS (As := [.int sk]) (rest := []) (v := .int (bcj sk)) ⟨hx, hb, hml, hown, hts⟩ (c_J6_bitCount_0f7a4 l G sk ) (va_cwS 1 hts gX1_skippedStoreys_J6_bitCount_0f7a4 rfl rfl rfl (by decide +kernel) ⟨Nat.le_of_ble_eq_true rfl, Nat.le_of_ble_eq_true rfl⟩) (preS_of hK hP hD [] (by decide) rfl) rfl hl.1 rfl (lv_room (Nat.le_of_ble_eq_true rfl)) dX1_skippedStoreys_4 ⟨Nat.zero_le _, Nat.zero_le _⟩ ?_
  exact R_i hx hb hr hlk dX1_skippedStoreys_7 (rfl)

theorem in_c_X1_greatestStorey_X1 : ∀ w ∈ wsX10, w ∈ wsX1_greatestStorey := by decide +kernel
set_option maxHeartbeats 4000000 in
set_option maxRecDepth 100000 in
theorem c_X1_greatestStorey (l : Launch) (G : GG) (h : Nat) (hc : Nat) (n : Nat) (g : Nat) (sk : Int32) (f : Nat → Int32) (h_n : n ≤ 16) (h_g : g < n) (h_nm : Nmd n g sk f) (h_kd : Kds n f) : Met l yX1_greatestStorey wsX1_greatestStorey ({ frames := 2, cells := 0, slots := 0, locals := 43 } : Room) (va_Pc [.ref h] (PB G [(h, .inr (1, [.ref hc, .int (nI n), .int (nI g), .int sk])), (hc, .inl (G.2 0, 144, .inl f))])) (QR (some (.int (zI (mxs (fun x_ => ¬ f (16 + x_) = -1) (fun x_ => sto sk f g x_) n))))) 0 0 (fun _ => False) := by
  refine Met.go (cc := cX1_greatestStorey) (maxL := 3) (ret := (some .int)) (by decide) rfl (Nat.le_of_ble_eq_true rfl) ?_
  intro p e s m below meth c ls hx hb hr hml hown hts hlk hP hK hD hS hl
  have hown : s.vm.findClass RX1 = some m.cls := hown
  have hl : lv_has ls 3 [(0, .ref h)] := hl
  refine lv_iconst (v := nI 0) hx hb dX1_greatestStorey_0 (by decide) ?_
  refine lv_istore_n (lv' := [(1, .int (nI 0)), (0, .ref h)]) hx hb dX1_greatestStorey_1 rfl hl (by decide) rfl (fun ls hl => ?_)
  refine lv_iconst (v := nI 0) hx hb dX1_greatestStorey_2 (by decide) ?_
  refine lv_istore_n (lv' := [(2, .int (nI 0)), (1, .int (nI 0)), (0, .ref h)]) hx hb dX1_greatestStorey_3 rfl hl (by decide) rfl (fun ls hl => ?_)
  have loop_4 : ∀ (k_ : Nat) (i : Nat) (h_i : i ≤ n) (_ : n - i < k_) (ls : Array Slot), lv_has ls 3 [(2, .int (nI i)), (1, .int (zI (mxs (fun x_ => ¬ f (16 + x_) = -1) (fun x_ => sto sk f g x_) i))), (0, .ref h)] → W p l e ({ frames := 2, cells := 0, slots := 0, locals := 43 } : Room) s m ([.ref h] : List Value).toArray below meth c s.heap [] 0 0 (MQ below (QR (some (.int (zI (mxs (fun x_ => ¬ f (16 + x_) = -1) (fun x_ => sto sk f g x_) n))))) ([.ref h] : List Value).toArray s 0 0 (fun _ => False)) (F0 m 4 ls []) := by
    intro k_
    induction k_ with
    | zero => intro i h_i hk_; exact absurd hk_ (Nat.not_lt_zero _)
    | succ k_ ih_4 =>
      intro i h_i hk_ ls hl
      refine lv_iload_n hx hb dX1_greatestStorey_4 rfl (lv_at hl 0 rfl) ?_
      refine lv_aload_n hx hb dX1_greatestStorey_5 rfl (lv_at hl 2 rfl) ?_
      refine va_get (D := G.1) (ci := 1) (v := .int (nI n)) (C := RX1) (T := TX1) (N := 4) hx hb hts in_c_X1_greatestStorey_X1 hown hK.1 hP 0 rfl rfl 1 (by decide) (hts (.fieldLink RX1 15 "FloorPanels$House" "levels" "I") (by decide +kernel)) (fun _ h9 => h9) rfl dX1_greatestStorey_6 ?_
      refine bi_ge (tgt := 40) hx hb dX1_greatestStorey_9 (by decide) (nI_i (by omega)) (nI_i (by omega)) (fun c_9 => ?_) (fun c_9 => ?_)
      ·
        refine lv_iload_n hx hb dX1_greatestStorey_40 rfl (lv_at hl 1 rfl) ?_
        exact R_i hx hb hr hlk dX1_greatestStorey_41 (by rw [show i = n by omega])
      ·
        refine lv_aload_n hx hb dX1_greatestStorey_12 rfl (lv_at hl 2 rfl) ?_
        refine lv_iload_n hx hb dX1_greatestStorey_13 rfl (lv_at hl 0 rfl) ?_
        refine cRV (As := [.int (nI i)]) (rest := []) (v := .int (zb (¬ f (16 + i) = -1))) ⟨hx, hb, hml, hown, hts⟩ (c_X1_hasName l G h hc n g sk f i (by first | omega | assumption)) (cwV 1 hts gX1_greatestStorey_X1_hasName rfl rfl rfl (by decide +kernel) ⟨Nat.le_of_ble_eq_true rfl, Nat.le_of_ble_eq_true rfl⟩) (preV_of hK hP hD [0, 1] (by decide) rfl (ci := 1) (q0 := 0) rfl rfl rfl) rfl hl.1 rfl (lv_room (Nat.le_of_ble_eq_true rfl)) dX1_greatestStorey_14 ⟨Nat.zero_le _, Nat.zero_le _⟩ ?_
        refine bb_eq (tgt := 34) hx hb dX1_greatestStorey_17 (by decide) (fun c_17 => ?_) (fun c_17 => ?_)
        ·
          have c_17 := Classical.not_not.mp c_17
          refine lv_iinc (v := nI (i + 1)) (lv' := [(2, .int (nI (i + 1))), (1, .int (zI (mxs (fun x_ => ¬ f (16 + x_) = -1) (fun x_ => sto sk f g x_) i))), (0, .ref h)]) hx hb dX1_greatestStorey_34 hl (k := 0) rfl (inc_n _ 1) (by decide) rfl (fun ls hl => ?_)
          refine lv_goto (tgt := 4) hx hb dX1_greatestStorey_37 (by decide) ?_
          exact ih_4 (i + 1) (by first | omega | assumption) (by omega) ls (lv_sub hl [0, 1, 2] (by first | (rw [mxs_t (by assumption)]; rfl) | (rw [mxs_f (fun z_ => z_ (by assumption))]; rfl)))
        ·
          have h_d := nm_div (sk := sk) h_n h_g h_kd (x := i) (by omega) (by rw [← h_nm i (by omega)]; exact c_17)
          rw [← h_nm i (by omega)] at h_d
          refine lv_iload_n hx hb dX1_greatestStorey_20 rfl (lv_at hl 1 rfl) ?_
          refine lv_aload_n hx hb dX1_greatestStorey_21 rfl (lv_at hl 2 rfl) ?_
          refine lv_iload_n hx hb dX1_greatestStorey_22 rfl (lv_at hl 0 rfl) ?_
          refine cRV (As := [.int (nI i)]) (rest := [.int (zI (mxs (fun x_ => ¬ f (16 + x_) = -1) (fun x_ => sto sk f g x_) i))]) (v := .int (f (16 + i))) ⟨hx, hb, hml, hown, hts⟩ (c_X1_nameOf l G h hc n g sk f i (by first | omega | assumption)) (cwV 1 hts gX1_greatestStorey_X1_nameOf rfl rfl rfl (by decide +kernel) ⟨Nat.le_of_ble_eq_true rfl, Nat.le_of_ble_eq_true rfl⟩) (preV_of hK hP hD [0, 1] (by decide) rfl (ci := 1) (q0 := 0) rfl rfl rfl) rfl hl.1 rfl (lv_room (Nat.le_of_ble_eq_true rfl)) dX1_greatestStorey_23 ⟨Nat.zero_le _, Nat.zero_le _⟩ ?_
          refine lv_iconst (v := nI 4) hx hb dX1_greatestStorey_26 (by decide) ?_
          refine cRS (As := [.int (f (16 + i)), .int (nI 4)]) (rest := [.int (zI (mxs (fun x_ => ¬ f (16 + x_) = -1) (fun x_ => sto sk f g x_) i))]) (v := .int (zI ((f (16 + i)).toInt / 4))) ⟨hx, hb, hml, hown, hts⟩ (c_J9_floorDiv_7cf53 l G (f (16 + i)) h_d.2) (va_cwS 2 hts gX1_greatestStorey_J9_floorDiv_7cf53 rfl rfl rfl (by decide +kernel) ⟨Nat.le_of_ble_eq_true rfl, Nat.le_of_ble_eq_true rfl⟩) (preS_of hK hP hD [] (by decide) rfl) rfl hl.1 rfl (lv_room (Nat.le_of_ble_eq_true rfl)) dX1_greatestStorey_27 ⟨Nat.zero_le _, Nat.zero_le _⟩ ?_
          rw [show (zI ((f (16 + i)).toInt / 4)) = zI (sto sk f g i) from by rw [h_d.1]]
          refine va_mmax hx hb (hml.trans hl.1.symm) hown (hts (.methodLink RX1 85 Lib.Math.max.name) (by decide +kernel)) (hts (.static Lib.Math.max.name) (by decide +kernel)) (hts (.initialized "java/lang/Math") (by decide +kernel)) (hts (.code Lib.Math.max.name Lib.Math.max.code 2 (some .int)) (by decide +kernel)) (Nat.le_of_ble_eq_true rfl) (Nat.le_of_ble_eq_true rfl) (Nat.zero_le _) (Nat.zero_le _) dX1_greatestStorey_30 ?_
          rw [show (if (zI (mxs (fun x_ => ¬ f (16 + x_) = -1) (fun x_ => sto sk f g x_) i)) < (zI (sto sk f g i)) then (zI (sto sk f g i)) else (zI (mxs (fun x_ => ¬ f (16 + x_) = -1) (fun x_ => sto sk f g x_) i))) = zI (max (mxs (fun x_ => ¬ f (16 + x_) = -1) (fun x_ => sto sk f g x_) i) (sto sk f g i)) from zI_max (by have h_r := mxs_rng (p := fun x_ => ¬ f (16 + x_) = -1) (z := fun x_ => sto sk f g x_) (b := 46) (by omega) (n := i) (fun y_ hy_ _ => (sto_rng sk f h_g (by omega : y_ < n) h_n).2); omega) (by have h_s := sto_rng sk f h_g (by omega : i < n) h_n; omega)]
          refine lv_istore_n (lv' := [(1, .int (zI (max (mxs (fun x_ => ¬ f (16 + x_) = -1) (fun x_ => sto sk f g x_) i) (sto sk f g i)))), (2, .int (nI i)), (0, .ref h)]) hx hb dX1_greatestStorey_33 rfl hl (by decide) rfl (fun ls hl => ?_)
          refine lv_iinc (v := nI (i + 1)) (lv' := [(2, .int (nI (i + 1))), (1, .int (zI (max (mxs (fun x_ => ¬ f (16 + x_) = -1) (fun x_ => sto sk f g x_) i) (sto sk f g i)))), (0, .ref h)]) hx hb dX1_greatestStorey_34 hl (k := 1) rfl (inc_n _ 1) (by decide) rfl (fun ls hl => ?_)
          refine lv_goto (tgt := 4) hx hb dX1_greatestStorey_37 (by decide) ?_
          exact ih_4 (i + 1) (by first | omega | assumption) (by omega) ls (lv_sub hl [0, 1, 2] (by first | (rw [mxs_t (by assumption)]; rfl) | (rw [mxs_f (fun z_ => z_ (by assumption))]; rfl)))
  exact loop_4 (n - 0 + 1) 0 (by first | omega | assumption) (Nat.lt_succ_self _)  ls (lv_sub hl [0, 1, 2] (by rfl))

theorem in_c_X1_leastStorey_X1 : ∀ w ∈ wsX10, w ∈ wsX1_leastStorey := by decide +kernel
set_option maxHeartbeats 4000000 in
set_option maxRecDepth 100000 in
theorem c_X1_leastStorey (l : Launch) (G : GG) (h : Nat) (hc : Nat) (n : Nat) (g : Nat) (sk : Int32) (f : Nat → Int32) (h_n : n ≤ 16) (h_g : g < n) (h_nm : Nmd n g sk f) (h_kd : Kds n f) : Met l yX1_leastStorey wsX1_leastStorey ({ frames := 2, cells := 0, slots := 0, locals := 43 } : Room) (va_Pc [.ref h] (PB G [(h, .inr (1, [.ref hc, .int (nI n), .int (nI g), .int sk])), (hc, .inl (G.2 0, 144, .inl f))])) (QR (some (.int (zI (mns (fun x_ => ¬ f (16 + x_) = -1) (fun x_ => sto sk f g x_) n))))) 0 0 (fun _ => False) := by
  refine Met.go (cc := cX1_leastStorey) (maxL := 3) (ret := (some .int)) (by decide) rfl (Nat.le_of_ble_eq_true rfl) ?_
  intro p e s m below meth c ls hx hb hr hml hown hts hlk hP hK hD hS hl
  have hown : s.vm.findClass RX1 = some m.cls := hown
  have hl : lv_has ls 3 [(0, .ref h)] := hl
  refine lv_iconst (v := nI 0) hx hb dX1_leastStorey_0 (by decide) ?_
  refine lv_istore_n (lv' := [(1, .int (nI 0)), (0, .ref h)]) hx hb dX1_leastStorey_1 rfl hl (by decide) rfl (fun ls hl => ?_)
  refine lv_iconst (v := nI 0) hx hb dX1_leastStorey_2 (by decide) ?_
  refine lv_istore_n (lv' := [(2, .int (nI 0)), (1, .int (nI 0)), (0, .ref h)]) hx hb dX1_leastStorey_3 rfl hl (by decide) rfl (fun ls hl => ?_)
  have loop_4 : ∀ (k_ : Nat) (i : Nat) (h_i : i ≤ n) (_ : n - i < k_) (ls : Array Slot), lv_has ls 3 [(2, .int (nI i)), (1, .int (zI (mns (fun x_ => ¬ f (16 + x_) = -1) (fun x_ => sto sk f g x_) i))), (0, .ref h)] → W p l e ({ frames := 2, cells := 0, slots := 0, locals := 43 } : Room) s m ([.ref h] : List Value).toArray below meth c s.heap [] 0 0 (MQ below (QR (some (.int (zI (mns (fun x_ => ¬ f (16 + x_) = -1) (fun x_ => sto sk f g x_) n))))) ([.ref h] : List Value).toArray s 0 0 (fun _ => False)) (F0 m 4 ls []) := by
    intro k_
    induction k_ with
    | zero => intro i h_i hk_; exact absurd hk_ (Nat.not_lt_zero _)
    | succ k_ ih_4 =>
      intro i h_i hk_ ls hl
      refine lv_iload_n hx hb dX1_leastStorey_4 rfl (lv_at hl 0 rfl) ?_
      refine lv_aload_n hx hb dX1_leastStorey_5 rfl (lv_at hl 2 rfl) ?_
      refine va_get (D := G.1) (ci := 1) (v := .int (nI n)) (C := RX1) (T := TX1) (N := 4) hx hb hts in_c_X1_leastStorey_X1 hown hK.1 hP 0 rfl rfl 1 (by decide) (hts (.fieldLink RX1 15 "FloorPanels$House" "levels" "I") (by decide +kernel)) (fun _ h9 => h9) rfl dX1_leastStorey_6 ?_
      refine bi_ge (tgt := 40) hx hb dX1_leastStorey_9 (by decide) (nI_i (by omega)) (nI_i (by omega)) (fun c_9 => ?_) (fun c_9 => ?_)
      ·
        refine lv_iload_n hx hb dX1_leastStorey_40 rfl (lv_at hl 1 rfl) ?_
        exact R_i hx hb hr hlk dX1_leastStorey_41 (by rw [show i = n by omega])
      ·
        refine lv_aload_n hx hb dX1_leastStorey_12 rfl (lv_at hl 2 rfl) ?_
        refine lv_iload_n hx hb dX1_leastStorey_13 rfl (lv_at hl 0 rfl) ?_
        refine cRV (As := [.int (nI i)]) (rest := []) (v := .int (zb (¬ f (16 + i) = -1))) ⟨hx, hb, hml, hown, hts⟩ (c_X1_hasName l G h hc n g sk f i (by first | omega | assumption)) (cwV 1 hts gX1_leastStorey_X1_hasName rfl rfl rfl (by decide +kernel) ⟨Nat.le_of_ble_eq_true rfl, Nat.le_of_ble_eq_true rfl⟩) (preV_of hK hP hD [0, 1] (by decide) rfl (ci := 1) (q0 := 0) rfl rfl rfl) rfl hl.1 rfl (lv_room (Nat.le_of_ble_eq_true rfl)) dX1_leastStorey_14 ⟨Nat.zero_le _, Nat.zero_le _⟩ ?_
        refine bb_eq (tgt := 34) hx hb dX1_leastStorey_17 (by decide) (fun c_17 => ?_) (fun c_17 => ?_)
        ·
          have c_17 := Classical.not_not.mp c_17
          refine lv_iinc (v := nI (i + 1)) (lv' := [(2, .int (nI (i + 1))), (1, .int (zI (mns (fun x_ => ¬ f (16 + x_) = -1) (fun x_ => sto sk f g x_) i))), (0, .ref h)]) hx hb dX1_leastStorey_34 hl (k := 0) rfl (inc_n _ 1) (by decide) rfl (fun ls hl => ?_)
          refine lv_goto (tgt := 4) hx hb dX1_leastStorey_37 (by decide) ?_
          exact ih_4 (i + 1) (by first | omega | assumption) (by omega) ls (lv_sub hl [0, 1, 2] (by first | (rw [mns_t (by assumption)]; rfl) | (rw [mns_f (fun z_ => z_ (by assumption))]; rfl)))
        ·
          have h_d := nm_div (sk := sk) h_n h_g h_kd (x := i) (by omega) (by rw [← h_nm i (by omega)]; exact c_17)
          rw [← h_nm i (by omega)] at h_d
          refine lv_iload_n hx hb dX1_leastStorey_20 rfl (lv_at hl 1 rfl) ?_
          refine lv_aload_n hx hb dX1_leastStorey_21 rfl (lv_at hl 2 rfl) ?_
          refine lv_iload_n hx hb dX1_leastStorey_22 rfl (lv_at hl 0 rfl) ?_
          refine cRV (As := [.int (nI i)]) (rest := [.int (zI (mns (fun x_ => ¬ f (16 + x_) = -1) (fun x_ => sto sk f g x_) i))]) (v := .int (f (16 + i))) ⟨hx, hb, hml, hown, hts⟩ (c_X1_nameOf l G h hc n g sk f i (by first | omega | assumption)) (cwV 1 hts gX1_leastStorey_X1_nameOf rfl rfl rfl (by decide +kernel) ⟨Nat.le_of_ble_eq_true rfl, Nat.le_of_ble_eq_true rfl⟩) (preV_of hK hP hD [0, 1] (by decide) rfl (ci := 1) (q0 := 0) rfl rfl rfl) rfl hl.1 rfl (lv_room (Nat.le_of_ble_eq_true rfl)) dX1_leastStorey_23 ⟨Nat.zero_le _, Nat.zero_le _⟩ ?_
          refine lv_iconst (v := nI 4) hx hb dX1_leastStorey_26 (by decide) ?_
          refine cRS (As := [.int (f (16 + i)), .int (nI 4)]) (rest := [.int (zI (mns (fun x_ => ¬ f (16 + x_) = -1) (fun x_ => sto sk f g x_) i))]) (v := .int (zI ((f (16 + i)).toInt / 4))) ⟨hx, hb, hml, hown, hts⟩ (c_J9_floorDiv_7cf53 l G (f (16 + i)) h_d.2) (va_cwS 2 hts gX1_leastStorey_J9_floorDiv_7cf53 rfl rfl rfl (by decide +kernel) ⟨Nat.le_of_ble_eq_true rfl, Nat.le_of_ble_eq_true rfl⟩) (preS_of hK hP hD [] (by decide) rfl) rfl hl.1 rfl (lv_room (Nat.le_of_ble_eq_true rfl)) dX1_leastStorey_27 ⟨Nat.zero_le _, Nat.zero_le _⟩ ?_
          rw [show (zI ((f (16 + i)).toInt / 4)) = zI (sto sk f g i) from by rw [h_d.1]]
          refine va_mmin hx hb (hml.trans hl.1.symm) hown (hts (.methodLink RX1 88 Lib.Math.min.name) (by decide +kernel)) (hts (.static Lib.Math.min.name) (by decide +kernel)) (hts (.initialized "java/lang/Math") (by decide +kernel)) (hts (.code Lib.Math.min.name Lib.Math.min.code 2 (some .int)) (by decide +kernel)) (Nat.le_of_ble_eq_true rfl) (Nat.le_of_ble_eq_true rfl) (Nat.zero_le _) (Nat.zero_le _) dX1_leastStorey_30 ?_
          rw [show (if (zI (sto sk f g i)) < (zI (mns (fun x_ => ¬ f (16 + x_) = -1) (fun x_ => sto sk f g x_) i)) then (zI (sto sk f g i)) else (zI (mns (fun x_ => ¬ f (16 + x_) = -1) (fun x_ => sto sk f g x_) i))) = zI (min (mns (fun x_ => ¬ f (16 + x_) = -1) (fun x_ => sto sk f g x_) i) (sto sk f g i)) from zI_min (by have h_r := mns_rng (p := fun x_ => ¬ f (16 + x_) = -1) (z := fun x_ => sto sk f g x_) (b := -15) (by omega) (n := i) (fun y_ hy_ _ => (sto_rng sk f h_g (by omega : y_ < n) h_n).1); omega) (by have h_s := sto_rng sk f h_g (by omega : i < n) h_n; omega)]
          refine lv_istore_n (lv' := [(1, .int (zI (min (mns (fun x_ => ¬ f (16 + x_) = -1) (fun x_ => sto sk f g x_) i) (sto sk f g i)))), (2, .int (nI i)), (0, .ref h)]) hx hb dX1_leastStorey_33 rfl hl (by decide) rfl (fun ls hl => ?_)
          refine lv_iinc (v := nI (i + 1)) (lv' := [(2, .int (nI (i + 1))), (1, .int (zI (min (mns (fun x_ => ¬ f (16 + x_) = -1) (fun x_ => sto sk f g x_) i) (sto sk f g i)))), (0, .ref h)]) hx hb dX1_leastStorey_34 hl (k := 1) rfl (inc_n _ 1) (by decide) rfl (fun ls hl => ?_)
          refine lv_goto (tgt := 4) hx hb dX1_leastStorey_37 (by decide) ?_
          exact ih_4 (i + 1) (by first | omega | assumption) (by omega) ls (lv_sub hl [0, 1, 2] (by first | (rw [mns_t (by assumption)]; rfl) | (rw [mns_f (fun z_ => z_ (by assumption))]; rfl)))
  exact loop_4 (n - 0 + 1) 0 (by first | omega | assumption) (Nat.lt_succ_self _)  ls (lv_sub hl [0, 1, 2] (by rfl))

theorem in_c_X1_copyFrom_X1 : ∀ w ∈ wsX10, w ∈ wsX1_copyFrom := by decide +kernel
set_option maxHeartbeats 4000000 in
set_option maxRecDepth 100000 in
theorem c_X1_copyFrom (l : Launch) (G : GG) (h : Nat) (hc : Nat) (n : Nat) (g : Nat) (sk : Int32) (f : Nat → Int32) (h2 : Nat) (hc2 : Nat) (n2 : Nat) (g2 : Nat) (sk2 : Int32) (f2 : Nat → Int32)  : Met l yX1_copyFrom wsX1_copyFrom ({ frames := 1, cells := 0, slots := 0, locals := 64 } : Room) (va_Pc [.ref h, .ref h2] (PB G [(h, .inr (1, [.ref hc, .int (nI n), .int (nI g), .int sk])), (hc, .inl (G.2 0, 144, .inl f)), (h2, .inr (1, [.ref hc2, .int (nI n2), .int (nI g2), .int sk2])), (hc2, .inl (G.2 0, 144, .inl f2))])) (QW G (none) [(h, .inr (1, [.ref hc, .int (nI n2), .int (nI g2), .int sk2])), (hc, .inl (G.2 0, 144, .inl f2)), (h2, .inr (1, [.ref hc2, .int (nI n2), .int (nI g2), .int sk2])), (hc2, .inl (G.2 0, 144, .inl f2))] (vA [(h, .inr (1, [.ref hc, .int (nI n), .int (nI g), .int sk])), (hc, .inl (G.2 0, 144, .inl f)), (h2, .inr (1, [.ref hc2, .int (nI n2), .int (nI g2), .int sk2])), (hc2, .inl (G.2 0, 144, .inl f2))])) 0 0 (vA [(h, .inr (1, [.ref hc, .int (nI n), .int (nI g), .int sk])), (hc, .inl (G.2 0, 144, .inl f)), (h2, .inr (1, [.ref hc2, .int (nI n2), .int (nI g2), .int sk2])), (hc2, .inl (G.2 0, 144, .inl f2))]) := by
  refine Met.go (cc := cX1_copyFrom) (maxL := 2) (ret := none) (by decide) rfl (Nat.le_of_ble_eq_true rfl) ?_
  intro p e s m below meth c ls hx hb hr hml hown hts hlk hP hK hD hS hl
  have hown : s.vm.findClass RX1 = some m.cls := hown
  have hl : lv_has ls 2 [(0, .ref h), (1, .ref h2)] := hl
  refine lv_aload_n hx hb dX1_copyFrom_0 rfl (lv_at hl 1 rfl) ?_
  refine va_get (D := G.1) (ci := 1) (v := .ref hc2) (C := RX1) (T := TX1) (N := 4) hx hb hts in_c_X1_copyFrom_X1 hown hK.1 hP 2 rfl rfl 0 (by decide) (hts (.fieldLink RX1 11 "FloorPanels$House" "cells" "[I") (by decide +kernel)) (fun _ h9 => h9) rfl dX1_copyFrom_1 ?_
  refine lv_iconst (v := nI 0) hx hb dX1_copyFrom_4 (by decide) ?_
  refine lv_aload_n hx hb dX1_copyFrom_5 rfl (lv_at hl 0 rfl) ?_
  refine va_get (D := G.1) (ci := 1) (v := .ref hc) (C := RX1) (T := TX1) (N := 4) hx hb hts in_c_X1_copyFrom_X1 hown hK.1 hP 0 rfl rfl 0 (by decide) (hts (.fieldLink RX1 11 "FloorPanels$House" "cells" "[I") (by decide +kernel)) (fun _ h9 => h9) rfl dX1_copyFrom_6 ?_
  refine lv_iconst (v := nI 0) hx hb dX1_copyFrom_9 (by decide) ?_
  refine lv_sipush (v := nI 144) hx hb dX1_copyFrom_10 (by decide) ?_
  refine va_copyi (ty := .int) hx hb (hml.trans hl.1.symm) hown (hts (.methodLink RX1 26 arraycopyName) (by decide +kernel)) (hts (.native arraycopyName) (by decide +kernel)) (hts (.static arraycopyName) (by decide +kernel)) (hts (.initialized "java/lang/System") (by decide +kernel)) hK.1 hP hD hS 3 1 0 0 rfl rfl rfl rfl rfl (by decide) (by decide) (by decide) (by decide) (by decide) (fun _ _ => rfl) (Nat.le_of_ble_eq_true rfl) (Nat.le_of_ble_eq_true rfl) dX1_copyFrom_13 (fun H locs hP hD hS => ?_)
  have hP : VP G [(h, .inr (1, [.ref hc, .int (nI n), .int (nI g), .int sk])), (hc, .inl (G.2 0, 144, .inl f2)), (h2, .inr (1, [.ref hc2, .int (nI n2), .int (nI g2), .int sk2])), (hc2, .inl (G.2 0, 144, .inl f2))] H := VP.arr (k := 1) hP rfl (fun j_ hj_ => cpy_all hj_)
  have hD : va_D _ [(h, .inr (1, [.ref hc, .int (nI n), .int (nI g), .int sk])), (hc, .inl (G.2 0, 144, .inl f2)), (h2, .inr (1, [.ref hc2, .int (nI n2), .int (nI g2), .int sk2])), (hc2, .inl (G.2 0, 144, .inl f2))] := VD.arr (k := 1) hD rfl
  refine lv_aload_n hx hb dX1_copyFrom_16 rfl (lv_at hl 0 rfl) ?_
  refine lv_aload_n hx hb dX1_copyFrom_17 rfl (lv_at hl 1 rfl) ?_
  refine va_get (D := G.1) (ci := 1) (v := .int (nI n2)) (C := RX1) (T := TX1) (N := 4) hx hb hts in_c_X1_copyFrom_X1 hown hK.1 hP 2 rfl rfl 1 (by decide) (hts (.fieldLink RX1 15 "FloorPanels$House" "levels" "I") (by decide +kernel)) (fun _ h9 => h9) rfl dX1_copyFrom_18 ?_
  refine va_put (D := G.1) (ci := 1) (v := .int (nI n2)) (ty := .int) (C := RX1) (T := TX1) (N := 4) hx hb hts in_c_X1_copyFrom_X1 tyX1 tyX1_ok nmX1 hown hK.1 hP hD hS 0 rfl rfl 1 (by decide) (hts (.fieldLink RX1 15 "FloorPanels$House" "levels" "I") (by decide +kernel)) (fun _ h9 => h9) rfl (by decide +kernel) rfl rfl (Nat.le_of_ble_eq_true rfl) dX1_copyFrom_21 (fun H locs hP hD hS => ?_)
  have hP : VP G [(h, .inr (1, [.ref hc, .int (nI n2), .int (nI g), .int sk])), (hc, .inl (G.2 0, 144, .inl f2)), (h2, .inr (1, [.ref hc2, .int (nI n2), .int (nI g2), .int sk2])), (hc2, .inl (G.2 0, 144, .inl f2))] H := hP
  have hD : va_D _ [(h, .inr (1, [.ref hc, .int (nI n2), .int (nI g), .int sk])), (hc, .inl (G.2 0, 144, .inl f2)), (h2, .inr (1, [.ref hc2, .int (nI n2), .int (nI g2), .int sk2])), (hc2, .inl (G.2 0, 144, .inl f2))] := hD
  refine lv_aload_n hx hb dX1_copyFrom_24 rfl (lv_at hl 0 rfl) ?_
  refine lv_aload_n hx hb dX1_copyFrom_25 rfl (lv_at hl 1 rfl) ?_
  refine va_get (D := G.1) (ci := 1) (v := .int (nI g2)) (C := RX1) (T := TX1) (N := 4) hx hb hts in_c_X1_copyFrom_X1 hown hK.1 hP 2 rfl rfl 2 (by decide) (hts (.fieldLink RX1 32 "FloorPanels$House" "groundLevel" "I") (by decide +kernel)) (fun _ h9 => h9) rfl dX1_copyFrom_26 ?_
  refine va_put (D := G.1) (ci := 1) (v := .int (nI g2)) (ty := .int) (C := RX1) (T := TX1) (N := 4) hx hb hts in_c_X1_copyFrom_X1 tyX1 tyX1_ok nmX1 hown hK.1 hP hD hS 0 rfl rfl 2 (by decide) (hts (.fieldLink RX1 32 "FloorPanels$House" "groundLevel" "I") (by decide +kernel)) (fun _ h9 => h9) rfl (by decide +kernel) rfl rfl (Nat.le_of_ble_eq_true rfl) dX1_copyFrom_29 (fun H locs hP hD hS => ?_)
  have hP : VP G [(h, .inr (1, [.ref hc, .int (nI n2), .int (nI g2), .int sk])), (hc, .inl (G.2 0, 144, .inl f2)), (h2, .inr (1, [.ref hc2, .int (nI n2), .int (nI g2), .int sk2])), (hc2, .inl (G.2 0, 144, .inl f2))] H := hP
  have hD : va_D _ [(h, .inr (1, [.ref hc, .int (nI n2), .int (nI g2), .int sk])), (hc, .inl (G.2 0, 144, .inl f2)), (h2, .inr (1, [.ref hc2, .int (nI n2), .int (nI g2), .int sk2])), (hc2, .inl (G.2 0, 144, .inl f2))] := hD
  refine lv_aload_n hx hb dX1_copyFrom_32 rfl (lv_at hl 0 rfl) ?_
  refine lv_aload_n hx hb dX1_copyFrom_33 rfl (lv_at hl 1 rfl) ?_
  refine va_get (D := G.1) (ci := 1) (v := .int sk2) (C := RX1) (T := TX1) (N := 4) hx hb hts in_c_X1_copyFrom_X1 hown hK.1 hP 2 rfl rfl 3 (by decide) (hts (.fieldLink RX1 35 "FloorPanels$House" "skipped" "I") (by decide +kernel)) (fun _ h9 => h9) rfl dX1_copyFrom_34 ?_
  refine va_put (D := G.1) (ci := 1) (v := .int sk2) (ty := .int) (C := RX1) (T := TX1) (N := 4) hx hb hts in_c_X1_copyFrom_X1 tyX1 tyX1_ok nmX1 hown hK.1 hP hD hS 0 rfl rfl 3 (by decide) (hts (.fieldLink RX1 35 "FloorPanels$House" "skipped" "I") (by decide +kernel)) (fun _ h9 => h9) rfl (by decide +kernel) rfl rfl (Nat.le_of_ble_eq_true rfl) dX1_copyFrom_37 (fun H locs hP hD hS => ?_)
  have hP : VP G [(h, .inr (1, [.ref hc, .int (nI n2), .int (nI g2), .int sk2])), (hc, .inl (G.2 0, 144, .inl f2)), (h2, .inr (1, [.ref hc2, .int (nI n2), .int (nI g2), .int sk2])), (hc2, .inl (G.2 0, 144, .inl f2))] H := hP
  have hD : va_D _ [(h, .inr (1, [.ref hc, .int (nI n2), .int (nI g2), .int sk2])), (hc, .inl (G.2 0, 144, .inl f2)), (h2, .inr (1, [.ref hc2, .int (nI n2), .int (nI g2), .int sk2])), (hc2, .inl (G.2 0, 144, .inl f2))] := hD
  exact W_v hx hb hr hlk dX1_copyFrom_40 hP hS (rfl)

