set_option maxHeartbeats 4000000 in
set_option maxRecDepth 100000 in
theorem c_X3_destination (l : Launch) (G : GG) (h : Nat) (hc : Nat) (n : Nat) (g : Nat) (sk : Int32) (f : Nat → Int32) (ca : Nat) (fr : Nat) (na : Int32) (h_n : n ≤ 16) (h_ca : ca < 3) (h_fr : fr < 16) : Met l yX3_destination wsX3_destination ({ frames := 2, cells := 0, slots := 0, locals := 44 } : Room) (va_Pc [.ref h, .int (nI ca), .int (nI fr), .int na] (PB G [(h, .inr (1, [.ref hc, .int (nI n), .int (nI g), .int sk])), (hc, .inl (G.2 0, 144, .inl f))])) (QR (some (.int (dst f n ca fr na)))) 0 0 (fun _ => False) := by
  refine Met.go (cc := cX3_destination) (maxL := 5) (ret := (some .int)) (by decide) rfl (Nat.le_of_ble_eq_true rfl) ?_
  intro p e s m below meth c ls hx hb hr hml hown hts hlk hP hK hD hS hl
  have hown : s.vm.findClass RX3 = some m.cls := hown
  have hl : lv_has ls 5 [(0, .ref h), (1, .int (nI ca)), (2, .int (nI fr)), (3, .int na)] := hl
  refine lv_iload_n hx hb dX3_destination_0 rfl (lv_at hl 3 rfl) ?_
  refine lv_iconst (v := (-1)) hx hb dX3_destination_1 (by decide) ?_
  refine lv_icmp_eq (tgt := 14) hx hb dX3_destination_2 (by decide) (fun c_2 => ?_) (fun c_2 => ?_)
  ·
    refine lv_iconst (v := (-1)) hx hb dX3_destination_14 (by decide) ?_
    exact R_i hx hb hr hlk dX3_destination_15 ((dst_n (Or.inl c_2)).symm)
  ·
    refine lv_aload_n hx hb dX3_destination_5 rfl (lv_at hl 0 rfl) ?_
    refine lv_iload_n hx hb dX3_destination_6 rfl (lv_at hl 1 rfl) ?_
    refine lv_iload_n hx hb dX3_destination_7 rfl (lv_at hl 2 rfl) ?_
    refine cRV (As := [.int (nI ca), .int (nI fr)]) (rest := []) (v := .int (zb (¬ f (16 + fr) = -1 ∧ f ((6 + ca) * 16 + fr) = 1))) ⟨hx, hb, hml, hown, hts⟩ (c_X1_isStopOf l G h hc n g sk f ca fr (by first | omega | assumption) (by first | omega | assumption)) (cwV 2 hts gX3_destination_X1_isStopOf rfl rfl rfl (by decide +kernel) ⟨Nat.le_of_ble_eq_true rfl, Nat.le_of_ble_eq_true rfl⟩) (preV_of hK hP hD [0, 1] (by decide) rfl (ci := 1) (q0 := 0) rfl rfl rfl) rfl hl.1 rfl (lv_room (Nat.le_of_ble_eq_true rfl)) dX3_destination_8 ⟨Nat.zero_le _, Nat.zero_le _⟩ ?_
    refine bb_ne (tgt := 16) hx hb dX3_destination_11 (by decide) (fun c_11 => ?_) (fun c_11 => ?_)
    ·
      refine lv_iconst (v := nI 0) hx hb dX3_destination_16 (by decide) ?_
      refine lv_istore (lv' := [(4, .int (nI 0)), (0, .ref h), (1, .int (nI ca)), (2, .int (nI fr)), (3, .int na)]) hx hb dX3_destination_17 hl (by decide) rfl (fun ls hl => ?_)
      have loop_19 : ∀ (k_ : Nat) (i : Nat) (h_i : i ≤ n) (h_e : kth (fun x_ => x_ ≠ fr ∧ stp f ca x_ ∧ f ((3 + ca) * 16 + x_) = na) n 0 0 = kth (fun x_ => x_ ≠ fr ∧ stp f ca x_ ∧ f ((3 + ca) * 16 + x_) = na) (n - i) i 0) (_ : n - i < k_) (ls : Array Slot), lv_has ls 5 [(4, .int (nI i)), (0, .ref h), (1, .int (nI ca)), (2, .int (nI fr)), (3, .int na)] → W p l e ({ frames := 2, cells := 0, slots := 0, locals := 44 } : Room) s m ([.ref h, .int (nI ca), .int (nI fr), .int na] : List Value).toArray below meth c s.heap [] 0 0 (MQ below (QR (some (.int (dst f n ca fr na)))) ([.ref h, .int (nI ca), .int (nI fr), .int na] : List Value).toArray s 0 0 (fun _ => False)) (F0 m 19 ls []) := by
        intro k_
        induction k_ with
        | zero => intro i h_i h_e hk_; exact absurd hk_ (Nat.not_lt_zero _)
        | succ k_ ih_19 =>
          intro i h_i h_e hk_ ls hl
          refine lv_iload hx hb dX3_destination_19 (lv_at hl 0 rfl) ?_
          refine lv_aload_n hx hb dX3_destination_21 rfl (lv_at hl 1 rfl) ?_
          refine cRV (As := []) (rest := [.int (nI i)]) (v := .int (nI n)) ⟨hx, hb, hml, hown, hts⟩ (c_X1_levels l G h hc n g sk f ) (cwV 0 hts gX3_destination_X1_levels rfl rfl rfl (by decide +kernel) ⟨Nat.le_of_ble_eq_true rfl, Nat.le_of_ble_eq_true rfl⟩) (preV_of hK hP hD [0, 1] (by decide) rfl (ci := 1) (q0 := 0) rfl rfl rfl) rfl hl.1 rfl (lv_room (Nat.le_of_ble_eq_true rfl)) dX3_destination_22 ⟨Nat.zero_le _, Nat.zero_le _⟩ ?_
          refine bi_ge (tgt := 64) hx hb dX3_destination_25 (by decide) (nI_i (by omega)) (nI_i (by omega)) (fun c_25 => ?_) (fun c_25 => ?_)
          ·
            refine lv_iconst (v := (-1)) hx hb dX3_destination_64 (by decide) ?_
            exact R_i hx hb hr hlk dX3_destination_65 (by rw [dst_s c_2 c_11, h_e, show n - i = 0 by omega]; rfl)
          ·
            refine lv_iload hx hb dX3_destination_28 (lv_at hl 0 rfl) ?_
            refine lv_iload_n hx hb dX3_destination_30 rfl (lv_at hl 3 rfl) ?_
            refine bi_eq (tgt := 58) hx hb dX3_destination_31 (by decide) (nI_i (by omega)) (nI_i (by omega)) (fun c_31 => ?_) (fun c_31 => ?_)
            ·
              refine lv_iinc (v := nI (i + 1)) (lv' := [(4, .int (nI (i + 1))), (0, .ref h), (1, .int (nI ca)), (2, .int (nI fr)), (3, .int na)]) hx hb dX3_destination_58 hl (k := 0) rfl (inc_n _ 1) (by decide) rfl (fun ls hl => ?_)
              refine lv_goto (tgt := 19) hx hb dX3_destination_61 (by decide) ?_
              exact ih_19 (i + 1) (by first | omega | assumption) (by rw [h_e, show n - i = n - (i + 1) + 1 by omega]; first | exact kth_n (fun z_ => z_.1 (by omega)) | exact kth_n (fun z_ => (show ¬ stp f ca i from by assumption) z_.2.1) | exact kth_n (fun z_ => (show ¬ f ((3 + ca) * 16 + i) = na from by assumption) z_.2.2)) (by omega) ls (lv_sub hl [0, 1, 2, 3, 4] (by rfl))
            ·
              refine lv_aload_n hx hb dX3_destination_34 rfl (lv_at hl 1 rfl) ?_
              refine lv_iload_n hx hb dX3_destination_35 rfl (lv_at hl 2 rfl) ?_
              refine lv_iload hx hb dX3_destination_36 (lv_at hl 0 rfl) ?_
              refine cRV (As := [.int (nI ca), .int (nI i)]) (rest := []) (v := .int (zb (¬ f (16 + i) = -1 ∧ f ((6 + ca) * 16 + i) = 1))) ⟨hx, hb, hml, hown, hts⟩ (c_X1_isStopOf l G h hc n g sk f ca i (by first | omega | assumption) (by first | omega | assumption)) (cwV 2 hts gX3_destination_X1_isStopOf rfl rfl rfl (by decide +kernel) ⟨Nat.le_of_ble_eq_true rfl, Nat.le_of_ble_eq_true rfl⟩) (preV_of hK hP hD [0, 1] (by decide) rfl (ci := 1) (q0 := 0) rfl rfl rfl) rfl hl.1 rfl (lv_room (Nat.le_of_ble_eq_true rfl)) dX3_destination_38 ⟨Nat.zero_le _, Nat.zero_le _⟩ ?_
              refine bb_eq (tgt := 58) hx hb dX3_destination_41 (by decide) (fun c_41 => ?_) (fun c_41 => ?_)
              ·
                refine lv_iinc (v := nI (i + 1)) (lv' := [(4, .int (nI (i + 1))), (0, .ref h), (1, .int (nI ca)), (2, .int (nI fr)), (3, .int na)]) hx hb dX3_destination_58 hl (k := 0) rfl (inc_n _ 1) (by decide) rfl (fun ls hl => ?_)
                refine lv_goto (tgt := 19) hx hb dX3_destination_61 (by decide) ?_
                exact ih_19 (i + 1) (by first | omega | assumption) (by rw [h_e, show n - i = n - (i + 1) + 1 by omega]; first | exact kth_n (fun z_ => z_.1 (by omega)) | exact kth_n (fun z_ => (show ¬ stp f ca i from by assumption) z_.2.1) | exact kth_n (fun z_ => (show ¬ f ((3 + ca) * 16 + i) = na from by assumption) z_.2.2)) (by omega) ls (lv_sub hl [0, 1, 2, 3, 4] (by rfl))
              ·
                refine lv_aload_n hx hb dX3_destination_44 rfl (lv_at hl 1 rfl) ?_
                refine lv_iload_n hx hb dX3_destination_45 rfl (lv_at hl 2 rfl) ?_
                refine lv_iload hx hb dX3_destination_46 (lv_at hl 0 rfl) ?_
                refine cRV (As := [.int (nI ca), .int (nI i)]) (rest := []) (v := .int (f ((3 + ca) * 16 + i))) ⟨hx, hb, hml, hown, hts⟩ (c_X1_buttonAt l G h hc n g sk f ca i (by first | omega | assumption) (by first | omega | assumption)) (cwV 2 hts gX3_destination_X1_buttonAt rfl rfl rfl (by decide +kernel) ⟨Nat.le_of_ble_eq_true rfl, Nat.le_of_ble_eq_true rfl⟩) (preV_of hK hP hD [0, 1] (by decide) rfl (ci := 1) (q0 := 0) rfl rfl rfl) rfl hl.1 rfl (lv_room (Nat.le_of_ble_eq_true rfl)) dX3_destination_48 ⟨Nat.zero_le _, Nat.zero_le _⟩ ?_
                refine lv_iload_n hx hb dX3_destination_51 rfl (lv_at hl 4 rfl) ?_
                refine lv_icmp_ne (tgt := 58) hx hb dX3_destination_52 (by decide) (fun c_52 => ?_) (fun c_52 => ?_)
                ·
                  refine lv_iinc (v := nI (i + 1)) (lv' := [(4, .int (nI (i + 1))), (0, .ref h), (1, .int (nI ca)), (2, .int (nI fr)), (3, .int na)]) hx hb dX3_destination_58 hl (k := 0) rfl (inc_n _ 1) (by decide) rfl (fun ls hl => ?_)
                  refine lv_goto (tgt := 19) hx hb dX3_destination_61 (by decide) ?_
                  exact ih_19 (i + 1) (by first | omega | assumption) (by rw [h_e, show n - i = n - (i + 1) + 1 by omega]; first | exact kth_n (fun z_ => z_.1 (by omega)) | exact kth_n (fun z_ => (show ¬ stp f ca i from by assumption) z_.2.1) | exact kth_n (fun z_ => (show ¬ f ((3 + ca) * 16 + i) = na from by assumption) z_.2.2)) (by omega) ls (lv_sub hl [0, 1, 2, 3, 4] (by rfl))
                ·
                  refine lv_iload hx hb dX3_destination_55 (lv_at hl 0 rfl) ?_
                  exact R_i hx hb hr hlk dX3_destination_57 (by rw [dst_s c_2 c_11, h_e, show n - i = n - (i + 1) + 1 by omega, kth_0 ⟨by omega, c_41, c_52⟩])
      exact loop_19 (n - 0 + 1) 0 (by first | omega | assumption) rfl (Nat.lt_succ_self _)  ls (lv_sub hl [0, 1, 2, 3, 4] (by rfl))
    ·
      refine lv_iconst (v := (-1)) hx hb dX3_destination_14 (by decide) ?_
      exact R_i hx hb hr hlk dX3_destination_15 ((dst_n (Or.inr c_11)).symm)

set_option maxHeartbeats 4000000 in
set_option maxRecDepth 100000 in
theorem c_X3_leadingAstray (l : Launch) (G : GG) (h : Nat) (hc : Nat) (n : Nat) (g : Nat) (sk : Int32) (f : Nat → Int32) (ca : Nat) (h_n : n ≤ 16) (h_ca : ca < 3) : Met l yX3_leadingAstray wsX3_leadingAstray ({ frames := 3, cells := 0, slots := 0, locals := 68 } : Room) (va_Pc [.ref h, .int (nI ca)] (PB G [(h, .inr (1, [.ref hc, .int (nI n), .int (nI g), .int sk])), (hc, .inl (G.2 0, 144, .inl f))])) (QR (some (.int (nI (ast f n ca n))))) 0 0 (fun _ => False) := by
  refine Met.go (cc := cX3_leadingAstray) (maxL := 5) (ret := (some .int)) (by decide) rfl (Nat.le_of_ble_eq_true rfl) ?_
  intro p e s m below meth c ls hx hb hr hml hown hts hlk hP hK hD hS hl
  have hown : s.vm.findClass RX3 = some m.cls := hown
  have hl : lv_has ls 5 [(0, .ref h), (1, .int (nI ca))] := hl
  refine lv_iconst (v := nI 0) hx hb dX3_leadingAstray_0 (by decide) ?_
  refine lv_istore_n (lv' := [(2, .int (nI 0)), (0, .ref h), (1, .int (nI ca))]) hx hb dX3_leadingAstray_1 rfl hl (by decide) rfl (fun ls hl => ?_)
  refine lv_iconst (v := nI 0) hx hb dX3_leadingAstray_2 (by decide) ?_
  refine lv_istore_n (lv' := [(3, .int (nI 0)), (2, .int (nI 0)), (0, .ref h), (1, .int (nI ca))]) hx hb dX3_leadingAstray_3 rfl hl (by decide) rfl (fun ls hl => ?_)
  have loop_4 : ∀ (k_ : Nat) (fr : Nat) (h_fr : fr ≤ n) (h_b : ast f n ca fr ≤ fr * 16) (_ : n - fr < k_) (ls : Array Slot), lv_has ls 5 [(3, .int (nI fr)), (2, .int (nI (ast f n ca fr))), (0, .ref h), (1, .int (nI ca))] → W p l e ({ frames := 3, cells := 0, slots := 0, locals := 68 } : Room) s m ([.ref h, .int (nI ca)] : List Value).toArray below meth c s.heap [] 0 0 (MQ below (QR (some (.int (nI (ast f n ca n))))) ([.ref h, .int (nI ca)] : List Value).toArray s 0 0 (fun _ => False)) (F0 m 4 ls []) := by
    intro k_
    induction k_ with
    | zero => intro fr h_fr h_b hk_; exact absurd hk_ (Nat.not_lt_zero _)
    | succ k_ ih_4 =>
      intro fr h_fr h_b hk_ ls hl
      refine lv_iload_n hx hb dX3_leadingAstray_4 rfl (lv_at hl 0 rfl) ?_
      refine lv_aload_n hx hb dX3_leadingAstray_5 rfl (lv_at hl 2 rfl) ?_
      refine cRV (As := []) (rest := [.int (nI fr)]) (v := .int (nI n)) ⟨hx, hb, hml, hown, hts⟩ (c_X1_levels l G h hc n g sk f ) (cwV 0 hts gX3_leadingAstray_X1_levels rfl rfl rfl (by decide +kernel) ⟨Nat.le_of_ble_eq_true rfl, Nat.le_of_ble_eq_true rfl⟩) (preV_of hK hP hD [0, 1] (by decide) rfl (ci := 1) (q0 := 0) rfl rfl rfl) rfl hl.1 rfl (lv_room (Nat.le_of_ble_eq_true rfl)) dX3_leadingAstray_6 ⟨Nat.zero_le _, Nat.zero_le _⟩ ?_
      refine bi_ge (tgt := 82) hx hb dX3_leadingAstray_9 (by decide) (nI_i (by omega)) (nI_i (by omega)) (fun c_9 => ?_) (fun c_9 => ?_)
      ·
        refine lv_iload_n hx hb dX3_leadingAstray_82 rfl (lv_at hl 1 rfl) ?_
        exact R_i hx hb hr hlk dX3_leadingAstray_83 (by rw [show fr = n by omega])
      ·
        refine lv_iconst (v := nI 0) hx hb dX3_leadingAstray_12 (by decide) ?_
        refine lv_istore (lv' := [(4, .int (nI 0)), (3, .int (nI fr)), (2, .int (nI (ast f n ca fr))), (0, .ref h), (1, .int (nI ca))]) hx hb dX3_leadingAstray_13 hl (by decide) rfl (fun ls hl => ?_)
        have loop_15 : ∀ (k_ : Nat) (to : Nat) (h_to : to ≤ n) (h_b1 : ast1 f n ca fr to ≤ to) (_ : n - to < k_) (ls : Array Slot), lv_has ls 5 [(4, .int (nI to)), (3, .int (nI fr)), (2, .int (nI (ast f n ca fr + ast1 f n ca fr to))), (0, .ref h), (1, .int (nI ca))] → W p l e ({ frames := 3, cells := 0, slots := 0, locals := 68 } : Room) s m ([.ref h, .int (nI ca)] : List Value).toArray below meth c s.heap [] 0 0 (MQ below (QR (some (.int (nI (ast f n ca n))))) ([.ref h, .int (nI ca)] : List Value).toArray s 0 0 (fun _ => False)) (F0 m 15 ls []) := by
          intro k_
          induction k_ with
          | zero => intro to h_to h_b1 hk_; exact absurd hk_ (Nat.not_lt_zero _)
          | succ k_ ih_15 =>
            intro to h_to h_b1 hk_ ls hl
            refine lv_iload hx hb dX3_leadingAstray_15 (lv_at hl 0 rfl) ?_
            refine lv_aload_n hx hb dX3_leadingAstray_17 rfl (lv_at hl 3 rfl) ?_
            refine cRV (As := []) (rest := [.int (nI to)]) (v := .int (nI n)) ⟨hx, hb, hml, hown, hts⟩ (c_X1_levels l G h hc n g sk f ) (cwV 0 hts gX3_leadingAstray_X1_levels rfl rfl rfl (by decide +kernel) ⟨Nat.le_of_ble_eq_true rfl, Nat.le_of_ble_eq_true rfl⟩) (preV_of hK hP hD [0, 1] (by decide) rfl (ci := 1) (q0 := 0) rfl rfl rfl) rfl hl.1 rfl (lv_room (Nat.le_of_ble_eq_true rfl)) dX3_leadingAstray_18 ⟨Nat.zero_le _, Nat.zero_le _⟩ ?_
            refine bi_ge (tgt := 76) hx hb dX3_leadingAstray_21 (by decide) (nI_i (by omega)) (nI_i (by omega)) (fun c_21 => ?_) (fun c_21 => ?_)
            ·
              refine lv_iinc (v := nI (fr + 1)) (lv' := [(3, .int (nI (fr + 1))), (4, .int (nI to)), (2, .int (nI (ast f n ca fr + ast1 f n ca fr to))), (0, .ref h), (1, .int (nI ca))]) hx hb dX3_leadingAstray_76 hl (k := 1) rfl (inc_n _ 1) (by decide) rfl (fun ls hl => ?_)
              refine lv_goto (tgt := 4) hx hb dX3_leadingAstray_79 (by decide) ?_
              exact ih_4 (fr + 1) (by first | omega | assumption) (ast_le f ca h_n _) (by omega) ls (lv_sub hl [0, 2, 3, 4] (by first | rfl | (rw [ast_s, show n = to by omega]; rfl)))
            ·
              refine lv_iload_n hx hb dX3_leadingAstray_24 rfl (lv_at hl 1 rfl) ?_
              refine lv_iload hx hb dX3_leadingAstray_25 (lv_at hl 0 rfl) ?_
              refine bi_eq (tgt := 70) hx hb dX3_leadingAstray_27 (by decide) (nI_i (by omega)) (nI_i (by omega)) (fun c_27 => ?_) (fun c_27 => ?_)
              ·
                refine lv_iinc (v := nI (to + 1)) (lv' := [(4, .int (nI (to + 1))), (3, .int (nI fr)), (2, .int (nI (ast f n ca fr + ast1 f n ca fr to))), (0, .ref h), (1, .int (nI ca))]) hx hb dX3_leadingAstray_70 hl (k := 0) rfl (inc_n _ 1) (by decide) rfl (fun ls hl => ?_)
                refine lv_goto (tgt := 15) hx hb dX3_leadingAstray_73 (by decide) ?_
                exact ih_15 (to + 1) (by first | omega | assumption) (ast1_le _ _ _ _ _) (by omega) ls (lv_sub hl [0, 1, 2, 3, 4] (by first | rfl | (rw [show ast1 f n ca fr (to + 1) = ast1 f n ca fr to + 1 from ct_t ⟨by omega, by assumption, by assumption, by assumption⟩]; rfl) | (rw [show ast1 f n ca fr (to + 1) = ast1 f n ca fr to from ct_f (fun z_ => by first | exact absurd z_.1 (by omega) | exact (show ¬ stp f ca fr from by assumption) z_.2.1 | exact (show ¬ stp f ca to from by assumption) z_.2.2.1 | exact z_.2.2.2 (by assumption))]; rfl)))
              ·
                refine lv_aload_n hx hb dX3_leadingAstray_30 rfl (lv_at hl 3 rfl) ?_
                refine lv_iload_n hx hb dX3_leadingAstray_31 rfl (lv_at hl 4 rfl) ?_
                refine lv_iload_n hx hb dX3_leadingAstray_32 rfl (lv_at hl 1 rfl) ?_
                refine cRV (As := [.int (nI ca), .int (nI fr)]) (rest := []) (v := .int (zb (¬ f (16 + fr) = -1 ∧ f ((6 + ca) * 16 + fr) = 1))) ⟨hx, hb, hml, hown, hts⟩ (c_X1_isStopOf l G h hc n g sk f ca fr (by first | omega | assumption) (by first | omega | assumption)) (cwV 2 hts gX3_leadingAstray_X1_isStopOf rfl rfl rfl (by decide +kernel) ⟨Nat.le_of_ble_eq_true rfl, Nat.le_of_ble_eq_true rfl⟩) (preV_of hK hP hD [0, 1] (by decide) rfl (ci := 1) (q0 := 0) rfl rfl rfl) rfl hl.1 rfl (lv_room (Nat.le_of_ble_eq_true rfl)) dX3_leadingAstray_33 ⟨Nat.zero_le _, Nat.zero_le _⟩ ?_
                refine bb_eq (tgt := 70) hx hb dX3_leadingAstray_36 (by decide) (fun c_36 => ?_) (fun c_36 => ?_)
                ·
                  refine lv_iinc (v := nI (to + 1)) (lv' := [(4, .int (nI (to + 1))), (3, .int (nI fr)), (2, .int (nI (ast f n ca fr + ast1 f n ca fr to))), (0, .ref h), (1, .int (nI ca))]) hx hb dX3_leadingAstray_70 hl (k := 0) rfl (inc_n _ 1) (by decide) rfl (fun ls hl => ?_)
                  refine lv_goto (tgt := 15) hx hb dX3_leadingAstray_73 (by decide) ?_
                  exact ih_15 (to + 1) (by first | omega | assumption) (ast1_le _ _ _ _ _) (by omega) ls (lv_sub hl [0, 1, 2, 3, 4] (by first | rfl | (rw [show ast1 f n ca fr (to + 1) = ast1 f n ca fr to + 1 from ct_t ⟨by omega, by assumption, by assumption, by assumption⟩]; rfl) | (rw [show ast1 f n ca fr (to + 1) = ast1 f n ca fr to from ct_f (fun z_ => by first | exact absurd z_.1 (by omega) | exact (show ¬ stp f ca fr from by assumption) z_.2.1 | exact (show ¬ stp f ca to from by assumption) z_.2.2.1 | exact z_.2.2.2 (by assumption))]; rfl)))
                ·
                  refine lv_aload_n hx hb dX3_leadingAstray_39 rfl (lv_at hl 3 rfl) ?_
                  refine lv_iload_n hx hb dX3_leadingAstray_40 rfl (lv_at hl 4 rfl) ?_
                  refine lv_iload hx hb dX3_leadingAstray_41 (lv_at hl 0 rfl) ?_
                  refine cRV (As := [.int (nI ca), .int (nI to)]) (rest := []) (v := .int (zb (¬ f (16 + to) = -1 ∧ f ((6 + ca) * 16 + to) = 1))) ⟨hx, hb, hml, hown, hts⟩ (c_X1_isStopOf l G h hc n g sk f ca to (by first | omega | assumption) (by first | omega | assumption)) (cwV 2 hts gX3_leadingAstray_X1_isStopOf rfl rfl rfl (by decide +kernel) ⟨Nat.le_of_ble_eq_true rfl, Nat.le_of_ble_eq_true rfl⟩) (preV_of hK hP hD [0, 1] (by decide) rfl (ci := 1) (q0 := 0) rfl rfl rfl) rfl hl.1 rfl (lv_room (Nat.le_of_ble_eq_true rfl)) dX3_leadingAstray_43 ⟨Nat.zero_le _, Nat.zero_le _⟩ ?_
                  refine bb_eq (tgt := 70) hx hb dX3_leadingAstray_46 (by decide) (fun c_46 => ?_) (fun c_46 => ?_)
                  ·
                    refine lv_iinc (v := nI (to + 1)) (lv' := [(4, .int (nI (to + 1))), (3, .int (nI fr)), (2, .int (nI (ast f n ca fr + ast1 f n ca fr to))), (0, .ref h), (1, .int (nI ca))]) hx hb dX3_leadingAstray_70 hl (k := 0) rfl (inc_n _ 1) (by decide) rfl (fun ls hl => ?_)
                    refine lv_goto (tgt := 15) hx hb dX3_leadingAstray_73 (by decide) ?_
                    exact ih_15 (to + 1) (by first | omega | assumption) (ast1_le _ _ _ _ _) (by omega) ls (lv_sub hl [0, 1, 2, 3, 4] (by first | rfl | (rw [show ast1 f n ca fr (to + 1) = ast1 f n ca fr to + 1 from ct_t ⟨by omega, by assumption, by assumption, by assumption⟩]; rfl) | (rw [show ast1 f n ca fr (to + 1) = ast1 f n ca fr to from ct_f (fun z_ => by first | exact absurd z_.1 (by omega) | exact (show ¬ stp f ca fr from by assumption) z_.2.1 | exact (show ¬ stp f ca to from by assumption) z_.2.2.1 | exact z_.2.2.2 (by assumption))]; rfl)))
                  ·
                    refine lv_aload_n hx hb dX3_leadingAstray_49 rfl (lv_at hl 3 rfl) ?_
                    refine lv_iload_n hx hb dX3_leadingAstray_50 rfl (lv_at hl 4 rfl) ?_
                    refine lv_iload_n hx hb dX3_leadingAstray_51 rfl (lv_at hl 1 rfl) ?_
                    refine lv_aload_n hx hb dX3_leadingAstray_52 rfl (lv_at hl 3 rfl) ?_
                    refine lv_iload_n hx hb dX3_leadingAstray_53 rfl (lv_at hl 4 rfl) ?_
                    refine lv_iload hx hb dX3_leadingAstray_54 (lv_at hl 0 rfl) ?_
                    refine cRV (As := [.int (nI ca), .int (nI to)]) (rest := [.int (nI fr), .int (nI ca), .ref h]) (v := .int (f ((3 + ca) * 16 + to))) ⟨hx, hb, hml, hown, hts⟩ (c_X1_buttonAt l G h hc n g sk f ca to (by first | omega | assumption) (by first | omega | assumption)) (cwV 2 hts gX3_leadingAstray_X1_buttonAt rfl rfl rfl (by decide +kernel) ⟨Nat.le_of_ble_eq_true rfl, Nat.le_of_ble_eq_true rfl⟩) (preV_of hK hP hD [0, 1] (by decide) rfl (ci := 1) (q0 := 0) rfl rfl rfl) rfl hl.1 rfl (lv_room (Nat.le_of_ble_eq_true rfl)) dX3_leadingAstray_56 ⟨Nat.zero_le _, Nat.zero_le _⟩ ?_
                    refine cRS (As := [.ref h, .int (nI ca), .int (nI fr), .int (f ((3 + ca) * 16 + to))]) (rest := []) (v := .int (dst f n ca fr (f ((3 + ca) * 16 + to)))) ⟨hx, hb, hml, hown, hts⟩ (c_X3_destination l G h hc n g sk f ca fr (f ((3 + ca) * 16 + to)) (by first | omega | assumption) (by first | omega | assumption) (by first | omega | assumption)) (va_cwS 4 hts gX3_leadingAstray_X3_destination rfl rfl rfl (by decide +kernel) ⟨Nat.le_of_ble_eq_true rfl, Nat.le_of_ble_eq_true rfl⟩) (preS_of hK hP hD [0, 1] (by decide) rfl) rfl hl.1 rfl (lv_room (Nat.le_of_ble_eq_true rfl)) dX3_leadingAstray_59 ⟨Nat.zero_le _, Nat.zero_le _⟩ ?_
                    refine lv_iload hx hb dX3_leadingAstray_62 (lv_at hl 0 rfl) ?_
                    refine lv_icmp_eq (tgt := 70) hx hb dX3_leadingAstray_64 (by decide) (fun c_64 => ?_) (fun c_64 => ?_)
                    ·
                      refine lv_iinc (v := nI (to + 1)) (lv' := [(4, .int (nI (to + 1))), (3, .int (nI fr)), (2, .int (nI (ast f n ca fr + ast1 f n ca fr to))), (0, .ref h), (1, .int (nI ca))]) hx hb dX3_leadingAstray_70 hl (k := 0) rfl (inc_n _ 1) (by decide) rfl (fun ls hl => ?_)
                      refine lv_goto (tgt := 15) hx hb dX3_leadingAstray_73 (by decide) ?_
                      exact ih_15 (to + 1) (by first | omega | assumption) (ast1_le _ _ _ _ _) (by omega) ls (lv_sub hl [0, 1, 2, 3, 4] (by first | rfl | (rw [show ast1 f n ca fr (to + 1) = ast1 f n ca fr to + 1 from ct_t ⟨by omega, by assumption, by assumption, by assumption⟩]; rfl) | (rw [show ast1 f n ca fr (to + 1) = ast1 f n ca fr to from ct_f (fun z_ => by first | exact absurd z_.1 (by omega) | exact (show ¬ stp f ca fr from by assumption) z_.2.1 | exact (show ¬ stp f ca to from by assumption) z_.2.2.1 | exact z_.2.2.2 (by assumption))]; rfl)))
                    ·
                      refine lv_iinc (v := nI (ast f n ca fr + ast1 f n ca fr to + 1)) (lv' := [(2, .int (nI (ast f n ca fr + ast1 f n ca fr to + 1))), (4, .int (nI to)), (3, .int (nI fr)), (0, .ref h), (1, .int (nI ca))]) hx hb dX3_leadingAstray_67 hl (k := 2) rfl (inc_n _ 1) (by decide) rfl (fun ls hl => ?_)
                      refine lv_iinc (v := nI (to + 1)) (lv' := [(4, .int (nI (to + 1))), (2, .int (nI (ast f n ca fr + ast1 f n ca fr to + 1))), (3, .int (nI fr)), (0, .ref h), (1, .int (nI ca))]) hx hb dX3_leadingAstray_70 hl (k := 1) rfl (inc_n _ 1) (by decide) rfl (fun ls hl => ?_)
                      refine lv_goto (tgt := 15) hx hb dX3_leadingAstray_73 (by decide) ?_
                      exact ih_15 (to + 1) (by first | omega | assumption) (ast1_le _ _ _ _ _) (by omega) ls (lv_sub hl [0, 2, 1, 3, 4] (by first | rfl | (rw [show ast1 f n ca fr (to + 1) = ast1 f n ca fr to + 1 from ct_t ⟨by omega, by assumption, by assumption, by assumption⟩]; rfl) | (rw [show ast1 f n ca fr (to + 1) = ast1 f n ca fr to from ct_f (fun z_ => by first | exact absurd z_.1 (by omega) | exact (show ¬ stp f ca fr from by assumption) z_.2.1 | exact (show ¬ stp f ca to from by assumption) z_.2.2.1 | exact z_.2.2.2 (by assumption))]; rfl)))
        exact loop_15 (n - 0 + 1) 0 (by first | omega | assumption) (ast1_le _ _ _ _ _) (Nat.lt_succ_self _)  ls (lv_sub hl [0, 1, 2, 3, 4] (by first | rfl | (rw [show ast1 f n ca fr (to + 1) = ast1 f n ca fr to + 1 from ct_t ⟨by omega, by assumption, by assumption, by assumption⟩]; rfl) | (rw [show ast1 f n ca fr (to + 1) = ast1 f n ca fr to from ct_f (fun z_ => by first | exact absurd z_.1 (by omega) | exact (show ¬ stp f ca fr from by assumption) z_.2.1 | exact (show ¬ stp f ca to from by assumption) z_.2.2.1 | exact z_.2.2.2 (by assumption))]; rfl)))
  exact loop_4 (n - 0 + 1) 0 (by first | omega | assumption) (ast_le f ca h_n 0) (Nat.lt_succ_self _)  ls (lv_sub hl [0, 1, 2, 3] (by first | rfl | (rw [ast_s, show n = to by omega]; rfl)))

set_option maxHeartbeats 4000000 in
set_option maxRecDepth 100000 in
theorem c_X3_anyCarLeads (l : Launch) (G : GG) (h : Nat) (hc : Nat) (n : Nat) (g : Nat) (sk : Int32) (f : Nat → Int32) (fr : Nat) (to : Nat) (h_n : n ≤ 16) (h_fr : fr < 16) (h_to : to < 16) : Met l yX3_anyCarLeads wsX3_anyCarLeads ({ frames := 3, cells := 0, slots := 0, locals := 68 } : Room) (va_Pc [.ref h, .int (nI fr), .int (nI to)] (PB G [(h, .inr (1, [.ref hc, .int (nI n), .int (nI g), .int sk])), (hc, .inl (G.2 0, 144, .inl f))])) (QR (some (.int (zb (lds f n fr to))))) 0 0 (fun _ => False) := by
  refine Met.go (cc := cX3_anyCarLeads) (maxL := 4) (ret := (some .boolean)) (by decide) rfl (Nat.le_of_ble_eq_true rfl) ?_
  intro p e s m below meth c ls hx hb hr hml hown hts hlk hP hK hD hS hl
  have hown : s.vm.findClass RX3 = some m.cls := hown
  have hl : lv_has ls 4 [(0, .ref h), (1, .int (nI fr)), (2, .int (nI to))] := hl
  refine lv_iconst (v := nI 0) hx hb dX3_anyCarLeads_0 (by decide) ?_
  refine lv_istore_n (lv' := [(3, .int (nI 0)), (0, .ref h), (1, .int (nI fr)), (2, .int (nI to))]) hx hb dX3_anyCarLeads_1 rfl hl (by decide) rfl (fun ls hl => ?_)
  refine lv_iload_n hx hb dX3_anyCarLeads_2 rfl (lv_at hl 0 rfl) ?_
  refine lv_iconst (v := nI 3) hx hb dX3_anyCarLeads_3 (by decide) ?_
  refine bi_ge (tgt := 31) hx hb dX3_anyCarLeads_4 (by decide) (nI_i (by omega)) (nI_i (by omega)) (fun c_4 => False.elim (by omega)) (fun c_4 => ?_)
  refine lv_aload_n hx hb dX3_anyCarLeads_7 rfl (lv_at hl 1 rfl) ?_
  refine lv_iload_n hx hb dX3_anyCarLeads_8 rfl (lv_at hl 0 rfl) ?_
  refine lv_iload_n hx hb dX3_anyCarLeads_9 rfl (lv_at hl 2 rfl) ?_
  refine lv_aload_n hx hb dX3_anyCarLeads_10 rfl (lv_at hl 1 rfl) ?_
  refine lv_iload_n hx hb dX3_anyCarLeads_11 rfl (lv_at hl 0 rfl) ?_
  refine lv_iload_n hx hb dX3_anyCarLeads_12 rfl (lv_at hl 3 rfl) ?_
  refine cRV (As := [.int (nI 0), .int (nI to)]) (rest := [.int (nI fr), .int (nI 0), .ref h]) (v := .int (f (48 + to))) ⟨hx, hb, hml, hown, hts⟩ (c_X1_buttonAt l G h hc n g sk f 0 to (by first | omega | assumption) (by first | omega | assumption)) (cwV 2 hts gX3_anyCarLeads_X1_buttonAt rfl rfl rfl (by decide +kernel) ⟨Nat.le_of_ble_eq_true rfl, Nat.le_of_ble_eq_true rfl⟩) (preV_of hK hP hD [0, 1] (by decide) rfl (ci := 1) (q0 := 0) rfl rfl rfl) rfl hl.1 rfl (lv_room (Nat.le_of_ble_eq_true rfl)) dX3_anyCarLeads_13 ⟨Nat.zero_le _, Nat.zero_le _⟩ ?_
  refine cRS (As := [.ref h, .int (nI 0), .int (nI fr), .int (f (48 + to))]) (rest := []) (v := .int (dst f n 0 fr (f (48 + to)))) ⟨hx, hb, hml, hown, hts⟩ (c_X3_destination l G h hc n g sk f 0 fr (f (48 + to)) (by first | omega | assumption) (by first | omega | assumption) (by first | omega | assumption)) (va_cwS 4 hts gX3_anyCarLeads_X3_destination rfl rfl rfl (by decide +kernel) ⟨Nat.le_of_ble_eq_true rfl, Nat.le_of_ble_eq_true rfl⟩) (preS_of hK hP hD [0, 1] (by decide) rfl) rfl hl.1 rfl (lv_room (Nat.le_of_ble_eq_true rfl)) dX3_anyCarLeads_16 ⟨Nat.zero_le _, Nat.zero_le _⟩ ?_
  refine lv_iload_n hx hb dX3_anyCarLeads_19 rfl (lv_at hl 3 rfl) ?_
  refine lv_icmp_ne (tgt := 25) hx hb dX3_anyCarLeads_20 (by decide) (fun c_20 => ?_) (fun c_20 => ?_)
  ·
    refine lv_iinc (v := nI (0 + 1)) (lv' := [(3, .int (nI (0 + 1))), (0, .ref h), (1, .int (nI fr)), (2, .int (nI to))]) hx hb dX3_anyCarLeads_25 hl (k := 0) rfl (inc_n _ 1) (by decide) rfl (fun ls hl => ?_)
    refine lv_goto (tgt := 2) hx hb dX3_anyCarLeads_28 (by decide) ?_
    refine lv_iload_n hx hb dX3_anyCarLeads_2 rfl (lv_at hl 0 rfl) ?_
    refine lv_iconst (v := nI 3) hx hb dX3_anyCarLeads_3 (by decide) ?_
    refine bi_ge (tgt := 31) hx hb dX3_anyCarLeads_4 (by decide) (nI_i (by omega)) (nI_i (by omega)) (fun c_4 => False.elim (by omega)) (fun c_4 => ?_)
    refine lv_aload_n hx hb dX3_anyCarLeads_7 rfl (lv_at hl 1 rfl) ?_
    refine lv_iload_n hx hb dX3_anyCarLeads_8 rfl (lv_at hl 0 rfl) ?_
    refine lv_iload_n hx hb dX3_anyCarLeads_9 rfl (lv_at hl 2 rfl) ?_
    refine lv_aload_n hx hb dX3_anyCarLeads_10 rfl (lv_at hl 1 rfl) ?_
    refine lv_iload_n hx hb dX3_anyCarLeads_11 rfl (lv_at hl 0 rfl) ?_
    refine lv_iload_n hx hb dX3_anyCarLeads_12 rfl (lv_at hl 3 rfl) ?_
    refine cRV (As := [.int (nI (0 + 1)), .int (nI to)]) (rest := [.int (nI fr), .int (nI (0 + 1)), .ref h]) (v := .int (f (64 + to))) ⟨hx, hb, hml, hown, hts⟩ (c_X1_buttonAt l G h hc n g sk f (0 + 1) to (by first | omega | assumption) (by first | omega | assumption)) (cwV 2 hts gX3_anyCarLeads_X1_buttonAt rfl rfl rfl (by decide +kernel) ⟨Nat.le_of_ble_eq_true rfl, Nat.le_of_ble_eq_true rfl⟩) (preV_of hK hP hD [0, 1] (by decide) rfl (ci := 1) (q0 := 0) rfl rfl rfl) rfl hl.1 rfl (lv_room (Nat.le_of_ble_eq_true rfl)) dX3_anyCarLeads_13 ⟨Nat.zero_le _, Nat.zero_le _⟩ ?_
    refine cRS (As := [.ref h, .int (nI (0 + 1)), .int (nI fr), .int (f (64 + to))]) (rest := []) (v := .int (dst f n 1 fr (f (64 + to)))) ⟨hx, hb, hml, hown, hts⟩ (c_X3_destination l G h hc n g sk f (0 + 1) fr (f (64 + to)) (by first | omega | assumption) (by first | omega | assumption) (by first | omega | assumption)) (va_cwS 4 hts gX3_anyCarLeads_X3_destination rfl rfl rfl (by decide +kernel) ⟨Nat.le_of_ble_eq_true rfl, Nat.le_of_ble_eq_true rfl⟩) (preS_of hK hP hD [0, 1] (by decide) rfl) rfl hl.1 rfl (lv_room (Nat.le_of_ble_eq_true rfl)) dX3_anyCarLeads_16 ⟨Nat.zero_le _, Nat.zero_le _⟩ ?_
    refine lv_iload_n hx hb dX3_anyCarLeads_19 rfl (lv_at hl 3 rfl) ?_
    refine lv_icmp_ne (tgt := 25) hx hb dX3_anyCarLeads_20 (by decide) (fun c_20 => ?_) (fun c_20 => ?_)
    ·
      refine lv_iinc (v := nI (0 + 1 + 1)) (lv' := [(3, .int (nI (0 + 1 + 1))), (0, .ref h), (1, .int (nI fr)), (2, .int (nI to))]) hx hb dX3_anyCarLeads_25 hl (k := 0) rfl (inc_n _ 1) (by decide) rfl (fun ls hl => ?_)
      refine lv_goto (tgt := 2) hx hb dX3_anyCarLeads_28 (by decide) ?_
      refine lv_iload_n hx hb dX3_anyCarLeads_2 rfl (lv_at hl 0 rfl) ?_
      refine lv_iconst (v := nI 3) hx hb dX3_anyCarLeads_3 (by decide) ?_
      refine bi_ge (tgt := 31) hx hb dX3_anyCarLeads_4 (by decide) (nI_i (by omega)) (nI_i (by omega)) (fun c_4 => False.elim (by omega)) (fun c_4 => ?_)
      refine lv_aload_n hx hb dX3_anyCarLeads_7 rfl (lv_at hl 1 rfl) ?_
      refine lv_iload_n hx hb dX3_anyCarLeads_8 rfl (lv_at hl 0 rfl) ?_
      refine lv_iload_n hx hb dX3_anyCarLeads_9 rfl (lv_at hl 2 rfl) ?_
      refine lv_aload_n hx hb dX3_anyCarLeads_10 rfl (lv_at hl 1 rfl) ?_
      refine lv_iload_n hx hb dX3_anyCarLeads_11 rfl (lv_at hl 0 rfl) ?_
      refine lv_iload_n hx hb dX3_anyCarLeads_12 rfl (lv_at hl 3 rfl) ?_
      refine cRV (As := [.int (nI (0 + 1 + 1)), .int (nI to)]) (rest := [.int (nI fr), .int (nI (0 + 1 + 1)), .ref h]) (v := .int (f (80 + to))) ⟨hx, hb, hml, hown, hts⟩ (c_X1_buttonAt l G h hc n g sk f (0 + 1 + 1) to (by first | omega | assumption) (by first | omega | assumption)) (cwV 2 hts gX3_anyCarLeads_X1_buttonAt rfl rfl rfl (by decide +kernel) ⟨Nat.le_of_ble_eq_true rfl, Nat.le_of_ble_eq_true rfl⟩) (preV_of hK hP hD [0, 1] (by decide) rfl (ci := 1) (q0 := 0) rfl rfl rfl) rfl hl.1 rfl (lv_room (Nat.le_of_ble_eq_true rfl)) dX3_anyCarLeads_13 ⟨Nat.zero_le _, Nat.zero_le _⟩ ?_
      refine cRS (As := [.ref h, .int (nI (0 + 1 + 1)), .int (nI fr), .int (f (80 + to))]) (rest := []) (v := .int (dst f n 2 fr (f (80 + to)))) ⟨hx, hb, hml, hown, hts⟩ (c_X3_destination l G h hc n g sk f (0 + 1 + 1) fr (f (80 + to)) (by first | omega | assumption) (by first | omega | assumption) (by first | omega | assumption)) (va_cwS 4 hts gX3_anyCarLeads_X3_destination rfl rfl rfl (by decide +kernel) ⟨Nat.le_of_ble_eq_true rfl, Nat.le_of_ble_eq_true rfl⟩) (preS_of hK hP hD [0, 1] (by decide) rfl) rfl hl.1 rfl (lv_room (Nat.le_of_ble_eq_true rfl)) dX3_anyCarLeads_16 ⟨Nat.zero_le _, Nat.zero_le _⟩ ?_
      refine lv_iload_n hx hb dX3_anyCarLeads_19 rfl (lv_at hl 3 rfl) ?_
      refine lv_icmp_ne (tgt := 25) hx hb dX3_anyCarLeads_20 (by decide) (fun c_20 => ?_) (fun c_20 => ?_)
      ·
        refine lv_iinc (v := nI (0 + 1 + 1 + 1)) (lv' := [(3, .int (nI (0 + 1 + 1 + 1))), (0, .ref h), (1, .int (nI fr)), (2, .int (nI to))]) hx hb dX3_anyCarLeads_25 hl (k := 0) rfl (inc_n _ 1) (by decide) rfl (fun ls hl => ?_)
        refine lv_goto (tgt := 2) hx hb dX3_anyCarLeads_28 (by decide) ?_
        refine lv_iload_n hx hb dX3_anyCarLeads_2 rfl (lv_at hl 0 rfl) ?_
        refine lv_iconst (v := nI 3) hx hb dX3_anyCarLeads_3 (by decide) ?_
        refine bi_ge (tgt := 31) hx hb dX3_anyCarLeads_4 (by decide) (nI_i (by omega)) (nI_i (by omega)) (fun c_4 => ?_) (fun c_4 => False.elim (by omega))
        refine lv_iconst (v := nI 0) hx hb dX3_anyCarLeads_31 (by decide) ?_
        exact R_z hx hb hr hlk dX3_anyCarLeads_32 ((zb_f (lds_no (by assumption) (by assumption) (by assumption))).symm) zb_nar
      ·
        refine lv_iconst (v := nI 1) hx hb dX3_anyCarLeads_23 (by decide) ?_
        exact R_z hx hb hr hlk dX3_anyCarLeads_24 ((zb_t ⟨2, by omega, c_20⟩).symm) zb_nar
    ·
      refine lv_iconst (v := nI 1) hx hb dX3_anyCarLeads_23 (by decide) ?_
      exact R_z hx hb hr hlk dX3_anyCarLeads_24 ((zb_t ⟨1, by omega, c_20⟩).symm) zb_nar
  ·
    refine lv_iconst (v := nI 1) hx hb dX3_anyCarLeads_23 (by decide) ?_
    exact R_z hx hb hr hlk dX3_anyCarLeads_24 ((zb_t ⟨0, by omega, c_20⟩).symm) zb_nar

set_option maxHeartbeats 4000000 in
set_option maxRecDepth 100000 in
theorem c_X3_oneRideFurther (l : Launch) (G : GG) (h : Nat) (hc : Nat) (n : Nat) (g : Nat) (sk : Int32) (f : Nat → Int32) (M : Int32) (h_n : n ≤ 16) : Met l yX3_oneRideFurther wsX3_oneRideFurther ({ frames := 4, cells := 0, slots := 0, locals := 91 } : Room) (va_Pc [.ref h, .int M] (PB G [(h, .inr (1, [.ref hc, .int (nI n), .int (nI g), .int sk])), (hc, .inl (G.2 0, 144, .inl f))])) (QR (some (.int (ort f n M)))) 0 0 (fun _ => False) := by
  refine Met.go (cc := cX3_oneRideFurther) (maxL := 5) (ret := (some .int)) (by decide) rfl (Nat.le_of_ble_eq_true rfl) ?_
  intro p e s m below meth c ls hx hb hr hml hown hts hlk hP hK hD hS hl
  have hown : s.vm.findClass RX3 = some m.cls := hown
  have hl : lv_has ls 5 [(0, .ref h), (1, .int M)] := hl
  refine lv_iconst (v := nI 0) hx hb dX3_oneRideFurther_0 (by decide) ?_
  refine lv_istore_n (lv' := [(2, .int (nI 0)), (0, .ref h), (1, .int M)]) hx hb dX3_oneRideFurther_1 rfl hl (by decide) rfl (fun ls hl => ?_)
  refine lv_iconst (v := nI 0) hx hb dX3_oneRideFurther_2 (by decide) ?_
  refine lv_istore_n (lv' := [(3, .int (nI 0)), (2, .int (nI 0)), (0, .ref h), (1, .int M)]) hx hb dX3_oneRideFurther_3 rfl hl (by decide) rfl (fun ls hl => ?_)
  have loop_4 : ∀ (k_ : Nat) (fr : Nat) (F : Int32) (h_fr : fr ≤ n) (h_I : ortI f n M fr 0 F) (_ : n - fr < k_) (ls : Array Slot), lv_has ls 5 [(3, .int (nI fr)), (2, .int F), (0, .ref h), (1, .int M)] → W p l e ({ frames := 4, cells := 0, slots := 0, locals := 91 } : Room) s m ([.ref h, .int M] : List Value).toArray below meth c s.heap [] 0 0 (MQ below (QR (some (.int (ort f n M)))) ([.ref h, .int M] : List Value).toArray s 0 0 (fun _ => False)) (F0 m 4 ls []) := by
    intro k_
    induction k_ with
    | zero => intro fr F h_fr h_I hk_; exact absurd hk_ (Nat.not_lt_zero _)
    | succ k_ ih_4 =>
      intro fr F h_fr h_I hk_ ls hl
      refine lv_iload_n hx hb dX3_oneRideFurther_4 rfl (lv_at hl 0 rfl) ?_
      refine lv_aload_n hx hb dX3_oneRideFurther_5 rfl (lv_at hl 2 rfl) ?_
      refine cRV (As := []) (rest := [.int (nI fr)]) (v := .int (nI n)) ⟨hx, hb, hml, hown, hts⟩ (c_X1_levels l G h hc n g sk f ) (cwV 0 hts gX3_oneRideFurther_X1_levels rfl rfl rfl (by decide +kernel) ⟨Nat.le_of_ble_eq_true rfl, Nat.le_of_ble_eq_true rfl⟩) (preV_of hK hP hD [0, 1] (by decide) rfl (ci := 1) (q0 := 0) rfl rfl rfl) rfl hl.1 rfl (lv_room (Nat.le_of_ble_eq_true rfl)) dX3_oneRideFurther_6 ⟨Nat.zero_le _, Nat.zero_le _⟩ ?_
      refine bi_ge (tgt := 71) hx hb dX3_oneRideFurther_9 (by decide) (nI_i (by omega)) (nI_i (by omega)) (fun c_9 => ?_) (fun c_9 => ?_)
      ·
        refine lv_iload_n hx hb dX3_oneRideFurther_71 rfl (lv_at hl 1 rfl) ?_
        exact R_i hx hb hr hlk dX3_oneRideFurther_72 (ortI_end h_I (by omega) rfl)
      ·
        refine lv_iconst (v := nI 0) hx hb dX3_oneRideFurther_12 (by decide) ?_
        refine lv_istore (lv' := [(4, .int (nI 0)), (3, .int (nI fr)), (2, .int F), (0, .ref h), (1, .int M)]) hx hb dX3_oneRideFurther_13 hl (by decide) rfl (fun ls hl => ?_)
        have loop_15 : ∀ (k_ : Nat) (to : Nat) (F2 : Int32) (h_to : to ≤ n) (h_J : ortI f n M fr to F2) (_ : n - to < k_) (ls : Array Slot), lv_has ls 5 [(4, .int (nI to)), (3, .int (nI fr)), (2, .int F2), (0, .ref h), (1, .int M)] → W p l e ({ frames := 4, cells := 0, slots := 0, locals := 91 } : Room) s m ([.ref h, .int M] : List Value).toArray below meth c s.heap [] 0 0 (MQ below (QR (some (.int (ort f n M)))) ([.ref h, .int M] : List Value).toArray s 0 0 (fun _ => False)) (F0 m 15 ls []) := by
          intro k_
          induction k_ with
          | zero => intro to F2 h_to h_J hk_; exact absurd hk_ (Nat.not_lt_zero _)
          | succ k_ ih_15 =>
            intro to F2 h_to h_J hk_ ls hl
            refine lv_iload hx hb dX3_oneRideFurther_15 (lv_at hl 0 rfl) ?_
            refine lv_aload_n hx hb dX3_oneRideFurther_17 rfl (lv_at hl 3 rfl) ?_
            refine cRV (As := []) (rest := [.int (nI to)]) (v := .int (nI n)) ⟨hx, hb, hml, hown, hts⟩ (c_X1_levels l G h hc n g sk f ) (cwV 0 hts gX3_oneRideFurther_X1_levels rfl rfl rfl (by decide +kernel) ⟨Nat.le_of_ble_eq_true rfl, Nat.le_of_ble_eq_true rfl⟩) (preV_of hK hP hD [0, 1] (by decide) rfl (ci := 1) (q0 := 0) rfl rfl rfl) rfl hl.1 rfl (lv_room (Nat.le_of_ble_eq_true rfl)) dX3_oneRideFurther_18 ⟨Nat.zero_le _, Nat.zero_le _⟩ ?_
            refine bi_ge (tgt := 65) hx hb dX3_oneRideFurther_21 (by decide) (nI_i (by omega)) (nI_i (by omega)) (fun c_21 => ?_) (fun c_21 => ?_)
            ·
              refine lv_iinc (v := nI (fr + 1)) (lv' := [(3, .int (nI (fr + 1))), (4, .int (nI to)), (2, .int F2), (0, .ref h), (1, .int M)]) hx hb dX3_oneRideFurther_65 hl (k := 1) rfl (inc_n _ 1) (by decide) rfl (fun ls hl => ?_)
              refine lv_goto (tgt := 4) hx hb dX3_oneRideFurther_68 (by decide) ?_
              exact ih_4 (fr + 1) F2 (by first | omega | assumption) (ortI_row h_J (by omega)) (by omega) ls (lv_sub hl [0, 2, 3, 4] (by rfl))
            ·
              refine lv_iload_n hx hb dX3_oneRideFurther_24 rfl (lv_at hl 4 rfl) ?_
              refine lv_iload_n hx hb dX3_oneRideFurther_25 rfl (lv_at hl 1 rfl) ?_
              refine lv_iushr hx hb dX3_oneRideFurther_26 rfl ?_
              refine lv_iconst (v := nI 1) hx hb dX3_oneRideFurther_27 (by decide) ?_
              refine lv_iand hx hb dX3_oneRideFurther_28 ?_
              refine lv_iconst (v := nI 1) hx hb dX3_oneRideFurther_29 (by decide) ?_
              refine lv_icmp_ne (tgt := 59) hx hb dX3_oneRideFurther_30 (by decide) (fun c_30 => ?_) (fun c_30 => ?_)
              ·
                have h_b1 : ¬ bt M fr = true := fun z_ => c_30 ((sk_u M (by omega)).mpr z_)
                refine lv_iinc (v := nI (to + 1)) (lv' := [(4, .int (nI (to + 1))), (3, .int (nI fr)), (2, .int F2), (0, .ref h), (1, .int M)]) hx hb dX3_oneRideFurther_59 hl (k := 0) rfl (inc_n _ 1) (by decide) rfl (fun ls hl => ?_)
                refine lv_goto (tgt := 15) hx hb dX3_oneRideFurther_62 (by decide) ?_
                exact ih_15 (to + 1) F2 (by first | omega | assumption) (by first | exact ortI_yes h_J (by omega) h_n h_b1 h_b2 (by assumption) | exact ortI_no h_J (fun z_ => h_b1 z_.1) | exact ortI_no h_J (fun z_ => z_.2.1 h_b2) | exact ortI_no h_J (fun z_ => (show ¬ lds f n fr to from by assumption) z_.2.2)) (by omega) ls (lv_sub hl [0, 1, 2, 3, 4] (by rfl))
              ·
                have h_b1 : bt M fr = true := (sk_u M (by omega)).mp c_30
                refine lv_iload_n hx hb dX3_oneRideFurther_33 rfl (lv_at hl 4 rfl) ?_
                refine lv_iload hx hb dX3_oneRideFurther_34 (lv_at hl 0 rfl) ?_
                refine lv_iushr hx hb dX3_oneRideFurther_36 rfl ?_
                refine lv_iconst (v := nI 1) hx hb dX3_oneRideFurther_37 (by decide) ?_
                refine lv_iand hx hb dX3_oneRideFurther_38 ?_
                refine lv_if_ne (tgt := 59) hx hb dX3_oneRideFurther_39 (by decide) (fun c_39 => ?_) (fun c_39 => ?_)
                ·
                  have h_b2 : bt M to = true := sk_n0 (by omega) c_39
                  refine lv_iinc (v := nI (to + 1)) (lv' := [(4, .int (nI (to + 1))), (3, .int (nI fr)), (2, .int F2), (0, .ref h), (1, .int M)]) hx hb dX3_oneRideFurther_59 hl (k := 0) rfl (inc_n _ 1) (by decide) rfl (fun ls hl => ?_)
                  refine lv_goto (tgt := 15) hx hb dX3_oneRideFurther_62 (by decide) ?_
                  exact ih_15 (to + 1) F2 (by first | omega | assumption) (by first | exact ortI_yes h_J (by omega) h_n h_b1 h_b2 (by assumption) | exact ortI_no h_J (fun z_ => h_b1 z_.1) | exact ortI_no h_J (fun z_ => z_.2.1 h_b2) | exact ortI_no h_J (fun z_ => (show ¬ lds f n fr to from by assumption) z_.2.2)) (by omega) ls (lv_sub hl [0, 1, 2, 3, 4] (by rfl))
                ·
                  have h_b2 : ¬ bt M to = true := sk_0 (by omega) c_39
                  refine lv_aload_n hx hb dX3_oneRideFurther_42 rfl (lv_at hl 3 rfl) ?_
                  refine lv_iload_n hx hb dX3_oneRideFurther_43 rfl (lv_at hl 1 rfl) ?_
                  refine lv_iload hx hb dX3_oneRideFurther_44 (lv_at hl 0 rfl) ?_
                  refine cRS (As := [.ref h, .int (nI fr), .int (nI to)]) (rest := []) (v := .int (zb (lds f n fr to))) ⟨hx, hb, hml, hown, hts⟩ (c_X3_anyCarLeads l G h hc n g sk f fr to (by first | omega | assumption) (by first | omega | assumption) (by first | omega | assumption)) (va_cwS 3 hts gX3_oneRideFurther_X3_anyCarLeads rfl rfl rfl (by decide +kernel) ⟨Nat.le_of_ble_eq_true rfl, Nat.le_of_ble_eq_true rfl⟩) (preS_of hK hP hD [0, 1] (by decide) rfl) rfl hl.1 rfl (lv_room (Nat.le_of_ble_eq_true rfl)) dX3_oneRideFurther_46 ⟨Nat.zero_le _, Nat.zero_le _⟩ ?_
                  refine bb_eq (tgt := 59) hx hb dX3_oneRideFurther_49 (by decide) (fun c_49 => ?_) (fun c_49 => ?_)
                  ·
                    refine lv_iinc (v := nI (to + 1)) (lv' := [(4, .int (nI (to + 1))), (3, .int (nI fr)), (2, .int F2), (0, .ref h), (1, .int M)]) hx hb dX3_oneRideFurther_59 hl (k := 0) rfl (inc_n _ 1) (by decide) rfl (fun ls hl => ?_)
                    refine lv_goto (tgt := 15) hx hb dX3_oneRideFurther_62 (by decide) ?_
                    exact ih_15 (to + 1) F2 (by first | omega | assumption) (by first | exact ortI_yes h_J (by omega) h_n h_b1 h_b2 (by assumption) | exact ortI_no h_J (fun z_ => h_b1 z_.1) | exact ortI_no h_J (fun z_ => z_.2.1 h_b2) | exact ortI_no h_J (fun z_ => (show ¬ lds f n fr to from by assumption) z_.2.2)) (by omega) ls (lv_sub hl [0, 1, 2, 3, 4] (by rfl))
                  ·
                    refine lv_iload_n hx hb dX3_oneRideFurther_52 rfl (lv_at hl 2 rfl) ?_
                    refine lv_iconst (v := nI 1) hx hb dX3_oneRideFurther_53 (by decide) ?_
                    refine lv_iload hx hb dX3_oneRideFurther_54 (lv_at hl 0 rfl) ?_
                    refine lv_ishl hx hb dX3_oneRideFurther_56 ?_
                    rw [show (nI 1) <<< ((nI to) &&& 31) = (bitv to) from rfl]
                    refine lv_ior hx hb dX3_oneRideFurther_57 ?_
                    refine lv_istore_n (lv' := [(2, .int (F2 ||| (bitv to))), (4, .int (nI to)), (3, .int (nI fr)), (0, .ref h), (1, .int M)]) hx hb dX3_oneRideFurther_58 rfl hl (by decide) rfl (fun ls hl => ?_)
                    refine lv_iinc (v := nI (to + 1)) (lv' := [(4, .int (nI (to + 1))), (2, .int (F2 ||| (bitv to))), (3, .int (nI fr)), (0, .ref h), (1, .int M)]) hx hb dX3_oneRideFurther_59 hl (k := 1) rfl (inc_n _ 1) (by decide) rfl (fun ls hl => ?_)
                    refine lv_goto (tgt := 15) hx hb dX3_oneRideFurther_62 (by decide) ?_
                    exact ih_15 (to + 1) (F2 ||| (bitv to)) (by first | omega | assumption) (by first | exact ortI_yes h_J (by omega) h_n h_b1 h_b2 (by assumption) | exact ortI_no h_J (fun z_ => h_b1 z_.1) | exact ortI_no h_J (fun z_ => z_.2.1 h_b2) | exact ortI_no h_J (fun z_ => (show ¬ lds f n fr to from by assumption) z_.2.2)) (by omega) ls (lv_sub hl [0, 2, 1, 3, 4] (by rfl))
        exact loop_15 (n - 0 + 1) 0 F (by first | omega | assumption) h_I (Nat.lt_succ_self _)  ls (lv_sub hl [0, 1, 2, 3, 4] (by rfl))
  exact loop_4 (n - 0 + 1) 0 (nI 0) (by first | omega | assumption) ortI_0 (Nat.lt_succ_self _)  ls (lv_sub hl [0, 1, 2, 3] (by rfl))

set_option maxHeartbeats 4000000 in
set_option maxRecDepth 100000 in
theorem c_X3_fewest (l : Launch) (G : GG) (h : Nat) (hc : Nat) (n : Nat) (g : Nat) (sk : Int32) (f : Nat → Int32) (fr : Nat) (to : Nat) (h_n : n ≤ 16) (h_fr : fr < 16) (h_to : to < 16) : Met l yX3_fewest wsX3_fewest ({ frames := 5, cells := 0, slots := 0, locals := 115 } : Room) (va_Pc [.ref h, .int (nI fr), .int (nI to)] (PB G [(h, .inr (1, [.ref hc, .int (nI n), .int (nI g), .int sk])), (hc, .inl (G.2 0, 144, .inl f))])) (QR (some (.int (fwF f n to 16 0 (bitv fr))))) 0 0 (fun _ => False) := by
  refine Met.go (cc := cX3_fewest) (maxL := 6) (ret := (some .int)) (by decide) rfl (Nat.le_of_ble_eq_true rfl) ?_
  intro p e s m below meth c ls hx hb hr hml hown hts hlk hP hK hD hS hl
  have hown : s.vm.findClass RX3 = some m.cls := hown
  have hl : lv_has ls 6 [(0, .ref h), (1, .int (nI fr)), (2, .int (nI to))] := hl
  refine lv_iconst (v := nI 1) hx hb dX3_fewest_0 (by decide) ?_
  refine lv_iload_n hx hb dX3_fewest_1 rfl (lv_at hl 1 rfl) ?_
  refine lv_ishl hx hb dX3_fewest_2 ?_
  rw [show (nI 1) <<< ((nI fr) &&& 31) = (bitv fr) from rfl]
  refine lv_istore_n (lv' := [(3, .int (bitv fr)), (0, .ref h), (1, .int (nI fr)), (2, .int (nI to))]) hx hb dX3_fewest_3 rfl hl (by decide) rfl (fun ls hl => ?_)
  refine lv_iconst (v := nI 0) hx hb dX3_fewest_4 (by decide) ?_
  refine lv_istore (lv' := [(4, .int (nI 0)), (3, .int (bitv fr)), (0, .ref h), (1, .int (nI fr)), (2, .int (nI to))]) hx hb dX3_fewest_5 hl (by decide) rfl (fun ls hl => ?_)
  have loop_7 : ∀ (k_ : Nat) (i : Nat) (M : Int32) (h_i : i ≤ 16) (h_e : fwF f n to 16 0 (bitv fr) = fwF f n to (16 - i) i M) (_ : 16 - i < k_) (ls : Array Slot), lv_has ls 6 [(4, .int (nI i)), (3, .int M), (0, .ref h), (1, .int (nI fr)), (2, .int (nI to))] → W p l e ({ frames := 5, cells := 0, slots := 0, locals := 115 } : Room) s m ([.ref h, .int (nI fr), .int (nI to)] : List Value).toArray below meth c s.heap [] 0 0 (MQ below (QR (some (.int (fwF f n to 16 0 (bitv fr))))) ([.ref h, .int (nI fr), .int (nI to)] : List Value).toArray s 0 0 (fun _ => False)) (F0 m 7 ls []) := by
    intro k_
    induction k_ with
    | zero => intro i M h_i h_e hk_; exact absurd hk_ (Nat.not_lt_zero _)
    | succ k_ ih_7 =>
      intro i M h_i h_e hk_ ls hl
      refine lv_iload hx hb dX3_fewest_7 (lv_at hl 0 rfl) ?_
      refine lv_bipush (v := nI 16) hx hb dX3_fewest_9 (by decide) ?_
      refine bi_ge (tgt := 52) hx hb dX3_fewest_11 (by decide) (nI_i (by omega)) (nI_i (by omega)) (fun c_11 => ?_) (fun c_11 => ?_)
      ·
        refine lv_iconst (v := (-1)) hx hb dX3_fewest_52 (by decide) ?_
        exact R_i hx hb hr hlk dX3_fewest_53 (by rw [h_e, show 16 - i = 0 by omega]; rfl)
      ·
        refine lv_iload_n hx hb dX3_fewest_14 rfl (lv_at hl 1 rfl) ?_
        refine lv_iload_n hx hb dX3_fewest_15 rfl (lv_at hl 4 rfl) ?_
        refine lv_iushr hx hb dX3_fewest_16 rfl ?_
        refine lv_iconst (v := nI 1) hx hb dX3_fewest_17 (by decide) ?_
        refine lv_iand hx hb dX3_fewest_18 ?_
        refine lv_iconst (v := nI 1) hx hb dX3_fewest_19 (by decide) ?_
        refine lv_icmp_ne (tgt := 26) hx hb dX3_fewest_20 (by decide) (fun c_20 => ?_) (fun c_20 => ?_)
        ·
          have h_b : ¬ bt M to = true := fun z_ => c_20 ((sk_u M (by omega)).mpr z_)
          refine lv_iload_n hx hb dX3_fewest_26 rfl (lv_at hl 1 rfl) ?_
          refine lv_istore (lv' := [(5, .int M), (4, .int (nI i)), (3, .int M), (0, .ref h), (1, .int (nI fr)), (2, .int (nI to))]) hx hb dX3_fewest_27 hl (by decide) rfl (fun ls hl => ?_)
          refine lv_iload_n hx hb dX3_fewest_29 rfl (lv_at hl 2 rfl) ?_
          refine lv_aload_n hx hb dX3_fewest_30 rfl (lv_at hl 3 rfl) ?_
          refine lv_iload hx hb dX3_fewest_31 (lv_at hl 0 rfl) ?_
          refine cRS (As := [.ref h, .int M]) (rest := [.int M]) (v := .int (ort f n M)) ⟨hx, hb, hml, hown, hts⟩ (c_X3_oneRideFurther l G h hc n g sk f M (by first | omega | assumption)) (va_cwS 2 hts gX3_fewest_X3_oneRideFurther rfl rfl rfl (by decide +kernel) ⟨Nat.le_of_ble_eq_true rfl, Nat.le_of_ble_eq_true rfl⟩) (preS_of hK hP hD [0, 1] (by decide) rfl) rfl hl.1 rfl (lv_room (Nat.le_of_ble_eq_true rfl)) dX3_fewest_33 ⟨Nat.zero_le _, Nat.zero_le _⟩ ?_
          refine lv_ior hx hb dX3_fewest_36 ?_
          refine lv_istore_n (lv' := [(3, .int (M ||| (ort f n M))), (5, .int M), (4, .int (nI i)), (0, .ref h), (1, .int (nI fr)), (2, .int (nI to))]) hx hb dX3_fewest_37 rfl hl (by decide) rfl (fun ls hl => ?_)
          refine lv_iload_n hx hb dX3_fewest_38 rfl (lv_at hl 0 rfl) ?_
          refine lv_iload hx hb dX3_fewest_39 (lv_at hl 1 rfl) ?_
          refine lv_icmp_ne (tgt := 46) hx hb dX3_fewest_41 (by decide) (fun c_41 => ?_) (fun c_41 => ?_)
          ·
            refine lv_iinc (v := nI (i + 1)) (lv' := [(4, .int (nI (i + 1))), (3, .int (M ||| (ort f n M))), (5, .int M), (0, .ref h), (1, .int (nI fr)), (2, .int (nI to))]) hx hb dX3_fewest_46 hl (k := 2) rfl (inc_n _ 1) (by decide) rfl (fun ls hl => ?_)
            refine lv_goto (tgt := 7) hx hb dX3_fewest_49 (by decide) ?_
            exact ih_7 (i + 1) (M ||| (ort f n M)) (by first | omega | assumption) (by rw [h_e, show 16 - i = 16 - (i + 1) + 1 by omega]; exact fwF_s h_b c_41) (by omega) ls (lv_sub hl [0, 1, 3, 4, 5] (by rfl))
          ·
            refine lv_iconst (v := (-1)) hx hb dX3_fewest_44 (by decide) ?_
            exact R_i hx hb hr hlk dX3_fewest_45 (by rw [h_e, show 16 - i = 16 - (i + 1) + 1 by omega, fwF_e h_b c_41])
        ·
          have h_b : bt M to = true := (sk_u M (by omega)).mp c_20
          refine lv_iload hx hb dX3_fewest_23 (lv_at hl 0 rfl) ?_
          exact R_i hx hb hr hlk dX3_fewest_25 (by rw [h_e, show 16 - i = 16 - (i + 1) + 1 by omega, fwF_t h_b])
  exact loop_7 (16 - 0 + 1) 0 (bitv fr) (by first | omega | assumption) rfl (Nat.lt_succ_self _)  ls (lv_sub hl [0, 1, 2, 3, 4] (by rfl))

