theorem in_c_X1_insertLevel_X1 : ∀ w ∈ wsX10, w ∈ wsX1_insertLevel := by decide +kernel
set_option maxHeartbeats 4000000 in
set_option maxRecDepth 100000 in
theorem c_X1_insertLevel (l : Launch) (G : GG) (h : Nat) (hc : Nat) (n : Nat) (g : Nat) (sk : Int32) (f : Nat → Int32) (lv : Nat) (k : Nat) (h_n : n < 16) (h_g : g < n) (h_f : f g = 0) (h_lv : lv ≤ n) (h_k : k < 4) : Met l yX1_insertLevel wsX1_insertLevel ({ frames := 3, cells := 0, slots := 0, locals := 68 } : Room) (va_Pc [.ref h, .int (nI lv), .int (nI k)] (PB G [(h, .inr (1, [.ref hc, .int (nI n), .int (nI g), .int sk])), (hc, .inl (G.2 0, 144, .inl f))])) (QW G (some (.int (nI 1))) [(h, .inr (1, [.ref hc, .int (nI (n + 1)), .int (nI (insG lv g)), .int sk])), (hc, .inl (G.2 0, 144, .inl (rn sk (insG lv g) 0 (n + 1) (fur lv (nI k) (sh lv n 9 n f)))))] (vA [(h, .inr (1, [.ref hc, .int (nI n), .int (nI g), .int sk])), (hc, .inl (G.2 0, 144, .inl f))])) 0 0 (vA [(h, .inr (1, [.ref hc, .int (nI n), .int (nI g), .int sk])), (hc, .inl (G.2 0, 144, .inl f))]) := by
  refine Met.go (cc := cX1_insertLevel) (maxL := 5) (ret := (some .boolean)) (by decide) rfl (Nat.le_of_ble_eq_true rfl) ?_
  intro p e s m below meth c ls hx hb hr hml hown hts hlk hP hK hD hS hl
  have hown : s.vm.findClass RX1 = some m.cls := hown
  have hl : lv_has ls 5 [(0, .ref h), (1, .int (nI lv)), (2, .int (nI k))] := hl
  refine lv_iload_n hx hb dX1_insertLevel_0 rfl (lv_at hl 1 rfl) ?_
  refine b0_lt (tgt := 26) hx hb dX1_insertLevel_1 (by decide) (nI_i (by omega)) (fun c_1 => False.elim (by omega)) (fun c_1 => ?_)
  refine lv_iload_n hx hb dX1_insertLevel_4 rfl (lv_at hl 1 rfl) ?_
  refine lv_aload_n hx hb dX1_insertLevel_5 rfl (lv_at hl 0 rfl) ?_
  refine va_get (D := G.1) (ci := 1) (v := .int (nI n)) (C := RX1) (T := TX1) (N := 4) hx hb hts in_c_X1_insertLevel_X1 hown hK.1 hP 0 rfl rfl 1 (by decide) (hts (.fieldLink RX1 15 "FloorPanels$House" "levels" "I") (by decide +kernel)) (fun _ h9 => h9) rfl dX1_insertLevel_6 ?_
  refine bi_gt (tgt := 26) hx hb dX1_insertLevel_9 (by decide) (nI_i (by omega)) (nI_i (by omega)) (fun c_9 => False.elim (by omega)) (fun c_9 => ?_)
  refine lv_iload_n hx hb dX1_insertLevel_12 rfl (lv_at hl 2 rfl) ?_
  refine cRSN (host := RX6) (As := [.int (nI k)]) (rest := []) (v := .int (zb (k < 4))) ⟨hx, hb, hml, hown, hts⟩ (c_X6_isKind_n l G k (by first | omega | assumption)) ⟨va_cnB 1 hts gX1_insertLevel_X6_isKind_n97 rfl rfl rfl (hK.2 (.methodLinkNest RX1 97 yX6_isKind RX6) (by decide +kernel)) (hts (.initialized RX6) (by decide +kernel)) (by decide +kernel) ⟨Nat.le_of_ble_eq_true rfl, Nat.le_of_ble_eq_true rfl⟩, hts (.static yX6_isKind) (by decide +kernel), trivial⟩ (preS_of hK hP hD [] (by decide) rfl) rfl hl.1 rfl (lv_room (Nat.le_of_ble_eq_true rfl)) dX1_insertLevel_13 ⟨Nat.zero_le _, Nat.zero_le _⟩ ?_
  refine bb_eq (tgt := 26) hx hb dX1_insertLevel_16 (by decide) (fun c_16 => False.elim (by omega)) (fun c_16 => ?_)
  refine lv_aload_n hx hb dX1_insertLevel_19 rfl (lv_at hl 0 rfl) ?_
  refine cRV (As := []) (rest := []) (v := .int (zb (16 ≤ n))) ⟨hx, hb, hml, hown, hts⟩ (c_X1_isFull l G h hc n g sk f (by first | omega | assumption)) (cwV 0 hts gX1_insertLevel_X1_isFull rfl rfl rfl (by decide +kernel) ⟨Nat.le_of_ble_eq_true rfl, Nat.le_of_ble_eq_true rfl⟩) (preV_of hK hP hD [0, 1] (by decide) rfl (ci := 1) (q0 := 0) rfl rfl rfl) rfl hl.1 rfl (lv_room (Nat.le_of_ble_eq_true rfl)) dX1_insertLevel_20 ⟨Nat.zero_le _, Nat.zero_le _⟩ ?_
  refine bb_eq (tgt := 28) hx hb dX1_insertLevel_23 (by decide) (fun c_23 => ?_) (fun c_23 => False.elim (by omega))
  refine lv_aload_n hx hb dX1_insertLevel_28 rfl (lv_at hl 0 rfl) ?_
  refine lv_dup hx hb dX1_insertLevel_29 rfl ?_
  refine va_get (D := G.1) (ci := 1) (v := .int (nI n)) (C := RX1) (T := TX1) (N := 4) hx hb hts in_c_X1_insertLevel_X1 hown hK.1 hP 0 rfl rfl 1 (by decide) (hts (.fieldLink RX1 15 "FloorPanels$House" "levels" "I") (by decide +kernel)) (fun _ h9 => h9) rfl dX1_insertLevel_30 ?_
  refine lv_iconst (v := nI 1) hx hb dX1_insertLevel_33 (by decide) ?_
  refine nv_iadd hx hb dX1_insertLevel_34 ?_
  refine va_put (D := G.1) (ci := 1) (v := .int (nI (n + 1))) (ty := .int) (C := RX1) (T := TX1) (N := 4) hx hb hts in_c_X1_insertLevel_X1 tyX1 tyX1_ok nmX1 hown hK.1 hP hD hS 0 rfl rfl 1 (by decide) (hts (.fieldLink RX1 15 "FloorPanels$House" "levels" "I") (by decide +kernel)) (fun _ h9 => h9) rfl (by decide +kernel) rfl rfl (Nat.le_of_ble_eq_true rfl) dX1_insertLevel_35 (fun H locs hP hD hS => ?_)
  have hP : VP G [(h, .inr (1, [.ref hc, .int (nI (n + 1)), .int (nI g), .int sk])), (hc, .inl (G.2 0, 144, .inl f))] H := hP
  have hD : va_D _ [(h, .inr (1, [.ref hc, .int (nI (n + 1)), .int (nI g), .int sk])), (hc, .inl (G.2 0, 144, .inl f))] := hD
  refine lv_iconst (v := nI 0) hx hb dX1_insertLevel_38 (by decide) ?_
  refine lv_istore_n (lv' := [(3, .int (nI 0)), (0, .ref h), (1, .int (nI lv)), (2, .int (nI k))]) hx hb dX1_insertLevel_39 rfl hl (by decide) rfl (fun ls hl => ?_)
  have loop_40 : ∀ (k_ : Nat) (ro : Nat) (h_ro : ro ≤ 9) (_ : 9 - ro < k_) (H : Heap) (locs : List Loc) (_ : VP G [(h, .inr (1, [.ref hc, .int (nI (n + 1)), .int (nI g), .int sk])), (hc, .inl (G.2 0, 144, .inl (sh lv n ro n f)))] H) (_ : va_D (vA [(h, .inr (1, [.ref hc, .int (nI n), .int (nI g), .int sk])), (hc, .inl (G.2 0, 144, .inl f))]) [(h, .inr (1, [.ref hc, .int (nI (n + 1)), .int (nI g), .int sk])), (hc, .inl (G.2 0, 144, .inl (sh lv n ro n f)))]) (_ : va_S (vA [(h, .inr (1, [.ref hc, .int (nI n), .int (nI g), .int sk])), (hc, .inl (G.2 0, 144, .inl f))]) s.heap H locs) (ls : Array Slot), lv_has ls 5 [(3, .int (nI ro)), (0, .ref h), (1, .int (nI lv)), (2, .int (nI k))] → W p l e ({ frames := 3, cells := 0, slots := 0, locals := 68 } : Room) s m ([.ref h, .int (nI lv), .int (nI k)] : List Value).toArray below meth c H locs 0 0 (MQ below (QW G (some (.int (nI 1))) [(h, .inr (1, [.ref hc, .int (nI (n + 1)), .int (nI (insG lv g)), .int sk])), (hc, .inl (G.2 0, 144, .inl (rn sk (insG lv g) 0 (n + 1) (fur lv (nI k) (sh lv n 9 n f)))))] (vA [(h, .inr (1, [.ref hc, .int (nI n), .int (nI g), .int sk])), (hc, .inl (G.2 0, 144, .inl f))])) ([.ref h, .int (nI lv), .int (nI k)] : List Value).toArray s 0 0 (vA [(h, .inr (1, [.ref hc, .int (nI n), .int (nI g), .int sk])), (hc, .inl (G.2 0, 144, .inl f))])) (F0 m 40 ls []) := by
    intro k_
    induction k_ with
    | zero => intro ro h_ro hk_; exact absurd hk_ (Nat.not_lt_zero _)
    | succ k_ ih_40 =>
      intro ro h_ro hk_ H locs hP hD hS ls hl
      refine lv_iload_n hx hb dX1_insertLevel_40 rfl (lv_at hl 0 rfl) ?_
      refine lv_bipush (v := nI 9) hx hb dX1_insertLevel_41 (by decide) ?_
      refine bi_ge (tgt := 88) hx hb dX1_insertLevel_43 (by decide) (nI_i (by omega)) (nI_i (by omega)) (fun c_43 => ?_) (fun c_43 => ?_)
      ·
        rw [show ro = 9 by omega] at hP hD
        have hP : VP G [(h, .inr (1, [.ref hc, .int (nI (n + 1)), .int (nI g), .int sk])), (hc, .inl (G.2 0, 144, .inl (sh lv n 9 n f)))] H := hP
        have hD : va_D _ [(h, .inr (1, [.ref hc, .int (nI (n + 1)), .int (nI g), .int sk])), (hc, .inl (G.2 0, 144, .inl (sh lv n 9 n f)))] := hD
        refine lv_aload_n hx hb dX1_insertLevel_88 rfl (lv_at hl 1 rfl) ?_
        refine lv_iload_n hx hb dX1_insertLevel_89 rfl (lv_at hl 2 rfl) ?_
        refine lv_iload_n hx hb dX1_insertLevel_90 rfl (lv_at hl 3 rfl) ?_
        refine cWV (As := [.int (nI lv), .int (nI k)]) (rest := []) (st1 := []) (w3 := [(h, .inr (1, [.ref hc, .int (nI (n + 1)), .int (nI g), .int sk])), (hc, .inl (G.2 0, 144, .inl (fur lv (nI k) (sh lv n 9 n f))))]) ⟨hx, hb, hml, hown, hts⟩ (c_X1_furnish l G h hc (n + 1) g sk (sh lv n 9 n f) lv (nI k) (by first | omega | assumption)) (cwV 2 hts gX1_insertLevel_X1_furnish rfl rfl rfl (by decide +kernel) ⟨Nat.le_of_ble_eq_true rfl, Nat.le_of_ble_eq_true rfl⟩) (preV_of hK hP hD [0, 1] (by decide) rfl (ci := 1) (q0 := 0) rfl rfl rfl) rfl hl.1 rfl (lv_room (Nat.le_of_ble_eq_true rfl)) dX1_insertLevel_91 ⟨Nat.zero_le _, Nat.zero_le _⟩ hP hD hS [0, 1] (by decide) rfl rfl (rfl) rfl (fun H locs hP hD hS => ?_)
        refine lv_iload_n hx hb dX1_insertLevel_94 rfl (lv_at hl 2 rfl) ?_
        refine lv_aload_n hx hb dX1_insertLevel_95 rfl (lv_at hl 1 rfl) ?_
        refine va_get (D := G.1) (ci := 1) (v := .int (nI g)) (C := RX1) (T := TX1) (N := 4) hx hb hts in_c_X1_insertLevel_X1 hown hK.1 hP 0 rfl rfl 2 (by decide) (hts (.fieldLink RX1 32 "FloorPanels$House" "groundLevel" "I") (by decide +kernel)) (fun _ h9 => h9) rfl dX1_insertLevel_96 ?_
        refine bi_gt (tgt := 112) hx hb dX1_insertLevel_99 (by decide) (nI_i (by omega)) (nI_i (by omega)) (fun c_99 => ?_) (fun c_99 => ?_)
        ·
          refine lv_aload_n hx hb dX1_insertLevel_112 rfl (lv_at hl 1 rfl) ?_
          refine cWV (As := []) (rest := []) (st1 := []) (w3 := [(h, .inr (1, [.ref hc, .int (nI (n + 1)), .int (nI g), .int sk])), (hc, .inl (G.2 0, 144, .inl (rn sk g 0 (n + 1) (fur lv (nI k) (sh lv n 9 n f)))))]) ⟨hx, hb, hml, hown, hts⟩ (c_X1_renumber l G h hc (n + 1) g sk (fur lv (nI k) (sh lv n 9 n f)) (by first | omega | assumption) (by first | omega | assumption) (by have h_z := ins_g (k := nI k) h_g h_n (by assumption) h_f; first | (rw [insG_t (by omega)] at h_z; exact h_z) | (rw [insG_f (by omega)] at h_z; exact h_z))) (cwV 0 hts gX1_insertLevel_X1_renumber rfl rfl rfl (by decide +kernel) ⟨Nat.le_of_ble_eq_true rfl, Nat.le_of_ble_eq_true rfl⟩) (preV_of hK hP hD [0, 1] (by decide) rfl (ci := 1) (q0 := 0) rfl rfl rfl) rfl hl.1 rfl (lv_room (Nat.le_of_ble_eq_true rfl)) dX1_insertLevel_113 ⟨Nat.zero_le _, Nat.zero_le _⟩ hP hD hS [0, 1] (by decide) rfl rfl (rfl) rfl (fun H locs hP hD hS => ?_)
          refine lv_iconst (v := nI 1) hx hb dX1_insertLevel_116 (by decide) ?_
          exact W_z hx hb hr hlk dX1_insertLevel_117 hP hS (rfl) (by first | (rw [insG_t (by omega)]; done) | (rw [insG_f (by omega)]; done) | (rw [insG_t (by omega)]; rfl) | (rw [insG_f (by omega)]; rfl)) rfl
        ·
          refine lv_aload_n hx hb dX1_insertLevel_102 rfl (lv_at hl 1 rfl) ?_
          refine lv_dup hx hb dX1_insertLevel_103 rfl ?_
          refine va_get (D := G.1) (ci := 1) (v := .int (nI g)) (C := RX1) (T := TX1) (N := 4) hx hb hts in_c_X1_insertLevel_X1 hown hK.1 hP 0 rfl rfl 2 (by decide) (hts (.fieldLink RX1 32 "FloorPanels$House" "groundLevel" "I") (by decide +kernel)) (fun _ h9 => h9) rfl dX1_insertLevel_104 ?_
          refine lv_iconst (v := nI 1) hx hb dX1_insertLevel_107 (by decide) ?_
          refine nv_iadd hx hb dX1_insertLevel_108 ?_
          refine va_put (D := G.1) (ci := 1) (v := .int (nI (g + 1))) (ty := .int) (C := RX1) (T := TX1) (N := 4) hx hb hts in_c_X1_insertLevel_X1 tyX1 tyX1_ok nmX1 hown hK.1 hP hD hS 0 rfl rfl 2 (by decide) (hts (.fieldLink RX1 32 "FloorPanels$House" "groundLevel" "I") (by decide +kernel)) (fun _ h9 => h9) rfl (by decide +kernel) rfl rfl (Nat.le_of_ble_eq_true rfl) dX1_insertLevel_109 (fun H locs hP hD hS => ?_)
          have hP : VP G [(h, .inr (1, [.ref hc, .int (nI (n + 1)), .int (nI (g + 1)), .int sk])), (hc, .inl (G.2 0, 144, .inl (fur lv (nI k) (sh lv n 9 n f))))] H := hP
          have hD : va_D _ [(h, .inr (1, [.ref hc, .int (nI (n + 1)), .int (nI (g + 1)), .int sk])), (hc, .inl (G.2 0, 144, .inl (fur lv (nI k) (sh lv n 9 n f))))] := hD
          refine lv_aload_n hx hb dX1_insertLevel_112 rfl (lv_at hl 1 rfl) ?_
          refine cWV (As := []) (rest := []) (st1 := []) (w3 := [(h, .inr (1, [.ref hc, .int (nI (n + 1)), .int (nI (g + 1)), .int sk])), (hc, .inl (G.2 0, 144, .inl (rn sk (g + 1) 0 (n + 1) (fur lv (nI k) (sh lv n 9 n f)))))]) ⟨hx, hb, hml, hown, hts⟩ (c_X1_renumber l G h hc (n + 1) (g + 1) sk (fur lv (nI k) (sh lv n 9 n f)) (by first | omega | assumption) (by first | omega | assumption) (by have h_z := ins_g (k := nI k) h_g h_n (by assumption) h_f; first | (rw [insG_t (by omega)] at h_z; exact h_z) | (rw [insG_f (by omega)] at h_z; exact h_z))) (cwV 0 hts gX1_insertLevel_X1_renumber rfl rfl rfl (by decide +kernel) ⟨Nat.le_of_ble_eq_true rfl, Nat.le_of_ble_eq_true rfl⟩) (preV_of hK hP hD [0, 1] (by decide) rfl (ci := 1) (q0 := 0) rfl rfl rfl) rfl hl.1 rfl (lv_room (Nat.le_of_ble_eq_true rfl)) dX1_insertLevel_113 ⟨Nat.zero_le _, Nat.zero_le _⟩ hP hD hS [0, 1] (by decide) rfl rfl (rfl) rfl (fun H locs hP hD hS => ?_)
          refine lv_iconst (v := nI 1) hx hb dX1_insertLevel_116 (by decide) ?_
          exact W_z hx hb hr hlk dX1_insertLevel_117 hP hS (rfl) (by first | (rw [insG_t (by omega)]; done) | (rw [insG_f (by omega)]; done) | (rw [insG_t (by omega)]; rfl) | (rw [insG_f (by omega)]; rfl)) rfl
      ·
        refine lv_aload_n hx hb dX1_insertLevel_46 rfl (lv_at hl 1 rfl) ?_
        refine va_get (D := G.1) (ci := 1) (v := .int (nI (n + 1))) (C := RX1) (T := TX1) (N := 4) hx hb hts in_c_X1_insertLevel_X1 hown hK.1 hP 0 rfl rfl 1 (by decide) (hts (.fieldLink RX1 15 "FloorPanels$House" "levels" "I") (by decide +kernel)) (fun _ h9 => h9) rfl dX1_insertLevel_47 ?_
        refine lv_iconst (v := nI 1) hx hb dX1_insertLevel_50 (by decide) ?_
        refine nv_isub hx hb (by omega) dX1_insertLevel_51 ?_
        refine lv_istore (lv' := [(4, .int (nI ((n + 1) - 1))), (3, .int (nI ro)), (0, .ref h), (1, .int (nI lv)), (2, .int (nI k))]) hx hb dX1_insertLevel_52 hl (by decide) rfl (fun ls hl => ?_)
        have loop_54 : ∀ (k_ : Nat) (to : Nat) (h_to : to ≤ n) (h_to2 : lv ≤ to) (_ : to < k_) (H : Heap) (locs : List Loc) (_ : VP G [(h, .inr (1, [.ref hc, .int (nI (n + 1)), .int (nI g), .int sk])), (hc, .inl (G.2 0, 144, .inl (sh lv n ro to f)))] H) (_ : va_D (vA [(h, .inr (1, [.ref hc, .int (nI n), .int (nI g), .int sk])), (hc, .inl (G.2 0, 144, .inl f))]) [(h, .inr (1, [.ref hc, .int (nI (n + 1)), .int (nI g), .int sk])), (hc, .inl (G.2 0, 144, .inl (sh lv n ro to f)))]) (_ : va_S (vA [(h, .inr (1, [.ref hc, .int (nI n), .int (nI g), .int sk])), (hc, .inl (G.2 0, 144, .inl f))]) s.heap H locs) (ls : Array Slot), lv_has ls 5 [(4, .int (nI to)), (3, .int (nI ro)), (0, .ref h), (1, .int (nI lv)), (2, .int (nI k))] → W p l e ({ frames := 3, cells := 0, slots := 0, locals := 68 } : Room) s m ([.ref h, .int (nI lv), .int (nI k)] : List Value).toArray below meth c H locs 0 0 (MQ below (QW G (some (.int (nI 1))) [(h, .inr (1, [.ref hc, .int (nI (n + 1)), .int (nI (insG lv g)), .int sk])), (hc, .inl (G.2 0, 144, .inl (rn sk (insG lv g) 0 (n + 1) (fur lv (nI k) (sh lv n 9 n f)))))] (vA [(h, .inr (1, [.ref hc, .int (nI n), .int (nI g), .int sk])), (hc, .inl (G.2 0, 144, .inl f))])) ([.ref h, .int (nI lv), .int (nI k)] : List Value).toArray s 0 0 (vA [(h, .inr (1, [.ref hc, .int (nI n), .int (nI g), .int sk])), (hc, .inl (G.2 0, 144, .inl f))])) (F0 m 54 ls []) := by
          intro k_
          induction k_ with
          | zero => intro to h_to h_to2 hk_; exact absurd hk_ (Nat.not_lt_zero _)
          | succ k_ ih_54 =>
            intro to h_to h_to2 hk_ H locs hP hD hS ls hl
            refine lv_iload hx hb dX1_insertLevel_54 (lv_at hl 0 rfl) ?_
            refine lv_iload_n hx hb dX1_insertLevel_56 rfl (lv_at hl 3 rfl) ?_
            refine bi_le (tgt := 82) hx hb dX1_insertLevel_57 (by decide) (nI_i (by omega)) (nI_i (by omega)) (fun c_57 => ?_) (fun c_57 => ?_)
            ·
              rw [sh_row (show to ≤ lv by omega) h_n] at hP hD
              have hP : VP G [(h, .inr (1, [.ref hc, .int (nI (n + 1)), .int (nI g), .int sk])), (hc, .inl (G.2 0, 144, .inl (sh lv n (ro + 1) n f)))] H := hP
              have hD : va_D _ [(h, .inr (1, [.ref hc, .int (nI (n + 1)), .int (nI g), .int sk])), (hc, .inl (G.2 0, 144, .inl (sh lv n (ro + 1) n f)))] := hD
              refine lv_iinc (v := nI (ro + 1)) (lv' := [(3, .int (nI (ro + 1))), (4, .int (nI to)), (0, .ref h), (1, .int (nI lv)), (2, .int (nI k))]) hx hb dX1_insertLevel_82 hl (k := 1) rfl (inc_n _ 1) (by decide) rfl (fun ls hl => ?_)
              refine lv_goto (tgt := 40) hx hb dX1_insertLevel_85 (by decide) ?_
              exact ih_40 (ro + 1) (by first | omega | assumption) (by omega) _ _ hP hD hS ls (lv_sub hl [0, 2, 3, 4] (by rfl))
            ·
              refine lv_aload_n hx hb dX1_insertLevel_60 rfl (lv_at hl 2 rfl) ?_
              refine lv_iload_n hx hb dX1_insertLevel_61 rfl (lv_at hl 1 rfl) ?_
              refine lv_iload hx hb dX1_insertLevel_62 (lv_at hl 0 rfl) ?_
              refine lv_aload_n hx hb dX1_insertLevel_64 rfl (lv_at hl 2 rfl) ?_
              refine lv_iload_n hx hb dX1_insertLevel_65 rfl (lv_at hl 1 rfl) ?_
              refine lv_iload hx hb dX1_insertLevel_66 (lv_at hl 0 rfl) ?_
              refine lv_iconst (v := nI 1) hx hb dX1_insertLevel_68 (by decide) ?_
              refine nv_isub hx hb (by omega) dX1_insertLevel_69 ?_
              refine cRV (As := [.int (nI ro), .int (nI (to - 1))]) (rest := [.int (nI to), .int (nI ro), .ref h]) (v := .int ((sh lv n ro to f) (ro * 16 + (to - 1)))) ⟨hx, hb, hml, hown, hts⟩ (c_X1_cell l G h hc (n + 1) g sk (sh lv n ro to f) ro (to - 1) (by first | omega | assumption) (by first | omega | assumption)) (cwV 2 hts gX1_insertLevel_X1_cell rfl rfl rfl (by decide +kernel) ⟨Nat.le_of_ble_eq_true rfl, Nat.le_of_ble_eq_true rfl⟩) (preV_of hK hP hD [0, 1] (by decide) rfl (ci := 1) (q0 := 0) rfl rfl rfl) rfl hl.1 rfl (lv_room (Nat.le_of_ble_eq_true rfl)) dX1_insertLevel_70 ⟨Nat.zero_le _, Nat.zero_le _⟩ ?_
              rw [show (((sh lv n ro to f) (ro * 16 + (to - 1)))) = (f (ro * 16 + (to - 1))) from by rw [sh_read (by omega) (by omega) h_n]]
              refine cWV (As := [.int (nI ro), .int (nI to), .int (f (ro * 16 + (to - 1)))]) (rest := []) (st1 := []) (w3 := [(h, .inr (1, [.ref hc, .int (nI (n + 1)), .int (nI g), .int sk])), (hc, .inl (G.2 0, 144, .inl (sh lv n ro (to - 1) f)))]) ⟨hx, hb, hml, hown, hts⟩ (c_X1_put l G h hc (n + 1) g sk (sh lv n ro to f) ro to (f (ro * 16 + (to - 1))) (by first | omega | assumption) (by first | omega | assumption)) (cwV 3 hts gX1_insertLevel_X1_put rfl rfl rfl (by decide +kernel) ⟨Nat.le_of_ble_eq_true rfl, Nat.le_of_ble_eq_true rfl⟩) (preV_of hK hP hD [0, 1] (by decide) rfl (ci := 1) (q0 := 0) rfl rfl rfl) rfl hl.1 rfl (lv_room (Nat.le_of_ble_eq_true rfl)) dX1_insertLevel_73 ⟨Nat.zero_le _, Nat.zero_le _⟩ hP hD hS [0, 1] (by decide) rfl rfl (by rw [← sh_step (by omega) (by omega) (by omega) h_n]; rfl) rfl (fun H locs hP hD hS => ?_)
              refine lv_iinc (v := nI (to - 1)) (lv' := [(4, .int (nI (to - 1))), (3, .int (nI ro)), (0, .ref h), (1, .int (nI lv)), (2, .int (nI k))]) hx hb dX1_insertLevel_76 hl (k := 0) rfl (dec_n (by omega)) (by decide) rfl (fun ls hl => ?_)
              refine lv_goto (tgt := 54) hx hb dX1_insertLevel_79 (by decide) ?_
              exact ih_54 (to - 1) (by first | omega | assumption) (by first | omega | assumption) (by omega) _ _ hP hD hS ls (lv_sub hl [0, 1, 2, 3, 4] (by rfl))
        exact loop_54 (n + 1) n (by first | omega | assumption) (by first | omega | assumption) (Nat.lt_succ_self _) _ _ hP hD hS ls (lv_sub hl [0, 1, 2, 3, 4] (by rfl))
  exact loop_40 (9 - 0 + 1) 0 (by first | omega | assumption) (Nat.lt_succ_self _) _ _ (by rw [sh_0]; exact hP) (by rw [sh_0]; exact hD) hS ls (lv_sub hl [0, 1, 2, 3] (by rfl))

theorem in_c_X1_insertLevel_no_X1 : ∀ w ∈ wsX10, w ∈ wsX1_insertLevel := by decide +kernel
set_option maxHeartbeats 4000000 in
set_option maxRecDepth 100000 in
theorem c_X1_insertLevel_no (l : Launch) (G : GG) (h : Nat) (hc : Nat) (n : Nat) (g : Nat) (sk : Int32) (f : Nat → Int32) (lv : Nat) (k : Nat) (h_n : n ≤ 16) (h_lv : lv < 2147483648) (h_k : k < 2147483648) (h_no : ¬ (lv ≤ n ∧ k < 4 ∧ n < 16)) : Met l yX1_insertLevel wsX1_insertLevel ({ frames := 1, cells := 0, slots := 0, locals := 20 } : Room) (va_Pc [.ref h, .int (nI lv), .int (nI k)] (PB G [(h, .inr (1, [.ref hc, .int (nI n), .int (nI g), .int sk])), (hc, .inl (G.2 0, 144, .inl f))])) (QR (some (.int (nI 0)))) 0 0 (fun _ => False) := by
  refine Met.go (cc := cX1_insertLevel) (maxL := 5) (ret := (some .boolean)) (by decide) rfl (Nat.le_of_ble_eq_true rfl) ?_
  intro p e s m below meth c ls hx hb hr hml hown hts hlk hP hK hD hS hl
  have hown : s.vm.findClass RX1 = some m.cls := hown
  have hl : lv_has ls 5 [(0, .ref h), (1, .int (nI lv)), (2, .int (nI k))] := hl
  refine lv_iload_n hx hb dX1_insertLevel_0 rfl (lv_at hl 1 rfl) ?_
  refine b0_lt (tgt := 26) hx hb dX1_insertLevel_1 (by decide) (nI_i (by omega)) (fun c_1 => False.elim (by omega)) (fun c_1 => ?_)
  refine lv_iload_n hx hb dX1_insertLevel_4 rfl (lv_at hl 1 rfl) ?_
  refine lv_aload_n hx hb dX1_insertLevel_5 rfl (lv_at hl 0 rfl) ?_
  refine va_get (D := G.1) (ci := 1) (v := .int (nI n)) (C := RX1) (T := TX1) (N := 4) hx hb hts in_c_X1_insertLevel_no_X1 hown hK.1 hP 0 rfl rfl 1 (by decide) (hts (.fieldLink RX1 15 "FloorPanels$House" "levels" "I") (by decide +kernel)) (fun _ h9 => h9) rfl dX1_insertLevel_6 ?_
  refine bi_gt (tgt := 26) hx hb dX1_insertLevel_9 (by decide) (nI_i (by omega)) (nI_i (by omega)) (fun c_9 => ?_) (fun c_9 => ?_)
  ·
    refine lv_iconst (v := nI 0) hx hb dX1_insertLevel_26 (by decide) ?_
    exact R_z hx hb hr hlk dX1_insertLevel_27 (rfl) rfl
  ·
    refine lv_iload_n hx hb dX1_insertLevel_12 rfl (lv_at hl 2 rfl) ?_
    refine cRSN (host := RX6) (As := [.int (nI k)]) (rest := []) (v := .int (zb (k < 4))) ⟨hx, hb, hml, hown, hts⟩ (c_X6_isKind_n l G k (by first | omega | assumption)) ⟨va_cnB 1 hts gX1_insertLevel_X6_isKind_n97 rfl rfl rfl (hK.2 (.methodLinkNest RX1 97 yX6_isKind RX6) (by decide +kernel)) (hts (.initialized RX6) (by decide +kernel)) (by decide +kernel) ⟨Nat.le_of_ble_eq_true rfl, Nat.le_of_ble_eq_true rfl⟩, hts (.static yX6_isKind) (by decide +kernel), trivial⟩ (preS_of hK hP hD [] (by decide) rfl) rfl hl.1 rfl (lv_room (Nat.le_of_ble_eq_true rfl)) dX1_insertLevel_13 ⟨Nat.zero_le _, Nat.zero_le _⟩ ?_
    refine bb_eq (tgt := 26) hx hb dX1_insertLevel_16 (by decide) (fun c_16 => ?_) (fun c_16 => ?_)
    ·
      refine lv_iconst (v := nI 0) hx hb dX1_insertLevel_26 (by decide) ?_
      exact R_z hx hb hr hlk dX1_insertLevel_27 (rfl) rfl
    ·
      refine lv_aload_n hx hb dX1_insertLevel_19 rfl (lv_at hl 0 rfl) ?_
      refine cRV (As := []) (rest := []) (v := .int (zb (16 ≤ n))) ⟨hx, hb, hml, hown, hts⟩ (c_X1_isFull l G h hc n g sk f (by first | omega | assumption)) (cwV 0 hts gX1_insertLevel_X1_isFull rfl rfl rfl (by decide +kernel) ⟨Nat.le_of_ble_eq_true rfl, Nat.le_of_ble_eq_true rfl⟩) (preV_of hK hP hD [0, 1] (by decide) rfl (ci := 1) (q0 := 0) rfl rfl rfl) rfl hl.1 rfl (lv_room (Nat.le_of_ble_eq_true rfl)) dX1_insertLevel_20 ⟨Nat.zero_le _, Nat.zero_le _⟩ ?_
      refine bb_eq (tgt := 28) hx hb dX1_insertLevel_23 (by decide) (fun c_23 => False.elim (by omega)) (fun c_23 => ?_)
      refine lv_iconst (v := nI 0) hx hb dX1_insertLevel_26 (by decide) ?_
      exact R_z hx hb hr hlk dX1_insertLevel_27 (rfl) rfl

theorem in_c_X1_deleteLevel_X1 : ∀ w ∈ wsX10, w ∈ wsX1_deleteLevel := by decide +kernel
set_option maxHeartbeats 4000000 in
set_option maxRecDepth 100000 in
theorem c_X1_deleteLevel (l : Launch) (G : GG) (h : Nat) (hc : Nat) (n : Nat) (g : Nat) (sk : Int32) (f : Nat → Int32) (lv : Nat) (h_n : n ≤ 16) (h_g : g < n) (h_f : f g = 0) (h_lv : lv < n) (h_ne : lv ≠ g) : Met l yX1_deleteLevel wsX1_deleteLevel ({ frames := 3, cells := 0, slots := 0, locals := 68 } : Room) (va_Pc [.ref h, .int (nI lv)] (PB G [(h, .inr (1, [.ref hc, .int (nI n), .int (nI g), .int sk])), (hc, .inl (G.2 0, 144, .inl f))])) (QW G (some (.int (nI 1))) [(h, .inr (1, [.ref hc, .int (nI (n - 1)), .int (nI (delG lv g)), .int sk])), (hc, .inl (G.2 0, 144, .inl (rn sk (delG lv g) 0 (n - 1) (sd lv (n - 1) 9 lv f))))] (vA [(h, .inr (1, [.ref hc, .int (nI n), .int (nI g), .int sk])), (hc, .inl (G.2 0, 144, .inl f))])) 0 0 (vA [(h, .inr (1, [.ref hc, .int (nI n), .int (nI g), .int sk])), (hc, .inl (G.2 0, 144, .inl f))]) := by
  refine Met.go (cc := cX1_deleteLevel) (maxL := 4) (ret := (some .boolean)) (by decide) rfl (Nat.le_of_ble_eq_true rfl) ?_
  intro p e s m below meth c ls hx hb hr hml hown hts hlk hP hK hD hS hl
  have hown : s.vm.findClass RX1 = some m.cls := hown
  have hl : lv_has ls 4 [(0, .ref h), (1, .int (nI lv))] := hl
  refine lv_aload_n hx hb dX1_deleteLevel_0 rfl (lv_at hl 0 rfl) ?_
  refine lv_iload_n hx hb dX1_deleteLevel_1 rfl (lv_at hl 1 rfl) ?_
  refine cRV (As := [.int (nI lv)]) (rest := []) (v := .int (zb (lv < n))) ⟨hx, hb, hml, hown, hts⟩ (c_X1_hasLevel_n l G h hc n g sk f lv (by first | omega | assumption) (by first | omega | assumption)) (cwV 1 hts gX1_deleteLevel_X1_hasLevel rfl rfl rfl (by decide +kernel) ⟨Nat.le_of_ble_eq_true rfl, Nat.le_of_ble_eq_true rfl⟩) (preV_of hK hP hD [0, 1] (by decide) rfl (ci := 1) (q0 := 0) rfl rfl rfl) rfl hl.1 rfl (lv_room (Nat.le_of_ble_eq_true rfl)) dX1_deleteLevel_2 ⟨Nat.zero_le _, Nat.zero_le _⟩ ?_
  refine bb_eq (tgt := 16) hx hb dX1_deleteLevel_5 (by decide) (fun c_5 => False.elim (by omega)) (fun c_5 => ?_)
  refine lv_iload_n hx hb dX1_deleteLevel_8 rfl (lv_at hl 1 rfl) ?_
  refine lv_aload_n hx hb dX1_deleteLevel_9 rfl (lv_at hl 0 rfl) ?_
  refine va_get (D := G.1) (ci := 1) (v := .int (nI g)) (C := RX1) (T := TX1) (N := 4) hx hb hts in_c_X1_deleteLevel_X1 hown hK.1 hP 0 rfl rfl 2 (by decide) (hts (.fieldLink RX1 32 "FloorPanels$House" "groundLevel" "I") (by decide +kernel)) (fun _ h9 => h9) rfl dX1_deleteLevel_10 ?_
  refine bi_ne (tgt := 18) hx hb dX1_deleteLevel_13 (by decide) (nI_i (by omega)) (nI_i (by omega)) (fun c_13 => ?_) (fun c_13 => False.elim (by omega))
  refine lv_aload_n hx hb dX1_deleteLevel_18 rfl (lv_at hl 0 rfl) ?_
  refine lv_dup hx hb dX1_deleteLevel_19 rfl ?_
  refine va_get (D := G.1) (ci := 1) (v := .int (nI n)) (C := RX1) (T := TX1) (N := 4) hx hb hts in_c_X1_deleteLevel_X1 hown hK.1 hP 0 rfl rfl 1 (by decide) (hts (.fieldLink RX1 15 "FloorPanels$House" "levels" "I") (by decide +kernel)) (fun _ h9 => h9) rfl dX1_deleteLevel_20 ?_
  refine lv_iconst (v := nI 1) hx hb dX1_deleteLevel_23 (by decide) ?_
  refine nv_isub hx hb (by omega) dX1_deleteLevel_24 ?_
  refine va_put (D := G.1) (ci := 1) (v := .int (nI (n - 1))) (ty := .int) (C := RX1) (T := TX1) (N := 4) hx hb hts in_c_X1_deleteLevel_X1 tyX1 tyX1_ok nmX1 hown hK.1 hP hD hS 0 rfl rfl 1 (by decide) (hts (.fieldLink RX1 15 "FloorPanels$House" "levels" "I") (by decide +kernel)) (fun _ h9 => h9) rfl (by decide +kernel) rfl rfl (Nat.le_of_ble_eq_true rfl) dX1_deleteLevel_25 (fun H locs hP hD hS => ?_)
  have hP : VP G [(h, .inr (1, [.ref hc, .int (nI (n - 1)), .int (nI g), .int sk])), (hc, .inl (G.2 0, 144, .inl f))] H := hP
  have hD : va_D _ [(h, .inr (1, [.ref hc, .int (nI (n - 1)), .int (nI g), .int sk])), (hc, .inl (G.2 0, 144, .inl f))] := hD
  refine lv_iconst (v := nI 0) hx hb dX1_deleteLevel_28 (by decide) ?_
  refine lv_istore_n (lv' := [(2, .int (nI 0)), (0, .ref h), (1, .int (nI lv))]) hx hb dX1_deleteLevel_29 rfl hl (by decide) rfl (fun ls hl => ?_)
  have loop_30 : ∀ (k_ : Nat) (ro : Nat) (h_ro : ro ≤ 9) (_ : 9 - ro < k_) (H : Heap) (locs : List Loc) (_ : VP G [(h, .inr (1, [.ref hc, .int (nI (n - 1)), .int (nI g), .int sk])), (hc, .inl (G.2 0, 144, .inl (sd lv (n - 1) ro lv f)))] H) (_ : va_D (vA [(h, .inr (1, [.ref hc, .int (nI n), .int (nI g), .int sk])), (hc, .inl (G.2 0, 144, .inl f))]) [(h, .inr (1, [.ref hc, .int (nI (n - 1)), .int (nI g), .int sk])), (hc, .inl (G.2 0, 144, .inl (sd lv (n - 1) ro lv f)))]) (_ : va_S (vA [(h, .inr (1, [.ref hc, .int (nI n), .int (nI g), .int sk])), (hc, .inl (G.2 0, 144, .inl f))]) s.heap H locs) (ls : Array Slot), lv_has ls 4 [(2, .int (nI ro)), (0, .ref h), (1, .int (nI lv))] → W p l e ({ frames := 3, cells := 0, slots := 0, locals := 68 } : Room) s m ([.ref h, .int (nI lv)] : List Value).toArray below meth c H locs 0 0 (MQ below (QW G (some (.int (nI 1))) [(h, .inr (1, [.ref hc, .int (nI (n - 1)), .int (nI (delG lv g)), .int sk])), (hc, .inl (G.2 0, 144, .inl (rn sk (delG lv g) 0 (n - 1) (sd lv (n - 1) 9 lv f))))] (vA [(h, .inr (1, [.ref hc, .int (nI n), .int (nI g), .int sk])), (hc, .inl (G.2 0, 144, .inl f))])) ([.ref h, .int (nI lv)] : List Value).toArray s 0 0 (vA [(h, .inr (1, [.ref hc, .int (nI n), .int (nI g), .int sk])), (hc, .inl (G.2 0, 144, .inl f))])) (F0 m 30 ls []) := by
    intro k_
    induction k_ with
    | zero => intro ro h_ro hk_; exact absurd hk_ (Nat.not_lt_zero _)
    | succ k_ ih_30 =>
      intro ro h_ro hk_ H locs hP hD hS ls hl
      refine lv_iload_n hx hb dX1_deleteLevel_30 rfl (lv_at hl 0 rfl) ?_
      refine lv_bipush (v := nI 9) hx hb dX1_deleteLevel_31 (by decide) ?_
      refine bi_ge (tgt := 72) hx hb dX1_deleteLevel_33 (by decide) (nI_i (by omega)) (nI_i (by omega)) (fun c_33 => ?_) (fun c_33 => ?_)
      ·
        rw [show ro = 9 by omega] at hP hD
        have hP : VP G [(h, .inr (1, [.ref hc, .int (nI (n - 1)), .int (nI g), .int sk])), (hc, .inl (G.2 0, 144, .inl (sd lv (n - 1) 9 lv f)))] H := hP
        have hD : va_D _ [(h, .inr (1, [.ref hc, .int (nI (n - 1)), .int (nI g), .int sk])), (hc, .inl (G.2 0, 144, .inl (sd lv (n - 1) 9 lv f)))] := hD
        refine lv_iload_n hx hb dX1_deleteLevel_72 rfl (lv_at hl 2 rfl) ?_
        refine lv_aload_n hx hb dX1_deleteLevel_73 rfl (lv_at hl 1 rfl) ?_
        refine va_get (D := G.1) (ci := 1) (v := .int (nI g)) (C := RX1) (T := TX1) (N := 4) hx hb hts in_c_X1_deleteLevel_X1 hown hK.1 hP 0 rfl rfl 2 (by decide) (hts (.fieldLink RX1 32 "FloorPanels$House" "groundLevel" "I") (by decide +kernel)) (fun _ h9 => h9) rfl dX1_deleteLevel_74 ?_
        refine bi_ge (tgt := 90) hx hb dX1_deleteLevel_77 (by decide) (nI_i (by omega)) (nI_i (by omega)) (fun c_77 => ?_) (fun c_77 => ?_)
        ·
          refine lv_aload_n hx hb dX1_deleteLevel_90 rfl (lv_at hl 1 rfl) ?_
          refine cWV (As := []) (rest := []) (st1 := []) (w3 := [(h, .inr (1, [.ref hc, .int (nI (n - 1)), .int (nI g), .int sk])), (hc, .inl (G.2 0, 144, .inl (rn sk g 0 (n - 1) (sd lv (n - 1) 9 lv f))))]) ⟨hx, hb, hml, hown, hts⟩ (c_X1_renumber l G h hc (n - 1) g sk (sd lv (n - 1) 9 lv f) (by first | omega | assumption) (by first | omega | assumption) (by have h_z := del_g h_g h_n h_lv h_ne h_f; first | (rw [delG_t (by omega)] at h_z; exact h_z) | (rw [delG_f (by omega)] at h_z; exact h_z))) (cwV 0 hts gX1_deleteLevel_X1_renumber rfl rfl rfl (by decide +kernel) ⟨Nat.le_of_ble_eq_true rfl, Nat.le_of_ble_eq_true rfl⟩) (preV_of hK hP hD [0, 1] (by decide) rfl (ci := 1) (q0 := 0) rfl rfl rfl) rfl hl.1 rfl (lv_room (Nat.le_of_ble_eq_true rfl)) dX1_deleteLevel_91 ⟨Nat.zero_le _, Nat.zero_le _⟩ hP hD hS [0, 1] (by decide) rfl rfl (rfl) rfl (fun H locs hP hD hS => ?_)
          refine lv_iconst (v := nI 1) hx hb dX1_deleteLevel_94 (by decide) ?_
          exact W_z hx hb hr hlk dX1_deleteLevel_95 hP hS (rfl) (by first | (rw [delG_t (by omega)]; done) | (rw [delG_f (by omega)]; done) | (rw [delG_t (by omega)]; rfl) | (rw [delG_f (by omega)]; rfl)) rfl
        ·
          refine lv_aload_n hx hb dX1_deleteLevel_80 rfl (lv_at hl 1 rfl) ?_
          refine lv_dup hx hb dX1_deleteLevel_81 rfl ?_
          refine va_get (D := G.1) (ci := 1) (v := .int (nI g)) (C := RX1) (T := TX1) (N := 4) hx hb hts in_c_X1_deleteLevel_X1 hown hK.1 hP 0 rfl rfl 2 (by decide) (hts (.fieldLink RX1 32 "FloorPanels$House" "groundLevel" "I") (by decide +kernel)) (fun _ h9 => h9) rfl dX1_deleteLevel_82 ?_
          refine lv_iconst (v := nI 1) hx hb dX1_deleteLevel_85 (by decide) ?_
          refine nv_isub hx hb (by omega) dX1_deleteLevel_86 ?_
          refine va_put (D := G.1) (ci := 1) (v := .int (nI (g - 1))) (ty := .int) (C := RX1) (T := TX1) (N := 4) hx hb hts in_c_X1_deleteLevel_X1 tyX1 tyX1_ok nmX1 hown hK.1 hP hD hS 0 rfl rfl 2 (by decide) (hts (.fieldLink RX1 32 "FloorPanels$House" "groundLevel" "I") (by decide +kernel)) (fun _ h9 => h9) rfl (by decide +kernel) rfl rfl (Nat.le_of_ble_eq_true rfl) dX1_deleteLevel_87 (fun H locs hP hD hS => ?_)
          have hP : VP G [(h, .inr (1, [.ref hc, .int (nI (n - 1)), .int (nI (g - 1)), .int sk])), (hc, .inl (G.2 0, 144, .inl (sd lv (n - 1) 9 lv f)))] H := hP
          have hD : va_D _ [(h, .inr (1, [.ref hc, .int (nI (n - 1)), .int (nI (g - 1)), .int sk])), (hc, .inl (G.2 0, 144, .inl (sd lv (n - 1) 9 lv f)))] := hD
          refine lv_aload_n hx hb dX1_deleteLevel_90 rfl (lv_at hl 1 rfl) ?_
          refine cWV (As := []) (rest := []) (st1 := []) (w3 := [(h, .inr (1, [.ref hc, .int (nI (n - 1)), .int (nI (g - 1)), .int sk])), (hc, .inl (G.2 0, 144, .inl (rn sk (g - 1) 0 (n - 1) (sd lv (n - 1) 9 lv f))))]) ⟨hx, hb, hml, hown, hts⟩ (c_X1_renumber l G h hc (n - 1) (g - 1) sk (sd lv (n - 1) 9 lv f) (by first | omega | assumption) (by first | omega | assumption) (by have h_z := del_g h_g h_n h_lv h_ne h_f; first | (rw [delG_t (by omega)] at h_z; exact h_z) | (rw [delG_f (by omega)] at h_z; exact h_z))) (cwV 0 hts gX1_deleteLevel_X1_renumber rfl rfl rfl (by decide +kernel) ⟨Nat.le_of_ble_eq_true rfl, Nat.le_of_ble_eq_true rfl⟩) (preV_of hK hP hD [0, 1] (by decide) rfl (ci := 1) (q0 := 0) rfl rfl rfl) rfl hl.1 rfl (lv_room (Nat.le_of_ble_eq_true rfl)) dX1_deleteLevel_91 ⟨Nat.zero_le _, Nat.zero_le _⟩ hP hD hS [0, 1] (by decide) rfl rfl (rfl) rfl (fun H locs hP hD hS => ?_)
          refine lv_iconst (v := nI 1) hx hb dX1_deleteLevel_94 (by decide) ?_
          exact W_z hx hb hr hlk dX1_deleteLevel_95 hP hS (rfl) (by first | (rw [delG_t (by omega)]; done) | (rw [delG_f (by omega)]; done) | (rw [delG_t (by omega)]; rfl) | (rw [delG_f (by omega)]; rfl)) rfl
      ·
        refine lv_iload_n hx hb dX1_deleteLevel_36 rfl (lv_at hl 2 rfl) ?_
        refine lv_istore_n (lv' := [(3, .int (nI lv)), (2, .int (nI ro)), (0, .ref h), (1, .int (nI lv))]) hx hb dX1_deleteLevel_37 rfl hl (by decide) rfl (fun ls hl => ?_)
        have loop_38 : ∀ (k_ : Nat) (to : Nat) (h_to : lv ≤ to) (h_to2 : to ≤ n - 1) (_ : n - to < k_) (H : Heap) (locs : List Loc) (_ : VP G [(h, .inr (1, [.ref hc, .int (nI (n - 1)), .int (nI g), .int sk])), (hc, .inl (G.2 0, 144, .inl (sd lv (n - 1) ro to f)))] H) (_ : va_D (vA [(h, .inr (1, [.ref hc, .int (nI n), .int (nI g), .int sk])), (hc, .inl (G.2 0, 144, .inl f))]) [(h, .inr (1, [.ref hc, .int (nI (n - 1)), .int (nI g), .int sk])), (hc, .inl (G.2 0, 144, .inl (sd lv (n - 1) ro to f)))]) (_ : va_S (vA [(h, .inr (1, [.ref hc, .int (nI n), .int (nI g), .int sk])), (hc, .inl (G.2 0, 144, .inl f))]) s.heap H locs) (ls : Array Slot), lv_has ls 4 [(3, .int (nI to)), (2, .int (nI ro)), (0, .ref h), (1, .int (nI lv))] → W p l e ({ frames := 3, cells := 0, slots := 0, locals := 68 } : Room) s m ([.ref h, .int (nI lv)] : List Value).toArray below meth c H locs 0 0 (MQ below (QW G (some (.int (nI 1))) [(h, .inr (1, [.ref hc, .int (nI (n - 1)), .int (nI (delG lv g)), .int sk])), (hc, .inl (G.2 0, 144, .inl (rn sk (delG lv g) 0 (n - 1) (sd lv (n - 1) 9 lv f))))] (vA [(h, .inr (1, [.ref hc, .int (nI n), .int (nI g), .int sk])), (hc, .inl (G.2 0, 144, .inl f))])) ([.ref h, .int (nI lv)] : List Value).toArray s 0 0 (vA [(h, .inr (1, [.ref hc, .int (nI n), .int (nI g), .int sk])), (hc, .inl (G.2 0, 144, .inl f))])) (F0 m 38 ls []) := by
          intro k_
          induction k_ with
          | zero => intro to h_to h_to2 hk_; exact absurd hk_ (Nat.not_lt_zero _)
          | succ k_ ih_38 =>
            intro to h_to h_to2 hk_ H locs hP hD hS ls hl
            refine lv_iload_n hx hb dX1_deleteLevel_38 rfl (lv_at hl 0 rfl) ?_
            refine lv_aload_n hx hb dX1_deleteLevel_39 rfl (lv_at hl 2 rfl) ?_
            refine va_get (D := G.1) (ci := 1) (v := .int (nI (n - 1))) (C := RX1) (T := TX1) (N := 4) hx hb hts in_c_X1_deleteLevel_X1 hown hK.1 hP 0 rfl rfl 1 (by decide) (hts (.fieldLink RX1 15 "FloorPanels$House" "levels" "I") (by decide +kernel)) (fun _ h9 => h9) rfl dX1_deleteLevel_40 ?_
            refine bi_ge (tgt := 66) hx hb dX1_deleteLevel_43 (by decide) (nI_i (by omega)) (nI_i (by omega)) (fun c_43 => ?_) (fun c_43 => ?_)
            ·
              rw [sd_row (show n - 1 ≤ to by omega) (by omega)] at hP hD
              have hP : VP G [(h, .inr (1, [.ref hc, .int (nI (n - 1)), .int (nI g), .int sk])), (hc, .inl (G.2 0, 144, .inl (sd lv (n - 1) (ro + 1) lv f)))] H := hP
              have hD : va_D _ [(h, .inr (1, [.ref hc, .int (nI (n - 1)), .int (nI g), .int sk])), (hc, .inl (G.2 0, 144, .inl (sd lv (n - 1) (ro + 1) lv f)))] := hD
              refine lv_iinc (v := nI (ro + 1)) (lv' := [(2, .int (nI (ro + 1))), (3, .int (nI to)), (0, .ref h), (1, .int (nI lv))]) hx hb dX1_deleteLevel_66 hl (k := 1) rfl (inc_n _ 1) (by decide) rfl (fun ls hl => ?_)
              refine lv_goto (tgt := 30) hx hb dX1_deleteLevel_69 (by decide) ?_
              exact ih_30 (ro + 1) (by first | omega | assumption) (by omega) _ _ hP hD hS ls (lv_sub hl [0, 2, 3] (by rfl))
            ·
              refine lv_aload_n hx hb dX1_deleteLevel_46 rfl (lv_at hl 2 rfl) ?_
              refine lv_iload_n hx hb dX1_deleteLevel_47 rfl (lv_at hl 1 rfl) ?_
              refine lv_iload_n hx hb dX1_deleteLevel_48 rfl (lv_at hl 0 rfl) ?_
              refine lv_aload_n hx hb dX1_deleteLevel_49 rfl (lv_at hl 2 rfl) ?_
              refine lv_iload_n hx hb dX1_deleteLevel_50 rfl (lv_at hl 1 rfl) ?_
              refine lv_iload_n hx hb dX1_deleteLevel_51 rfl (lv_at hl 0 rfl) ?_
              refine lv_iconst (v := nI 1) hx hb dX1_deleteLevel_52 (by decide) ?_
              refine nv_iadd hx hb dX1_deleteLevel_53 ?_
              refine cRV (As := [.int (nI ro), .int (nI (to + 1))]) (rest := [.int (nI to), .int (nI ro), .ref h]) (v := .int ((sd lv (n - 1) ro to f) (ro * 16 + (to + 1)))) ⟨hx, hb, hml, hown, hts⟩ (c_X1_cell l G h hc (n - 1) g sk (sd lv (n - 1) ro to f) ro (to + 1) (by first | omega | assumption) (by first | omega | assumption)) (cwV 2 hts gX1_deleteLevel_X1_cell rfl rfl rfl (by decide +kernel) ⟨Nat.le_of_ble_eq_true rfl, Nat.le_of_ble_eq_true rfl⟩) (preV_of hK hP hD [0, 1] (by decide) rfl (ci := 1) (q0 := 0) rfl rfl rfl) rfl hl.1 rfl (lv_room (Nat.le_of_ble_eq_true rfl)) dX1_deleteLevel_54 ⟨Nat.zero_le _, Nat.zero_le _⟩ ?_
              rw [show (((sd lv (n - 1) ro to f) (ro * 16 + (to + 1)))) = (f (ro * 16 + (to + 1))) from by rw [sd_read (by omega) (by omega)]]
              refine cWV (As := [.int (nI ro), .int (nI to), .int (f (ro * 16 + (to + 1)))]) (rest := []) (st1 := []) (w3 := [(h, .inr (1, [.ref hc, .int (nI (n - 1)), .int (nI g), .int sk])), (hc, .inl (G.2 0, 144, .inl (sd lv (n - 1) ro (to + 1) f)))]) ⟨hx, hb, hml, hown, hts⟩ (c_X1_put l G h hc (n - 1) g sk (sd lv (n - 1) ro to f) ro to (f (ro * 16 + (to + 1))) (by first | omega | assumption) (by first | omega | assumption)) (cwV 3 hts gX1_deleteLevel_X1_put rfl rfl rfl (by decide +kernel) ⟨Nat.le_of_ble_eq_true rfl, Nat.le_of_ble_eq_true rfl⟩) (preV_of hK hP hD [0, 1] (by decide) rfl (ci := 1) (q0 := 0) rfl rfl rfl) rfl hl.1 rfl (lv_room (Nat.le_of_ble_eq_true rfl)) dX1_deleteLevel_57 ⟨Nat.zero_le _, Nat.zero_le _⟩ hP hD hS [0, 1] (by decide) rfl rfl (by rw [← sd_step (by omega) (by omega) (by omega) (by omega)]; rfl) rfl (fun H locs hP hD hS => ?_)
              refine lv_iinc (v := nI (to + 1)) (lv' := [(3, .int (nI (to + 1))), (2, .int (nI ro)), (0, .ref h), (1, .int (nI lv))]) hx hb dX1_deleteLevel_60 hl (k := 0) rfl (inc_n _ 1) (by decide) rfl (fun ls hl => ?_)
              refine lv_goto (tgt := 38) hx hb dX1_deleteLevel_63 (by decide) ?_
              exact ih_38 (to + 1) (by first | omega | assumption) (by first | omega | assumption) (by omega) _ _ hP hD hS ls (lv_sub hl [0, 1, 2, 3] (by rfl))
        exact loop_38 (n - lv + 1) lv (by first | omega | assumption) (by first | omega | assumption) (Nat.lt_succ_self _) _ _ hP hD hS ls (lv_sub hl [0, 1, 2, 3] (by rfl))
  exact loop_30 (9 - 0 + 1) 0 (by first | omega | assumption) (Nat.lt_succ_self _) _ _ (by rw [sd_0]; exact hP) (by rw [sd_0]; exact hD) hS ls (lv_sub hl [0, 1, 2] (by rfl))

theorem in_c_X1_deleteLevel_no_X1 : ∀ w ∈ wsX10, w ∈ wsX1_deleteLevel := by decide +kernel
set_option maxHeartbeats 4000000 in
set_option maxRecDepth 100000 in
theorem c_X1_deleteLevel_no (l : Launch) (G : GG) (h : Nat) (hc : Nat) (n : Nat) (g : Nat) (sk : Int32) (f : Nat → Int32) (lv : Nat) (h_n : n ≤ 16) (h_g : g < n) (h_lv : lv < 2147483648) (h_no : ¬ (lv < n ∧ lv ≠ g)) : Met l yX1_deleteLevel wsX1_deleteLevel ({ frames := 1, cells := 0, slots := 0, locals := 21 } : Room) (va_Pc [.ref h, .int (nI lv)] (PB G [(h, .inr (1, [.ref hc, .int (nI n), .int (nI g), .int sk])), (hc, .inl (G.2 0, 144, .inl f))])) (QR (some (.int (nI 0)))) 0 0 (fun _ => False) := by
  refine Met.go (cc := cX1_deleteLevel) (maxL := 4) (ret := (some .boolean)) (by decide) rfl (Nat.le_of_ble_eq_true rfl) ?_
  intro p e s m below meth c ls hx hb hr hml hown hts hlk hP hK hD hS hl
  have hown : s.vm.findClass RX1 = some m.cls := hown
  have hl : lv_has ls 4 [(0, .ref h), (1, .int (nI lv))] := hl
  refine lv_aload_n hx hb dX1_deleteLevel_0 rfl (lv_at hl 0 rfl) ?_
  refine lv_iload_n hx hb dX1_deleteLevel_1 rfl (lv_at hl 1 rfl) ?_
  refine cRV (As := [.int (nI lv)]) (rest := []) (v := .int (zb (lv < n))) ⟨hx, hb, hml, hown, hts⟩ (c_X1_hasLevel_n l G h hc n g sk f lv (by first | omega | assumption) (by first | omega | assumption)) (cwV 1 hts gX1_deleteLevel_X1_hasLevel rfl rfl rfl (by decide +kernel) ⟨Nat.le_of_ble_eq_true rfl, Nat.le_of_ble_eq_true rfl⟩) (preV_of hK hP hD [0, 1] (by decide) rfl (ci := 1) (q0 := 0) rfl rfl rfl) rfl hl.1 rfl (lv_room (Nat.le_of_ble_eq_true rfl)) dX1_deleteLevel_2 ⟨Nat.zero_le _, Nat.zero_le _⟩ ?_
  refine bb_eq (tgt := 16) hx hb dX1_deleteLevel_5 (by decide) (fun c_5 => ?_) (fun c_5 => ?_)
  ·
    refine lv_iconst (v := nI 0) hx hb dX1_deleteLevel_16 (by decide) ?_
    exact R_z hx hb hr hlk dX1_deleteLevel_17 (rfl) rfl
  ·
    refine lv_iload_n hx hb dX1_deleteLevel_8 rfl (lv_at hl 1 rfl) ?_
    refine lv_aload_n hx hb dX1_deleteLevel_9 rfl (lv_at hl 0 rfl) ?_
    refine va_get (D := G.1) (ci := 1) (v := .int (nI g)) (C := RX1) (T := TX1) (N := 4) hx hb hts in_c_X1_deleteLevel_no_X1 hown hK.1 hP 0 rfl rfl 2 (by decide) (hts (.fieldLink RX1 32 "FloorPanels$House" "groundLevel" "I") (by decide +kernel)) (fun _ h9 => h9) rfl dX1_deleteLevel_10 ?_
    refine bi_ne (tgt := 18) hx hb dX1_deleteLevel_13 (by decide) (nI_i (by omega)) (nI_i (by omega)) (fun c_13 => False.elim (by omega)) (fun c_13 => ?_)
    refine lv_iconst (v := nI 0) hx hb dX1_deleteLevel_16 (by decide) ?_
    exact R_z hx hb hr hlk dX1_deleteLevel_17 (rfl) rfl

theorem in_c_X1_changeKind_X1 : ∀ w ∈ wsX10, w ∈ wsX1_changeKind := by decide +kernel
set_option maxHeartbeats 4000000 in
set_option maxRecDepth 100000 in
theorem c_X1_changeKind (l : Launch) (G : GG) (h : Nat) (hc : Nat) (n : Nat) (g : Nat) (sk : Int32) (f : Nat → Int32) (lv : Nat) (k : Nat) (h_n : n ≤ 16) (h_g : g < n) (h_f : f g = 0) (h_lv : lv < n) (h_k : k < 4) (h_ok : ¬ (lv = g ∧ k ≠ 0)) : Met l yX1_changeKind wsX1_changeKind ({ frames := 3, cells := 0, slots := 0, locals := 68 } : Room) (va_Pc [.ref h, .int (nI lv), .int (nI k)] (PB G [(h, .inr (1, [.ref hc, .int (nI n), .int (nI g), .int sk])), (hc, .inl (G.2 0, 144, .inl f))])) (QW G (some (.int (nI 1))) [(h, .inr (1, [.ref hc, .int (nI n), .int (nI g), .int sk])), (hc, .inl (G.2 0, 144, .inl (rn sk g 0 n (upd f lv (nI k)))))] (vA [(h, .inr (1, [.ref hc, .int (nI n), .int (nI g), .int sk])), (hc, .inl (G.2 0, 144, .inl f))])) 0 0 (vA [(h, .inr (1, [.ref hc, .int (nI n), .int (nI g), .int sk])), (hc, .inl (G.2 0, 144, .inl f))]) := by
  refine Met.go (cc := cX1_changeKind) (maxL := 3) (ret := (some .boolean)) (by decide) rfl (Nat.le_of_ble_eq_true rfl) ?_
  intro p e s m below meth c ls hx hb hr hml hown hts hlk hP hK hD hS hl
  have hown : s.vm.findClass RX1 = some m.cls := hown
  have hl : lv_has ls 3 [(0, .ref h), (1, .int (nI lv)), (2, .int (nI k))] := hl
  refine lv_aload_n hx hb dX1_changeKind_0 rfl (lv_at hl 0 rfl) ?_
  refine lv_iload_n hx hb dX1_changeKind_1 rfl (lv_at hl 1 rfl) ?_
  refine cRV (As := [.int (nI lv)]) (rest := []) (v := .int (zb (lv < n))) ⟨hx, hb, hml, hown, hts⟩ (c_X1_hasLevel_n l G h hc n g sk f lv (by first | omega | assumption) (by first | omega | assumption)) (cwV 1 hts gX1_changeKind_X1_hasLevel rfl rfl rfl (by decide +kernel) ⟨Nat.le_of_ble_eq_true rfl, Nat.le_of_ble_eq_true rfl⟩) (preV_of hK hP hD [0, 1] (by decide) rfl (ci := 1) (q0 := 0) rfl rfl rfl) rfl hl.1 rfl (lv_room (Nat.le_of_ble_eq_true rfl)) dX1_changeKind_2 ⟨Nat.zero_le _, Nat.zero_le _⟩ ?_
  refine bb_eq (tgt := 27) hx hb dX1_changeKind_5 (by decide) (fun c_5 => False.elim (by omega)) (fun c_5 => ?_)
  refine lv_iload_n hx hb dX1_changeKind_8 rfl (lv_at hl 2 rfl) ?_
  refine cRSN (host := RX6) (As := [.int (nI k)]) (rest := []) (v := .int (zb (k < 4))) ⟨hx, hb, hml, hown, hts⟩ (c_X6_isKind_n l G k (by first | omega | assumption)) ⟨va_cnB 1 hts gX1_changeKind_X6_isKind_n97 rfl rfl rfl (hK.2 (.methodLinkNest RX1 97 yX6_isKind RX6) (by decide +kernel)) (hts (.initialized RX6) (by decide +kernel)) (by decide +kernel) ⟨Nat.le_of_ble_eq_true rfl, Nat.le_of_ble_eq_true rfl⟩, hts (.static yX6_isKind) (by decide +kernel), trivial⟩ (preS_of hK hP hD [] (by decide) rfl) rfl hl.1 rfl (lv_room (Nat.le_of_ble_eq_true rfl)) dX1_changeKind_9 ⟨Nat.zero_le _, Nat.zero_le _⟩ ?_
  refine bb_eq (tgt := 27) hx hb dX1_changeKind_12 (by decide) (fun c_12 => False.elim (by omega)) (fun c_12 => ?_)
  refine lv_iload_n hx hb dX1_changeKind_15 rfl (lv_at hl 1 rfl) ?_
  refine lv_aload_n hx hb dX1_changeKind_16 rfl (lv_at hl 0 rfl) ?_
  refine va_get (D := G.1) (ci := 1) (v := .int (nI g)) (C := RX1) (T := TX1) (N := 4) hx hb hts in_c_X1_changeKind_X1 hown hK.1 hP 0 rfl rfl 2 (by decide) (hts (.fieldLink RX1 32 "FloorPanels$House" "groundLevel" "I") (by decide +kernel)) (fun _ h9 => h9) rfl dX1_changeKind_17 ?_
  refine bi_ne (tgt := 29) hx hb dX1_changeKind_20 (by decide) (nI_i (by omega)) (nI_i (by omega)) (fun c_20 => ?_) (fun c_20 => ?_)
  ·
    refine lv_aload_n hx hb dX1_changeKind_29 rfl (lv_at hl 0 rfl) ?_
    refine lv_iconst (v := nI 0) hx hb dX1_changeKind_30 (by decide) ?_
    refine lv_iload_n hx hb dX1_changeKind_31 rfl (lv_at hl 1 rfl) ?_
    refine lv_iload_n hx hb dX1_changeKind_32 rfl (lv_at hl 2 rfl) ?_
    refine cWV (As := [.int (nI 0), .int (nI lv), .int (nI k)]) (rest := []) (st1 := []) (w3 := [(h, .inr (1, [.ref hc, .int (nI n), .int (nI g), .int sk])), (hc, .inl (G.2 0, 144, .inl (upd f lv (nI k))))]) ⟨hx, hb, hml, hown, hts⟩ (c_X1_put_0 l G h hc n g sk f lv (nI k) (by first | omega | assumption)) (cwV 3 hts gX1_changeKind_X1_put rfl rfl rfl (by decide +kernel) ⟨Nat.le_of_ble_eq_true rfl, Nat.le_of_ble_eq_true rfl⟩) (preV_of hK hP hD [0, 1] (by decide) rfl (ci := 1) (q0 := 0) rfl rfl rfl) rfl hl.1 rfl (lv_room (Nat.le_of_ble_eq_true rfl)) dX1_changeKind_33 ⟨Nat.zero_le _, Nat.zero_le _⟩ hP hD hS [0, 1] (by decide) rfl rfl (rfl) rfl (fun H locs hP hD hS => ?_)
    refine lv_aload_n hx hb dX1_changeKind_36 rfl (lv_at hl 0 rfl) ?_
    refine cWV (As := []) (rest := []) (st1 := []) (w3 := [(h, .inr (1, [.ref hc, .int (nI n), .int (nI g), .int sk])), (hc, .inl (G.2 0, 144, .inl (rn sk g 0 n (upd f lv (nI k)))))]) ⟨hx, hb, hml, hown, hts⟩ (c_X1_renumber l G h hc n g sk (upd f lv (nI k)) (by first | omega | assumption) (by first | omega | assumption) (chg_f h_f h_ok)) (cwV 0 hts gX1_changeKind_X1_renumber rfl rfl rfl (by decide +kernel) ⟨Nat.le_of_ble_eq_true rfl, Nat.le_of_ble_eq_true rfl⟩) (preV_of hK hP hD [0, 1] (by decide) rfl (ci := 1) (q0 := 0) rfl rfl rfl) rfl hl.1 rfl (lv_room (Nat.le_of_ble_eq_true rfl)) dX1_changeKind_37 ⟨Nat.zero_le _, Nat.zero_le _⟩ hP hD hS [0, 1] (by decide) rfl rfl (rfl) rfl (fun H locs hP hD hS => ?_)
    refine lv_iconst (v := nI 1) hx hb dX1_changeKind_40 (by decide) ?_
    exact W_z hx hb hr hlk dX1_changeKind_41 hP hS (rfl) (rfl) rfl
  ·
    refine lv_iload_n hx hb dX1_changeKind_23 rfl (lv_at hl 2 rfl) ?_
    refine b0_eq (tgt := 29) hx hb dX1_changeKind_24 (by decide) (nI_i (by omega)) (fun c_24 => ?_) (fun c_24 => False.elim (by omega))
    refine lv_aload_n hx hb dX1_changeKind_29 rfl (lv_at hl 0 rfl) ?_
    refine lv_iconst (v := nI 0) hx hb dX1_changeKind_30 (by decide) ?_
    refine lv_iload_n hx hb dX1_changeKind_31 rfl (lv_at hl 1 rfl) ?_
    refine lv_iload_n hx hb dX1_changeKind_32 rfl (lv_at hl 2 rfl) ?_
    refine cWV (As := [.int (nI 0), .int (nI lv), .int (nI k)]) (rest := []) (st1 := []) (w3 := [(h, .inr (1, [.ref hc, .int (nI n), .int (nI g), .int sk])), (hc, .inl (G.2 0, 144, .inl (upd f lv (nI k))))]) ⟨hx, hb, hml, hown, hts⟩ (c_X1_put_0 l G h hc n g sk f lv (nI k) (by first | omega | assumption)) (cwV 3 hts gX1_changeKind_X1_put rfl rfl rfl (by decide +kernel) ⟨Nat.le_of_ble_eq_true rfl, Nat.le_of_ble_eq_true rfl⟩) (preV_of hK hP hD [0, 1] (by decide) rfl (ci := 1) (q0 := 0) rfl rfl rfl) rfl hl.1 rfl (lv_room (Nat.le_of_ble_eq_true rfl)) dX1_changeKind_33 ⟨Nat.zero_le _, Nat.zero_le _⟩ hP hD hS [0, 1] (by decide) rfl rfl (rfl) rfl (fun H locs hP hD hS => ?_)
    refine lv_aload_n hx hb dX1_changeKind_36 rfl (lv_at hl 0 rfl) ?_
    refine cWV (As := []) (rest := []) (st1 := []) (w3 := [(h, .inr (1, [.ref hc, .int (nI n), .int (nI g), .int sk])), (hc, .inl (G.2 0, 144, .inl (rn sk g 0 n (upd f lv (nI k)))))]) ⟨hx, hb, hml, hown, hts⟩ (c_X1_renumber l G h hc n g sk (upd f lv (nI k)) (by first | omega | assumption) (by first | omega | assumption) (chg_f h_f h_ok)) (cwV 0 hts gX1_changeKind_X1_renumber rfl rfl rfl (by decide +kernel) ⟨Nat.le_of_ble_eq_true rfl, Nat.le_of_ble_eq_true rfl⟩) (preV_of hK hP hD [0, 1] (by decide) rfl (ci := 1) (q0 := 0) rfl rfl rfl) rfl hl.1 rfl (lv_room (Nat.le_of_ble_eq_true rfl)) dX1_changeKind_37 ⟨Nat.zero_le _, Nat.zero_le _⟩ hP hD hS [0, 1] (by decide) rfl rfl (rfl) rfl (fun H locs hP hD hS => ?_)
    refine lv_iconst (v := nI 1) hx hb dX1_changeKind_40 (by decide) ?_
    exact W_z hx hb hr hlk dX1_changeKind_41 hP hS (rfl) (rfl) rfl

theorem in_c_X1_changeKind_no_X1 : ∀ w ∈ wsX10, w ∈ wsX1_changeKind := by decide +kernel
set_option maxHeartbeats 4000000 in
set_option maxRecDepth 100000 in
theorem c_X1_changeKind_no (l : Launch) (G : GG) (h : Nat) (hc : Nat) (n : Nat) (g : Nat) (sk : Int32) (f : Nat → Int32) (lv : Nat) (k : Nat) (h_n : n ≤ 16) (h_g : g < n) (h_lv : lv < 2147483648) (h_k : k < 2147483648) (h_no : ¬ (lv < n ∧ k < 4 ∧ ¬ (lv = g ∧ k ≠ 0))) : Met l yX1_changeKind wsX1_changeKind ({ frames := 1, cells := 0, slots := 0, locals := 21 } : Room) (va_Pc [.ref h, .int (nI lv), .int (nI k)] (PB G [(h, .inr (1, [.ref hc, .int (nI n), .int (nI g), .int sk])), (hc, .inl (G.2 0, 144, .inl f))])) (QR (some (.int (nI 0)))) 0 0 (fun _ => False) := by
  refine Met.go (cc := cX1_changeKind) (maxL := 3) (ret := (some .boolean)) (by decide) rfl (Nat.le_of_ble_eq_true rfl) ?_
  intro p e s m below meth c ls hx hb hr hml hown hts hlk hP hK hD hS hl
  have hown : s.vm.findClass RX1 = some m.cls := hown
  have hl : lv_has ls 3 [(0, .ref h), (1, .int (nI lv)), (2, .int (nI k))] := hl
  refine lv_aload_n hx hb dX1_changeKind_0 rfl (lv_at hl 0 rfl) ?_
  refine lv_iload_n hx hb dX1_changeKind_1 rfl (lv_at hl 1 rfl) ?_
  refine cRV (As := [.int (nI lv)]) (rest := []) (v := .int (zb (lv < n))) ⟨hx, hb, hml, hown, hts⟩ (c_X1_hasLevel_n l G h hc n g sk f lv (by first | omega | assumption) (by first | omega | assumption)) (cwV 1 hts gX1_changeKind_X1_hasLevel rfl rfl rfl (by decide +kernel) ⟨Nat.le_of_ble_eq_true rfl, Nat.le_of_ble_eq_true rfl⟩) (preV_of hK hP hD [0, 1] (by decide) rfl (ci := 1) (q0 := 0) rfl rfl rfl) rfl hl.1 rfl (lv_room (Nat.le_of_ble_eq_true rfl)) dX1_changeKind_2 ⟨Nat.zero_le _, Nat.zero_le _⟩ ?_
  refine bb_eq (tgt := 27) hx hb dX1_changeKind_5 (by decide) (fun c_5 => ?_) (fun c_5 => ?_)
  ·
    refine lv_iconst (v := nI 0) hx hb dX1_changeKind_27 (by decide) ?_
    exact R_z hx hb hr hlk dX1_changeKind_28 (rfl) rfl
  ·
    refine lv_iload_n hx hb dX1_changeKind_8 rfl (lv_at hl 2 rfl) ?_
    refine cRSN (host := RX6) (As := [.int (nI k)]) (rest := []) (v := .int (zb (k < 4))) ⟨hx, hb, hml, hown, hts⟩ (c_X6_isKind_n l G k (by first | omega | assumption)) ⟨va_cnB 1 hts gX1_changeKind_X6_isKind_n97 rfl rfl rfl (hK.2 (.methodLinkNest RX1 97 yX6_isKind RX6) (by decide +kernel)) (hts (.initialized RX6) (by decide +kernel)) (by decide +kernel) ⟨Nat.le_of_ble_eq_true rfl, Nat.le_of_ble_eq_true rfl⟩, hts (.static yX6_isKind) (by decide +kernel), trivial⟩ (preS_of hK hP hD [] (by decide) rfl) rfl hl.1 rfl (lv_room (Nat.le_of_ble_eq_true rfl)) dX1_changeKind_9 ⟨Nat.zero_le _, Nat.zero_le _⟩ ?_
    refine bb_eq (tgt := 27) hx hb dX1_changeKind_12 (by decide) (fun c_12 => ?_) (fun c_12 => ?_)
    ·
      refine lv_iconst (v := nI 0) hx hb dX1_changeKind_27 (by decide) ?_
      exact R_z hx hb hr hlk dX1_changeKind_28 (rfl) rfl
    ·
      refine lv_iload_n hx hb dX1_changeKind_15 rfl (lv_at hl 1 rfl) ?_
      refine lv_aload_n hx hb dX1_changeKind_16 rfl (lv_at hl 0 rfl) ?_
      refine va_get (D := G.1) (ci := 1) (v := .int (nI g)) (C := RX1) (T := TX1) (N := 4) hx hb hts in_c_X1_changeKind_no_X1 hown hK.1 hP 0 rfl rfl 2 (by decide) (hts (.fieldLink RX1 32 "FloorPanels$House" "groundLevel" "I") (by decide +kernel)) (fun _ h9 => h9) rfl dX1_changeKind_17 ?_
      refine bi_ne (tgt := 29) hx hb dX1_changeKind_20 (by decide) (nI_i (by omega)) (nI_i (by omega)) (fun c_20 => False.elim (by omega)) (fun c_20 => ?_)
      refine lv_iload_n hx hb dX1_changeKind_23 rfl (lv_at hl 2 rfl) ?_
      refine b0_eq (tgt := 29) hx hb dX1_changeKind_24 (by decide) (nI_i (by omega)) (fun c_24 => False.elim (by omega)) (fun c_24 => ?_)
      refine lv_iconst (v := nI 0) hx hb dX1_changeKind_27 (by decide) ?_
      exact R_z hx hb hr hlk dX1_changeKind_28 (rfl) rfl

theorem in_c_X1_moveGround_X1 : ∀ w ∈ wsX10, w ∈ wsX1_moveGround := by decide +kernel
set_option maxHeartbeats 4000000 in
set_option maxRecDepth 100000 in
theorem c_X1_moveGround (l : Launch) (G : GG) (h : Nat) (hc : Nat) (n : Nat) (g : Nat) (sk : Int32) (f : Nat → Int32) (lv : Nat) (h_n : n ≤ 16) (h_lv : lv < n) (h_f : f lv = 0) : Met l yX1_moveGround wsX1_moveGround ({ frames := 3, cells := 0, slots := 0, locals := 68 } : Room) (va_Pc [.ref h, .int (nI lv)] (PB G [(h, .inr (1, [.ref hc, .int (nI n), .int (nI g), .int sk])), (hc, .inl (G.2 0, 144, .inl f))])) (QW G (none) [(h, .inr (1, [.ref hc, .int (nI n), .int (nI lv), .int sk])), (hc, .inl (G.2 0, 144, .inl (rn sk lv 0 n f)))] (vA [(h, .inr (1, [.ref hc, .int (nI n), .int (nI g), .int sk])), (hc, .inl (G.2 0, 144, .inl f))])) 0 0 (vA [(h, .inr (1, [.ref hc, .int (nI n), .int (nI g), .int sk])), (hc, .inl (G.2 0, 144, .inl f))]) := by
  refine Met.go (cc := cX1_moveGround) (maxL := 2) (ret := none) (by decide) rfl (Nat.le_of_ble_eq_true rfl) ?_
  intro p e s m below meth c ls hx hb hr hml hown hts hlk hP hK hD hS hl
  have hown : s.vm.findClass RX1 = some m.cls := hown
  have hl : lv_has ls 2 [(0, .ref h), (1, .int (nI lv))] := hl
  refine lv_aload_n hx hb dX1_moveGround_0 rfl (lv_at hl 0 rfl) ?_
  refine lv_iload_n hx hb dX1_moveGround_1 rfl (lv_at hl 1 rfl) ?_
  refine cRV (As := [.int (nI lv)]) (rest := []) (v := .int (zb (lv < n))) ⟨hx, hb, hml, hown, hts⟩ (c_X1_hasLevel_n l G h hc n g sk f lv (by first | omega | assumption) (by first | omega | assumption)) (cwV 1 hts gX1_moveGround_X1_hasLevel rfl rfl rfl (by decide +kernel) ⟨Nat.le_of_ble_eq_true rfl, Nat.le_of_ble_eq_true rfl⟩) (preV_of hK hP hD [0, 1] (by decide) rfl (ci := 1) (q0 := 0) rfl rfl rfl) rfl hl.1 rfl (lv_room (Nat.le_of_ble_eq_true rfl)) dX1_moveGround_2 ⟨Nat.zero_le _, Nat.zero_le _⟩ ?_
  refine bb_eq (tgt := 25) hx hb dX1_moveGround_5 (by decide) (fun c_5 => False.elim (by omega)) (fun c_5 => ?_)
  refine lv_aload_n hx hb dX1_moveGround_8 rfl (lv_at hl 0 rfl) ?_
  refine lv_iload_n hx hb dX1_moveGround_9 rfl (lv_at hl 1 rfl) ?_
  refine cRV (As := [.int (nI lv)]) (rest := []) (v := .int (f lv)) ⟨hx, hb, hml, hown, hts⟩ (c_X1_kindOf l G h hc n g sk f lv (by first | omega | assumption)) (cwV 1 hts gX1_moveGround_X1_kindOf rfl rfl rfl (by decide +kernel) ⟨Nat.le_of_ble_eq_true rfl, Nat.le_of_ble_eq_true rfl⟩) (preV_of hK hP hD [0, 1] (by decide) rfl (ci := 1) (q0 := 0) rfl rfl rfl) rfl hl.1 rfl (lv_room (Nat.le_of_ble_eq_true rfl)) dX1_moveGround_10 ⟨Nat.zero_le _, Nat.zero_le _⟩ ?_
  refine lv_if_ne (tgt := 25) hx hb dX1_moveGround_13 (by decide) (fun c_13 => False.elim (by exact c_13 h_f)) (fun c_13 => ?_)
  refine lv_aload_n hx hb dX1_moveGround_16 rfl (lv_at hl 0 rfl) ?_
  refine lv_iload_n hx hb dX1_moveGround_17 rfl (lv_at hl 1 rfl) ?_
  refine va_put (D := G.1) (ci := 1) (v := .int (nI lv)) (ty := .int) (C := RX1) (T := TX1) (N := 4) hx hb hts in_c_X1_moveGround_X1 tyX1 tyX1_ok nmX1 hown hK.1 hP hD hS 0 rfl rfl 2 (by decide) (hts (.fieldLink RX1 32 "FloorPanels$House" "groundLevel" "I") (by decide +kernel)) (fun _ h9 => h9) rfl (by decide +kernel) rfl rfl (Nat.le_of_ble_eq_true rfl) dX1_moveGround_18 (fun H locs hP hD hS => ?_)
  have hP : VP G [(h, .inr (1, [.ref hc, .int (nI n), .int (nI lv), .int sk])), (hc, .inl (G.2 0, 144, .inl f))] H := hP
  have hD : va_D _ [(h, .inr (1, [.ref hc, .int (nI n), .int (nI lv), .int sk])), (hc, .inl (G.2 0, 144, .inl f))] := hD
  refine lv_aload_n hx hb dX1_moveGround_21 rfl (lv_at hl 0 rfl) ?_
  refine cWV (As := []) (rest := []) (st1 := []) (w3 := [(h, .inr (1, [.ref hc, .int (nI n), .int (nI lv), .int sk])), (hc, .inl (G.2 0, 144, .inl (rn sk lv 0 n f)))]) ⟨hx, hb, hml, hown, hts⟩ (c_X1_renumber l G h hc n lv sk f (by first | omega | assumption) (by first | omega | assumption) (by first | omega | assumption)) (cwV 0 hts gX1_moveGround_X1_renumber rfl rfl rfl (by decide +kernel) ⟨Nat.le_of_ble_eq_true rfl, Nat.le_of_ble_eq_true rfl⟩) (preV_of hK hP hD [0, 1] (by decide) rfl (ci := 1) (q0 := 0) rfl rfl rfl) rfl hl.1 rfl (lv_room (Nat.le_of_ble_eq_true rfl)) dX1_moveGround_22 ⟨Nat.zero_le _, Nat.zero_le _⟩ hP hD hS [0, 1] (by decide) rfl rfl (rfl) rfl (fun H locs hP hD hS => ?_)
  exact W_v hx hb hr hlk dX1_moveGround_25 hP hS (rfl)

set_option maxHeartbeats 4000000 in
set_option maxRecDepth 100000 in
theorem c_X1_moveGround_no (l : Launch) (G : GG) (h : Nat) (hc : Nat) (n : Nat) (g : Nat) (sk : Int32) (f : Nat → Int32) (lv : Nat) (h_n : n ≤ 16) (h_lv : lv < 2147483648) (h_no : ¬ (lv < n ∧ f lv = 0)) : Met l yX1_moveGround wsX1_moveGround ({ frames := 2, cells := 0, slots := 0, locals := 43 } : Room) (va_Pc [.ref h, .int (nI lv)] (PB G [(h, .inr (1, [.ref hc, .int (nI n), .int (nI g), .int sk])), (hc, .inl (G.2 0, 144, .inl f))])) (QR (none)) 0 0 (fun _ => False) := by
  refine Met.go (cc := cX1_moveGround) (maxL := 2) (ret := none) (by decide) rfl (Nat.le_of_ble_eq_true rfl) ?_
  intro p e s m below meth c ls hx hb hr hml hown hts hlk hP hK hD hS hl
  have hown : s.vm.findClass RX1 = some m.cls := hown
  have hl : lv_has ls 2 [(0, .ref h), (1, .int (nI lv))] := hl
  refine lv_aload_n hx hb dX1_moveGround_0 rfl (lv_at hl 0 rfl) ?_
  refine lv_iload_n hx hb dX1_moveGround_1 rfl (lv_at hl 1 rfl) ?_
  refine cRV (As := [.int (nI lv)]) (rest := []) (v := .int (zb (lv < n))) ⟨hx, hb, hml, hown, hts⟩ (c_X1_hasLevel_n l G h hc n g sk f lv (by first | omega | assumption) (by first | omega | assumption)) (cwV 1 hts gX1_moveGround_X1_hasLevel rfl rfl rfl (by decide +kernel) ⟨Nat.le_of_ble_eq_true rfl, Nat.le_of_ble_eq_true rfl⟩) (preV_of hK hP hD [0, 1] (by decide) rfl (ci := 1) (q0 := 0) rfl rfl rfl) rfl hl.1 rfl (lv_room (Nat.le_of_ble_eq_true rfl)) dX1_moveGround_2 ⟨Nat.zero_le _, Nat.zero_le _⟩ ?_
  refine bb_eq (tgt := 25) hx hb dX1_moveGround_5 (by decide) (fun c_5 => ?_) (fun c_5 => ?_)
  ·
    exact R_v hx hb hr hlk dX1_moveGround_25
  ·
    refine lv_aload_n hx hb dX1_moveGround_8 rfl (lv_at hl 0 rfl) ?_
    refine lv_iload_n hx hb dX1_moveGround_9 rfl (lv_at hl 1 rfl) ?_
    refine cRV (As := [.int (nI lv)]) (rest := []) (v := .int (f lv)) ⟨hx, hb, hml, hown, hts⟩ (c_X1_kindOf l G h hc n g sk f lv (by first | omega | assumption)) (cwV 1 hts gX1_moveGround_X1_kindOf rfl rfl rfl (by decide +kernel) ⟨Nat.le_of_ble_eq_true rfl, Nat.le_of_ble_eq_true rfl⟩) (preV_of hK hP hD [0, 1] (by decide) rfl (ci := 1) (q0 := 0) rfl rfl rfl) rfl hl.1 rfl (lv_room (Nat.le_of_ble_eq_true rfl)) dX1_moveGround_10 ⟨Nat.zero_le _, Nat.zero_le _⟩ ?_
    refine lv_if_ne (tgt := 25) hx hb dX1_moveGround_13 (by decide) (fun c_13 => ?_) (fun c_13 => False.elim (by exact h_no ⟨by omega, c_13⟩))
    exact R_v hx hb hr hlk dX1_moveGround_25

theorem in_c_X1_changeSkip_X1 : ∀ w ∈ wsX10, w ∈ wsX1_changeSkip := by decide +kernel
set_option maxHeartbeats 4000000 in
set_option maxRecDepth 100000 in
theorem c_X1_changeSkip (l : Launch) (G : GG) (h : Nat) (hc : Nat) (n : Nat) (g : Nat) (sk : Int32) (f : Nat → Int32) (q : Nat) (is_ : Prop) (h_n : n ≤ 16) (h_g : g < n) (h_f : f g = 0) (h_q : 1 ≤ q ∧ q ≤ 30) : Met l yX1_changeSkip wsX1_changeSkip ({ frames := 3, cells := 0, slots := 0, locals := 68 } : Room) (va_Pc [.ref h, .int (nI q), .int (zb is_)] (PB G [(h, .inr (1, [.ref hc, .int (nI n), .int (nI g), .int sk])), (hc, .inl (G.2 0, 144, .inl f))])) (QW G (some (.int (nI 1))) [(h, .inr (1, [.ref hc, .int (nI n), .int (nI g), .int (skp sk q is_)])), (hc, .inl (G.2 0, 144, .inl (rn (skp sk q is_) g 0 n f)))] (vA [(h, .inr (1, [.ref hc, .int (nI n), .int (nI g), .int sk])), (hc, .inl (G.2 0, 144, .inl f))])) 0 0 (vA [(h, .inr (1, [.ref hc, .int (nI n), .int (nI g), .int sk])), (hc, .inl (G.2 0, 144, .inl f))]) := by
  refine Met.go (cc := cX1_changeSkip) (maxL := 4) (ret := (some .boolean)) (by decide) rfl (Nat.le_of_ble_eq_true rfl) ?_
  intro p e s m below meth c ls hx hb hr hml hown hts hlk hP hK hD hS hl
  have hown : s.vm.findClass RX1 = some m.cls := hown
  have hl : lv_has ls 4 [(0, .ref h), (1, .int (nI q)), (2, .int (zb is_))] := hl
  refine lv_iload_n hx hb dX1_changeSkip_0 rfl (lv_at hl 1 rfl) ?_
  refine cRSN (host := RX6) (As := [.int (nI q)]) (rest := []) (v := .int (zb (1 ≤ q ∧ q ≤ 30))) ⟨hx, hb, hml, hown, hts⟩ (c_X6_canBeSkipped_n l G q (by first | omega | assumption)) ⟨va_cnB 1 hts gX1_changeSkip_X6_canBeSkipped_n62 rfl rfl rfl (hK.2 (.methodLinkNest RX1 62 yX6_canBeSkipped RX6) (by decide +kernel)) (hts (.initialized RX6) (by decide +kernel)) (by decide +kernel) ⟨Nat.le_of_ble_eq_true rfl, Nat.le_of_ble_eq_true rfl⟩, hts (.static yX6_canBeSkipped) (by decide +kernel), trivial⟩ (preS_of hK hP hD [] (by decide) rfl) rfl hl.1 rfl (lv_room (Nat.le_of_ble_eq_true rfl)) dX1_changeSkip_1 ⟨Nat.zero_le _, Nat.zero_le _⟩ ?_
  refine bb_ne (tgt := 9) hx hb dX1_changeSkip_4 (by decide) (fun c_4 => ?_) (fun c_4 => False.elim (by omega))
  refine lv_iconst (v := nI 1) hx hb dX1_changeSkip_9 (by decide) ?_
  refine lv_iload_n hx hb dX1_changeSkip_10 rfl (lv_at hl 1 rfl) ?_
  refine lv_ishl hx hb dX1_changeSkip_11 ?_
  rw [show (nI 1) <<< ((nI q) &&& 31) = (bitv q) from rfl]
  refine lv_istore_n (lv' := [(3, .int (bitv q)), (0, .ref h), (1, .int (nI q)), (2, .int (zb is_))]) hx hb dX1_changeSkip_12 rfl hl (by decide) rfl (fun ls hl => ?_)
  refine lv_aload_n hx hb dX1_changeSkip_13 rfl (lv_at hl 1 rfl) ?_
  refine lv_iload_n hx hb dX1_changeSkip_14 rfl (lv_at hl 3 rfl) ?_
  refine bb_eq (tgt := 27) hx hb dX1_changeSkip_15 (by decide) (fun c_15 => ?_) (fun c_15 => ?_)
  ·
    refine lv_aload_n hx hb dX1_changeSkip_27 rfl (lv_at hl 1 rfl) ?_
    refine va_get (D := G.1) (ci := 1) (v := .int sk) (C := RX1) (T := TX1) (N := 4) hx hb hts in_c_X1_changeSkip_X1 hown hK.1 hP 0 rfl rfl 3 (by decide) (hts (.fieldLink RX1 35 "FloorPanels$House" "skipped" "I") (by decide +kernel)) (fun _ h9 => h9) rfl dX1_changeSkip_28 ?_
    refine lv_iload_n hx hb dX1_changeSkip_31 rfl (lv_at hl 0 rfl) ?_
    refine lv_iconst (v := (-1)) hx hb dX1_changeSkip_32 (by decide) ?_
    refine lv_ixor hx hb dX1_changeSkip_33 ?_
    refine lv_iand hx hb dX1_changeSkip_34 ?_
    rw [show sk &&& ((bitv q) ^^^ (-1)) = (skp sk q is_) from (skp_f c_15).symm]
    refine va_put (D := G.1) (ci := 1) (v := .int (skp sk q is_)) (ty := .int) (C := RX1) (T := TX1) (N := 4) hx hb hts in_c_X1_changeSkip_X1 tyX1 tyX1_ok nmX1 hown hK.1 hP hD hS 0 rfl rfl 3 (by decide) (hts (.fieldLink RX1 35 "FloorPanels$House" "skipped" "I") (by decide +kernel)) (fun _ h9 => h9) rfl (by decide +kernel) rfl rfl (Nat.le_of_ble_eq_true rfl) dX1_changeSkip_35 (fun H locs hP hD hS => ?_)
    have hP : VP G [(h, .inr (1, [.ref hc, .int (nI n), .int (nI g), .int (skp sk q is_)])), (hc, .inl (G.2 0, 144, .inl f))] H := hP
    have hD : va_D _ [(h, .inr (1, [.ref hc, .int (nI n), .int (nI g), .int (skp sk q is_)])), (hc, .inl (G.2 0, 144, .inl f))] := hD
    refine lv_aload_n hx hb dX1_changeSkip_38 rfl (lv_at hl 1 rfl) ?_
    refine cWV (As := []) (rest := []) (st1 := []) (w3 := [(h, .inr (1, [.ref hc, .int (nI n), .int (nI g), .int (skp sk q is_)])), (hc, .inl (G.2 0, 144, .inl (rn (skp sk q is_) g 0 n f)))]) ⟨hx, hb, hml, hown, hts⟩ (c_X1_renumber l G h hc n g (skp sk q is_) f (by first | omega | assumption) (by first | omega | assumption) (by first | omega | assumption)) (cwV 0 hts gX1_changeSkip_X1_renumber rfl rfl rfl (by decide +kernel) ⟨Nat.le_of_ble_eq_true rfl, Nat.le_of_ble_eq_true rfl⟩) (preV_of hK hP hD [0, 1] (by decide) rfl (ci := 1) (q0 := 0) rfl rfl rfl) rfl hl.1 rfl (lv_room (Nat.le_of_ble_eq_true rfl)) dX1_changeSkip_39 ⟨Nat.zero_le _, Nat.zero_le _⟩ hP hD hS [0, 1] (by decide) rfl rfl (rfl) rfl (fun H locs hP hD hS => ?_)
    refine lv_iconst (v := nI 1) hx hb dX1_changeSkip_42 (by decide) ?_
    exact W_z hx hb hr hlk dX1_changeSkip_43 hP hS (rfl) (rfl) rfl
  ·
    refine lv_aload_n hx hb dX1_changeSkip_18 rfl (lv_at hl 1 rfl) ?_
    refine va_get (D := G.1) (ci := 1) (v := .int sk) (C := RX1) (T := TX1) (N := 4) hx hb hts in_c_X1_changeSkip_X1 hown hK.1 hP 0 rfl rfl 3 (by decide) (hts (.fieldLink RX1 35 "FloorPanels$House" "skipped" "I") (by decide +kernel)) (fun _ h9 => h9) rfl dX1_changeSkip_19 ?_
    refine lv_iload_n hx hb dX1_changeSkip_22 rfl (lv_at hl 0 rfl) ?_
    refine lv_ior hx hb dX1_changeSkip_23 ?_
    rw [show sk ||| (bitv q) = (skp sk q is_) from (skp_t c_15).symm]
    refine lv_goto (tgt := 35) hx hb dX1_changeSkip_24 (by decide) ?_
    refine va_put (D := G.1) (ci := 1) (v := .int (skp sk q is_)) (ty := .int) (C := RX1) (T := TX1) (N := 4) hx hb hts in_c_X1_changeSkip_X1 tyX1 tyX1_ok nmX1 hown hK.1 hP hD hS 0 rfl rfl 3 (by decide) (hts (.fieldLink RX1 35 "FloorPanels$House" "skipped" "I") (by decide +kernel)) (fun _ h9 => h9) rfl (by decide +kernel) rfl rfl (Nat.le_of_ble_eq_true rfl) dX1_changeSkip_35 (fun H locs hP hD hS => ?_)
    have hP : VP G [(h, .inr (1, [.ref hc, .int (nI n), .int (nI g), .int (skp sk q is_)])), (hc, .inl (G.2 0, 144, .inl f))] H := hP
    have hD : va_D _ [(h, .inr (1, [.ref hc, .int (nI n), .int (nI g), .int (skp sk q is_)])), (hc, .inl (G.2 0, 144, .inl f))] := hD
    refine lv_aload_n hx hb dX1_changeSkip_38 rfl (lv_at hl 1 rfl) ?_
    refine cWV (As := []) (rest := []) (st1 := []) (w3 := [(h, .inr (1, [.ref hc, .int (nI n), .int (nI g), .int (skp sk q is_)])), (hc, .inl (G.2 0, 144, .inl (rn (skp sk q is_) g 0 n f)))]) ⟨hx, hb, hml, hown, hts⟩ (c_X1_renumber l G h hc n g (skp sk q is_) f (by first | omega | assumption) (by first | omega | assumption) (by first | omega | assumption)) (cwV 0 hts gX1_changeSkip_X1_renumber rfl rfl rfl (by decide +kernel) ⟨Nat.le_of_ble_eq_true rfl, Nat.le_of_ble_eq_true rfl⟩) (preV_of hK hP hD [0, 1] (by decide) rfl (ci := 1) (q0 := 0) rfl rfl rfl) rfl hl.1 rfl (lv_room (Nat.le_of_ble_eq_true rfl)) dX1_changeSkip_39 ⟨Nat.zero_le _, Nat.zero_le _⟩ hP hD hS [0, 1] (by decide) rfl rfl (rfl) rfl (fun H locs hP hD hS => ?_)
    refine lv_iconst (v := nI 1) hx hb dX1_changeSkip_42 (by decide) ?_
    exact W_z hx hb hr hlk dX1_changeSkip_43 hP hS (rfl) (rfl) rfl

set_option maxHeartbeats 4000000 in
set_option maxRecDepth 100000 in
theorem c_X1_changeSkip_no (l : Launch) (G : GG) (h : Nat) (hc : Nat) (n : Nat) (g : Nat) (sk : Int32) (f : Nat → Int32) (q : Nat) (is_ : Prop) (h_q : q < 2147483648) (h_no : ¬ (1 ≤ q ∧ q ≤ 30)) : Met l yX1_changeSkip wsX1_changeSkip ({ frames := 1, cells := 0, slots := 0, locals := 20 } : Room) (va_Pc [.ref h, .int (nI q), .int (zb is_)] (PB G [(h, .inr (1, [.ref hc, .int (nI n), .int (nI g), .int sk])), (hc, .inl (G.2 0, 144, .inl f))])) (QR (some (.int (nI 0)))) 0 0 (fun _ => False) := by
  refine Met.go (cc := cX1_changeSkip) (maxL := 4) (ret := (some .boolean)) (by decide) rfl (Nat.le_of_ble_eq_true rfl) ?_
  intro p e s m below meth c ls hx hb hr hml hown hts hlk hP hK hD hS hl
  have hown : s.vm.findClass RX1 = some m.cls := hown
  have hl : lv_has ls 4 [(0, .ref h), (1, .int (nI q)), (2, .int (zb is_))] := hl
  refine lv_iload_n hx hb dX1_changeSkip_0 rfl (lv_at hl 1 rfl) ?_
  refine cRSN (host := RX6) (As := [.int (nI q)]) (rest := []) (v := .int (zb (1 ≤ q ∧ q ≤ 30))) ⟨hx, hb, hml, hown, hts⟩ (c_X6_canBeSkipped_n l G q (by first | omega | assumption)) ⟨va_cnB 1 hts gX1_changeSkip_X6_canBeSkipped_n62 rfl rfl rfl (hK.2 (.methodLinkNest RX1 62 yX6_canBeSkipped RX6) (by decide +kernel)) (hts (.initialized RX6) (by decide +kernel)) (by decide +kernel) ⟨Nat.le_of_ble_eq_true rfl, Nat.le_of_ble_eq_true rfl⟩, hts (.static yX6_canBeSkipped) (by decide +kernel), trivial⟩ (preS_of hK hP hD [] (by decide) rfl) rfl hl.1 rfl (lv_room (Nat.le_of_ble_eq_true rfl)) dX1_changeSkip_1 ⟨Nat.zero_le _, Nat.zero_le _⟩ ?_
  refine bb_ne (tgt := 9) hx hb dX1_changeSkip_4 (by decide) (fun c_4 => False.elim (by omega)) (fun c_4 => ?_)
  refine lv_iconst (v := nI 0) hx hb dX1_changeSkip_7 (by decide) ?_
  exact R_z hx hb hr hlk dX1_changeSkip_8 (rfl) rfl

set_option maxHeartbeats 4000000 in
set_option maxRecDepth 100000 in
theorem c_X1_changeService (l : Launch) (G : GG) (h : Nat) (hc : Nat) (n : Nat) (g : Nat) (sk : Int32) (f : Nat → Int32) (ca : Nat) (lv : Nat) (is_ : Prop) (h_n : n ≤ 16) (h_ca : ca < 3) (h_lv : lv < n) : Met l yX1_changeService wsX1_changeService ({ frames := 1, cells := 0, slots := 0, locals := 23 } : Room) (va_Pc [.ref h, .int (nI ca), .int (nI lv), .int (zb is_)] (PB G [(h, .inr (1, [.ref hc, .int (nI n), .int (nI g), .int sk])), (hc, .inl (G.2 0, 144, .inl f))])) (QW G (none) [(h, .inr (1, [.ref hc, .int (nI n), .int (nI g), .int sk])), (hc, .inl (G.2 0, 144, .inl (upd f ((6 + ca) * 16 + lv) (zb is_))))] (vA [(h, .inr (1, [.ref hc, .int (nI n), .int (nI g), .int sk])), (hc, .inl (G.2 0, 144, .inl f))])) 0 0 (vA [(h, .inr (1, [.ref hc, .int (nI n), .int (nI g), .int sk])), (hc, .inl (G.2 0, 144, .inl f))]) := by
  refine Met.go (cc := cX1_changeService) (maxL := 4) (ret := none) (by decide) rfl (Nat.le_of_ble_eq_true rfl) ?_
  intro p e s m below meth c ls hx hb hr hml hown hts hlk hP hK hD hS hl
  have hown : s.vm.findClass RX1 = some m.cls := hown
  have hl : lv_has ls 4 [(0, .ref h), (1, .int (nI ca)), (2, .int (nI lv)), (3, .int (zb is_))] := hl
  refine lv_iload_n hx hb dX1_changeService_0 rfl (lv_at hl 1 rfl) ?_
  refine cRSN (host := RX6) (As := [.int (nI ca)]) (rest := []) (v := .int (zb (ca < 3))) ⟨hx, hb, hml, hown, hts⟩ (c_X6_isCar_n l G ca (by first | omega | assumption)) ⟨va_cnB 1 hts gX1_changeService_X6_isCar_n114 rfl rfl rfl (hK.2 (.methodLinkNest RX1 114 yX6_isCar RX6) (by decide +kernel)) (hts (.initialized RX6) (by decide +kernel)) (by decide +kernel) ⟨Nat.le_of_ble_eq_true rfl, Nat.le_of_ble_eq_true rfl⟩, hts (.static yX6_isCar) (by decide +kernel), trivial⟩ (preS_of hK hP hD [] (by decide) rfl) rfl hl.1 rfl (lv_room (Nat.le_of_ble_eq_true rfl)) dX1_changeService_1 ⟨Nat.zero_le _, Nat.zero_le _⟩ ?_
  refine bb_eq (tgt := 33) hx hb dX1_changeService_4 (by decide) (fun c_4 => False.elim (by omega)) (fun c_4 => ?_)
  refine lv_aload_n hx hb dX1_changeService_7 rfl (lv_at hl 0 rfl) ?_
  refine lv_iload_n hx hb dX1_changeService_8 rfl (lv_at hl 2 rfl) ?_
  refine cRV (As := [.int (nI lv)]) (rest := []) (v := .int (zb (lv < n))) ⟨hx, hb, hml, hown, hts⟩ (c_X1_hasLevel_n l G h hc n g sk f lv (by first | omega | assumption) (by first | omega | assumption)) (cwV 1 hts gX1_changeService_X1_hasLevel rfl rfl rfl (by decide +kernel) ⟨Nat.le_of_ble_eq_true rfl, Nat.le_of_ble_eq_true rfl⟩) (preV_of hK hP hD [0, 1] (by decide) rfl (ci := 1) (q0 := 0) rfl rfl rfl) rfl hl.1 rfl (lv_room (Nat.le_of_ble_eq_true rfl)) dX1_changeService_9 ⟨Nat.zero_le _, Nat.zero_le _⟩ ?_
  refine bb_eq (tgt := 33) hx hb dX1_changeService_12 (by decide) (fun c_12 => False.elim (by omega)) (fun c_12 => ?_)
  refine lv_aload_n hx hb dX1_changeService_15 rfl (lv_at hl 0 rfl) ?_
  refine lv_bipush (v := nI 6) hx hb dX1_changeService_16 (by decide) ?_
  refine lv_iload_n hx hb dX1_changeService_18 rfl (lv_at hl 1 rfl) ?_
  refine nv_iadd hx hb dX1_changeService_19 ?_
  refine lv_iload_n hx hb dX1_changeService_20 rfl (lv_at hl 2 rfl) ?_
  refine lv_iload_n hx hb dX1_changeService_21 rfl (lv_at hl 3 rfl) ?_
  refine bb_eq (tgt := 29) hx hb dX1_changeService_22 (by decide) (fun c_22 => ?_) (fun c_22 => ?_)
  ·
    refine lv_iconst (v := nI 0) hx hb dX1_changeService_29 (by decide) ?_
    refine cWV (As := [.int (nI (6 + ca)), .int (nI lv), .int (nI 0)]) (rest := []) (st1 := []) (w3 := [(h, .inr (1, [.ref hc, .int (nI n), .int (nI g), .int sk])), (hc, .inl (G.2 0, 144, .inl (upd f ((6 + ca) * 16 + lv) (zb is_))))]) ⟨hx, hb, hml, hown, hts⟩ (c_X1_put l G h hc n g sk f (6 + ca) lv (nI 0) (by first | omega | assumption) (by first | omega | assumption)) (cwV 3 hts gX1_changeService_X1_put rfl rfl rfl (by decide +kernel) ⟨Nat.le_of_ble_eq_true rfl, Nat.le_of_ble_eq_true rfl⟩) (preV_of hK hP hD [0, 1] (by decide) rfl (ci := 1) (q0 := 0) rfl rfl rfl) rfl hl.1 rfl (lv_room (Nat.le_of_ble_eq_true rfl)) dX1_changeService_30 ⟨Nat.zero_le _, Nat.zero_le _⟩ hP hD hS [0, 1] (by decide) rfl rfl (by rw [zb_f c_22]; rfl) rfl (fun H locs hP hD hS => ?_)
    exact W_v hx hb hr hlk dX1_changeService_33 hP hS (rfl)
  ·
    refine lv_iconst (v := nI 1) hx hb dX1_changeService_25 (by decide) ?_
    refine lv_goto (tgt := 30) hx hb dX1_changeService_26 (by decide) ?_
    refine cWV (As := [.int (nI (6 + ca)), .int (nI lv), .int (nI 1)]) (rest := []) (st1 := []) (w3 := [(h, .inr (1, [.ref hc, .int (nI n), .int (nI g), .int sk])), (hc, .inl (G.2 0, 144, .inl (upd f ((6 + ca) * 16 + lv) (zb is_))))]) ⟨hx, hb, hml, hown, hts⟩ (c_X1_put l G h hc n g sk f (6 + ca) lv (nI 1) (by first | omega | assumption) (by first | omega | assumption)) (cwV 3 hts gX1_changeService_X1_put rfl rfl rfl (by decide +kernel) ⟨Nat.le_of_ble_eq_true rfl, Nat.le_of_ble_eq_true rfl⟩) (preV_of hK hP hD [0, 1] (by decide) rfl (ci := 1) (q0 := 0) rfl rfl rfl) rfl hl.1 rfl (lv_room (Nat.le_of_ble_eq_true rfl)) dX1_changeService_30 ⟨Nat.zero_le _, Nat.zero_le _⟩ hP hD hS [0, 1] (by decide) rfl rfl (by rw [zb_t c_22]; rfl) rfl (fun H locs hP hD hS => ?_)
    exact W_v hx hb hr hlk dX1_changeService_33 hP hS (rfl)

set_option maxHeartbeats 4000000 in
set_option maxRecDepth 100000 in
theorem c_X1_changeService_no (l : Launch) (G : GG) (h : Nat) (hc : Nat) (n : Nat) (g : Nat) (sk : Int32) (f : Nat → Int32) (ca : Nat) (lv : Nat) (is_ : Prop) (h_n : n ≤ 16) (h_ca : ca < 2147483648) (h_lv : lv < 2147483648) (h_no : ¬ (ca < 3 ∧ lv < n)) : Met l yX1_changeService wsX1_changeService ({ frames := 1, cells := 0, slots := 0, locals := 21 } : Room) (va_Pc [.ref h, .int (nI ca), .int (nI lv), .int (zb is_)] (PB G [(h, .inr (1, [.ref hc, .int (nI n), .int (nI g), .int sk])), (hc, .inl (G.2 0, 144, .inl f))])) (QR (none)) 0 0 (fun _ => False) := by
  refine Met.go (cc := cX1_changeService) (maxL := 4) (ret := none) (by decide) rfl (Nat.le_of_ble_eq_true rfl) ?_
  intro p e s m below meth c ls hx hb hr hml hown hts hlk hP hK hD hS hl
  have hown : s.vm.findClass RX1 = some m.cls := hown
  have hl : lv_has ls 4 [(0, .ref h), (1, .int (nI ca)), (2, .int (nI lv)), (3, .int (zb is_))] := hl
  refine lv_iload_n hx hb dX1_changeService_0 rfl (lv_at hl 1 rfl) ?_
  refine cRSN (host := RX6) (As := [.int (nI ca)]) (rest := []) (v := .int (zb (ca < 3))) ⟨hx, hb, hml, hown, hts⟩ (c_X6_isCar_n l G ca (by first | omega | assumption)) ⟨va_cnB 1 hts gX1_changeService_X6_isCar_n114 rfl rfl rfl (hK.2 (.methodLinkNest RX1 114 yX6_isCar RX6) (by decide +kernel)) (hts (.initialized RX6) (by decide +kernel)) (by decide +kernel) ⟨Nat.le_of_ble_eq_true rfl, Nat.le_of_ble_eq_true rfl⟩, hts (.static yX6_isCar) (by decide +kernel), trivial⟩ (preS_of hK hP hD [] (by decide) rfl) rfl hl.1 rfl (lv_room (Nat.le_of_ble_eq_true rfl)) dX1_changeService_1 ⟨Nat.zero_le _, Nat.zero_le _⟩ ?_
  refine bb_eq (tgt := 33) hx hb dX1_changeService_4 (by decide) (fun c_4 => ?_) (fun c_4 => ?_)
  ·
    exact R_v hx hb hr hlk dX1_changeService_33
  ·
    refine lv_aload_n hx hb dX1_changeService_7 rfl (lv_at hl 0 rfl) ?_
    refine lv_iload_n hx hb dX1_changeService_8 rfl (lv_at hl 2 rfl) ?_
    refine cRV (As := [.int (nI lv)]) (rest := []) (v := .int (zb (lv < n))) ⟨hx, hb, hml, hown, hts⟩ (c_X1_hasLevel_n l G h hc n g sk f lv (by first | omega | assumption) (by first | omega | assumption)) (cwV 1 hts gX1_changeService_X1_hasLevel rfl rfl rfl (by decide +kernel) ⟨Nat.le_of_ble_eq_true rfl, Nat.le_of_ble_eq_true rfl⟩) (preV_of hK hP hD [0, 1] (by decide) rfl (ci := 1) (q0 := 0) rfl rfl rfl) rfl hl.1 rfl (lv_room (Nat.le_of_ble_eq_true rfl)) dX1_changeService_9 ⟨Nat.zero_le _, Nat.zero_le _⟩ ?_
    refine bb_eq (tgt := 33) hx hb dX1_changeService_12 (by decide) (fun c_12 => ?_) (fun c_12 => False.elim (by omega))
    exact R_v hx hb hr hlk dX1_changeService_33

set_option maxHeartbeats 4000000 in
set_option maxRecDepth 100000 in
theorem c_X1_correctSign (l : Launch) (G : GG) (h : Nat) (hc : Nat) (n : Nat) (g : Nat) (sk : Int32) (f : Nat → Int32) (lv : Nat) (h_n : n ≤ 16) (h_lv : lv < n) : Met l yX1_correctSign wsX1_correctSign ({ frames := 1, cells := 0, slots := 0, locals := 23 } : Room) (va_Pc [.ref h, .int (nI lv)] (PB G [(h, .inr (1, [.ref hc, .int (nI n), .int (nI g), .int sk])), (hc, .inl (G.2 0, 144, .inl f))])) (QW G (some (.int (nI 1))) [(h, .inr (1, [.ref hc, .int (nI n), .int (nI g), .int sk])), (hc, .inl (G.2 0, 144, .inl (upd f (32 + lv) (f (16 + lv)))))] (vA [(h, .inr (1, [.ref hc, .int (nI n), .int (nI g), .int sk])), (hc, .inl (G.2 0, 144, .inl f))])) 0 0 (vA [(h, .inr (1, [.ref hc, .int (nI n), .int (nI g), .int sk])), (hc, .inl (G.2 0, 144, .inl f))]) := by
  refine Met.go (cc := cX1_correctSign) (maxL := 2) (ret := (some .boolean)) (by decide) rfl (Nat.le_of_ble_eq_true rfl) ?_
  intro p e s m below meth c ls hx hb hr hml hown hts hlk hP hK hD hS hl
  have hown : s.vm.findClass RX1 = some m.cls := hown
  have hl : lv_has ls 2 [(0, .ref h), (1, .int (nI lv))] := hl
  refine lv_aload_n hx hb dX1_correctSign_0 rfl (lv_at hl 0 rfl) ?_
  refine lv_iload_n hx hb dX1_correctSign_1 rfl (lv_at hl 1 rfl) ?_
  refine cRV (As := [.int (nI lv)]) (rest := []) (v := .int (zb (lv < n))) ⟨hx, hb, hml, hown, hts⟩ (c_X1_hasLevel_n l G h hc n g sk f lv (by first | omega | assumption) (by first | omega | assumption)) (cwV 1 hts gX1_correctSign_X1_hasLevel rfl rfl rfl (by decide +kernel) ⟨Nat.le_of_ble_eq_true rfl, Nat.le_of_ble_eq_true rfl⟩) (preV_of hK hP hD [0, 1] (by decide) rfl (ci := 1) (q0 := 0) rfl rfl rfl) rfl hl.1 rfl (lv_room (Nat.le_of_ble_eq_true rfl)) dX1_correctSign_2 ⟨Nat.zero_le _, Nat.zero_le _⟩ ?_
  refine bb_ne (tgt := 10) hx hb dX1_correctSign_5 (by decide) (fun c_5 => ?_) (fun c_5 => False.elim (by omega))
  refine lv_aload_n hx hb dX1_correctSign_10 rfl (lv_at hl 0 rfl) ?_
  refine lv_iconst (v := nI 2) hx hb dX1_correctSign_11 (by decide) ?_
  refine lv_iload_n hx hb dX1_correctSign_12 rfl (lv_at hl 1 rfl) ?_
  refine lv_aload_n hx hb dX1_correctSign_13 rfl (lv_at hl 0 rfl) ?_
  refine lv_iconst (v := nI 1) hx hb dX1_correctSign_14 (by decide) ?_
  refine lv_iload_n hx hb dX1_correctSign_15 rfl (lv_at hl 1 rfl) ?_
  refine cRV (As := [.int (nI 1), .int (nI lv)]) (rest := [.int (nI lv), .int (nI 2), .ref h]) (v := .int (f (16 + lv))) ⟨hx, hb, hml, hown, hts⟩ (c_X1_cell l G h hc n g sk f 1 lv (by first | omega | assumption) (by first | omega | assumption)) (cwV 2 hts gX1_correctSign_X1_cell rfl rfl rfl (by decide +kernel) ⟨Nat.le_of_ble_eq_true rfl, Nat.le_of_ble_eq_true rfl⟩) (preV_of hK hP hD [0, 1] (by decide) rfl (ci := 1) (q0 := 0) rfl rfl rfl) rfl hl.1 rfl (lv_room (Nat.le_of_ble_eq_true rfl)) dX1_correctSign_16 ⟨Nat.zero_le _, Nat.zero_le _⟩ ?_
  refine cWV (As := [.int (nI 2), .int (nI lv), .int (f (16 + lv))]) (rest := []) (st1 := []) (w3 := [(h, .inr (1, [.ref hc, .int (nI n), .int (nI g), .int sk])), (hc, .inl (G.2 0, 144, .inl (upd f (32 + lv) (f (16 + lv)))))]) ⟨hx, hb, hml, hown, hts⟩ (c_X1_put l G h hc n g sk f 2 lv (f (16 + lv)) (by first | omega | assumption) (by first | omega | assumption)) (cwV 3 hts gX1_correctSign_X1_put rfl rfl rfl (by decide +kernel) ⟨Nat.le_of_ble_eq_true rfl, Nat.le_of_ble_eq_true rfl⟩) (preV_of hK hP hD [0, 1] (by decide) rfl (ci := 1) (q0 := 0) rfl rfl rfl) rfl hl.1 rfl (lv_room (Nat.le_of_ble_eq_true rfl)) dX1_correctSign_19 ⟨Nat.zero_le _, Nat.zero_le _⟩ hP hD hS [0, 1] (by decide) rfl rfl (rfl) rfl (fun H locs hP hD hS => ?_)
  refine lv_iconst (v := nI 1) hx hb dX1_correctSign_22 (by decide) ?_
  exact W_z hx hb hr hlk dX1_correctSign_23 hP hS (rfl) (rfl) rfl

set_option maxHeartbeats 4000000 in
set_option maxRecDepth 100000 in
theorem c_X1_correctSign_no (l : Launch) (G : GG) (h : Nat) (hc : Nat) (n : Nat) (g : Nat) (sk : Int32) (f : Nat → Int32) (lv : Nat) (h_n : n ≤ 16) (h_lv : lv < 2147483648) (h_no : ¬ lv < n) : Met l yX1_correctSign wsX1_correctSign ({ frames := 1, cells := 0, slots := 0, locals := 21 } : Room) (va_Pc [.ref h, .int (nI lv)] (PB G [(h, .inr (1, [.ref hc, .int (nI n), .int (nI g), .int sk])), (hc, .inl (G.2 0, 144, .inl f))])) (QR (some (.int (nI 0)))) 0 0 (fun _ => False) := by
  refine Met.go (cc := cX1_correctSign) (maxL := 2) (ret := (some .boolean)) (by decide) rfl (Nat.le_of_ble_eq_true rfl) ?_
  intro p e s m below meth c ls hx hb hr hml hown hts hlk hP hK hD hS hl
  have hown : s.vm.findClass RX1 = some m.cls := hown
  have hl : lv_has ls 2 [(0, .ref h), (1, .int (nI lv))] := hl
  refine lv_aload_n hx hb dX1_correctSign_0 rfl (lv_at hl 0 rfl) ?_
  refine lv_iload_n hx hb dX1_correctSign_1 rfl (lv_at hl 1 rfl) ?_
  refine cRV (As := [.int (nI lv)]) (rest := []) (v := .int (zb (lv < n))) ⟨hx, hb, hml, hown, hts⟩ (c_X1_hasLevel_n l G h hc n g sk f lv (by first | omega | assumption) (by first | omega | assumption)) (cwV 1 hts gX1_correctSign_X1_hasLevel rfl rfl rfl (by decide +kernel) ⟨Nat.le_of_ble_eq_true rfl, Nat.le_of_ble_eq_true rfl⟩) (preV_of hK hP hD [0, 1] (by decide) rfl (ci := 1) (q0 := 0) rfl rfl rfl) rfl hl.1 rfl (lv_room (Nat.le_of_ble_eq_true rfl)) dX1_correctSign_2 ⟨Nat.zero_le _, Nat.zero_le _⟩ ?_
  refine bb_ne (tgt := 10) hx hb dX1_correctSign_5 (by decide) (fun c_5 => False.elim (by omega)) (fun c_5 => ?_)
  refine lv_iconst (v := nI 0) hx hb dX1_correctSign_8 (by decide) ?_
  exact R_z hx hb hr hlk dX1_correctSign_9 (rfl) rfl

set_option maxHeartbeats 4000000 in
set_option maxRecDepth 100000 in
theorem c_X1_correctButton (l : Launch) (G : GG) (h : Nat) (hc : Nat) (n : Nat) (g : Nat) (sk : Int32) (f : Nat → Int32) (ca : Nat) (lv : Nat) (h_n : n ≤ 16) (h_ca : ca < 3) (h_lv : lv < n) : Met l yX1_correctButton wsX1_correctButton ({ frames := 1, cells := 0, slots := 0, locals := 23 } : Room) (va_Pc [.ref h, .int (nI ca), .int (nI lv)] (PB G [(h, .inr (1, [.ref hc, .int (nI n), .int (nI g), .int sk])), (hc, .inl (G.2 0, 144, .inl f))])) (QW G (some (.int (nI 1))) [(h, .inr (1, [.ref hc, .int (nI n), .int (nI g), .int sk])), (hc, .inl (G.2 0, 144, .inl (upd f ((3 + ca) * 16 + lv) (f (16 + lv)))))] (vA [(h, .inr (1, [.ref hc, .int (nI n), .int (nI g), .int sk])), (hc, .inl (G.2 0, 144, .inl f))])) 0 0 (vA [(h, .inr (1, [.ref hc, .int (nI n), .int (nI g), .int sk])), (hc, .inl (G.2 0, 144, .inl f))]) := by
  refine Met.go (cc := cX1_correctButton) (maxL := 3) (ret := (some .boolean)) (by decide) rfl (Nat.le_of_ble_eq_true rfl) ?_
  intro p e s m below meth c ls hx hb hr hml hown hts hlk hP hK hD hS hl
  have hown : s.vm.findClass RX1 = some m.cls := hown
  have hl : lv_has ls 3 [(0, .ref h), (1, .int (nI ca)), (2, .int (nI lv))] := hl
  refine lv_iload_n hx hb dX1_correctButton_0 rfl (lv_at hl 1 rfl) ?_
  refine cRSN (host := RX6) (As := [.int (nI ca)]) (rest := []) (v := .int (zb (ca < 3))) ⟨hx, hb, hml, hown, hts⟩ (c_X6_isCar_n l G ca (by first | omega | assumption)) ⟨va_cnB 1 hts gX1_correctButton_X6_isCar_n114 rfl rfl rfl (hK.2 (.methodLinkNest RX1 114 yX6_isCar RX6) (by decide +kernel)) (hts (.initialized RX6) (by decide +kernel)) (by decide +kernel) ⟨Nat.le_of_ble_eq_true rfl, Nat.le_of_ble_eq_true rfl⟩, hts (.static yX6_isCar) (by decide +kernel), trivial⟩ (preS_of hK hP hD [] (by decide) rfl) rfl hl.1 rfl (lv_room (Nat.le_of_ble_eq_true rfl)) dX1_correctButton_1 ⟨Nat.zero_le _, Nat.zero_le _⟩ ?_
  refine bb_eq (tgt := 15) hx hb dX1_correctButton_4 (by decide) (fun c_4 => False.elim (by omega)) (fun c_4 => ?_)
  refine lv_aload_n hx hb dX1_correctButton_7 rfl (lv_at hl 0 rfl) ?_
  refine lv_iload_n hx hb dX1_correctButton_8 rfl (lv_at hl 2 rfl) ?_
  refine cRV (As := [.int (nI lv)]) (rest := []) (v := .int (zb (lv < n))) ⟨hx, hb, hml, hown, hts⟩ (c_X1_hasLevel_n l G h hc n g sk f lv (by first | omega | assumption) (by first | omega | assumption)) (cwV 1 hts gX1_correctButton_X1_hasLevel rfl rfl rfl (by decide +kernel) ⟨Nat.le_of_ble_eq_true rfl, Nat.le_of_ble_eq_true rfl⟩) (preV_of hK hP hD [0, 1] (by decide) rfl (ci := 1) (q0 := 0) rfl rfl rfl) rfl hl.1 rfl (lv_room (Nat.le_of_ble_eq_true rfl)) dX1_correctButton_9 ⟨Nat.zero_le _, Nat.zero_le _⟩ ?_
  refine bb_ne (tgt := 17) hx hb dX1_correctButton_12 (by decide) (fun c_12 => ?_) (fun c_12 => False.elim (by omega))
  refine lv_aload_n hx hb dX1_correctButton_17 rfl (lv_at hl 0 rfl) ?_
  refine lv_iconst (v := nI 3) hx hb dX1_correctButton_18 (by decide) ?_
  refine lv_iload_n hx hb dX1_correctButton_19 rfl (lv_at hl 1 rfl) ?_
  refine nv_iadd hx hb dX1_correctButton_20 ?_
  refine lv_iload_n hx hb dX1_correctButton_21 rfl (lv_at hl 2 rfl) ?_
  refine lv_aload_n hx hb dX1_correctButton_22 rfl (lv_at hl 0 rfl) ?_
  refine lv_iconst (v := nI 1) hx hb dX1_correctButton_23 (by decide) ?_
  refine lv_iload_n hx hb dX1_correctButton_24 rfl (lv_at hl 2 rfl) ?_
  refine cRV (As := [.int (nI 1), .int (nI lv)]) (rest := [.int (nI lv), .int (nI (3 + ca)), .ref h]) (v := .int (f (16 + lv))) ⟨hx, hb, hml, hown, hts⟩ (c_X1_cell l G h hc n g sk f 1 lv (by first | omega | assumption) (by first | omega | assumption)) (cwV 2 hts gX1_correctButton_X1_cell rfl rfl rfl (by decide +kernel) ⟨Nat.le_of_ble_eq_true rfl, Nat.le_of_ble_eq_true rfl⟩) (preV_of hK hP hD [0, 1] (by decide) rfl (ci := 1) (q0 := 0) rfl rfl rfl) rfl hl.1 rfl (lv_room (Nat.le_of_ble_eq_true rfl)) dX1_correctButton_25 ⟨Nat.zero_le _, Nat.zero_le _⟩ ?_
  refine cWV (As := [.int (nI (3 + ca)), .int (nI lv), .int (f (16 + lv))]) (rest := []) (st1 := []) (w3 := [(h, .inr (1, [.ref hc, .int (nI n), .int (nI g), .int sk])), (hc, .inl (G.2 0, 144, .inl (upd f ((3 + ca) * 16 + lv) (f (16 + lv)))))]) ⟨hx, hb, hml, hown, hts⟩ (c_X1_put l G h hc n g sk f (3 + ca) lv (f (16 + lv)) (by first | omega | assumption) (by first | omega | assumption)) (cwV 3 hts gX1_correctButton_X1_put rfl rfl rfl (by decide +kernel) ⟨Nat.le_of_ble_eq_true rfl, Nat.le_of_ble_eq_true rfl⟩) (preV_of hK hP hD [0, 1] (by decide) rfl (ci := 1) (q0 := 0) rfl rfl rfl) rfl hl.1 rfl (lv_room (Nat.le_of_ble_eq_true rfl)) dX1_correctButton_28 ⟨Nat.zero_le _, Nat.zero_le _⟩ hP hD hS [0, 1] (by decide) rfl rfl (rfl) rfl (fun H locs hP hD hS => ?_)
  refine lv_iconst (v := nI 1) hx hb dX1_correctButton_31 (by decide) ?_
  exact W_z hx hb hr hlk dX1_correctButton_32 hP hS (rfl) (rfl) rfl

set_option maxHeartbeats 4000000 in
set_option maxRecDepth 100000 in
theorem c_X1_correctButton_no (l : Launch) (G : GG) (h : Nat) (hc : Nat) (n : Nat) (g : Nat) (sk : Int32) (f : Nat → Int32) (ca : Nat) (lv : Nat) (h_n : n ≤ 16) (h_ca : ca < 2147483648) (h_lv : lv < 2147483648) (h_no : ¬ (ca < 3 ∧ lv < n)) : Met l yX1_correctButton wsX1_correctButton ({ frames := 1, cells := 0, slots := 0, locals := 21 } : Room) (va_Pc [.ref h, .int (nI ca), .int (nI lv)] (PB G [(h, .inr (1, [.ref hc, .int (nI n), .int (nI g), .int sk])), (hc, .inl (G.2 0, 144, .inl f))])) (QR (some (.int (nI 0)))) 0 0 (fun _ => False) := by
  refine Met.go (cc := cX1_correctButton) (maxL := 3) (ret := (some .boolean)) (by decide) rfl (Nat.le_of_ble_eq_true rfl) ?_
  intro p e s m below meth c ls hx hb hr hml hown hts hlk hP hK hD hS hl
  have hown : s.vm.findClass RX1 = some m.cls := hown
  have hl : lv_has ls 3 [(0, .ref h), (1, .int (nI ca)), (2, .int (nI lv))] := hl
  refine lv_iload_n hx hb dX1_correctButton_0 rfl (lv_at hl 1 rfl) ?_
  refine cRSN (host := RX6) (As := [.int (nI ca)]) (rest := []) (v := .int (zb (ca < 3))) ⟨hx, hb, hml, hown, hts⟩ (c_X6_isCar_n l G ca (by first | omega | assumption)) ⟨va_cnB 1 hts gX1_correctButton_X6_isCar_n114 rfl rfl rfl (hK.2 (.methodLinkNest RX1 114 yX6_isCar RX6) (by decide +kernel)) (hts (.initialized RX6) (by decide +kernel)) (by decide +kernel) ⟨Nat.le_of_ble_eq_true rfl, Nat.le_of_ble_eq_true rfl⟩, hts (.static yX6_isCar) (by decide +kernel), trivial⟩ (preS_of hK hP hD [] (by decide) rfl) rfl hl.1 rfl (lv_room (Nat.le_of_ble_eq_true rfl)) dX1_correctButton_1 ⟨Nat.zero_le _, Nat.zero_le _⟩ ?_
  refine bb_eq (tgt := 15) hx hb dX1_correctButton_4 (by decide) (fun c_4 => ?_) (fun c_4 => ?_)
  ·
    refine lv_iconst (v := nI 0) hx hb dX1_correctButton_15 (by decide) ?_
    exact R_z hx hb hr hlk dX1_correctButton_16 (rfl) rfl
  ·
    refine lv_aload_n hx hb dX1_correctButton_7 rfl (lv_at hl 0 rfl) ?_
    refine lv_iload_n hx hb dX1_correctButton_8 rfl (lv_at hl 2 rfl) ?_
    refine cRV (As := [.int (nI lv)]) (rest := []) (v := .int (zb (lv < n))) ⟨hx, hb, hml, hown, hts⟩ (c_X1_hasLevel_n l G h hc n g sk f lv (by first | omega | assumption) (by first | omega | assumption)) (cwV 1 hts gX1_correctButton_X1_hasLevel rfl rfl rfl (by decide +kernel) ⟨Nat.le_of_ble_eq_true rfl, Nat.le_of_ble_eq_true rfl⟩) (preV_of hK hP hD [0, 1] (by decide) rfl (ci := 1) (q0 := 0) rfl rfl rfl) rfl hl.1 rfl (lv_room (Nat.le_of_ble_eq_true rfl)) dX1_correctButton_9 ⟨Nat.zero_le _, Nat.zero_le _⟩ ?_
    refine bb_ne (tgt := 17) hx hb dX1_correctButton_12 (by decide) (fun c_12 => False.elim (by omega)) (fun c_12 => ?_)
    refine lv_iconst (v := nI 0) hx hb dX1_correctButton_15 (by decide) ?_
    exact R_z hx hb hr hlk dX1_correctButton_16 (rfl) rfl

theorem in_c_X1_correctCar_X1 : ∀ w ∈ wsX10, w ∈ wsX1_correctCar := by decide +kernel
set_option maxHeartbeats 4000000 in
set_option maxRecDepth 100000 in
theorem c_X1_correctCar (l : Launch) (G : GG) (h : Nat) (hc : Nat) (n : Nat) (g : Nat) (sk : Int32) (f : Nat → Int32) (ca : Nat) (h_n : n ≤ 16) (h_ca : ca < 3) : Met l yX1_correctCar wsX1_correctCar ({ frames := 1, cells := 0, slots := 0, locals := 23 } : Room) (va_Pc [.ref h, .int (nI ca)] (PB G [(h, .inr (1, [.ref hc, .int (nI n), .int (nI g), .int sk])), (hc, .inl (G.2 0, 144, .inl f))])) (QW G (some (.int (nI 1))) [(h, .inr (1, [.ref hc, .int (nI n), .int (nI g), .int sk])), (hc, .inl (G.2 0, 144, .inl (ccar f ca n)))] (vA [(h, .inr (1, [.ref hc, .int (nI n), .int (nI g), .int sk])), (hc, .inl (G.2 0, 144, .inl f))])) 0 0 (vA [(h, .inr (1, [.ref hc, .int (nI n), .int (nI g), .int sk])), (hc, .inl (G.2 0, 144, .inl f))]) := by
  refine Met.go (cc := cX1_correctCar) (maxL := 3) (ret := (some .boolean)) (by decide) rfl (Nat.le_of_ble_eq_true rfl) ?_
  intro p e s m below meth c ls hx hb hr hml hown hts hlk hP hK hD hS hl
  have hown : s.vm.findClass RX1 = some m.cls := hown
  have hl : lv_has ls 3 [(0, .ref h), (1, .int (nI ca))] := hl
  refine lv_iload_n hx hb dX1_correctCar_0 rfl (lv_at hl 1 rfl) ?_
  refine cRSN (host := RX6) (As := [.int (nI ca)]) (rest := []) (v := .int (zb (ca < 3))) ⟨hx, hb, hml, hown, hts⟩ (c_X6_isCar_n l G ca (by first | omega | assumption)) ⟨va_cnB 1 hts gX1_correctCar_X6_isCar_n114 rfl rfl rfl (hK.2 (.methodLinkNest RX1 114 yX6_isCar RX6) (by decide +kernel)) (hts (.initialized RX6) (by decide +kernel)) (by decide +kernel) ⟨Nat.le_of_ble_eq_true rfl, Nat.le_of_ble_eq_true rfl⟩, hts (.static yX6_isCar) (by decide +kernel), trivial⟩ (preS_of hK hP hD [] (by decide) rfl) rfl hl.1 rfl (lv_room (Nat.le_of_ble_eq_true rfl)) dX1_correctCar_1 ⟨Nat.zero_le _, Nat.zero_le _⟩ ?_
  refine bb_ne (tgt := 9) hx hb dX1_correctCar_4 (by decide) (fun c_4 => ?_) (fun c_4 => False.elim (by omega))
  refine lv_iconst (v := nI 0) hx hb dX1_correctCar_9 (by decide) ?_
  refine lv_istore_n (lv' := [(2, .int (nI 0)), (0, .ref h), (1, .int (nI ca))]) hx hb dX1_correctCar_10 rfl hl (by decide) rfl (fun ls hl => ?_)
  have loop_11 : ∀ (k_ : Nat) (i : Nat) (h_i : i ≤ n) (_ : n - i < k_) (H : Heap) (locs : List Loc) (_ : VP G [(h, .inr (1, [.ref hc, .int (nI n), .int (nI g), .int sk])), (hc, .inl (G.2 0, 144, .inl (ccar f ca i)))] H) (_ : va_D (vA [(h, .inr (1, [.ref hc, .int (nI n), .int (nI g), .int sk])), (hc, .inl (G.2 0, 144, .inl f))]) [(h, .inr (1, [.ref hc, .int (nI n), .int (nI g), .int sk])), (hc, .inl (G.2 0, 144, .inl (ccar f ca i)))]) (_ : va_S (vA [(h, .inr (1, [.ref hc, .int (nI n), .int (nI g), .int sk])), (hc, .inl (G.2 0, 144, .inl f))]) s.heap H locs) (ls : Array Slot), lv_has ls 3 [(2, .int (nI i)), (0, .ref h), (1, .int (nI ca))] → W p l e ({ frames := 1, cells := 0, slots := 0, locals := 23 } : Room) s m ([.ref h, .int (nI ca)] : List Value).toArray below meth c H locs 0 0 (MQ below (QW G (some (.int (nI 1))) [(h, .inr (1, [.ref hc, .int (nI n), .int (nI g), .int sk])), (hc, .inl (G.2 0, 144, .inl (ccar f ca n)))] (vA [(h, .inr (1, [.ref hc, .int (nI n), .int (nI g), .int sk])), (hc, .inl (G.2 0, 144, .inl f))])) ([.ref h, .int (nI ca)] : List Value).toArray s 0 0 (vA [(h, .inr (1, [.ref hc, .int (nI n), .int (nI g), .int sk])), (hc, .inl (G.2 0, 144, .inl f))])) (F0 m 11 ls []) := by
    intro k_
    induction k_ with
    | zero => intro i h_i hk_; exact absurd hk_ (Nat.not_lt_zero _)
    | succ k_ ih_11 =>
      intro i h_i hk_ H locs hP hD hS ls hl
      refine lv_iload_n hx hb dX1_correctCar_11 rfl (lv_at hl 0 rfl) ?_
      refine lv_aload_n hx hb dX1_correctCar_12 rfl (lv_at hl 1 rfl) ?_
      refine va_get (D := G.1) (ci := 1) (v := .int (nI n)) (C := RX1) (T := TX1) (N := 4) hx hb hts in_c_X1_correctCar_X1 hown hK.1 hP 0 rfl rfl 1 (by decide) (hts (.fieldLink RX1 15 "FloorPanels$House" "levels" "I") (by decide +kernel)) (fun _ h9 => h9) rfl dX1_correctCar_13 ?_
      refine bi_ge (tgt := 39) hx hb dX1_correctCar_16 (by decide) (nI_i (by omega)) (nI_i (by omega)) (fun c_16 => ?_) (fun c_16 => ?_)
      ·
        refine lv_iconst (v := nI 1) hx hb dX1_correctCar_39 (by decide) ?_
        exact W_z hx hb hr hlk dX1_correctCar_40 hP hS (rfl) (by rw [show i = n by omega]) rfl
      ·
        refine lv_aload_n hx hb dX1_correctCar_19 rfl (lv_at hl 1 rfl) ?_
        refine lv_iconst (v := nI 3) hx hb dX1_correctCar_20 (by decide) ?_
        refine lv_iload_n hx hb dX1_correctCar_21 rfl (lv_at hl 2 rfl) ?_
        refine nv_iadd hx hb dX1_correctCar_22 ?_
        refine lv_iload_n hx hb dX1_correctCar_23 rfl (lv_at hl 0 rfl) ?_
        refine lv_aload_n hx hb dX1_correctCar_24 rfl (lv_at hl 1 rfl) ?_
        refine lv_iconst (v := nI 1) hx hb dX1_correctCar_25 (by decide) ?_
        refine lv_iload_n hx hb dX1_correctCar_26 rfl (lv_at hl 0 rfl) ?_
        refine cRV (As := [.int (nI 1), .int (nI i)]) (rest := [.int (nI i), .int (nI (3 + ca)), .ref h]) (v := .int ((ccar f ca i) (16 + i))) ⟨hx, hb, hml, hown, hts⟩ (c_X1_cell l G h hc n g sk (ccar f ca i) 1 i (by first | omega | assumption) (by first | omega | assumption)) (cwV 2 hts gX1_correctCar_X1_cell rfl rfl rfl (by decide +kernel) ⟨Nat.le_of_ble_eq_true rfl, Nat.le_of_ble_eq_true rfl⟩) (preV_of hK hP hD [0, 1] (by decide) rfl (ci := 1) (q0 := 0) rfl rfl rfl) rfl hl.1 rfl (lv_room (Nat.le_of_ble_eq_true rfl)) dX1_correctCar_27 ⟨Nat.zero_le _, Nat.zero_le _⟩ ?_
        rw [show (((ccar f ca i) (16 + i))) = (f (16 + i)) from by rw [ccar_n (by omega)]]
        refine cWV (As := [.int (nI (3 + ca)), .int (nI i), .int (f (16 + i))]) (rest := []) (st1 := []) (w3 := [(h, .inr (1, [.ref hc, .int (nI n), .int (nI g), .int sk])), (hc, .inl (G.2 0, 144, .inl (ccar f ca (i + 1))))]) ⟨hx, hb, hml, hown, hts⟩ (c_X1_put l G h hc n g sk (ccar f ca i) (3 + ca) i (f (16 + i)) (by first | omega | assumption) (by first | omega | assumption)) (cwV 3 hts gX1_correctCar_X1_put rfl rfl rfl (by decide +kernel) ⟨Nat.le_of_ble_eq_true rfl, Nat.le_of_ble_eq_true rfl⟩) (preV_of hK hP hD [0, 1] (by decide) rfl (ci := 1) (q0 := 0) rfl rfl rfl) rfl hl.1 rfl (lv_room (Nat.le_of_ble_eq_true rfl)) dX1_correctCar_30 ⟨Nat.zero_le _, Nat.zero_le _⟩ hP hD hS [0, 1] (by decide) rfl rfl (by rw [← ccar_s (by omega)]; rfl) rfl (fun H locs hP hD hS => ?_)
        refine lv_iinc (v := nI (i + 1)) (lv' := [(2, .int (nI (i + 1))), (0, .ref h), (1, .int (nI ca))]) hx hb dX1_correctCar_33 hl (k := 0) rfl (inc_n _ 1) (by decide) rfl (fun ls hl => ?_)
        refine lv_goto (tgt := 11) hx hb dX1_correctCar_36 (by decide) ?_
        exact ih_11 (i + 1) (by first | omega | assumption) (by omega) _ _ hP hD hS ls (lv_sub hl [0, 1, 2] (by rfl))
  exact loop_11 (n - 0 + 1) 0 (by first | omega | assumption) (Nat.lt_succ_self _) _ _ (by rw [ccar_0]; exact hP) (by rw [ccar_0]; exact hD) hS ls (lv_sub hl [0, 1, 2] (by rfl))

set_option maxHeartbeats 4000000 in
set_option maxRecDepth 100000 in
theorem c_X1_correctCar_no (l : Launch) (G : GG) (h : Nat) (hc : Nat) (n : Nat) (g : Nat) (sk : Int32) (f : Nat → Int32) (ca : Nat) (h_ca : ca < 2147483648) (h_no : ¬ ca < 3) : Met l yX1_correctCar wsX1_correctCar ({ frames := 1, cells := 0, slots := 0, locals := 20 } : Room) (va_Pc [.ref h, .int (nI ca)] (PB G [(h, .inr (1, [.ref hc, .int (nI n), .int (nI g), .int sk])), (hc, .inl (G.2 0, 144, .inl f))])) (QR (some (.int (nI 0)))) 0 0 (fun _ => False) := by
  refine Met.go (cc := cX1_correctCar) (maxL := 3) (ret := (some .boolean)) (by decide) rfl (Nat.le_of_ble_eq_true rfl) ?_
  intro p e s m below meth c ls hx hb hr hml hown hts hlk hP hK hD hS hl
  have hown : s.vm.findClass RX1 = some m.cls := hown
  have hl : lv_has ls 3 [(0, .ref h), (1, .int (nI ca))] := hl
  refine lv_iload_n hx hb dX1_correctCar_0 rfl (lv_at hl 1 rfl) ?_
  refine cRSN (host := RX6) (As := [.int (nI ca)]) (rest := []) (v := .int (zb (ca < 3))) ⟨hx, hb, hml, hown, hts⟩ (c_X6_isCar_n l G ca (by first | omega | assumption)) ⟨va_cnB 1 hts gX1_correctCar_X6_isCar_n114 rfl rfl rfl (hK.2 (.methodLinkNest RX1 114 yX6_isCar RX6) (by decide +kernel)) (hts (.initialized RX6) (by decide +kernel)) (by decide +kernel) ⟨Nat.le_of_ble_eq_true rfl, Nat.le_of_ble_eq_true rfl⟩, hts (.static yX6_isCar) (by decide +kernel), trivial⟩ (preS_of hK hP hD [] (by decide) rfl) rfl hl.1 rfl (lv_room (Nat.le_of_ble_eq_true rfl)) dX1_correctCar_1 ⟨Nat.zero_le _, Nat.zero_le _⟩ ?_
  refine bb_ne (tgt := 9) hx hb dX1_correctCar_4 (by decide) (fun c_4 => False.elim (by omega)) (fun c_4 => ?_)
  refine lv_iconst (v := nI 0) hx hb dX1_correctCar_7 (by decide) ?_
  exact R_z hx hb hr hlk dX1_correctCar_8 (rfl) rfl

set_option maxHeartbeats 4000000 in
set_option maxRecDepth 100000 in
theorem c_X1_swapButtons (l : Launch) (G : GG) (h : Nat) (hc : Nat) (n : Nat) (g : Nat) (sk : Int32) (f : Nat → Int32) (ca : Nat) (lv : Nat) (l2 : Nat) (h_n : n ≤ 16) (h_ca : ca < 3) (h_lv : lv < n) (h_l2 : l2 < n) : Met l yX1_swapButtons wsX1_swapButtons ({ frames := 2, cells := 0, slots := 0, locals := 44 } : Room) (va_Pc [.ref h, .int (nI ca), .int (nI lv), .int (nI l2)] (PB G [(h, .inr (1, [.ref hc, .int (nI n), .int (nI g), .int sk])), (hc, .inl (G.2 0, 144, .inl f))])) (QW G (none) [(h, .inr (1, [.ref hc, .int (nI n), .int (nI g), .int sk])), (hc, .inl (G.2 0, 144, .inl (swp f ((3 + ca) * 16 + lv) ((3 + ca) * 16 + l2))))] (vA [(h, .inr (1, [.ref hc, .int (nI n), .int (nI g), .int sk])), (hc, .inl (G.2 0, 144, .inl f))])) 0 0 (vA [(h, .inr (1, [.ref hc, .int (nI n), .int (nI g), .int sk])), (hc, .inl (G.2 0, 144, .inl f))]) := by
  refine Met.go (cc := cX1_swapButtons) (maxL := 5) (ret := none) (by decide) rfl (Nat.le_of_ble_eq_true rfl) ?_
  intro p e s m below meth c ls hx hb hr hml hown hts hlk hP hK hD hS hl
  have hown : s.vm.findClass RX1 = some m.cls := hown
  have hl : lv_has ls 5 [(0, .ref h), (1, .int (nI ca)), (2, .int (nI lv)), (3, .int (nI l2))] := hl
  refine lv_iload_n hx hb dX1_swapButtons_0 rfl (lv_at hl 1 rfl) ?_
  refine cRSN (host := RX6) (As := [.int (nI ca)]) (rest := []) (v := .int (zb (ca < 3))) ⟨hx, hb, hml, hown, hts⟩ (c_X6_isCar_n l G ca (by first | omega | assumption)) ⟨va_cnB 1 hts gX1_swapButtons_X6_isCar_n114 rfl rfl rfl (hK.2 (.methodLinkNest RX1 114 yX6_isCar RX6) (by decide +kernel)) (hts (.initialized RX6) (by decide +kernel)) (by decide +kernel) ⟨Nat.le_of_ble_eq_true rfl, Nat.le_of_ble_eq_true rfl⟩, hts (.static yX6_isCar) (by decide +kernel), trivial⟩ (preS_of hK hP hD [] (by decide) rfl) rfl hl.1 rfl (lv_room (Nat.le_of_ble_eq_true rfl)) dX1_swapButtons_1 ⟨Nat.zero_le _, Nat.zero_le _⟩ ?_
  refine bb_eq (tgt := 55) hx hb dX1_swapButtons_4 (by decide) (fun c_4 => False.elim (by omega)) (fun c_4 => ?_)
  refine lv_aload_n hx hb dX1_swapButtons_7 rfl (lv_at hl 0 rfl) ?_
  refine lv_iload_n hx hb dX1_swapButtons_8 rfl (lv_at hl 2 rfl) ?_
  refine cRV (As := [.int (nI lv)]) (rest := []) (v := .int (zb (lv < n))) ⟨hx, hb, hml, hown, hts⟩ (c_X1_hasLevel_n l G h hc n g sk f lv (by first | omega | assumption) (by first | omega | assumption)) (cwV 1 hts gX1_swapButtons_X1_hasLevel rfl rfl rfl (by decide +kernel) ⟨Nat.le_of_ble_eq_true rfl, Nat.le_of_ble_eq_true rfl⟩) (preV_of hK hP hD [0, 1] (by decide) rfl (ci := 1) (q0 := 0) rfl rfl rfl) rfl hl.1 rfl (lv_room (Nat.le_of_ble_eq_true rfl)) dX1_swapButtons_9 ⟨Nat.zero_le _, Nat.zero_le _⟩ ?_
  refine bb_eq (tgt := 55) hx hb dX1_swapButtons_12 (by decide) (fun c_12 => False.elim (by omega)) (fun c_12 => ?_)
  refine lv_aload_n hx hb dX1_swapButtons_15 rfl (lv_at hl 0 rfl) ?_
  refine lv_iload_n hx hb dX1_swapButtons_16 rfl (lv_at hl 3 rfl) ?_
  refine cRV (As := [.int (nI l2)]) (rest := []) (v := .int (zb (l2 < n))) ⟨hx, hb, hml, hown, hts⟩ (c_X1_hasLevel_n l G h hc n g sk f l2 (by first | omega | assumption) (by first | omega | assumption)) (cwV 1 hts gX1_swapButtons_X1_hasLevel rfl rfl rfl (by decide +kernel) ⟨Nat.le_of_ble_eq_true rfl, Nat.le_of_ble_eq_true rfl⟩) (preV_of hK hP hD [0, 1] (by decide) rfl (ci := 1) (q0 := 0) rfl rfl rfl) rfl hl.1 rfl (lv_room (Nat.le_of_ble_eq_true rfl)) dX1_swapButtons_17 ⟨Nat.zero_le _, Nat.zero_le _⟩ ?_
  refine bb_eq (tgt := 55) hx hb dX1_swapButtons_20 (by decide) (fun c_20 => False.elim (by omega)) (fun c_20 => ?_)
  refine lv_aload_n hx hb dX1_swapButtons_23 rfl (lv_at hl 0 rfl) ?_
  refine lv_iload_n hx hb dX1_swapButtons_24 rfl (lv_at hl 1 rfl) ?_
  refine lv_iload_n hx hb dX1_swapButtons_25 rfl (lv_at hl 2 rfl) ?_
  refine cRV (As := [.int (nI ca), .int (nI lv)]) (rest := []) (v := .int (f ((3 + ca) * 16 + lv))) ⟨hx, hb, hml, hown, hts⟩ (c_X1_buttonAt l G h hc n g sk f ca lv (by first | omega | assumption) (by first | omega | assumption)) (cwV 2 hts gX1_swapButtons_X1_buttonAt rfl rfl rfl (by decide +kernel) ⟨Nat.le_of_ble_eq_true rfl, Nat.le_of_ble_eq_true rfl⟩) (preV_of hK hP hD [0, 1] (by decide) rfl (ci := 1) (q0 := 0) rfl rfl rfl) rfl hl.1 rfl (lv_room (Nat.le_of_ble_eq_true rfl)) dX1_swapButtons_26 ⟨Nat.zero_le _, Nat.zero_le _⟩ ?_
  refine lv_istore (lv' := [(4, .int (f ((3 + ca) * 16 + lv))), (0, .ref h), (1, .int (nI ca)), (2, .int (nI lv)), (3, .int (nI l2))]) hx hb dX1_swapButtons_29 hl (by decide) rfl (fun ls hl => ?_)
  refine lv_aload_n hx hb dX1_swapButtons_31 rfl (lv_at hl 1 rfl) ?_
  refine lv_iconst (v := nI 3) hx hb dX1_swapButtons_32 (by decide) ?_
  refine lv_iload_n hx hb dX1_swapButtons_33 rfl (lv_at hl 2 rfl) ?_
  refine nv_iadd hx hb dX1_swapButtons_34 ?_
  refine lv_iload_n hx hb dX1_swapButtons_35 rfl (lv_at hl 3 rfl) ?_
  refine lv_aload_n hx hb dX1_swapButtons_36 rfl (lv_at hl 1 rfl) ?_
  refine lv_iload_n hx hb dX1_swapButtons_37 rfl (lv_at hl 2 rfl) ?_
  refine lv_iload_n hx hb dX1_swapButtons_38 rfl (lv_at hl 4 rfl) ?_
  refine cRV (As := [.int (nI ca), .int (nI l2)]) (rest := [.int (nI lv), .int (nI (3 + ca)), .ref h]) (v := .int (f ((3 + ca) * 16 + l2))) ⟨hx, hb, hml, hown, hts⟩ (c_X1_buttonAt l G h hc n g sk f ca l2 (by first | omega | assumption) (by first | omega | assumption)) (cwV 2 hts gX1_swapButtons_X1_buttonAt rfl rfl rfl (by decide +kernel) ⟨Nat.le_of_ble_eq_true rfl, Nat.le_of_ble_eq_true rfl⟩) (preV_of hK hP hD [0, 1] (by decide) rfl (ci := 1) (q0 := 0) rfl rfl rfl) rfl hl.1 rfl (lv_room (Nat.le_of_ble_eq_true rfl)) dX1_swapButtons_39 ⟨Nat.zero_le _, Nat.zero_le _⟩ ?_
  refine cWV (As := [.int (nI (3 + ca)), .int (nI lv), .int (f ((3 + ca) * 16 + l2))]) (rest := []) (st1 := []) (w3 := [(h, .inr (1, [.ref hc, .int (nI n), .int (nI g), .int sk])), (hc, .inl (G.2 0, 144, .inl (upd f ((3 + ca) * 16 + lv) (f ((3 + ca) * 16 + l2)))))]) ⟨hx, hb, hml, hown, hts⟩ (c_X1_put l G h hc n g sk f (3 + ca) lv (f ((3 + ca) * 16 + l2)) (by first | omega | assumption) (by first | omega | assumption)) (cwV 3 hts gX1_swapButtons_X1_put rfl rfl rfl (by decide +kernel) ⟨Nat.le_of_ble_eq_true rfl, Nat.le_of_ble_eq_true rfl⟩) (preV_of hK hP hD [0, 1] (by decide) rfl (ci := 1) (q0 := 0) rfl rfl rfl) rfl hl.1 rfl (lv_room (Nat.le_of_ble_eq_true rfl)) dX1_swapButtons_42 ⟨Nat.zero_le _, Nat.zero_le _⟩ hP hD hS [0, 1] (by decide) rfl rfl (rfl) rfl (fun H locs hP hD hS => ?_)
  refine lv_aload_n hx hb dX1_swapButtons_45 rfl (lv_at hl 1 rfl) ?_
  refine lv_iconst (v := nI 3) hx hb dX1_swapButtons_46 (by decide) ?_
  refine lv_iload_n hx hb dX1_swapButtons_47 rfl (lv_at hl 2 rfl) ?_
  refine nv_iadd hx hb dX1_swapButtons_48 ?_
  refine lv_iload_n hx hb dX1_swapButtons_49 rfl (lv_at hl 4 rfl) ?_
  refine lv_iload hx hb dX1_swapButtons_50 (lv_at hl 0 rfl) ?_
  refine cWV (As := [.int (nI (3 + ca)), .int (nI l2), .int (f ((3 + ca) * 16 + lv))]) (rest := []) (st1 := []) (w3 := [(h, .inr (1, [.ref hc, .int (nI n), .int (nI g), .int sk])), (hc, .inl (G.2 0, 144, .inl (upd (upd f ((3 + ca) * 16 + lv) (f ((3 + ca) * 16 + l2))) ((3 + ca) * 16 + l2) (f ((3 + ca) * 16 + lv)))))]) ⟨hx, hb, hml, hown, hts⟩ (c_X1_put l G h hc n g sk (upd f ((3 + ca) * 16 + lv) (f ((3 + ca) * 16 + l2))) (3 + ca) l2 (f ((3 + ca) * 16 + lv)) (by first | omega | assumption) (by first | omega | assumption)) (cwV 3 hts gX1_swapButtons_X1_put rfl rfl rfl (by decide +kernel) ⟨Nat.le_of_ble_eq_true rfl, Nat.le_of_ble_eq_true rfl⟩) (preV_of hK hP hD [0, 1] (by decide) rfl (ci := 1) (q0 := 0) rfl rfl rfl) rfl hl.1 rfl (lv_room (Nat.le_of_ble_eq_true rfl)) dX1_swapButtons_52 ⟨Nat.zero_le _, Nat.zero_le _⟩ hP hD hS [0, 1] (by decide) rfl rfl (rfl) rfl (fun H locs hP hD hS => ?_)
  exact W_v hx hb hr hlk dX1_swapButtons_55 hP hS (rfl)

set_option maxHeartbeats 4000000 in
set_option maxRecDepth 100000 in
theorem c_X1_swapButtons_no (l : Launch) (G : GG) (h : Nat) (hc : Nat) (n : Nat) (g : Nat) (sk : Int32) (f : Nat → Int32) (ca : Nat) (lv : Nat) (l2 : Nat) (h_n : n ≤ 16) (h_ca : ca < 2147483648) (h_lv : lv < 2147483648) (h_l2 : l2 < 2147483648) (h_no : ¬ (ca < 3 ∧ lv < n ∧ l2 < n)) : Met l yX1_swapButtons wsX1_swapButtons ({ frames := 1, cells := 0, slots := 0, locals := 21 } : Room) (va_Pc [.ref h, .int (nI ca), .int (nI lv), .int (nI l2)] (PB G [(h, .inr (1, [.ref hc, .int (nI n), .int (nI g), .int sk])), (hc, .inl (G.2 0, 144, .inl f))])) (QR (none)) 0 0 (fun _ => False) := by
  refine Met.go (cc := cX1_swapButtons) (maxL := 5) (ret := none) (by decide) rfl (Nat.le_of_ble_eq_true rfl) ?_
  intro p e s m below meth c ls hx hb hr hml hown hts hlk hP hK hD hS hl
  have hown : s.vm.findClass RX1 = some m.cls := hown
  have hl : lv_has ls 5 [(0, .ref h), (1, .int (nI ca)), (2, .int (nI lv)), (3, .int (nI l2))] := hl
  refine lv_iload_n hx hb dX1_swapButtons_0 rfl (lv_at hl 1 rfl) ?_
  refine cRSN (host := RX6) (As := [.int (nI ca)]) (rest := []) (v := .int (zb (ca < 3))) ⟨hx, hb, hml, hown, hts⟩ (c_X6_isCar_n l G ca (by first | omega | assumption)) ⟨va_cnB 1 hts gX1_swapButtons_X6_isCar_n114 rfl rfl rfl (hK.2 (.methodLinkNest RX1 114 yX6_isCar RX6) (by decide +kernel)) (hts (.initialized RX6) (by decide +kernel)) (by decide +kernel) ⟨Nat.le_of_ble_eq_true rfl, Nat.le_of_ble_eq_true rfl⟩, hts (.static yX6_isCar) (by decide +kernel), trivial⟩ (preS_of hK hP hD [] (by decide) rfl) rfl hl.1 rfl (lv_room (Nat.le_of_ble_eq_true rfl)) dX1_swapButtons_1 ⟨Nat.zero_le _, Nat.zero_le _⟩ ?_
  refine bb_eq (tgt := 55) hx hb dX1_swapButtons_4 (by decide) (fun c_4 => ?_) (fun c_4 => ?_)
  ·
    exact R_v hx hb hr hlk dX1_swapButtons_55
  ·
    refine lv_aload_n hx hb dX1_swapButtons_7 rfl (lv_at hl 0 rfl) ?_
    refine lv_iload_n hx hb dX1_swapButtons_8 rfl (lv_at hl 2 rfl) ?_
    refine cRV (As := [.int (nI lv)]) (rest := []) (v := .int (zb (lv < n))) ⟨hx, hb, hml, hown, hts⟩ (c_X1_hasLevel_n l G h hc n g sk f lv (by first | omega | assumption) (by first | omega | assumption)) (cwV 1 hts gX1_swapButtons_X1_hasLevel rfl rfl rfl (by decide +kernel) ⟨Nat.le_of_ble_eq_true rfl, Nat.le_of_ble_eq_true rfl⟩) (preV_of hK hP hD [0, 1] (by decide) rfl (ci := 1) (q0 := 0) rfl rfl rfl) rfl hl.1 rfl (lv_room (Nat.le_of_ble_eq_true rfl)) dX1_swapButtons_9 ⟨Nat.zero_le _, Nat.zero_le _⟩ ?_
    refine bb_eq (tgt := 55) hx hb dX1_swapButtons_12 (by decide) (fun c_12 => ?_) (fun c_12 => ?_)
    ·
      exact R_v hx hb hr hlk dX1_swapButtons_55
    ·
      refine lv_aload_n hx hb dX1_swapButtons_15 rfl (lv_at hl 0 rfl) ?_
      refine lv_iload_n hx hb dX1_swapButtons_16 rfl (lv_at hl 3 rfl) ?_
      refine cRV (As := [.int (nI l2)]) (rest := []) (v := .int (zb (l2 < n))) ⟨hx, hb, hml, hown, hts⟩ (c_X1_hasLevel_n l G h hc n g sk f l2 (by first | omega | assumption) (by first | omega | assumption)) (cwV 1 hts gX1_swapButtons_X1_hasLevel rfl rfl rfl (by decide +kernel) ⟨Nat.le_of_ble_eq_true rfl, Nat.le_of_ble_eq_true rfl⟩) (preV_of hK hP hD [0, 1] (by decide) rfl (ci := 1) (q0 := 0) rfl rfl rfl) rfl hl.1 rfl (lv_room (Nat.le_of_ble_eq_true rfl)) dX1_swapButtons_17 ⟨Nat.zero_le _, Nat.zero_le _⟩ ?_
      refine bb_eq (tgt := 55) hx hb dX1_swapButtons_20 (by decide) (fun c_20 => ?_) (fun c_20 => False.elim (by omega))
      exact R_v hx hb hr hlk dX1_swapButtons_55

