theorem in_c_X2_firstErrorInStoreys_X2 : ∀ w ∈ wsX20, w ∈ wsX2_firstErrorInStoreys := by decide +kernel
set_option maxHeartbeats 4000000 in
set_option maxRecDepth 100000 in
theorem c_X2_firstErrorInStoreys (l : Launch) (G : GG) (tx : Nat) (ch : Nat) (sz : Nat) (cd : Nat → Nat) (st : Nat) (h_sz : sz ≤ 60) (h_cd : ∀ j_, cd j_ < 256) (h_st : st ≤ sz) : Met l yX2_firstErrorInStoreys wsX2_firstErrorInStoreys ({ frames := 1, cells := 0, slots := 0, locals := 21 } : Room) (va_Pc [.ref tx, .int (nI st)] (PB G [(tx, .inr (2, [.ref ch, .int (nI sz)])), (ch, .inl (G.2 1, 60, .inl (cdI cd)))])) (QR (some (.int (steF cd sz (sz - st) st 0 0)))) 0 0 (fun _ => False) := by
  refine Met.go (cc := cX2_firstErrorInStoreys) (maxL := 6) (ret := (some .int)) (by decide) rfl (Nat.le_of_ble_eq_true rfl) ?_
  intro p e s m below meth c ls hx hb hr hml hown hts hlk hP hK hD hS hl
  have hown : s.vm.findClass RX2 = some m.cls := hown
  have hl : lv_has ls 6 [(0, .ref tx), (1, .int (nI st))] := hl
  refine lv_iconst (v := nI 0) hx hb dX2_firstErrorInStoreys_0 (by decide) ?_
  refine lv_istore_n (lv' := [(2, .int (nI 0)), (0, .ref tx), (1, .int (nI st))]) hx hb dX2_firstErrorInStoreys_1 rfl hl (by decide) rfl (fun ls hl => ?_)
  refine lv_iconst (v := nI 0) hx hb dX2_firstErrorInStoreys_2 (by decide) ?_
  refine lv_istore_n (lv' := [(3, .int (nI 0)), (2, .int (nI 0)), (0, .ref tx), (1, .int (nI st))]) hx hb dX2_firstErrorInStoreys_3 rfl hl (by decide) rfl (fun ls hl => ?_)
  refine lv_iload_n hx hb dX2_firstErrorInStoreys_4 rfl (lv_at hl 3 rfl) ?_
  refine lv_istore (lv' := [(4, .int (nI st)), (3, .int (nI 0)), (2, .int (nI 0)), (0, .ref tx), (1, .int (nI st))]) hx hb dX2_firstErrorInStoreys_5 hl (by decide) rfl (fun ls hl => ?_)
  have loop_7 : ∀ (k_ : Nat) (i : Nat) (b : Nat) (v : Nat) (h_i : i ≤ sz) (h_b : b ≤ 30) (h_v : v ≤ 30) (h_e : steF cd sz (sz - st) st 0 0 = steF cd sz (sz - i) i b v) (_ : sz - i < k_) (ls : Array Slot), lv_has ls 6 [(4, .int (nI i)), (3, .int (nI v)), (2, .int (nI b)), (0, .ref tx), (1, .int (nI st))] → W p l e ({ frames := 1, cells := 0, slots := 0, locals := 21 } : Room) s m ([.ref tx, .int (nI st)] : List Value).toArray below meth c s.heap [] 0 0 (MQ below (QR (some (.int (steF cd sz (sz - st) st 0 0)))) ([.ref tx, .int (nI st)] : List Value).toArray s 0 0 (fun _ => False)) (F0 m 7 ls []) := by
    intro k_
    induction k_ with
    | zero => intro i b v h_i h_b h_v h_e hk_; exact absurd hk_ (Nat.not_lt_zero _)
    | succ k_ ih_7 =>
      intro i b v h_i h_b h_v h_e hk_ ls hl
      refine lv_iload hx hb dX2_firstErrorInStoreys_7 (lv_at hl 0 rfl) ?_
      refine lv_aload_n hx hb dX2_firstErrorInStoreys_9 rfl (lv_at hl 3 rfl) ?_
      refine va_get (D := G.1) (ci := 2) (v := .int (nI sz)) (C := RX2) (T := TX2) (N := 2) hx hb hts in_c_X2_firstErrorInStoreys_X2 hown hK.1 hP 0 rfl rfl 1 (by decide) (hts (.fieldLink RX2 15 "FloorPanels$HouseText" "length" "I") (by decide +kernel)) (fun _ h9 => h9) rfl dX2_firstErrorInStoreys_10 ?_
      refine bi_ge (tgt := 99) hx hb dX2_firstErrorInStoreys_13 (by decide) (nI_i (by omega)) (nI_i (by omega)) (fun c_13 => ?_) (fun c_13 => ?_)
      ·
        refine lv_iload_n hx hb dX2_firstErrorInStoreys_99 rfl (lv_at hl 1 rfl) ?_
        refine lv_iload_n hx hb dX2_firstErrorInStoreys_100 rfl (lv_at hl 2 rfl) ?_
        refine bi_le (tgt := 108) hx hb dX2_firstErrorInStoreys_101 (by decide) (nI_i (by omega)) (nI_i (by omega)) (fun c_101 => ?_) (fun c_101 => ?_)
        ·
          refine lv_aload_n hx hb dX2_firstErrorInStoreys_108 rfl (lv_at hl 3 rfl) ?_
          refine va_get (D := G.1) (ci := 2) (v := .int (nI sz)) (C := RX2) (T := TX2) (N := 2) hx hb hts in_c_X2_firstErrorInStoreys_X2 hown hK.1 hP 0 rfl rfl 1 (by decide) (hts (.fieldLink RX2 15 "FloorPanels$HouseText" "length" "I") (by decide +kernel)) (fun _ h9 => h9) rfl dX2_firstErrorInStoreys_109 ?_
          exact R_i hx hb hr hlk dX2_firstErrorInStoreys_112 (by rw [h_e, show sz - i = 0 by omega, steF_e2 (by omega)])
        ·
          refine lv_iconst (v := (-1)) hx hb dX2_firstErrorInStoreys_104 (by decide) ?_
          refine lv_goto (tgt := 112) hx hb dX2_firstErrorInStoreys_105 (by decide) ?_
          exact R_i hx hb hr hlk dX2_firstErrorInStoreys_112 (by rw [h_e, show sz - i = 0 by omega, steF_e1 (by omega)])
      ·
        have h_c := h_cd i
        refine lv_aload_n hx hb dX2_firstErrorInStoreys_16 rfl (lv_at hl 3 rfl) ?_
        refine lv_iload hx hb dX2_firstErrorInStoreys_17 (lv_at hl 0 rfl) ?_
        refine cRV (As := [.int (nI i)]) (rest := []) (v := .int (nI (cd i))) ⟨hx, hb, hml, hown, hts⟩ (c_X2_character l G tx ch sz cd i (by first | omega | assumption) (by first | omega | assumption) (by first | omega | assumption)) (cwV 1 hts gX2_firstErrorInStoreys_X2_character rfl rfl rfl (by decide +kernel) ⟨Nat.le_of_ble_eq_true rfl, Nat.le_of_ble_eq_true rfl⟩) (preV_of hK hP hD [0, 1] (by decide) rfl (ci := 2) (q0 := 0) rfl rfl rfl) rfl hl.1 rfl (lv_room (Nat.le_of_ble_eq_true rfl)) dX2_firstErrorInStoreys_19 ⟨Nat.zero_le _, Nat.zero_le _⟩ ?_
        refine lv_istore (lv' := [(5, .int (nI (cd i))), (4, .int (nI i)), (3, .int (nI v)), (2, .int (nI b)), (0, .ref tx), (1, .int (nI st))]) hx hb dX2_firstErrorInStoreys_22 hl (by decide) rfl (fun ls hl => ?_)
        refine lv_iload hx hb dX2_firstErrorInStoreys_24 (lv_at hl 0 rfl) ?_
        refine lv_bipush (v := nI 44) hx hb dX2_firstErrorInStoreys_26 (by decide) ?_
        refine bi_ne (tgt := 46) hx hb dX2_firstErrorInStoreys_28 (by decide) (nI_i (by omega)) (nI_i (by omega)) (fun c_28 => ?_) (fun c_28 => ?_)
        ·
          refine lv_iload hx hb dX2_firstErrorInStoreys_46 (lv_at hl 0 rfl) ?_
          refine lv_bipush (v := nI 48) hx hb dX2_firstErrorInStoreys_48 (by decide) ?_
          refine bi_lt (tgt := 90) hx hb dX2_firstErrorInStoreys_50 (by decide) (nI_i (by omega)) (nI_i (by omega)) (fun c_50 => ?_) (fun c_50 => ?_)
          ·
            refine lv_iload hx hb dX2_firstErrorInStoreys_90 (lv_at hl 1 rfl) ?_
            exact R_i hx hb hr hlk dX2_firstErrorInStoreys_92 (by rw [h_e, show sz - i = sz - (i + 1) + 1 by omega, steF_n (by omega) (fun z_ => by omega)])
          ·
            refine lv_iload hx hb dX2_firstErrorInStoreys_53 (lv_at hl 0 rfl) ?_
            refine lv_bipush (v := nI 57) hx hb dX2_firstErrorInStoreys_55 (by decide) ?_
            refine bi_gt (tgt := 90) hx hb dX2_firstErrorInStoreys_57 (by decide) (nI_i (by omega)) (nI_i (by omega)) (fun c_57 => ?_) (fun c_57 => ?_)
            ·
              refine lv_iload hx hb dX2_firstErrorInStoreys_90 (lv_at hl 1 rfl) ?_
              exact R_i hx hb hr hlk dX2_firstErrorInStoreys_92 (by rw [h_e, show sz - i = sz - (i + 1) + 1 by omega, steF_n (by omega) (fun z_ => by omega)])
            ·
              refine lv_bipush (v := nI 10) hx hb dX2_firstErrorInStoreys_60 (by decide) ?_
              refine lv_iload_n hx hb dX2_firstErrorInStoreys_62 rfl (lv_at hl 2 rfl) ?_
              refine nv_imul hx hb dX2_firstErrorInStoreys_63 ?_
              refine lv_iload hx hb dX2_firstErrorInStoreys_64 (lv_at hl 0 rfl) ?_
              refine nv_iadd hx hb dX2_firstErrorInStoreys_66 ?_
              refine lv_bipush (v := nI 48) hx hb dX2_firstErrorInStoreys_67 (by decide) ?_
              refine nv_isub hx hb (by omega) dX2_firstErrorInStoreys_69 ?_
              refine cRSN (host := RX6) (As := [.int (nI (((10 * v) + (cd i)) - 48))]) (rest := []) (v := .int (zb (1 ≤ (((10 * v) + (cd i)) - 48) ∧ (((10 * v) + (cd i)) - 48) ≤ 30))) ⟨hx, hb, hml, hown, hts⟩ (c_X6_canBeSkipped_n l G (((10 * v) + (cd i)) - 48) (by first | omega | assumption)) ⟨va_cnB 1 hts gX2_firstErrorInStoreys_X6_canBeSkipped_n42 rfl rfl rfl (hK.2 (.methodLinkNest RX2 42 yX6_canBeSkipped RX6) (by decide +kernel)) (hts (.initialized RX6) (by decide +kernel)) (by decide +kernel) ⟨Nat.le_of_ble_eq_true rfl, Nat.le_of_ble_eq_true rfl⟩, hts (.static yX6_canBeSkipped) (by decide +kernel), trivial⟩ (preS_of hK hP hD [] (by decide) rfl) rfl hl.1 rfl (lv_room (Nat.le_of_ble_eq_true rfl)) dX2_firstErrorInStoreys_70 ⟨Nat.zero_le _, Nat.zero_le _⟩ ?_
              refine bb_eq (tgt := 90) hx hb dX2_firstErrorInStoreys_73 (by decide) (fun c_73 => ?_) (fun c_73 => ?_)
              ·
                refine lv_iload hx hb dX2_firstErrorInStoreys_90 (lv_at hl 1 rfl) ?_
                exact R_i hx hb hr hlk dX2_firstErrorInStoreys_92 (by rw [h_e, show sz - i = sz - (i + 1) + 1 by omega, steF_n (by omega) (fun z_ => by omega)])
              ·
                refine lv_bipush (v := nI 10) hx hb dX2_firstErrorInStoreys_76 (by decide) ?_
                refine lv_iload_n hx hb dX2_firstErrorInStoreys_78 rfl (lv_at hl 2 rfl) ?_
                refine nv_imul hx hb dX2_firstErrorInStoreys_79 ?_
                refine lv_iload hx hb dX2_firstErrorInStoreys_80 (lv_at hl 0 rfl) ?_
                refine nv_iadd hx hb dX2_firstErrorInStoreys_82 ?_
                refine lv_bipush (v := nI 48) hx hb dX2_firstErrorInStoreys_83 (by decide) ?_
                refine nv_isub hx hb (by omega) dX2_firstErrorInStoreys_85 ?_
                refine lv_istore_n (lv' := [(3, .int (nI (((10 * v) + (cd i)) - 48))), (5, .int (nI (cd i))), (4, .int (nI i)), (2, .int (nI b)), (0, .ref tx), (1, .int (nI st))]) hx hb dX2_firstErrorInStoreys_86 rfl hl (by decide) rfl (fun ls hl => ?_)
                refine lv_goto (tgt := 93) hx hb dX2_firstErrorInStoreys_87 (by decide) ?_
                refine lv_iinc (v := nI (i + 1)) (lv' := [(4, .int (nI (i + 1))), (3, .int (nI (((10 * v) + (cd i)) - 48))), (5, .int (nI (cd i))), (2, .int (nI b)), (0, .ref tx), (1, .int (nI st))]) hx hb dX2_firstErrorInStoreys_93 hl (k := 2) rfl (inc_n _ 1) (by decide) rfl (fun ls hl => ?_)
                refine lv_goto (tgt := 7) hx hb dX2_firstErrorInStoreys_96 (by decide) ?_
                exact ih_7 (i + 1) b (((10 * v) + (cd i)) - 48) (by first | omega | assumption) (by first | omega | assumption) (by first | omega | assumption) (by rw [h_e, show sz - i = sz - (i + 1) + 1 by omega]; first | exact steF_c2 (by omega) (by omega) | exact steF_d (by omega) ⟨by omega, by omega, by omega, by omega⟩) (by omega) ls (lv_sub hl [0, 1, 3, 4, 5] (by rfl))
        ·
          refine lv_iload_n hx hb dX2_firstErrorInStoreys_31 rfl (lv_at hl 2 rfl) ?_
          refine lv_iload_n hx hb dX2_firstErrorInStoreys_32 rfl (lv_at hl 3 rfl) ?_
          refine bi_gt (tgt := 39) hx hb dX2_firstErrorInStoreys_33 (by decide) (nI_i (by omega)) (nI_i (by omega)) (fun c_33 => ?_) (fun c_33 => ?_)
          ·
            refine lv_iload_n hx hb dX2_firstErrorInStoreys_39 rfl (lv_at hl 2 rfl) ?_
            refine lv_istore_n (lv' := [(2, .int (nI v)), (5, .int (nI (cd i))), (4, .int (nI i)), (3, .int (nI v)), (0, .ref tx), (1, .int (nI st))]) hx hb dX2_firstErrorInStoreys_40 rfl hl (by decide) rfl (fun ls hl => ?_)
            refine lv_iconst (v := nI 0) hx hb dX2_firstErrorInStoreys_41 (by decide) ?_
            refine lv_istore_n (lv' := [(3, .int (nI 0)), (2, .int (nI v)), (5, .int (nI (cd i))), (4, .int (nI i)), (0, .ref tx), (1, .int (nI st))]) hx hb dX2_firstErrorInStoreys_42 rfl hl (by decide) rfl (fun ls hl => ?_)
            refine lv_goto (tgt := 93) hx hb dX2_firstErrorInStoreys_43 (by decide) ?_
            refine lv_iinc (v := nI (i + 1)) (lv' := [(4, .int (nI (i + 1))), (3, .int (nI 0)), (2, .int (nI v)), (5, .int (nI (cd i))), (0, .ref tx), (1, .int (nI st))]) hx hb dX2_firstErrorInStoreys_93 hl (k := 3) rfl (inc_n _ 1) (by decide) rfl (fun ls hl => ?_)
            refine lv_goto (tgt := 7) hx hb dX2_firstErrorInStoreys_96 (by decide) ?_
            exact ih_7 (i + 1) v 0 (by first | omega | assumption) (by first | omega | assumption) (by first | omega | assumption) (by rw [h_e, show sz - i = sz - (i + 1) + 1 by omega]; first | exact steF_c2 (by omega) (by omega) | exact steF_d (by omega) ⟨by omega, by omega, by omega, by omega⟩) (by omega) ls (lv_sub hl [0, 1, 2, 4, 5] (by rfl))
          ·
            refine lv_iload hx hb dX2_firstErrorInStoreys_36 (lv_at hl 1 rfl) ?_
            exact R_i hx hb hr hlk dX2_firstErrorInStoreys_38 (by rw [h_e, show sz - i = sz - (i + 1) + 1 by omega, steF_c1 (by omega) (by omega)])
  exact loop_7 (sz - st + 1) st 0 0 (by first | omega | assumption) (by first | omega | assumption) (by first | omega | assumption) rfl (Nat.lt_succ_self _)  ls (lv_sub hl [0, 1, 2, 3, 4] (by rfl))

theorem in_c_X2_firstError_X2 : ∀ w ∈ wsX20, w ∈ wsX2_firstError := by decide +kernel
set_option maxHeartbeats 4000000 in
set_option maxRecDepth 100000 in
theorem c_X2_firstError (l : Launch) (G : GG) (tx : Nat) (ch : Nat) (sz : Nat) (cd : Nat → Nat) (h_sz : sz ≤ 60) (h_cd : ∀ j_, cd j_ < 256) : Met l yX2_firstError wsX2_firstError ({ frames := 4, cells := 0, slots := 0, locals := 87 } : Room) (va_Pc [.ref tx] (PB G [(tx, .inr (2, [.ref ch, .int (nI sz)])), (ch, .inl (G.2 1, 60, .inl (cdI cd)))])) (QR (some (.int (ferr cd sz)))) 0 0 (fun _ => False) := by
  refine Met.go (cc := cX2_firstError) (maxL := 3) (ret := (some .int)) (by decide) rfl (Nat.le_of_ble_eq_true rfl) ?_
  intro p e s m below meth c ls hx hb hr hml hown hts hlk hP hK hD hS hl
  have hown : s.vm.findClass RX2 = some m.cls := hown
  have hl : lv_has ls 3 [(0, .ref tx)] := hl
  refine lv_aload_n hx hb dX2_firstError_0 rfl (lv_at hl 0 rfl) ?_
  refine cRV (As := []) (rest := []) (v := .int (nI (ltr cd sz))) ⟨hx, hb, hml, hown, hts⟩ (c_X2_letters l G tx ch sz cd (by first | omega | assumption) (by first | omega | assumption)) (cwV 0 hts gX2_firstError_X2_letters rfl rfl rfl (by decide +kernel) ⟨Nat.le_of_ble_eq_true rfl, Nat.le_of_ble_eq_true rfl⟩) (preV_of hK hP hD [0, 1] (by decide) rfl (ci := 2) (q0 := 0) rfl rfl rfl) rfl hl.1 rfl (lv_room (Nat.le_of_ble_eq_true rfl)) dX2_firstError_1 ⟨Nat.zero_le _, Nat.zero_le _⟩ ?_
  refine lv_istore_n (lv' := [(1, .int (nI (ltr cd sz))), (0, .ref tx)]) hx hb dX2_firstError_4 rfl hl (by decide) rfl (fun ls hl => ?_)
  have h_lt := ltr_le cd sz
  have h_c := h_cd (ltr cd sz)
  refine lv_aload_n hx hb dX2_firstError_5 rfl (lv_at hl 1 rfl) ?_
  refine cRV (As := []) (rest := []) (v := .int (kth (fun x_ => cd x_ = 71) (ltr cd sz) 0 0)) ⟨hx, hb, hml, hown, hts⟩ (c_X2_groundLetter l G tx ch sz cd (by first | omega | assumption) (by first | omega | assumption)) (cwV 0 hts gX2_firstError_X2_groundLetter rfl rfl rfl (by decide +kernel) ⟨Nat.le_of_ble_eq_true rfl, Nat.le_of_ble_eq_true rfl⟩) (preV_of hK hP hD [0, 1] (by decide) rfl (ci := 2) (q0 := 0) rfl rfl rfl) rfl hl.1 rfl (lv_room (Nat.le_of_ble_eq_true rfl)) dX2_firstError_6 ⟨Nat.zero_le _, Nat.zero_le _⟩ ?_
  rw [show ((kth (fun x_ => cd x_ = 71) (ltr cd sz) 0 0)) = (gnd cd sz) from rfl]
  refine lv_iconst (v := (-1)) hx hb dX2_firstError_9 (by decide) ?_
  refine lv_icmp_eq (tgt := 17) hx hb dX2_firstError_10 (by decide) (fun c_10 => ?_) (fun c_10 => ?_)
  ·
    refine lv_iconst (v := nI 0) hx hb dX2_firstError_17 (by decide) ?_
    refine lv_istore_n (lv' := [(2, .int (nI 0)), (1, .int (nI (ltr cd sz))), (0, .ref tx)]) hx hb dX2_firstError_18 rfl hl (by decide) rfl (fun ls hl => ?_)
    refine lv_iload_n hx hb dX2_firstError_19 rfl (lv_at hl 1 rfl) ?_
    refine lv_aload_n hx hb dX2_firstError_20 rfl (lv_at hl 2 rfl) ?_
    refine va_get (D := G.1) (ci := 2) (v := .int (nI sz)) (C := RX2) (T := TX2) (N := 2) hx hb hts in_c_X2_firstError_X2 hown hK.1 hP 0 rfl rfl 1 (by decide) (hts (.fieldLink RX2 15 "FloorPanels$HouseText" "length" "I") (by decide +kernel)) (fun _ h9 => h9) rfl dX2_firstError_21 ?_
    refine bi_ne (tgt := 40) hx hb dX2_firstError_24 (by decide) (nI_i (by omega)) (nI_i (by omega)) (fun c_24 => ?_) (fun c_24 => ?_)
    ·
      refine lv_iload_n hx hb dX2_firstError_40 rfl (lv_at hl 0 rfl) ?_
      refine b0_eq (tgt := 54) hx hb dX2_firstError_41 (by decide) (nI_i (by omega)) (fun c_41 => ?_) (fun c_41 => False.elim (by omega))
      refine lv_iload_n hx hb dX2_firstError_54 rfl (lv_at hl 1 rfl) ?_
      exact R_i hx hb hr hlk dX2_firstError_55 ((ferr_3 (by omega) (Or.inl c_10)).symm)
    ·
      refine lv_iload_n hx hb dX2_firstError_27 rfl (lv_at hl 0 rfl) ?_
      refine b0_eq (tgt := 35) hx hb dX2_firstError_28 (by decide) (nI_i (by omega)) (fun c_28 => ?_) (fun c_28 => False.elim (by omega))
      refine lv_aload_n hx hb dX2_firstError_35 rfl (lv_at hl 2 rfl) ?_
      refine va_get (D := G.1) (ci := 2) (v := .int (nI sz)) (C := RX2) (T := TX2) (N := 2) hx hb hts in_c_X2_firstError_X2 hown hK.1 hP 0 rfl rfl 1 (by decide) (hts (.fieldLink RX2 15 "FloorPanels$HouseText" "length" "I") (by decide +kernel)) (fun _ h9 => h9) rfl dX2_firstError_36 ?_
      exact R_i hx hb hr hlk dX2_firstError_39 ((ferr_1 (by omega) c_10).symm)
  ·
    refine lv_iconst (v := nI 1) hx hb dX2_firstError_13 (by decide) ?_
    refine lv_goto (tgt := 18) hx hb dX2_firstError_14 (by decide) ?_
    refine lv_istore_n (lv' := [(2, .int (nI 1)), (1, .int (nI (ltr cd sz))), (0, .ref tx)]) hx hb dX2_firstError_18 rfl hl (by decide) rfl (fun ls hl => ?_)
    refine lv_iload_n hx hb dX2_firstError_19 rfl (lv_at hl 1 rfl) ?_
    refine lv_aload_n hx hb dX2_firstError_20 rfl (lv_at hl 2 rfl) ?_
    refine va_get (D := G.1) (ci := 2) (v := .int (nI sz)) (C := RX2) (T := TX2) (N := 2) hx hb hts in_c_X2_firstError_X2 hown hK.1 hP 0 rfl rfl 1 (by decide) (hts (.fieldLink RX2 15 "FloorPanels$HouseText" "length" "I") (by decide +kernel)) (fun _ h9 => h9) rfl dX2_firstError_21 ?_
    refine bi_ne (tgt := 40) hx hb dX2_firstError_24 (by decide) (nI_i (by omega)) (nI_i (by omega)) (fun c_24 => ?_) (fun c_24 => ?_)
    ·
      refine lv_iload_n hx hb dX2_firstError_40 rfl (lv_at hl 0 rfl) ?_
      refine b0_eq (tgt := 54) hx hb dX2_firstError_41 (by decide) (nI_i (by omega)) (fun c_41 => False.elim (by omega)) (fun c_41 => ?_)
      refine lv_aload_n hx hb dX2_firstError_44 rfl (lv_at hl 2 rfl) ?_
      refine lv_iload_n hx hb dX2_firstError_45 rfl (lv_at hl 1 rfl) ?_
      refine cRV (As := [.int (nI (ltr cd sz))]) (rest := []) (v := .int (nI (cd (ltr cd sz)))) ⟨hx, hb, hml, hown, hts⟩ (c_X2_character l G tx ch sz cd (ltr cd sz) (by first | omega | assumption) (by first | omega | assumption) (by first | omega | assumption)) (cwV 1 hts gX2_firstError_X2_character rfl rfl rfl (by decide +kernel) ⟨Nat.le_of_ble_eq_true rfl, Nat.le_of_ble_eq_true rfl⟩) (preV_of hK hP hD [0, 1] (by decide) rfl (ci := 2) (q0 := 0) rfl rfl rfl) rfl hl.1 rfl (lv_room (Nat.le_of_ble_eq_true rfl)) dX2_firstError_46 ⟨Nat.zero_le _, Nat.zero_le _⟩ ?_
      refine lv_bipush (v := nI 47) hx hb dX2_firstError_49 (by decide) ?_
      refine bi_eq (tgt := 56) hx hb dX2_firstError_51 (by decide) (nI_i (by omega)) (nI_i (by omega)) (fun c_51 => ?_) (fun c_51 => ?_)
      ·
        refine lv_aload_n hx hb dX2_firstError_56 rfl (lv_at hl 2 rfl) ?_
        refine lv_iload_n hx hb dX2_firstError_57 rfl (lv_at hl 1 rfl) ?_
        refine lv_iconst (v := nI 1) hx hb dX2_firstError_58 (by decide) ?_
        refine nv_iadd hx hb dX2_firstError_59 ?_
        refine cRV (As := [.int (nI ((ltr cd sz) + 1))]) (rest := []) (v := .int (steF cd sz (sz - ((ltr cd sz) + 1)) ((ltr cd sz) + 1) 0 0)) ⟨hx, hb, hml, hown, hts⟩ (c_X2_firstErrorInStoreys l G tx ch sz cd ((ltr cd sz) + 1) (by first | omega | assumption) (by first | omega | assumption) (by first | omega | assumption)) (cwV 1 hts gX2_firstError_X2_firstErrorInStoreys rfl rfl rfl (by decide +kernel) ⟨Nat.le_of_ble_eq_true rfl, Nat.le_of_ble_eq_true rfl⟩) (preV_of hK hP hD [0, 1] (by decide) rfl (ci := 2) (q0 := 0) rfl rfl rfl) rfl hl.1 rfl (lv_room (Nat.le_of_ble_eq_true rfl)) dX2_firstError_60 ⟨Nat.zero_le _, Nat.zero_le _⟩ ?_
        exact R_i hx hb hr hlk dX2_firstError_63 ((ferr_4 (by omega) c_10 (by omega)).symm)
      ·
        refine lv_iload_n hx hb dX2_firstError_54 rfl (lv_at hl 1 rfl) ?_
        exact R_i hx hb hr hlk dX2_firstError_55 ((ferr_3 (by omega) (Or.inr (by omega))).symm)
    ·
      refine lv_iload_n hx hb dX2_firstError_27 rfl (lv_at hl 0 rfl) ?_
      refine b0_eq (tgt := 35) hx hb dX2_firstError_28 (by decide) (nI_i (by omega)) (fun c_28 => False.elim (by omega)) (fun c_28 => ?_)
      refine lv_iconst (v := (-1)) hx hb dX2_firstError_31 (by decide) ?_
      refine lv_goto (tgt := 39) hx hb dX2_firstError_32 (by decide) ?_
      exact R_i hx hb hr hlk dX2_firstError_39 ((ferr_2 (by omega) c_10).symm)

