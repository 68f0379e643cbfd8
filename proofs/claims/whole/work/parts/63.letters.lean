set_option maxHeartbeats 4000000 in
set_option maxRecDepth 100000 in
theorem c_X2_isLetterAllowed (l : Launch) (G : GG) (tx : Nat) (ch : Nat) (sz : Nat) (cd : Nat → Nat) (i : Nat) (jn : Prop) (h_i : i < sz) (h_sz : sz ≤ 60) (h_cd : ∀ j_, cd j_ < 256) : Met l yX2_isLetterAllowed wsX2_isLetterAllowed ({ frames := 1, cells := 0, slots := 0, locals := 21 } : Room) (va_Pc [.ref tx, .int (nI i), .int (zb jn)] (PB G [(tx, .inr (2, [.ref ch, .int (nI sz)])), (ch, .inl (G.2 1, 60, .inl (cdI cd)))])) (QR (some (.int (zb (okP cd jn i))))) 0 0 (fun _ => False) := by
  refine Met.go (cc := cX2_isLetterAllowed) (maxL := 3) (ret := (some .boolean)) (by decide) rfl (Nat.le_of_ble_eq_true rfl) ?_
  intro p e s m below meth c ls hx hb hr hml hown hts hlk hP hK hD hS hl
  have hown : s.vm.findClass RX2 = some m.cls := hown
  have hl : lv_has ls 3 [(0, .ref tx), (1, .int (nI i)), (2, .int (zb jn))] := hl
  refine lv_iload_n hx hb dX2_isLetterAllowed_0 rfl (lv_at hl 1 rfl) ?_
  refine lv_bipush (v := nI 16) hx hb dX2_isLetterAllowed_1 (by decide) ?_
  refine bi_lt (tgt := 8) hx hb dX2_isLetterAllowed_3 (by decide) (nI_i (by omega)) (nI_i (by omega)) (fun c_3 => ?_) (fun c_3 => ?_)
  ·
    refine lv_aload_n hx hb dX2_isLetterAllowed_8 rfl (lv_at hl 0 rfl) ?_
    refine lv_iload_n hx hb dX2_isLetterAllowed_9 rfl (lv_at hl 1 rfl) ?_
    refine cRV (As := [.int (nI i)]) (rest := []) (v := .int (nI (cd i))) ⟨hx, hb, hml, hown, hts⟩ (c_X2_character l G tx ch sz cd i (by first | omega | assumption) (by first | omega | assumption) (by first | omega | assumption)) (cwV 1 hts gX2_isLetterAllowed_X2_character rfl rfl rfl (by decide +kernel) ⟨Nat.le_of_ble_eq_true rfl, Nat.le_of_ble_eq_true rfl⟩) (preV_of hK hP hD [0, 1] (by decide) rfl (ci := 2) (q0 := 0) rfl rfl rfl) rfl hl.1 rfl (lv_room (Nat.le_of_ble_eq_true rfl)) dX2_isLetterAllowed_10 ⟨Nat.zero_le _, Nat.zero_le _⟩ ?_
    by_cases w_13_71 : nI (cd i) = nI 71
    ·
      refine lv_lookup (off := 51) (tgt := 64) hx hb dX2_isLetterAllowed_13 (by decide) (by rw [w_13_71]; decide +kernel) (by decide) ?_
      have v_c := nI_e (h_cd i) (by decide) w_13_71
      refine lv_iload_n hx hb dX2_isLetterAllowed_64 rfl (lv_at hl 2 rfl) ?_
      refine bb_ne (tgt := 72) hx hb dX2_isLetterAllowed_65 (by decide) (fun c_65 => ?_) (fun c_65 => ?_)
      ·
        refine lv_iconst (v := nI 0) hx hb dX2_isLetterAllowed_72 (by decide) ?_
        exact R_z hx hb hr hlk dX2_isLetterAllowed_73 ((zb_f (fun z_ => z_.2.elim (fun y_ => y_.2 c_65) (fun y_ => absurd y_.1 (by omega)))).symm) zb_nar
      ·
        refine lv_iconst (v := nI 1) hx hb dX2_isLetterAllowed_68 (by decide) ?_
        refine lv_goto (tgt := 73) hx hb dX2_isLetterAllowed_69 (by decide) ?_
        exact R_z hx hb hr hlk dX2_isLetterAllowed_73 ((zb_t ⟨by omega, Or.inl ⟨v_c, c_65⟩⟩).symm) zb_nar
    ·
      by_cases w_13_104 : nI (cd i) = nI 104
      ·
        refine lv_lookup (off := 61) (tgt := 74) hx hb dX2_isLetterAllowed_13 (by decide) (by rw [w_13_104]; decide +kernel) (by decide) ?_
        have v_c := nI_e (h_cd i) (by decide) w_13_104
        refine lv_iload_n hx hb dX2_isLetterAllowed_74 rfl (lv_at hl 2 rfl) ?_
        refine bb_ne (tgt := 84) hx hb dX2_isLetterAllowed_75 (by decide) (fun c_75 => ?_) (fun c_75 => ?_)
        ·
          refine lv_iconst (v := nI 1) hx hb dX2_isLetterAllowed_84 (by decide) ?_
          refine lv_goto (tgt := 89) hx hb dX2_isLetterAllowed_85 (by decide) ?_
          exact R_z hx hb hr hlk dX2_isLetterAllowed_89 ((zb_t ⟨by omega, Or.inr ⟨Or.inl v_c, Or.inl c_75⟩⟩).symm) zb_nar
        ·
          refine lv_iload_n hx hb dX2_isLetterAllowed_78 rfl (lv_at hl 1 rfl) ?_
          refine lv_bipush (v := nI 15) hx hb dX2_isLetterAllowed_79 (by decide) ?_
          refine bi_ge (tgt := 88) hx hb dX2_isLetterAllowed_81 (by decide) (nI_i (by omega)) (nI_i (by omega)) (fun c_81 => ?_) (fun c_81 => ?_)
          ·
            refine lv_iconst (v := nI 0) hx hb dX2_isLetterAllowed_88 (by decide) ?_
            exact R_z hx hb hr hlk dX2_isLetterAllowed_89 ((zb_f (fun z_ => z_.2.elim (fun y_ => absurd y_.1 (by omega)) (fun y_ => y_.2.elim c_75 (fun x_ => absurd x_ (by omega))))).symm) zb_nar
          ·
            refine lv_iconst (v := nI 1) hx hb dX2_isLetterAllowed_84 (by decide) ?_
            refine lv_goto (tgt := 89) hx hb dX2_isLetterAllowed_85 (by decide) ?_
            exact R_z hx hb hr hlk dX2_isLetterAllowed_89 ((zb_t ⟨by omega, Or.inr ⟨Or.inl v_c, Or.inr (by omega)⟩⟩).symm) zb_nar
      ·
        by_cases w_13_106 : nI (cd i) = nI 106
        ·
          refine lv_lookup (off := 61) (tgt := 74) hx hb dX2_isLetterAllowed_13 (by decide) (by rw [w_13_106]; decide +kernel) (by decide) ?_
          have v_c := nI_e (h_cd i) (by decide) w_13_106
          refine lv_iload_n hx hb dX2_isLetterAllowed_74 rfl (lv_at hl 2 rfl) ?_
          refine bb_ne (tgt := 84) hx hb dX2_isLetterAllowed_75 (by decide) (fun c_75 => ?_) (fun c_75 => ?_)
          ·
            refine lv_iconst (v := nI 1) hx hb dX2_isLetterAllowed_84 (by decide) ?_
            refine lv_goto (tgt := 89) hx hb dX2_isLetterAllowed_85 (by decide) ?_
            exact R_z hx hb hr hlk dX2_isLetterAllowed_89 ((zb_t ⟨by omega, Or.inr ⟨Or.inr (Or.inl v_c), Or.inl c_75⟩⟩).symm) zb_nar
          ·
            refine lv_iload_n hx hb dX2_isLetterAllowed_78 rfl (lv_at hl 1 rfl) ?_
            refine lv_bipush (v := nI 15) hx hb dX2_isLetterAllowed_79 (by decide) ?_
            refine bi_ge (tgt := 88) hx hb dX2_isLetterAllowed_81 (by decide) (nI_i (by omega)) (nI_i (by omega)) (fun c_81 => ?_) (fun c_81 => ?_)
            ·
              refine lv_iconst (v := nI 0) hx hb dX2_isLetterAllowed_88 (by decide) ?_
              exact R_z hx hb hr hlk dX2_isLetterAllowed_89 ((zb_f (fun z_ => z_.2.elim (fun y_ => absurd y_.1 (by omega)) (fun y_ => y_.2.elim c_75 (fun x_ => absurd x_ (by omega))))).symm) zb_nar
            ·
              refine lv_iconst (v := nI 1) hx hb dX2_isLetterAllowed_84 (by decide) ?_
              refine lv_goto (tgt := 89) hx hb dX2_isLetterAllowed_85 (by decide) ?_
              exact R_z hx hb hr hlk dX2_isLetterAllowed_89 ((zb_t ⟨by omega, Or.inr ⟨Or.inr (Or.inl v_c), Or.inr (by omega)⟩⟩).symm) zb_nar
        ·
          by_cases w_13_119 : nI (cd i) = nI 119
          ·
            refine lv_lookup (off := 61) (tgt := 74) hx hb dX2_isLetterAllowed_13 (by decide) (by rw [w_13_119]; decide +kernel) (by decide) ?_
            have v_c := nI_e (h_cd i) (by decide) w_13_119
            refine lv_iload_n hx hb dX2_isLetterAllowed_74 rfl (lv_at hl 2 rfl) ?_
            refine bb_ne (tgt := 84) hx hb dX2_isLetterAllowed_75 (by decide) (fun c_75 => ?_) (fun c_75 => ?_)
            ·
              refine lv_iconst (v := nI 1) hx hb dX2_isLetterAllowed_84 (by decide) ?_
              refine lv_goto (tgt := 89) hx hb dX2_isLetterAllowed_85 (by decide) ?_
              exact R_z hx hb hr hlk dX2_isLetterAllowed_89 ((zb_t ⟨by omega, Or.inr ⟨Or.inr (Or.inr (Or.inl v_c)), Or.inl c_75⟩⟩).symm) zb_nar
            ·
              refine lv_iload_n hx hb dX2_isLetterAllowed_78 rfl (lv_at hl 1 rfl) ?_
              refine lv_bipush (v := nI 15) hx hb dX2_isLetterAllowed_79 (by decide) ?_
              refine bi_ge (tgt := 88) hx hb dX2_isLetterAllowed_81 (by decide) (nI_i (by omega)) (nI_i (by omega)) (fun c_81 => ?_) (fun c_81 => ?_)
              ·
                refine lv_iconst (v := nI 0) hx hb dX2_isLetterAllowed_88 (by decide) ?_
                exact R_z hx hb hr hlk dX2_isLetterAllowed_89 ((zb_f (fun z_ => z_.2.elim (fun y_ => absurd y_.1 (by omega)) (fun y_ => y_.2.elim c_75 (fun x_ => absurd x_ (by omega))))).symm) zb_nar
              ·
                refine lv_iconst (v := nI 1) hx hb dX2_isLetterAllowed_84 (by decide) ?_
                refine lv_goto (tgt := 89) hx hb dX2_isLetterAllowed_85 (by decide) ?_
                exact R_z hx hb hr hlk dX2_isLetterAllowed_89 ((zb_t ⟨by omega, Or.inr ⟨Or.inr (Or.inr (Or.inl v_c)), Or.inr (by omega)⟩⟩).symm) zb_nar
          ·
            by_cases w_13_120 : nI (cd i) = nI 120
            ·
              refine lv_lookup (off := 61) (tgt := 74) hx hb dX2_isLetterAllowed_13 (by decide) (by rw [w_13_120]; decide +kernel) (by decide) ?_
              have v_c := nI_e (h_cd i) (by decide) w_13_120
              refine lv_iload_n hx hb dX2_isLetterAllowed_74 rfl (lv_at hl 2 rfl) ?_
              refine bb_ne (tgt := 84) hx hb dX2_isLetterAllowed_75 (by decide) (fun c_75 => ?_) (fun c_75 => ?_)
              ·
                refine lv_iconst (v := nI 1) hx hb dX2_isLetterAllowed_84 (by decide) ?_
                refine lv_goto (tgt := 89) hx hb dX2_isLetterAllowed_85 (by decide) ?_
                exact R_z hx hb hr hlk dX2_isLetterAllowed_89 ((zb_t ⟨by omega, Or.inr ⟨Or.inr (Or.inr (Or.inr v_c)), Or.inl c_75⟩⟩).symm) zb_nar
              ·
                refine lv_iload_n hx hb dX2_isLetterAllowed_78 rfl (lv_at hl 1 rfl) ?_
                refine lv_bipush (v := nI 15) hx hb dX2_isLetterAllowed_79 (by decide) ?_
                refine bi_ge (tgt := 88) hx hb dX2_isLetterAllowed_81 (by decide) (nI_i (by omega)) (nI_i (by omega)) (fun c_81 => ?_) (fun c_81 => ?_)
                ·
                  refine lv_iconst (v := nI 0) hx hb dX2_isLetterAllowed_88 (by decide) ?_
                  exact R_z hx hb hr hlk dX2_isLetterAllowed_89 ((zb_f (fun z_ => z_.2.elim (fun y_ => absurd y_.1 (by omega)) (fun y_ => y_.2.elim c_75 (fun x_ => absurd x_ (by omega))))).symm) zb_nar
                ·
                  refine lv_iconst (v := nI 1) hx hb dX2_isLetterAllowed_84 (by decide) ?_
                  refine lv_goto (tgt := 89) hx hb dX2_isLetterAllowed_85 (by decide) ?_
                  exact R_z hx hb hr hlk dX2_isLetterAllowed_89 ((zb_t ⟨by omega, Or.inr ⟨Or.inr (Or.inr (Or.inr v_c)), Or.inr (by omega)⟩⟩).symm) zb_nar
            ·
              refine lv_lookup (off := 77) (tgt := 90) hx hb dX2_isLetterAllowed_13 (by decide) ((lv_osw w_13_71 (by decide)).trans ((lv_osw w_13_104 (by decide)).trans ((lv_osw w_13_106 (by decide)).trans ((lv_osw w_13_119 (by decide)).trans ((lv_osw w_13_120 (by decide)).trans (rfl)))))) (by decide) ?_
              refine lv_iconst (v := nI 0) hx hb dX2_isLetterAllowed_90 (by decide) ?_
              exact R_z hx hb hr hlk dX2_isLetterAllowed_91 ((zb_f (fun z_ => z_.2.elim (fun y_ => w_13_71 (by rw [y_.1])) (fun y_ => y_.1.elim (fun x_ => w_13_104 (by rw [x_])) (fun x_ => x_.elim (fun u_ => w_13_106 (by rw [u_])) (fun u_ => u_.elim (fun t_ => w_13_119 (by rw [t_])) (fun t_ => w_13_120 (by rw [t_]))))))).symm) zb_nar
  ·
    refine lv_iconst (v := nI 0) hx hb dX2_isLetterAllowed_6 (by decide) ?_
    exact R_z hx hb hr hlk dX2_isLetterAllowed_7 ((zb_f (fun z_ => absurd z_.1 (by omega))).symm) zb_nar

set_option maxHeartbeats 4000000 in
set_option maxRecDepth 100000 in
theorem c_X2_kindTold (l : Launch) (G : GG) (tx : Nat) (ch : Nat) (sz : Nat) (cd : Nat → Nat) (i : Nat) (h_i : i < sz) (h_sz : sz ≤ 60) (h_cd : ∀ j_, cd j_ < 256) (h_l : ¬ kdr (nI (cd i)) = -1) : Met l yX2_kindTold wsX2_kindTold ({ frames := 1, cells := 0, slots := 0, locals := 21 } : Room) (va_Pc [.ref tx, .int (nI i)] (PB G [(tx, .inr (2, [.ref ch, .int (nI sz)])), (ch, .inl (G.2 1, 60, .inl (cdI cd)))])) (QR (some (.int (kdr (nI (cd i)))))) 0 0 (fun _ => False) := by
  refine Met.go (cc := cX2_kindTold) (maxL := 2) (ret := (some .int)) (by decide) rfl (Nat.le_of_ble_eq_true rfl) ?_
  intro p e s m below meth c ls hx hb hr hml hown hts hlk hP hK hD hS hl
  have hown : s.vm.findClass RX2 = some m.cls := hown
  have hl : lv_has ls 2 [(0, .ref tx), (1, .int (nI i))] := hl
  refine lv_aload_n hx hb dX2_kindTold_0 rfl (lv_at hl 0 rfl) ?_
  refine lv_iload_n hx hb dX2_kindTold_1 rfl (lv_at hl 1 rfl) ?_
  refine cRV (As := [.int (nI i)]) (rest := []) (v := .int (nI (cd i))) ⟨hx, hb, hml, hown, hts⟩ (c_X2_character l G tx ch sz cd i (by first | omega | assumption) (by first | omega | assumption) (by first | omega | assumption)) (cwV 1 hts gX2_kindTold_X2_character rfl rfl rfl (by decide +kernel) ⟨Nat.le_of_ble_eq_true rfl, Nat.le_of_ble_eq_true rfl⟩) (preV_of hK hP hD [0, 1] (by decide) rfl (ci := 2) (q0 := 0) rfl rfl rfl) rfl hl.1 rfl (lv_room (Nat.le_of_ble_eq_true rfl)) dX2_kindTold_2 ⟨Nat.zero_le _, Nat.zero_le _⟩ ?_
  by_cases w_5_104 : nI (cd i) = nI 104
  ·
    refine lv_lookup (off := 35) (tgt := 40) hx hb dX2_kindTold_5 (by decide) (by rw [w_5_104]; decide +kernel) (by decide) ?_
    refine lv_iconst (v := nI 1) hx hb dX2_kindTold_40 (by decide) ?_
    exact R_i hx hb hr hlk dX2_kindTold_41 ((by rw [w_5_104]; rfl))
  ·
    by_cases w_5_106 : nI (cd i) = nI 106
    ·
      refine lv_lookup (off := 37) (tgt := 42) hx hb dX2_kindTold_5 (by decide) (by rw [w_5_106]; decide +kernel) (by decide) ?_
      refine lv_iconst (v := nI 2) hx hb dX2_kindTold_42 (by decide) ?_
      exact R_i hx hb hr hlk dX2_kindTold_43 ((by rw [w_5_106]; rfl))
    ·
      by_cases w_5_120 : nI (cd i) = nI 120
      ·
        refine lv_lookup (off := 39) (tgt := 44) hx hb dX2_kindTold_5 (by decide) (by rw [w_5_120]; decide +kernel) (by decide) ?_
        refine lv_iconst (v := nI 3) hx hb dX2_kindTold_44 (by decide) ?_
        exact R_i hx hb hr hlk dX2_kindTold_45 ((by rw [w_5_120]; rfl))
      ·
        refine lv_lookup (off := 41) (tgt := 46) hx hb dX2_kindTold_5 (by decide) ((lv_osw w_5_104 (by decide)).trans ((lv_osw w_5_106 (by decide)).trans ((lv_osw w_5_120 (by decide)).trans (rfl)))) (by decide) ?_
        refine lv_iconst (v := nI 0) hx hb dX2_kindTold_46 (by decide) ?_
        exact R_i hx hb hr hlk dX2_kindTold_47 ((kdr_0 h_l w_5_104 w_5_106 w_5_120).symm)

theorem in_c_X2_letters_X2 : ∀ w ∈ wsX20, w ∈ wsX2_letters := by decide +kernel
set_option maxHeartbeats 4000000 in
set_option maxRecDepth 100000 in
theorem c_X2_letters (l : Launch) (G : GG) (tx : Nat) (ch : Nat) (sz : Nat) (cd : Nat → Nat) (h_sz : sz ≤ 60) (h_cd : ∀ j_, cd j_ < 256) : Met l yX2_letters wsX2_letters ({ frames := 2, cells := 0, slots := 0, locals := 43 } : Room) (va_Pc [.ref tx] (PB G [(tx, .inr (2, [.ref ch, .int (nI sz)])), (ch, .inl (G.2 1, 60, .inl (cdI cd)))])) (QR (some (.int (nI (ltr cd sz))))) 0 0 (fun _ => False) := by
  refine Met.go (cc := cX2_letters) (maxL := 3) (ret := (some .int)) (by decide) rfl (Nat.le_of_ble_eq_true rfl) ?_
  intro p e s m below meth c ls hx hb hr hml hown hts hlk hP hK hD hS hl
  have hown : s.vm.findClass RX2 = some m.cls := hown
  have hl : lv_has ls 3 [(0, .ref tx)] := hl
  refine lv_iconst (v := nI 0) hx hb dX2_letters_0 (by decide) ?_
  refine lv_istore_n (lv' := [(1, .int (nI 0)), (0, .ref tx)]) hx hb dX2_letters_1 rfl hl (by decide) rfl (fun ls hl => ?_)
  refine lv_iconst (v := nI 0) hx hb dX2_letters_2 (by decide) ?_
  refine lv_istore_n (lv' := [(2, .int (nI 0)), (1, .int (nI 0)), (0, .ref tx)]) hx hb dX2_letters_3 rfl hl (by decide) rfl (fun ls hl => ?_)
  have loop_4 : ∀ (k_ : Nat) (i : Nat) (h_i : i ≤ sz) (h_e : ltr cd sz = ltrF cd (sz - i) i) (_ : sz - i < k_) (ls : Array Slot), lv_has ls 3 [(2, .int (nI i)), (1, .int (zb (gdf cd i))), (0, .ref tx)] → W p l e ({ frames := 2, cells := 0, slots := 0, locals := 43 } : Room) s m ([.ref tx] : List Value).toArray below meth c s.heap [] 0 0 (MQ below (QR (some (.int (nI (ltr cd sz))))) ([.ref tx] : List Value).toArray s 0 0 (fun _ => False)) (F0 m 4 ls []) := by
    intro k_
    induction k_ with
    | zero => intro i h_i h_e hk_; exact absurd hk_ (Nat.not_lt_zero _)
    | succ k_ ih_4 =>
      intro i h_i h_e hk_ ls hl
      refine lv_iload_n hx hb dX2_letters_4 rfl (lv_at hl 0 rfl) ?_
      refine lv_aload_n hx hb dX2_letters_5 rfl (lv_at hl 2 rfl) ?_
      refine va_get (D := G.1) (ci := 2) (v := .int (nI sz)) (C := RX2) (T := TX2) (N := 2) hx hb hts in_c_X2_letters_X2 hown hK.1 hP 0 rfl rfl 1 (by decide) (hts (.fieldLink RX2 15 "FloorPanels$HouseText" "length" "I") (by decide +kernel)) (fun _ h9 => h9) rfl dX2_letters_6 ?_
      refine bi_ge (tgt := 39) hx hb dX2_letters_9 (by decide) (nI_i (by omega)) (nI_i (by omega)) (fun c_9 => ?_) (fun c_9 => ?_)
      ·
        refine lv_iload_n hx hb dX2_letters_39 rfl (lv_at hl 0 rfl) ?_
        exact R_i hx hb hr hlk dX2_letters_40 (by rw [h_e, show sz - i = 0 by omega]; rfl)
      ·
        have h_c := h_cd i
        refine lv_aload_n hx hb dX2_letters_12 rfl (lv_at hl 2 rfl) ?_
        refine lv_iload_n hx hb dX2_letters_13 rfl (lv_at hl 0 rfl) ?_
        refine lv_iload_n hx hb dX2_letters_14 rfl (lv_at hl 1 rfl) ?_
        refine cRV (As := [.int (nI i), .int (zb (gdf cd i))]) (rest := []) (v := .int (zb (okP cd (gdf cd i) i))) ⟨hx, hb, hml, hown, hts⟩ (c_X2_isLetterAllowed l G tx ch sz cd i (gdf cd i) (by first | omega | assumption) (by first | omega | assumption) (by first | omega | assumption)) (cwV 2 hts gX2_letters_X2_isLetterAllowed rfl rfl rfl (by decide +kernel) ⟨Nat.le_of_ble_eq_true rfl, Nat.le_of_ble_eq_true rfl⟩) (preV_of hK hP hD [0, 1] (by decide) rfl (ci := 2) (q0 := 0) rfl rfl rfl) rfl hl.1 rfl (lv_room (Nat.le_of_ble_eq_true rfl)) dX2_letters_15 ⟨Nat.zero_le _, Nat.zero_le _⟩ ?_
        refine bb_eq (tgt := 39) hx hb dX2_letters_18 (by decide) (fun c_18 => ?_) (fun c_18 => ?_)
        ·
          refine lv_iload_n hx hb dX2_letters_39 rfl (lv_at hl 0 rfl) ?_
          exact R_i hx hb hr hlk dX2_letters_40 (by rw [h_e, show sz - i = sz - (i + 1) + 1 by omega, ltrF_f c_18])
        ·
          refine lv_aload_n hx hb dX2_letters_21 rfl (lv_at hl 2 rfl) ?_
          refine lv_iload_n hx hb dX2_letters_22 rfl (lv_at hl 0 rfl) ?_
          refine cRV (As := [.int (nI i)]) (rest := []) (v := .int (nI (cd i))) ⟨hx, hb, hml, hown, hts⟩ (c_X2_character l G tx ch sz cd i (by first | omega | assumption) (by first | omega | assumption) (by first | omega | assumption)) (cwV 1 hts gX2_letters_X2_character rfl rfl rfl (by decide +kernel) ⟨Nat.le_of_ble_eq_true rfl, Nat.le_of_ble_eq_true rfl⟩) (preV_of hK hP hD [0, 1] (by decide) rfl (ci := 2) (q0 := 0) rfl rfl rfl) rfl hl.1 rfl (lv_room (Nat.le_of_ble_eq_true rfl)) dX2_letters_23 ⟨Nat.zero_le _, Nat.zero_le _⟩ ?_
          refine lv_bipush (v := nI 71) hx hb dX2_letters_26 (by decide) ?_
          refine bi_ne (tgt := 33) hx hb dX2_letters_28 (by decide) (nI_i (by omega)) (nI_i (by omega)) (fun c_28 => ?_) (fun c_28 => ?_)
          ·
            refine lv_iinc (v := nI (i + 1)) (lv' := [(2, .int (nI (i + 1))), (1, .int (zb (gdf cd i))), (0, .ref tx)]) hx hb dX2_letters_33 hl (k := 0) rfl (inc_n _ 1) (by decide) rfl (fun ls hl => ?_)
            refine lv_goto (tgt := 4) hx hb dX2_letters_36 (by decide) ?_
            exact ih_4 (i + 1) (by first | omega | assumption) (by rw [h_e, show sz - i = sz - (i + 1) + 1 by omega]; exact ltrF_t c_18) (by omega) ls (lv_sub hl [0, 1, 2] (by first | (rw [zb_c (gdf_n (cd := cd) (i := i) (by omega))]; rfl) | (rw [zb_t (gdf_s (cd := cd) (i := i) (by omega))]; rfl)))
          ·
            refine lv_iconst (v := nI 1) hx hb dX2_letters_31 (by decide) ?_
            refine lv_istore_n (lv' := [(1, .int (nI 1)), (2, .int (nI i)), (0, .ref tx)]) hx hb dX2_letters_32 rfl hl (by decide) rfl (fun ls hl => ?_)
            refine lv_iinc (v := nI (i + 1)) (lv' := [(2, .int (nI (i + 1))), (1, .int (nI 1)), (0, .ref tx)]) hx hb dX2_letters_33 hl (k := 1) rfl (inc_n _ 1) (by decide) rfl (fun ls hl => ?_)
            refine lv_goto (tgt := 4) hx hb dX2_letters_36 (by decide) ?_
            exact ih_4 (i + 1) (by first | omega | assumption) (by rw [h_e, show sz - i = sz - (i + 1) + 1 by omega]; exact ltrF_t c_18) (by omega) ls (lv_sub hl [0, 1, 2] (by first | (rw [zb_c (gdf_n (cd := cd) (i := i) (by omega))]; rfl) | (rw [zb_t (gdf_s (cd := cd) (i := i) (by omega))]; rfl)))
  exact loop_4 (sz - 0 + 1) 0 (by first | omega | assumption) rfl (Nat.lt_succ_self _)  ls (lv_sub hl [0, 1, 2] (by (rw [zb_f gdf_0]; rfl)))

set_option maxHeartbeats 4000000 in
set_option maxRecDepth 100000 in
theorem c_X2_groundLetter (l : Launch) (G : GG) (tx : Nat) (ch : Nat) (sz : Nat) (cd : Nat → Nat) (h_sz : sz ≤ 60) (h_cd : ∀ j_, cd j_ < 256) : Met l yX2_groundLetter wsX2_groundLetter ({ frames := 3, cells := 0, slots := 0, locals := 65 } : Room) (va_Pc [.ref tx] (PB G [(tx, .inr (2, [.ref ch, .int (nI sz)])), (ch, .inl (G.2 1, 60, .inl (cdI cd)))])) (QR (some (.int (kth (fun x_ => cd x_ = 71) (ltr cd sz) 0 0)))) 0 0 (fun _ => False) := by
  refine Met.go (cc := cX2_groundLetter) (maxL := 3) (ret := (some .int)) (by decide) rfl (Nat.le_of_ble_eq_true rfl) ?_
  intro p e s m below meth c ls hx hb hr hml hown hts hlk hP hK hD hS hl
  have hown : s.vm.findClass RX2 = some m.cls := hown
  have hl : lv_has ls 3 [(0, .ref tx)] := hl
  refine lv_aload_n hx hb dX2_groundLetter_0 rfl (lv_at hl 0 rfl) ?_
  refine cRV (As := []) (rest := []) (v := .int (nI (ltr cd sz))) ⟨hx, hb, hml, hown, hts⟩ (c_X2_letters l G tx ch sz cd (by first | omega | assumption) (by first | omega | assumption)) (cwV 0 hts gX2_groundLetter_X2_letters rfl rfl rfl (by decide +kernel) ⟨Nat.le_of_ble_eq_true rfl, Nat.le_of_ble_eq_true rfl⟩) (preV_of hK hP hD [0, 1] (by decide) rfl (ci := 2) (q0 := 0) rfl rfl rfl) rfl hl.1 rfl (lv_room (Nat.le_of_ble_eq_true rfl)) dX2_groundLetter_1 ⟨Nat.zero_le _, Nat.zero_le _⟩ ?_
  have h_lt := ltr_le cd sz
  refine lv_istore_n (lv' := [(1, .int (nI (ltr cd sz))), (0, .ref tx)]) hx hb dX2_groundLetter_4 rfl hl (by decide) rfl (fun ls hl => ?_)
  refine lv_iconst (v := nI 0) hx hb dX2_groundLetter_5 (by decide) ?_
  refine lv_istore_n (lv' := [(2, .int (nI 0)), (1, .int (nI (ltr cd sz))), (0, .ref tx)]) hx hb dX2_groundLetter_6 rfl hl (by decide) rfl (fun ls hl => ?_)
  have loop_7 : ∀ (k_ : Nat) (i : Nat) (h_i : i ≤ ltr cd sz) (h_e : kth (fun x_ => cd x_ = 71) (ltr cd sz) 0 0 = kth (fun x_ => cd x_ = 71) (ltr cd sz - i) i 0) (_ : ltr cd sz - i < k_) (ls : Array Slot), lv_has ls 3 [(2, .int (nI i)), (1, .int (nI (ltr cd sz))), (0, .ref tx)] → W p l e ({ frames := 3, cells := 0, slots := 0, locals := 65 } : Room) s m ([.ref tx] : List Value).toArray below meth c s.heap [] 0 0 (MQ below (QR (some (.int (kth (fun x_ => cd x_ = 71) (ltr cd sz) 0 0)))) ([.ref tx] : List Value).toArray s 0 0 (fun _ => False)) (F0 m 7 ls []) := by
    intro k_
    induction k_ with
    | zero => intro i h_i h_e hk_; exact absurd hk_ (Nat.not_lt_zero _)
    | succ k_ ih_7 =>
      intro i h_i h_e hk_ ls hl
      refine lv_iload_n hx hb dX2_groundLetter_7 rfl (lv_at hl 0 rfl) ?_
      refine lv_iload_n hx hb dX2_groundLetter_8 rfl (lv_at hl 1 rfl) ?_
      refine bi_ge (tgt := 30) hx hb dX2_groundLetter_9 (by decide) (nI_i (by omega)) (nI_i (by omega)) (fun c_9 => ?_) (fun c_9 => ?_)
      ·
        refine lv_iconst (v := (-1)) hx hb dX2_groundLetter_30 (by decide) ?_
        exact R_i hx hb hr hlk dX2_groundLetter_31 (by rw [h_e, show ltr cd sz - i = 0 by omega]; rfl)
      ·
        have h_c := h_cd i
        refine lv_aload_n hx hb dX2_groundLetter_12 rfl (lv_at hl 2 rfl) ?_
        refine lv_iload_n hx hb dX2_groundLetter_13 rfl (lv_at hl 0 rfl) ?_
        refine cRV (As := [.int (nI i)]) (rest := []) (v := .int (nI (cd i))) ⟨hx, hb, hml, hown, hts⟩ (c_X2_character l G tx ch sz cd i (by first | omega | assumption) (by first | omega | assumption) (by first | omega | assumption)) (cwV 1 hts gX2_groundLetter_X2_character rfl rfl rfl (by decide +kernel) ⟨Nat.le_of_ble_eq_true rfl, Nat.le_of_ble_eq_true rfl⟩) (preV_of hK hP hD [0, 1] (by decide) rfl (ci := 2) (q0 := 0) rfl rfl rfl) rfl hl.1 rfl (lv_room (Nat.le_of_ble_eq_true rfl)) dX2_groundLetter_14 ⟨Nat.zero_le _, Nat.zero_le _⟩ ?_
        refine lv_bipush (v := nI 71) hx hb dX2_groundLetter_17 (by decide) ?_
        refine bi_ne (tgt := 24) hx hb dX2_groundLetter_19 (by decide) (nI_i (by omega)) (nI_i (by omega)) (fun c_19 => ?_) (fun c_19 => ?_)
        ·
          refine lv_iinc (v := nI (i + 1)) (lv' := [(2, .int (nI (i + 1))), (1, .int (nI (ltr cd sz))), (0, .ref tx)]) hx hb dX2_groundLetter_24 hl (k := 0) rfl (inc_n _ 1) (by decide) rfl (fun ls hl => ?_)
          refine lv_goto (tgt := 7) hx hb dX2_groundLetter_27 (by decide) ?_
          exact ih_7 (i + 1) (by first | omega | assumption) (by rw [h_e, show ltr cd sz - i = ltr cd sz - (i + 1) + 1 by omega]; exact kth_n (by omega)) (by omega) ls (lv_sub hl [0, 1, 2] (by rfl))
        ·
          refine lv_iload_n hx hb dX2_groundLetter_22 rfl (lv_at hl 0 rfl) ?_
          exact R_i hx hb hr hlk dX2_groundLetter_23 (by rw [h_e, show ltr cd sz - i = ltr cd sz - (i + 1) + 1 by omega, kth_0 (by omega)])
  exact loop_7 (ltr cd sz - 0 + 1) 0 (by first | omega | assumption) rfl (Nat.lt_succ_self _)  ls (lv_sub hl [0, 1, 2] (by rfl))

