set_option maxHeartbeats 4000000 in
set_option maxRecDepth 100000 in
theorem c_X7_readLevels (l : Launch) (G : GG) (M : Nat) (rf : Nat) (mt : Nat) (sz : Nat) (mn : Nat) (mtr : Nat) (md : Nat) (ac : Nat) (mk : Nat) (mik : Nat) (na : Nat) (so : Nat) (cd : Nat → Nat) (r : Nat) (sk : Int32) (mm : Nat → Int32) (h_sz : sz ≤ 60) (h_cd : ∀ j_, cd j_ < 256) : Met l yX7_readLevels wsX7_readLevels ({ frames := 1, cells := 0, slots := 0, locals := 23 } : Room) (va_Pc [.ref M, .ref r] (PB G [(M, .inr (4, [.int (nI rf), .ref mt, .int (nI sz), .ref mn, .ref mtr, .ref md, .int (nI ac), .ref mk, .ref mik, .ref na, .ref so])), (mt, .inl (G.2 0, 60, .inl (cdI cd))), (r, .inl (G.2 0, 131, .inl (mr 0 (-1) sk mm)))])) (QW G (some (.int (nI (ltr cd sz)))) [(M, .inr (4, [.int (nI rf), .ref mt, .int (nI sz), .ref mn, .ref mtr, .ref md, .int (nI ac), .ref mk, .ref mik, .ref na, .ref so])), (mt, .inl (G.2 0, 60, .inl (cdI cd))), (r, .inl (G.2 0, 131, .inl (mr (ltr cd sz) (rlg cd sz (ltr cd sz)) sk (lvf cd mm (ltr cd sz)))))] (vA [(M, .inr (4, [.int (nI rf), .ref mt, .int (nI sz), .ref mn, .ref mtr, .ref md, .int (nI ac), .ref mk, .ref mik, .ref na, .ref so])), (mt, .inl (G.2 0, 60, .inl (cdI cd))), (r, .inl (G.2 0, 131, .inl (mr 0 (-1) sk mm)))])) 0 0 (vA [(M, .inr (4, [.int (nI rf), .ref mt, .int (nI sz), .ref mn, .ref mtr, .ref md, .int (nI ac), .ref mk, .ref mik, .ref na, .ref so])), (mt, .inl (G.2 0, 60, .inl (cdI cd))), (r, .inl (G.2 0, 131, .inl (mr 0 (-1) sk mm)))]) := by
  refine Met.go (cc := cX7_readLevels) (maxL := 5) (ret := (some .int)) (by decide) rfl (Nat.le_of_ble_eq_true rfl) ?_
  intro p e s m below meth c ls hx hb hr hml hown hts hlk hP hK hD hS hl
  have hown : s.vm.findClass RX7 = some m.cls := hown
  have hl : lv_has ls 5 [(0, .ref M), (1, .ref r)] := hl
  refine lv_iconst (v := nI 0) hx hb dX7_readLevels_0 (by decide) ?_
  refine lv_istore_n (lv' := [(2, .int (nI 0)), (0, .ref M), (1, .ref r)]) hx hb dX7_readLevels_1 rfl hl (by decide) rfl (fun ls hl => ?_)
  refine lv_iconst (v := (-1)) hx hb dX7_readLevels_2 (by decide) ?_
  refine lv_istore_n (lv' := [(3, .int (-1)), (2, .int (nI 0)), (0, .ref M), (1, .ref r)]) hx hb dX7_readLevels_3 rfl hl (by decide) rfl (fun ls hl => ?_)
  have loop_4 : ∀ (k_ : Nat) (i : Nat) (h_i : i ≤ sz) (h_i2 : i ≤ 16) (h_e : ltr cd sz = ltrF cd (sz - i) i) (_ : sz - i < k_) (H : Heap) (locs : List Loc) (_ : VP G [(M, .inr (4, [.int (nI rf), .ref mt, .int (nI sz), .ref mn, .ref mtr, .ref md, .int (nI ac), .ref mk, .ref mik, .ref na, .ref so])), (mt, .inl (G.2 0, 60, .inl (cdI cd))), (r, .inl (G.2 0, 131, .inl (mr i (-1) sk (lvf cd mm i))))] H) (_ : va_D (vA [(M, .inr (4, [.int (nI rf), .ref mt, .int (nI sz), .ref mn, .ref mtr, .ref md, .int (nI ac), .ref mk, .ref mik, .ref na, .ref so])), (mt, .inl (G.2 0, 60, .inl (cdI cd))), (r, .inl (G.2 0, 131, .inl (mr 0 (-1) sk mm)))]) [(M, .inr (4, [.int (nI rf), .ref mt, .int (nI sz), .ref mn, .ref mtr, .ref md, .int (nI ac), .ref mk, .ref mik, .ref na, .ref so])), (mt, .inl (G.2 0, 60, .inl (cdI cd))), (r, .inl (G.2 0, 131, .inl (mr i (-1) sk (lvf cd mm i))))]) (_ : va_S (vA [(M, .inr (4, [.int (nI rf), .ref mt, .int (nI sz), .ref mn, .ref mtr, .ref md, .int (nI ac), .ref mk, .ref mik, .ref na, .ref so])), (mt, .inl (G.2 0, 60, .inl (cdI cd))), (r, .inl (G.2 0, 131, .inl (mr 0 (-1) sk mm)))]) s.heap H locs) (ls : Array Slot), lv_has ls 5 [(3, .int (gdI cd i)), (2, .int (nI i)), (0, .ref M), (1, .ref r)] → W p l e ({ frames := 1, cells := 0, slots := 0, locals := 23 } : Room) s m ([.ref M, .ref r] : List Value).toArray below meth c H locs 0 0 (MQ below (QW G (some (.int (nI (ltr cd sz)))) [(M, .inr (4, [.int (nI rf), .ref mt, .int (nI sz), .ref mn, .ref mtr, .ref md, .int (nI ac), .ref mk, .ref mik, .ref na, .ref so])), (mt, .inl (G.2 0, 60, .inl (cdI cd))), (r, .inl (G.2 0, 131, .inl (mr (ltr cd sz) (rlg cd sz (ltr cd sz)) sk (lvf cd mm (ltr cd sz)))))] (vA [(M, .inr (4, [.int (nI rf), .ref mt, .int (nI sz), .ref mn, .ref mtr, .ref md, .int (nI ac), .ref mk, .ref mik, .ref na, .ref so])), (mt, .inl (G.2 0, 60, .inl (cdI cd))), (r, .inl (G.2 0, 131, .inl (mr 0 (-1) sk mm)))])) ([.ref M, .ref r] : List Value).toArray s 0 0 (vA [(M, .inr (4, [.int (nI rf), .ref mt, .int (nI sz), .ref mn, .ref mtr, .ref md, .int (nI ac), .ref mk, .ref mik, .ref na, .ref so])), (mt, .inl (G.2 0, 60, .inl (cdI cd))), (r, .inl (G.2 0, 131, .inl (mr 0 (-1) sk mm)))])) (F0 m 4 ls []) := by
    intro k_
    induction k_ with
    | zero => intro i h_i h_i2 h_e hk_; exact absurd hk_ (Nat.not_lt_zero _)
    | succ k_ ih_4 =>
      intro i h_i h_i2 h_e hk_ H locs hP hD hS ls hl
      refine lv_aload_n hx hb dX7_readLevels_4 rfl (lv_at hl 2 rfl) ?_
      refine lv_iload_n hx hb dX7_readLevels_5 rfl (lv_at hl 1 rfl) ?_
      refine cRV (As := [.int (nI i)]) (rest := []) (v := .int (atv cd sz i)) ⟨hx, hb, hml, hown, hts⟩ (c_X7_at l G M rf mt sz mn mtr md ac mk mik na so cd i (by first | omega | assumption) (by first | omega | assumption)) (cwV 1 hts gX7_readLevels_X7_at rfl rfl rfl (by decide +kernel) ⟨Nat.le_of_ble_eq_true rfl, Nat.le_of_ble_eq_true rfl⟩) (preV_of hK hP hD [0, 1] (by decide) rfl (ci := 4) (q0 := 0) rfl rfl rfl) rfl hl.1 rfl (lv_room (Nat.le_of_ble_eq_true rfl)) dX7_readLevels_6 ⟨Nat.zero_le _, Nat.zero_le _⟩ ?_
      refine cRS (As := [.int (atv cd sz i)]) (rest := []) (v := .int (kdr (atv cd sz i))) ⟨hx, hb, hml, hown, hts⟩ (c_X7_kindOf l G (atv cd sz i) ) (va_cwS 1 hts gX7_readLevels_X7_kindOf rfl rfl rfl (by decide +kernel) ⟨Nat.le_of_ble_eq_true rfl, Nat.le_of_ble_eq_true rfl⟩) (preS_of hK hP hD [] (by decide) rfl) rfl hl.1 rfl (lv_room (Nat.le_of_ble_eq_true rfl)) dX7_readLevels_9 ⟨Nat.zero_le _, Nat.zero_le _⟩ ?_
      refine lv_iconst (v := (-1)) hx hb dX7_readLevels_12 (by decide) ?_
      refine lv_icmp_eq (tgt := 102) hx hb dX7_readLevels_13 (by decide) (fun c_13 => ?_) (fun c_13 => ?_)
      ·
        refine lv_aload_n hx hb dX7_readLevels_102 rfl (lv_at hl 3 rfl) ?_
        refine lv_iconst (v := nI 1) hx hb dX7_readLevels_103 (by decide) ?_
        refine lv_iload_n hx hb dX7_readLevels_104 rfl (lv_at hl 0 rfl) ?_
        refine nv_iast hx hb hK hP hD hS 2 rfl (v := (gdI cd i)) rfl (by omega) (by decide) dX7_readLevels_105 (w3 := [(M, .inr (4, [.int (nI rf), .ref mt, .int (nI sz), .ref mn, .ref mtr, .ref md, .int (nI ac), .ref mk, .ref mik, .ref na, .ref so])), (mt, .inl (G.2 0, 60, .inl (cdI cd))), (r, .inl (G.2 0, 131, .inl (mr i (gdI cd i) sk (lvf cd mm i))))]) (by rw [mr_u1]; rfl) (fun H locs hP hD hS => ?_)
        refine lv_iload_n hx hb dX7_readLevels_106 rfl (lv_at hl 1 rfl) ?_
        exact W_i hx hb hr hlk dX7_readLevels_107 hP hS (by rw [ltr_x h_i h_e (fun z_ => no_k (atv_k c_13 z_))]) (by rw [ltr_x h_i h_e (fun z_ => no_k (atv_k c_13 z_)), rlg_k c_13])
      ·
        have h_in := atv_in c_13
        have h_k2 : ¬ kdr (nI (cd i)) = -1 := fun z_ => c_13 (by rw [h_in.2]; exact z_)
        have h_c := h_cd i
        refine lv_aload_n hx hb dX7_readLevels_16 rfl (lv_at hl 3 rfl) ?_
        refine lv_iconst (v := nI 0) hx hb dX7_readLevels_17 (by decide) ?_
        refine nv_iald hx hb hK hP 2 rfl (by omega) (by decide) dX7_readLevels_18 ?_
        rw [show (mr i (-1) sk (lvf cd mm i)) 0 = nI i from mr_0]
        refine lv_bipush (v := nI 16) hx hb dX7_readLevels_19 (by decide) ?_
        refine bi_ge (tgt := 102) hx hb dX7_readLevels_21 (by decide) (nI_i (by omega)) (nI_i (by omega)) (fun c_21 => ?_) (fun c_21 => ?_)
        ·
          refine lv_aload_n hx hb dX7_readLevels_102 rfl (lv_at hl 3 rfl) ?_
          refine lv_iconst (v := nI 1) hx hb dX7_readLevels_103 (by decide) ?_
          refine lv_iload_n hx hb dX7_readLevels_104 rfl (lv_at hl 0 rfl) ?_
          refine nv_iast hx hb hK hP hD hS 2 rfl (v := (gdI cd i)) rfl (by omega) (by decide) dX7_readLevels_105 (w3 := [(M, .inr (4, [.int (nI rf), .ref mt, .int (nI sz), .ref mn, .ref mtr, .ref md, .int (nI ac), .ref mk, .ref mik, .ref na, .ref so])), (mt, .inl (G.2 0, 60, .inl (cdI cd))), (r, .inl (G.2 0, 131, .inl (mr i (gdI cd i) sk (lvf cd mm i))))]) (by rw [mr_u1]; rfl) (fun H locs hP hD hS => ?_)
          refine lv_iload_n hx hb dX7_readLevels_106 rfl (lv_at hl 1 rfl) ?_
          exact W_i hx hb hr hlk dX7_readLevels_107 hP hS (by rw [ltr_x h_i h_e (fun z_ => no_16 (by omega))]) (by rw [ltr_x h_i h_e (fun z_ => no_16 (by omega)), rlg_16 (by omega)])
        ·
          refine lv_aload_n hx hb dX7_readLevels_24 rfl (lv_at hl 2 rfl) ?_
          refine lv_iload_n hx hb dX7_readLevels_25 rfl (lv_at hl 1 rfl) ?_
          refine cRV (As := [.int (nI i)]) (rest := []) (v := .int (atv cd sz i)) ⟨hx, hb, hml, hown, hts⟩ (c_X7_at l G M rf mt sz mn mtr md ac mk mik na so cd i (by first | omega | assumption) (by first | omega | assumption)) (cwV 1 hts gX7_readLevels_X7_at rfl rfl rfl (by decide +kernel) ⟨Nat.le_of_ble_eq_true rfl, Nat.le_of_ble_eq_true rfl⟩) (preV_of hK hP hD [0, 1] (by decide) rfl (ci := 4) (q0 := 0) rfl rfl rfl) rfl hl.1 rfl (lv_room (Nat.le_of_ble_eq_true rfl)) dX7_readLevels_26 ⟨Nat.zero_le _, Nat.zero_le _⟩ ?_
          refine lv_bipush (v := nI 71) hx hb dX7_readLevels_29 (by decide) ?_
          refine lv_icmp_ne (tgt := 38) hx hb dX7_readLevels_31 (by decide) (fun c_31 => ?_) (fun c_31 => ?_)
          ·
            have v_c : ¬ cd i = 71 := fun z_ => c_31 (by rw [h_in.2, z_])
            refine lv_iconst (v := nI 0) hx hb dX7_readLevels_38 (by decide) ?_
            refine lv_istore (lv' := [(4, .int (nI 0)), (3, .int (gdI cd i)), (2, .int (nI i)), (0, .ref M), (1, .ref r)]) hx hb dX7_readLevels_39 hl (by decide) rfl (fun ls hl => ?_)
            refine lv_iload hx hb dX7_readLevels_41 (lv_at hl 0 rfl) ?_
            refine b0_eq (tgt := 54) hx hb dX7_readLevels_43 (by decide) (nI_i (by omega)) (fun c_43 => ?_) (fun c_43 => False.elim (by omega))
            refine lv_iload_n hx hb dX7_readLevels_54 rfl (lv_at hl 1 rfl) ?_
            refine lv_iconst (v := (-1)) hx hb dX7_readLevels_55 (by decide) ?_
            refine lv_icmp_ne (tgt := 69) hx hb dX7_readLevels_56 (by decide) (fun c_56 => ?_) (fun c_56 => ?_)
            ·
              refine lv_iload hx hb dX7_readLevels_69 (lv_at hl 0 rfl) ?_
              refine b0_eq (tgt := 78) hx hb dX7_readLevels_71 (by decide) (nI_i (by omega)) (fun c_71 => ?_) (fun c_71 => False.elim (by omega))
              refine lv_iload_n hx hb dX7_readLevels_78 rfl (lv_at hl 1 rfl) ?_
              refine lv_istore_n (lv' := [(3, .int (gdI cd i)), (4, .int (nI 0)), (2, .int (nI i)), (0, .ref M), (1, .ref r)]) hx hb dX7_readLevels_79 rfl hl (by decide) rfl (fun ls hl => ?_)
              refine lv_aload_n hx hb dX7_readLevels_80 rfl (lv_at hl 4 rfl) ?_
              refine lv_aload_n hx hb dX7_readLevels_81 rfl (lv_at hl 4 rfl) ?_
              refine lv_iconst (v := nI 0) hx hb dX7_readLevels_82 (by decide) ?_
              refine nv_iald hx hb hK hP 2 rfl (by omega) (by decide) dX7_readLevels_83 ?_
              rw [show (mr i (-1) sk (lvf cd mm i)) 0 = nI i from mr_0]
              refine lv_aload_n hx hb dX7_readLevels_84 rfl (lv_at hl 3 rfl) ?_
              refine lv_iload_n hx hb dX7_readLevels_85 rfl (lv_at hl 2 rfl) ?_
              refine cRV (As := [.int (nI i)]) (rest := [.int (nI i), .ref r]) (v := .int (atv cd sz i)) ⟨hx, hb, hml, hown, hts⟩ (c_X7_at l G M rf mt sz mn mtr md ac mk mik na so cd i (by first | omega | assumption) (by first | omega | assumption)) (cwV 1 hts gX7_readLevels_X7_at rfl rfl rfl (by decide +kernel) ⟨Nat.le_of_ble_eq_true rfl, Nat.le_of_ble_eq_true rfl⟩) (preV_of hK hP hD [0, 1] (by decide) rfl (ci := 4) (q0 := 0) rfl rfl rfl) rfl hl.1 rfl (lv_room (Nat.le_of_ble_eq_true rfl)) dX7_readLevels_86 ⟨Nat.zero_le _, Nat.zero_le _⟩ ?_
              refine cRS (As := [.int (atv cd sz i)]) (rest := [.int (nI i), .ref r]) (v := .int (kdr (atv cd sz i))) ⟨hx, hb, hml, hown, hts⟩ (c_X7_kindOf l G (atv cd sz i) ) (va_cwS 1 hts gX7_readLevels_X7_kindOf rfl rfl rfl (by decide +kernel) ⟨Nat.le_of_ble_eq_true rfl, Nat.le_of_ble_eq_true rfl⟩) (preS_of hK hP hD [] (by decide) rfl) rfl hl.1 rfl (lv_room (Nat.le_of_ble_eq_true rfl)) dX7_readLevels_89 ⟨Nat.zero_le _, Nat.zero_le _⟩ ?_
              refine cWS (As := [.ref r, .int (nI i), .int (kdr (atv cd sz i))]) (rest := []) (st1 := [.int (nI (i + 1))]) (w3 := [(M, .inr (4, [.int (nI rf), .ref mt, .int (nI sz), .ref mn, .ref mtr, .ref md, .int (nI ac), .ref mk, .ref mik, .ref na, .ref so])), (mt, .inl (G.2 0, 60, .inl (cdI cd))), (r, .inl (G.2 0, 131, .inl (mr (i + 1) (-1) sk (lvf cd mm (i + 1)))))]) ⟨hx, hb, hml, hown, hts⟩ (c_X7_insert_end l G r i (-1) sk (lvf cd mm i) (kdr (atv cd sz i)) (by first | omega | assumption) (Or.inl rfl)) (va_cwS 3 hts gX7_readLevels_X7_insert rfl rfl rfl (by decide +kernel) ⟨Nat.le_of_ble_eq_true rfl, Nat.le_of_ble_eq_true rfl⟩) (preS_of hK hP hD [2] (by decide) rfl) rfl hl.1 rfl (lv_room (Nat.le_of_ble_eq_true rfl)) dX7_readLevels_92 ⟨Nat.zero_le _, Nat.zero_le _⟩ hP hD hS [2] (by decide) rfl rfl (by rw [h_in.2]; rfl) rfl (fun H locs hP hD hS => ?_)
              refine lv_pop hx hb dX7_readLevels_95 rfl ?_
              refine lv_iinc (v := nI (i + 1)) (lv' := [(2, .int (nI (i + 1))), (3, .int (gdI cd i)), (4, .int (nI 0)), (0, .ref M), (1, .ref r)]) hx hb dX7_readLevels_96 hl (k := 2) rfl (inc_n _ 1) (by decide) rfl (fun ls hl => ?_)
              refine lv_goto (tgt := 4) hx hb dX7_readLevels_99 (by decide) ?_
              exact ih_4 (i + 1) (by first | omega | assumption) (by first | omega | assumption) (by rw [h_e, show sz - i = sz - (i + 1) + 1 by omega]; first | exact ltrF_t (ok_g (by omega) (by assumption) (by assumption)) | exact ltrF_t (ok_l (by omega) h_c (by assumption) h_k2 (Or.inl (by assumption))) | exact ltrF_t (ok_l (by omega) h_c (by assumption) h_k2 (Or.inr (by omega)))) (by omega) _ _ hP hD hS ls (lv_sub hl [1, 0, 3, 4] (by first | (rw [gdI_t (by assumption)]; rfl) | (rw [gdI_f (by assumption)]; rfl)))
            ·
              refine lv_aload_n hx hb dX7_readLevels_59 rfl (lv_at hl 4 rfl) ?_
              refine lv_iconst (v := nI 0) hx hb dX7_readLevels_60 (by decide) ?_
              refine nv_iald hx hb hK hP 2 rfl (by omega) (by decide) dX7_readLevels_61 ?_
              rw [show (mr i (-1) sk (lvf cd mm i)) 0 = nI i from mr_0]
              refine lv_bipush (v := nI 15) hx hb dX7_readLevels_62 (by decide) ?_
              refine bi_ne (tgt := 69) hx hb dX7_readLevels_64 (by decide) (nI_i (by omega)) (nI_i (by omega)) (fun c_64 => ?_) (fun c_64 => ?_)
              ·
                refine lv_iload hx hb dX7_readLevels_69 (lv_at hl 0 rfl) ?_
                refine b0_eq (tgt := 78) hx hb dX7_readLevels_71 (by decide) (nI_i (by omega)) (fun c_71 => ?_) (fun c_71 => False.elim (by omega))
                refine lv_iload_n hx hb dX7_readLevels_78 rfl (lv_at hl 1 rfl) ?_
                refine lv_istore_n (lv' := [(3, .int (gdI cd i)), (4, .int (nI 0)), (2, .int (nI i)), (0, .ref M), (1, .ref r)]) hx hb dX7_readLevels_79 rfl hl (by decide) rfl (fun ls hl => ?_)
                refine lv_aload_n hx hb dX7_readLevels_80 rfl (lv_at hl 4 rfl) ?_
                refine lv_aload_n hx hb dX7_readLevels_81 rfl (lv_at hl 4 rfl) ?_
                refine lv_iconst (v := nI 0) hx hb dX7_readLevels_82 (by decide) ?_
                refine nv_iald hx hb hK hP 2 rfl (by omega) (by decide) dX7_readLevels_83 ?_
                rw [show (mr i (-1) sk (lvf cd mm i)) 0 = nI i from mr_0]
                refine lv_aload_n hx hb dX7_readLevels_84 rfl (lv_at hl 3 rfl) ?_
                refine lv_iload_n hx hb dX7_readLevels_85 rfl (lv_at hl 2 rfl) ?_
                refine cRV (As := [.int (nI i)]) (rest := [.int (nI i), .ref r]) (v := .int (atv cd sz i)) ⟨hx, hb, hml, hown, hts⟩ (c_X7_at l G M rf mt sz mn mtr md ac mk mik na so cd i (by first | omega | assumption) (by first | omega | assumption)) (cwV 1 hts gX7_readLevels_X7_at rfl rfl rfl (by decide +kernel) ⟨Nat.le_of_ble_eq_true rfl, Nat.le_of_ble_eq_true rfl⟩) (preV_of hK hP hD [0, 1] (by decide) rfl (ci := 4) (q0 := 0) rfl rfl rfl) rfl hl.1 rfl (lv_room (Nat.le_of_ble_eq_true rfl)) dX7_readLevels_86 ⟨Nat.zero_le _, Nat.zero_le _⟩ ?_
                refine cRS (As := [.int (atv cd sz i)]) (rest := [.int (nI i), .ref r]) (v := .int (kdr (atv cd sz i))) ⟨hx, hb, hml, hown, hts⟩ (c_X7_kindOf l G (atv cd sz i) ) (va_cwS 1 hts gX7_readLevels_X7_kindOf rfl rfl rfl (by decide +kernel) ⟨Nat.le_of_ble_eq_true rfl, Nat.le_of_ble_eq_true rfl⟩) (preS_of hK hP hD [] (by decide) rfl) rfl hl.1 rfl (lv_room (Nat.le_of_ble_eq_true rfl)) dX7_readLevels_89 ⟨Nat.zero_le _, Nat.zero_le _⟩ ?_
                refine cWS (As := [.ref r, .int (nI i), .int (kdr (atv cd sz i))]) (rest := []) (st1 := [.int (nI (i + 1))]) (w3 := [(M, .inr (4, [.int (nI rf), .ref mt, .int (nI sz), .ref mn, .ref mtr, .ref md, .int (nI ac), .ref mk, .ref mik, .ref na, .ref so])), (mt, .inl (G.2 0, 60, .inl (cdI cd))), (r, .inl (G.2 0, 131, .inl (mr (i + 1) (-1) sk (lvf cd mm (i + 1)))))]) ⟨hx, hb, hml, hown, hts⟩ (c_X7_insert_end l G r i (-1) sk (lvf cd mm i) (kdr (atv cd sz i)) (by first | omega | assumption) (Or.inl rfl)) (va_cwS 3 hts gX7_readLevels_X7_insert rfl rfl rfl (by decide +kernel) ⟨Nat.le_of_ble_eq_true rfl, Nat.le_of_ble_eq_true rfl⟩) (preS_of hK hP hD [2] (by decide) rfl) rfl hl.1 rfl (lv_room (Nat.le_of_ble_eq_true rfl)) dX7_readLevels_92 ⟨Nat.zero_le _, Nat.zero_le _⟩ hP hD hS [2] (by decide) rfl rfl (by rw [h_in.2]; rfl) rfl (fun H locs hP hD hS => ?_)
                refine lv_pop hx hb dX7_readLevels_95 rfl ?_
                refine lv_iinc (v := nI (i + 1)) (lv' := [(2, .int (nI (i + 1))), (3, .int (gdI cd i)), (4, .int (nI 0)), (0, .ref M), (1, .ref r)]) hx hb dX7_readLevels_96 hl (k := 2) rfl (inc_n _ 1) (by decide) rfl (fun ls hl => ?_)
                refine lv_goto (tgt := 4) hx hb dX7_readLevels_99 (by decide) ?_
                exact ih_4 (i + 1) (by first | omega | assumption) (by first | omega | assumption) (by rw [h_e, show sz - i = sz - (i + 1) + 1 by omega]; first | exact ltrF_t (ok_g (by omega) (by assumption) (by assumption)) | exact ltrF_t (ok_l (by omega) h_c (by assumption) h_k2 (Or.inl (by assumption))) | exact ltrF_t (ok_l (by omega) h_c (by assumption) h_k2 (Or.inr (by omega)))) (by omega) _ _ hP hD hS ls (lv_sub hl [1, 0, 3, 4] (by first | (rw [gdI_t (by assumption)]; rfl) | (rw [gdI_f (by assumption)]; rfl)))
              ·
                refine lv_iload_n hx hb dX7_readLevels_67 rfl (lv_at hl 2 rfl) ?_
                exact W_i hx hb hr hlk dX7_readLevels_68 hP hS (by rw [ltr_x h_i h_e (fun _ => no_l (by omega) v_c (by assumption))]) (by rw [ltr_x h_i h_e (fun _ => no_l (by omega) v_c (by assumption)), rlg_t (by omega) c_13])
          ·
            have v_c : cd i = 71 := nI_e h_c (by decide) (h_in.2.symm.trans c_31)
            refine lv_iconst (v := nI 1) hx hb dX7_readLevels_34 (by decide) ?_
            refine lv_goto (tgt := 39) hx hb dX7_readLevels_35 (by decide) ?_
            refine lv_istore (lv' := [(4, .int (nI 1)), (3, .int (gdI cd i)), (2, .int (nI i)), (0, .ref M), (1, .ref r)]) hx hb dX7_readLevels_39 hl (by decide) rfl (fun ls hl => ?_)
            refine lv_iload hx hb dX7_readLevels_41 (lv_at hl 0 rfl) ?_
            refine b0_eq (tgt := 54) hx hb dX7_readLevels_43 (by decide) (nI_i (by omega)) (fun c_43 => False.elim (by omega)) (fun c_43 => ?_)
            refine lv_iload_n hx hb dX7_readLevels_46 rfl (lv_at hl 1 rfl) ?_
            refine lv_iconst (v := (-1)) hx hb dX7_readLevels_47 (by decide) ?_
            refine lv_icmp_eq (tgt := 69) hx hb dX7_readLevels_48 (by decide) (fun c_48 => ?_) (fun c_48 => ?_)
            ·
              refine lv_iload hx hb dX7_readLevels_69 (lv_at hl 0 rfl) ?_
              refine b0_eq (tgt := 78) hx hb dX7_readLevels_71 (by decide) (nI_i (by omega)) (fun c_71 => False.elim (by omega)) (fun c_71 => ?_)
              refine lv_iload_n hx hb dX7_readLevels_74 rfl (lv_at hl 2 rfl) ?_
              refine lv_goto (tgt := 79) hx hb dX7_readLevels_75 (by decide) ?_
              refine lv_istore_n (lv' := [(3, .int (nI i)), (4, .int (nI 1)), (2, .int (nI i)), (0, .ref M), (1, .ref r)]) hx hb dX7_readLevels_79 rfl hl (by decide) rfl (fun ls hl => ?_)
              refine lv_aload_n hx hb dX7_readLevels_80 rfl (lv_at hl 4 rfl) ?_
              refine lv_aload_n hx hb dX7_readLevels_81 rfl (lv_at hl 4 rfl) ?_
              refine lv_iconst (v := nI 0) hx hb dX7_readLevels_82 (by decide) ?_
              refine nv_iald hx hb hK hP 2 rfl (by omega) (by decide) dX7_readLevels_83 ?_
              rw [show (mr i (-1) sk (lvf cd mm i)) 0 = nI i from mr_0]
              refine lv_aload_n hx hb dX7_readLevels_84 rfl (lv_at hl 3 rfl) ?_
              refine lv_iload_n hx hb dX7_readLevels_85 rfl (lv_at hl 2 rfl) ?_
              refine cRV (As := [.int (nI i)]) (rest := [.int (nI i), .ref r]) (v := .int (atv cd sz i)) ⟨hx, hb, hml, hown, hts⟩ (c_X7_at l G M rf mt sz mn mtr md ac mk mik na so cd i (by first | omega | assumption) (by first | omega | assumption)) (cwV 1 hts gX7_readLevels_X7_at rfl rfl rfl (by decide +kernel) ⟨Nat.le_of_ble_eq_true rfl, Nat.le_of_ble_eq_true rfl⟩) (preV_of hK hP hD [0, 1] (by decide) rfl (ci := 4) (q0 := 0) rfl rfl rfl) rfl hl.1 rfl (lv_room (Nat.le_of_ble_eq_true rfl)) dX7_readLevels_86 ⟨Nat.zero_le _, Nat.zero_le _⟩ ?_
              refine cRS (As := [.int (atv cd sz i)]) (rest := [.int (nI i), .ref r]) (v := .int (kdr (atv cd sz i))) ⟨hx, hb, hml, hown, hts⟩ (c_X7_kindOf l G (atv cd sz i) ) (va_cwS 1 hts gX7_readLevels_X7_kindOf rfl rfl rfl (by decide +kernel) ⟨Nat.le_of_ble_eq_true rfl, Nat.le_of_ble_eq_true rfl⟩) (preS_of hK hP hD [] (by decide) rfl) rfl hl.1 rfl (lv_room (Nat.le_of_ble_eq_true rfl)) dX7_readLevels_89 ⟨Nat.zero_le _, Nat.zero_le _⟩ ?_
              refine cWS (As := [.ref r, .int (nI i), .int (kdr (atv cd sz i))]) (rest := []) (st1 := [.int (nI (i + 1))]) (w3 := [(M, .inr (4, [.int (nI rf), .ref mt, .int (nI sz), .ref mn, .ref mtr, .ref md, .int (nI ac), .ref mk, .ref mik, .ref na, .ref so])), (mt, .inl (G.2 0, 60, .inl (cdI cd))), (r, .inl (G.2 0, 131, .inl (mr (i + 1) (-1) sk (lvf cd mm (i + 1)))))]) ⟨hx, hb, hml, hown, hts⟩ (c_X7_insert_end l G r i (-1) sk (lvf cd mm i) (kdr (atv cd sz i)) (by first | omega | assumption) (Or.inl rfl)) (va_cwS 3 hts gX7_readLevels_X7_insert rfl rfl rfl (by decide +kernel) ⟨Nat.le_of_ble_eq_true rfl, Nat.le_of_ble_eq_true rfl⟩) (preS_of hK hP hD [2] (by decide) rfl) rfl hl.1 rfl (lv_room (Nat.le_of_ble_eq_true rfl)) dX7_readLevels_92 ⟨Nat.zero_le _, Nat.zero_le _⟩ hP hD hS [2] (by decide) rfl rfl (by rw [h_in.2]; rfl) rfl (fun H locs hP hD hS => ?_)
              refine lv_pop hx hb dX7_readLevels_95 rfl ?_
              refine lv_iinc (v := nI (i + 1)) (lv' := [(2, .int (nI (i + 1))), (3, .int (nI i)), (4, .int (nI 1)), (0, .ref M), (1, .ref r)]) hx hb dX7_readLevels_96 hl (k := 2) rfl (inc_n _ 1) (by decide) rfl (fun ls hl => ?_)
              refine lv_goto (tgt := 4) hx hb dX7_readLevels_99 (by decide) ?_
              exact ih_4 (i + 1) (by first | omega | assumption) (by first | omega | assumption) (by rw [h_e, show sz - i = sz - (i + 1) + 1 by omega]; first | exact ltrF_t (ok_g (by omega) (by assumption) (by assumption)) | exact ltrF_t (ok_l (by omega) h_c (by assumption) h_k2 (Or.inl (by assumption))) | exact ltrF_t (ok_l (by omega) h_c (by assumption) h_k2 (Or.inr (by omega)))) (by omega) _ _ hP hD hS ls (lv_sub hl [1, 0, 3, 4] (by first | (rw [gdI_t (by assumption)]; rfl) | (rw [gdI_f (by assumption)]; rfl)))
            ·
              refine lv_goto (tgt := 67) hx hb dX7_readLevels_51 (by decide) ?_
              refine lv_iload_n hx hb dX7_readLevels_67 rfl (lv_at hl 2 rfl) ?_
              exact W_i hx hb hr hlk dX7_readLevels_68 hP hS (by rw [ltr_x h_i h_e (fun _ => no_g (by omega) v_c (by assumption))]) (by rw [ltr_x h_i h_e (fun _ => no_g (by omega) v_c (by assumption)), rlg_t (by omega) c_13])
  exact loop_4 (sz - 0 + 1) 0 (by first | omega | assumption) (by first | omega | assumption) rfl (Nat.lt_succ_self _) _ _ hP hD hS ls (lv_sub hl [0, 1, 2, 3] (by rfl))

