set_option maxHeartbeats 4000000 in
set_option maxRecDepth 100000 in
theorem c_X7_whyNotGround_l (l : Launch) (G : GG) (r : Nat) (n : Nat) (g : Nat) (sk : Int32) (mm : Nat → Int32) (z : Int32) (h_n : n ≤ 16) (h_n1 : 1 ≤ n) (h_nol : ¬ (0 ≤ z.toInt ∧ z.toInt < (n : Int))) : Met l yX7_whyNotGround wsX7_whyNotGround ({ frames := 2, cells := 0, slots := 0, locals := 46 } : Room) (va_Pc [.ref r, .int z] (PB G [(r, .inl (G.2 0, 131, .inl (mr n (nI g) sk mm)))])) (QR (some (.int (nI 1)))) 0 0 (fun _ => False) := by
  refine Met.go (cc := cX7_whyNotGround) (maxL := 2) (ret := (some .int)) (by decide) rfl (Nat.le_of_ble_eq_true rfl) ?_
  intro p e s m below meth c ls hx hb hr hml hown hts hlk hP hK hD hS hl
  have hown : s.vm.findClass RX7 = some m.cls := hown
  have hl : lv_has ls 2 [(0, .ref r), (1, .int z)] := hl
  refine lv_aload_n hx hb dX7_whyNotGround_0 rfl (lv_at hl 0 rfl) ?_
  refine lv_iload_n hx hb dX7_whyNotGround_1 rfl (lv_at hl 1 rfl) ?_
  refine cRS (As := [.ref r, .int z]) (rest := []) (v := .int (zb (0 ≤ z.toInt ∧ z.toInt < (n : Int)))) ⟨hx, hb, hml, hown, hts⟩ (c_X7_isLevel l G r n g sk mm z (by first | omega | assumption) (by first | omega | assumption)) (va_cwS 2 hts gX7_whyNotGround_X7_isLevel rfl rfl rfl (by decide +kernel) ⟨Nat.le_of_ble_eq_true rfl, Nat.le_of_ble_eq_true rfl⟩) (preS_of hK hP hD [0] (by decide) rfl) rfl hl.1 rfl (lv_room (Nat.le_of_ble_eq_true rfl)) dX7_whyNotGround_2 ⟨Nat.zero_le _, Nat.zero_le _⟩ ?_
  refine bb_ne (tgt := 12) hx hb dX7_whyNotGround_5 (by decide) (fun c_5 => False.elim (by omega)) (fun c_5 => ?_)
  refine lv_iconst (v := nI 1) hx hb dX7_whyNotGround_8 (by decide) ?_
  refine lv_goto (tgt := 25) hx hb dX7_whyNotGround_9 (by decide) ?_
  exact R_i hx hb hr hlk dX7_whyNotGround_25 (rfl)

set_option maxHeartbeats 4000000 in
set_option maxRecDepth 100000 in
theorem c_X7_whyNotGround_ok (l : Launch) (G : GG) (r : Nat) (n : Nat) (g : Nat) (sk : Int32) (mm : Nat → Int32) (lv : Nat) (h_n : n ≤ 16) (h_n1 : 1 ≤ n) (h_lv : lv < n) (h_w : mm (3 + lv) = 0) : Met l yX7_whyNotGround wsX7_whyNotGround ({ frames := 2, cells := 0, slots := 0, locals := 46 } : Room) (va_Pc [.ref r, .int (nI lv)] (PB G [(r, .inl (G.2 0, 131, .inl (mr n (nI g) sk mm)))])) (QR (some (.int (nI 0)))) 0 0 (fun _ => False) := by
  refine Met.go (cc := cX7_whyNotGround) (maxL := 2) (ret := (some .int)) (by decide) rfl (Nat.le_of_ble_eq_true rfl) ?_
  intro p e s m below meth c ls hx hb hr hml hown hts hlk hP hK hD hS hl
  have hown : s.vm.findClass RX7 = some m.cls := hown
  have hl : lv_has ls 2 [(0, .ref r), (1, .int (nI lv))] := hl
  refine lv_aload_n hx hb dX7_whyNotGround_0 rfl (lv_at hl 0 rfl) ?_
  refine lv_iload_n hx hb dX7_whyNotGround_1 rfl (lv_at hl 1 rfl) ?_
  refine cRS (As := [.ref r, .int (nI lv)]) (rest := []) (v := .int (zb (lv < n))) ⟨hx, hb, hml, hown, hts⟩ (c_X7_isLevel_n l G r n g sk mm lv (by first | omega | assumption) (by first | omega | assumption) (by first | omega | assumption)) (va_cwS 2 hts gX7_whyNotGround_X7_isLevel rfl rfl rfl (by decide +kernel) ⟨Nat.le_of_ble_eq_true rfl, Nat.le_of_ble_eq_true rfl⟩) (preS_of hK hP hD [0] (by decide) rfl) rfl hl.1 rfl (lv_room (Nat.le_of_ble_eq_true rfl)) dX7_whyNotGround_2 ⟨Nat.zero_le _, Nat.zero_le _⟩ ?_
  refine bb_ne (tgt := 12) hx hb dX7_whyNotGround_5 (by decide) (fun c_5 => ?_) (fun c_5 => False.elim (by omega))
  refine lv_aload_n hx hb dX7_whyNotGround_12 rfl (lv_at hl 0 rfl) ?_
  refine lv_iconst (v := nI 3) hx hb dX7_whyNotGround_13 (by decide) ?_
  refine lv_iload_n hx hb dX7_whyNotGround_14 rfl (lv_at hl 1 rfl) ?_
  refine nv_iadd hx hb dX7_whyNotGround_15 ?_
  refine nv_iald hx hb hK hP 0 rfl (by omega) (by decide) dX7_whyNotGround_16 ?_
  rw [show (mr n (nI g) sk mm) (3 + lv) = (mm (3 + lv)) from (mr_j (by omega))]
  refine lv_if_eq (tgt := 24) hx hb dX7_whyNotGround_17 (by decide) (fun c_17 => ?_) (fun c_17 => False.elim (by exact c_17 h_w))
  refine lv_iconst (v := nI 0) hx hb dX7_whyNotGround_24 (by decide) ?_
  exact R_i hx hb hr hlk dX7_whyNotGround_25 (rfl)

set_option maxHeartbeats 4000000 in
set_option maxRecDepth 100000 in
theorem c_X7_whyNotGround_w (l : Launch) (G : GG) (r : Nat) (n : Nat) (g : Nat) (sk : Int32) (mm : Nat → Int32) (lv : Nat) (h_n : n ≤ 16) (h_n1 : 1 ≤ n) (h_lv : lv < n) (h_w : ¬ mm (3 + lv) = 0) : Met l yX7_whyNotGround wsX7_whyNotGround ({ frames := 2, cells := 0, slots := 0, locals := 46 } : Room) (va_Pc [.ref r, .int (nI lv)] (PB G [(r, .inl (G.2 0, 131, .inl (mr n (nI g) sk mm)))])) (QR (some (.int (nI 2)))) 0 0 (fun _ => False) := by
  refine Met.go (cc := cX7_whyNotGround) (maxL := 2) (ret := (some .int)) (by decide) rfl (Nat.le_of_ble_eq_true rfl) ?_
  intro p e s m below meth c ls hx hb hr hml hown hts hlk hP hK hD hS hl
  have hown : s.vm.findClass RX7 = some m.cls := hown
  have hl : lv_has ls 2 [(0, .ref r), (1, .int (nI lv))] := hl
  refine lv_aload_n hx hb dX7_whyNotGround_0 rfl (lv_at hl 0 rfl) ?_
  refine lv_iload_n hx hb dX7_whyNotGround_1 rfl (lv_at hl 1 rfl) ?_
  refine cRS (As := [.ref r, .int (nI lv)]) (rest := []) (v := .int (zb (lv < n))) ⟨hx, hb, hml, hown, hts⟩ (c_X7_isLevel_n l G r n g sk mm lv (by first | omega | assumption) (by first | omega | assumption) (by first | omega | assumption)) (va_cwS 2 hts gX7_whyNotGround_X7_isLevel rfl rfl rfl (by decide +kernel) ⟨Nat.le_of_ble_eq_true rfl, Nat.le_of_ble_eq_true rfl⟩) (preS_of hK hP hD [0] (by decide) rfl) rfl hl.1 rfl (lv_room (Nat.le_of_ble_eq_true rfl)) dX7_whyNotGround_2 ⟨Nat.zero_le _, Nat.zero_le _⟩ ?_
  refine bb_ne (tgt := 12) hx hb dX7_whyNotGround_5 (by decide) (fun c_5 => ?_) (fun c_5 => False.elim (by omega))
  refine lv_aload_n hx hb dX7_whyNotGround_12 rfl (lv_at hl 0 rfl) ?_
  refine lv_iconst (v := nI 3) hx hb dX7_whyNotGround_13 (by decide) ?_
  refine lv_iload_n hx hb dX7_whyNotGround_14 rfl (lv_at hl 1 rfl) ?_
  refine nv_iadd hx hb dX7_whyNotGround_15 ?_
  refine nv_iald hx hb hK hP 0 rfl (by omega) (by decide) dX7_whyNotGround_16 ?_
  rw [show (mr n (nI g) sk mm) (3 + lv) = (mm (3 + lv)) from (mr_j (by omega))]
  refine lv_if_eq (tgt := 24) hx hb dX7_whyNotGround_17 (by decide) (fun c_17 => False.elim (by exact h_w c_17)) (fun c_17 => ?_)
  refine lv_iconst (v := nI 2) hx hb dX7_whyNotGround_20 (by decide) ?_
  refine lv_goto (tgt := 25) hx hb dX7_whyNotGround_21 (by decide) ?_
  exact R_i hx hb hr hlk dX7_whyNotGround_25 (rfl)

theorem in_c_X7_remember_X7 : ∀ w ∈ wsX70, w ∈ wsX7_remember := by decide +kernel
set_option maxHeartbeats 4000000 in
set_option maxRecDepth 100000 in
theorem c_X7_remember (l : Launch) (G : GG) (M : Nat) (rf : Nat) (mt : Nat) (sz : Nat) (mn : Nat) (mtr : Nat) (md : Nat) (ac : Nat) (mk : Nat) (mik : Nat) (na : Nat) (so : Nat) (n : Nat) (g : Nat) (sk : Int32) (mm : Nat → Int32) (df : Nat → Int32) (h_ac : ac ≤ 14) : Met l yX7_remember wsX7_remember ({ frames := 1, cells := 0, slots := 0, locals := 24 } : Room) (va_Pc [.ref M] (PB G [(M, .inr (4, [.int (nI rf), .ref mt, .int (nI sz), .ref mn, .ref mtr, .ref md, .int (nI ac), .ref mk, .ref mik, .ref na, .ref so])), (mn, .inl (G.2 0, 131, .inl (mr n (nI g) sk mm))), (md, .inl (G.2 0, 1834, .inl df))])) (QW G (none) [(M, .inr (4, [.int (nI rf), .ref mt, .int (nI sz), .ref mn, .ref mtr, .ref md, .int (nI (min (ac + 1) 14)), .ref mk, .ref mik, .ref na, .ref so])), (mn, .inl (G.2 0, 131, .inl (mr n (nI g) sk mm))), (md, .inl (G.2 0, 1834, .inl (dput ac df (mr n (nI g) sk mm))))] (vA [(M, .inr (4, [.int (nI rf), .ref mt, .int (nI sz), .ref mn, .ref mtr, .ref md, .int (nI ac), .ref mk, .ref mik, .ref na, .ref so])), (mn, .inl (G.2 0, 131, .inl (mr n (nI g) sk mm))), (md, .inl (G.2 0, 1834, .inl df))])) 0 0 (vA [(M, .inr (4, [.int (nI rf), .ref mt, .int (nI sz), .ref mn, .ref mtr, .ref md, .int (nI ac), .ref mk, .ref mik, .ref na, .ref so])), (mn, .inl (G.2 0, 131, .inl (mr n (nI g) sk mm))), (md, .inl (G.2 0, 1834, .inl df))]) := by
  refine Met.go (cc := cX7_remember) (maxL := 2) (ret := none) (by decide) rfl (Nat.le_of_ble_eq_true rfl) ?_
  intro p e s m below meth c ls hx hb hr hml hown hts hlk hP hK hD hS hl
  have hown : s.vm.findClass RX7 = some m.cls := hown
  have hl : lv_has ls 2 [(0, .ref M)] := hl
  refine lv_aload_n hx hb dX7_remember_0 rfl (lv_at hl 0 rfl) ?_
  refine va_get (D := G.1) (ci := 4) (v := .int (nI ac)) (C := RX7) (T := TX7) (N := 11) hx hb hts in_c_X7_remember_X7 hown hK.1 hP 0 rfl rfl 6 (by decide) (hts (.fieldLink RX7 136 "FloorPanelsModel" "acts" "I") (by decide +kernel)) (fun _ h9 => h9) rfl dX7_remember_1 ?_
  refine lv_bipush (v := nI 14) hx hb dX7_remember_4 (by decide) ?_
  refine bi_ne (tgt := 50) hx hb dX7_remember_6 (by decide) (nI_i (by omega)) (nI_i (by omega)) (fun c_6 => ?_) (fun c_6 => ?_)
  ·
    refine lv_aload_n hx hb dX7_remember_50 rfl (lv_at hl 0 rfl) ?_
    refine va_get (D := G.1) (ci := 4) (v := .ref mn) (C := RX7) (T := TX7) (N := 11) hx hb hts in_c_X7_remember_X7 hown hK.1 hP 0 rfl rfl 3 (by decide) (hts (.fieldLink RX7 13 "FloorPanelsModel" "now" "[I") (by decide +kernel)) (fun _ h9 => h9) rfl dX7_remember_51 ?_
    refine lv_iconst (v := nI 0) hx hb dX7_remember_54 (by decide) ?_
    refine lv_aload_n hx hb dX7_remember_55 rfl (lv_at hl 0 rfl) ?_
    refine va_get (D := G.1) (ci := 4) (v := .ref md) (C := RX7) (T := TX7) (N := 11) hx hb hts in_c_X7_remember_X7 hown hK.1 hP 0 rfl rfl 5 (by decide) (hts (.fieldLink RX7 19 "FloorPanelsModel" "diary" "[I") (by decide +kernel)) (fun _ h9 => h9) rfl dX7_remember_56 ?_
    refine lv_sipush (v := nI 131) hx hb dX7_remember_59 (by decide) ?_
    refine lv_aload_n hx hb dX7_remember_62 rfl (lv_at hl 0 rfl) ?_
    refine va_get (D := G.1) (ci := 4) (v := .int (nI ac)) (C := RX7) (T := TX7) (N := 11) hx hb hts in_c_X7_remember_X7 hown hK.1 hP 0 rfl rfl 6 (by decide) (hts (.fieldLink RX7 136 "FloorPanelsModel" "acts" "I") (by decide +kernel)) (fun _ h9 => h9) rfl dX7_remember_63 ?_
    refine nv_imul hx hb dX7_remember_66 ?_
    refine cWS (As := [.ref mn, .int (nI 0), .ref md, .int (nI (131 * ac))]) (rest := []) (st1 := []) (w3 := [(M, .inr (4, [.int (nI rf), .ref mt, .int (nI sz), .ref mn, .ref mtr, .ref md, .int (nI ac), .ref mk, .ref mik, .ref na, .ref so])), (mn, .inl (G.2 0, 131, .inl (mr n (nI g) sk mm))), (md, .inl (G.2 0, 1834, .inl (dput ac df (mr n (nI g) sk mm))))]) ⟨hx, hb, hml, hown, hts⟩ (c_X7_copyState l G mn 131 (mr n (nI g) sk mm) md 1834 df 0 (131 * ac) (by first | omega | assumption) (by first | omega | assumption) (by first | omega | assumption) (by first | omega | assumption)) (va_cwS 4 hts gX7_remember_X7_copyState rfl rfl rfl (by decide +kernel) ⟨Nat.le_of_ble_eq_true rfl, Nat.le_of_ble_eq_true rfl⟩) (preS_of hK hP hD [1, 2] (by decide) rfl) rfl hl.1 rfl (lv_room (Nat.le_of_ble_eq_true rfl)) dX7_remember_67 ⟨Nat.zero_le _, Nat.zero_le _⟩ hP hD hS [1, 2] (by decide) rfl rfl (by rw [dput_f (by omega), fz]; rfl) rfl (fun H locs hP hD hS => ?_)
    refine lv_aload_n hx hb dX7_remember_70 rfl (lv_at hl 0 rfl) ?_
    refine lv_dup hx hb dX7_remember_71 rfl ?_
    refine va_get (D := G.1) (ci := 4) (v := .int (nI ac)) (C := RX7) (T := TX7) (N := 11) hx hb hts in_c_X7_remember_X7 hown hK.1 hP 0 rfl rfl 6 (by decide) (hts (.fieldLink RX7 136 "FloorPanelsModel" "acts" "I") (by decide +kernel)) (fun _ h9 => h9) rfl dX7_remember_72 ?_
    refine lv_iconst (v := nI 1) hx hb dX7_remember_75 (by decide) ?_
    refine lv_iadd hx hb dX7_remember_76 ?_
    rw [show (nI ac) + (nI 1) = nI (min (ac + 1) 14) from by rw [show min (ac + 1) 14 = ac + 1 by omega, nI_add]]
    refine va_put (D := G.1) (ci := 4) (v := .int (nI (min (ac + 1) 14))) (ty := .int) (C := RX7) (T := TX7) (N := 11) hx hb hts in_c_X7_remember_X7 tyX7 tyX7_ok nmX7 hown hK.1 hP hD hS 0 rfl rfl 6 (by decide) (hts (.fieldLink RX7 136 "FloorPanelsModel" "acts" "I") (by decide +kernel)) (fun _ h9 => h9) rfl (by decide +kernel) rfl rfl (Nat.le_of_ble_eq_true rfl) dX7_remember_77 (fun H locs hP hD hS => ?_)
    have hP : VP G [(M, .inr (4, [.int (nI rf), .ref mt, .int (nI sz), .ref mn, .ref mtr, .ref md, .int (nI (min (ac + 1) 14)), .ref mk, .ref mik, .ref na, .ref so])), (mn, .inl (G.2 0, 131, .inl (mr n (nI g) sk mm))), (md, .inl (G.2 0, 1834, .inl (dput ac df (mr n (nI g) sk mm))))] H := hP
    have hD : va_D _ [(M, .inr (4, [.int (nI rf), .ref mt, .int (nI sz), .ref mn, .ref mtr, .ref md, .int (nI (min (ac + 1) 14)), .ref mk, .ref mik, .ref na, .ref so])), (mn, .inl (G.2 0, 131, .inl (mr n (nI g) sk mm))), (md, .inl (G.2 0, 1834, .inl (dput ac df (mr n (nI g) sk mm))))] := hD
    exact W_v hx hb hr hlk dX7_remember_80 hP hS (rfl)
  ·
    refine lv_iconst (v := nI 0) hx hb dX7_remember_9 (by decide) ?_
    refine lv_istore_n (lv' := [(1, .int (nI 0)), (0, .ref M)]) hx hb dX7_remember_10 rfl hl (by decide) rfl (fun ls hl => ?_)
    have loop_11 : ∀ (k_ : Nat) (i : Nat) (h_i : i ≤ 1703) (_ : 1703 - i < k_) (H : Heap) (locs : List Loc) (_ : VP G [(M, .inr (4, [.int (nI rf), .ref mt, .int (nI sz), .ref mn, .ref mtr, .ref md, .int (nI ac), .ref mk, .ref mik, .ref na, .ref so])), (mn, .inl (G.2 0, 131, .inl (mr n (nI g) sk mm))), (md, .inl (G.2 0, 1834, .inl (dsh i df)))] H) (_ : va_D (vA [(M, .inr (4, [.int (nI rf), .ref mt, .int (nI sz), .ref mn, .ref mtr, .ref md, .int (nI ac), .ref mk, .ref mik, .ref na, .ref so])), (mn, .inl (G.2 0, 131, .inl (mr n (nI g) sk mm))), (md, .inl (G.2 0, 1834, .inl df))]) [(M, .inr (4, [.int (nI rf), .ref mt, .int (nI sz), .ref mn, .ref mtr, .ref md, .int (nI ac), .ref mk, .ref mik, .ref na, .ref so])), (mn, .inl (G.2 0, 131, .inl (mr n (nI g) sk mm))), (md, .inl (G.2 0, 1834, .inl (dsh i df)))]) (_ : va_S (vA [(M, .inr (4, [.int (nI rf), .ref mt, .int (nI sz), .ref mn, .ref mtr, .ref md, .int (nI ac), .ref mk, .ref mik, .ref na, .ref so])), (mn, .inl (G.2 0, 131, .inl (mr n (nI g) sk mm))), (md, .inl (G.2 0, 1834, .inl df))]) s.heap H locs) (ls : Array Slot), lv_has ls 2 [(1, .int (nI i)), (0, .ref M)] → W p l e ({ frames := 1, cells := 0, slots := 0, locals := 24 } : Room) s m ([.ref M] : List Value).toArray below meth c H locs 0 0 (MQ below (QW G (none) [(M, .inr (4, [.int (nI rf), .ref mt, .int (nI sz), .ref mn, .ref mtr, .ref md, .int (nI (min (ac + 1) 14)), .ref mk, .ref mik, .ref na, .ref so])), (mn, .inl (G.2 0, 131, .inl (mr n (nI g) sk mm))), (md, .inl (G.2 0, 1834, .inl (dput ac df (mr n (nI g) sk mm))))] (vA [(M, .inr (4, [.int (nI rf), .ref mt, .int (nI sz), .ref mn, .ref mtr, .ref md, .int (nI ac), .ref mk, .ref mik, .ref na, .ref so])), (mn, .inl (G.2 0, 131, .inl (mr n (nI g) sk mm))), (md, .inl (G.2 0, 1834, .inl df))])) ([.ref M] : List Value).toArray s 0 0 (vA [(M, .inr (4, [.int (nI rf), .ref mt, .int (nI sz), .ref mn, .ref mtr, .ref md, .int (nI ac), .ref mk, .ref mik, .ref na, .ref so])), (mn, .inl (G.2 0, 131, .inl (mr n (nI g) sk mm))), (md, .inl (G.2 0, 1834, .inl df))])) (F0 m 11 ls []) := by
      intro k_
      induction k_ with
      | zero => intro i h_i hk_; exact absurd hk_ (Nat.not_lt_zero _)
      | succ k_ ih_11 =>
        intro i h_i hk_ H locs hP hD hS ls hl
        refine lv_iload_n hx hb dX7_remember_11 rfl (lv_at hl 0 rfl) ?_
        refine lv_sipush (v := nI 1703) hx hb dX7_remember_12 (by decide) ?_
        refine bi_ge (tgt := 40) hx hb dX7_remember_15 (by decide) (nI_i (by omega)) (nI_i (by omega)) (fun c_15 => ?_) (fun c_15 => ?_)
        ·
          rw [show i = 1703 by omega] at hP hD
          have hP : VP G [(M, .inr (4, [.int (nI rf), .ref mt, .int (nI sz), .ref mn, .ref mtr, .ref md, .int (nI ac), .ref mk, .ref mik, .ref na, .ref so])), (mn, .inl (G.2 0, 131, .inl (mr n (nI g) sk mm))), (md, .inl (G.2 0, 1834, .inl (dsh 1703 df)))] H := hP
          have hD : va_D _ [(M, .inr (4, [.int (nI rf), .ref mt, .int (nI sz), .ref mn, .ref mtr, .ref md, .int (nI ac), .ref mk, .ref mik, .ref na, .ref so])), (mn, .inl (G.2 0, 131, .inl (mr n (nI g) sk mm))), (md, .inl (G.2 0, 1834, .inl (dsh 1703 df)))] := hD
          refine lv_aload_n hx hb dX7_remember_40 rfl (lv_at hl 1 rfl) ?_
          refine lv_dup hx hb dX7_remember_41 rfl ?_
          refine va_get (D := G.1) (ci := 4) (v := .int (nI ac)) (C := RX7) (T := TX7) (N := 11) hx hb hts in_c_X7_remember_X7 hown hK.1 hP 0 rfl rfl 6 (by decide) (hts (.fieldLink RX7 136 "FloorPanelsModel" "acts" "I") (by decide +kernel)) (fun _ h9 => h9) rfl dX7_remember_42 ?_
          refine lv_iconst (v := nI 1) hx hb dX7_remember_45 (by decide) ?_
          refine lv_isub hx hb dX7_remember_46 ?_
          rw [show (nI ac) - (nI 1) = nI 13 from by rw [show ac = 14 by omega]; rfl]
          refine va_put (D := G.1) (ci := 4) (v := .int (nI 13)) (ty := .int) (C := RX7) (T := TX7) (N := 11) hx hb hts in_c_X7_remember_X7 tyX7 tyX7_ok nmX7 hown hK.1 hP hD hS 0 rfl rfl 6 (by decide) (hts (.fieldLink RX7 136 "FloorPanelsModel" "acts" "I") (by decide +kernel)) (fun _ h9 => h9) rfl (by decide +kernel) rfl rfl (Nat.le_of_ble_eq_true rfl) dX7_remember_47 (fun H locs hP hD hS => ?_)
          have hP : VP G [(M, .inr (4, [.int (nI rf), .ref mt, .int (nI sz), .ref mn, .ref mtr, .ref md, .int (nI 13), .ref mk, .ref mik, .ref na, .ref so])), (mn, .inl (G.2 0, 131, .inl (mr n (nI g) sk mm))), (md, .inl (G.2 0, 1834, .inl (dsh 1703 df)))] H := hP
          have hD : va_D _ [(M, .inr (4, [.int (nI rf), .ref mt, .int (nI sz), .ref mn, .ref mtr, .ref md, .int (nI 13), .ref mk, .ref mik, .ref na, .ref so])), (mn, .inl (G.2 0, 131, .inl (mr n (nI g) sk mm))), (md, .inl (G.2 0, 1834, .inl (dsh 1703 df)))] := hD
          refine lv_aload_n hx hb dX7_remember_50 rfl (lv_at hl 1 rfl) ?_
          refine va_get (D := G.1) (ci := 4) (v := .ref mn) (C := RX7) (T := TX7) (N := 11) hx hb hts in_c_X7_remember_X7 hown hK.1 hP 0 rfl rfl 3 (by decide) (hts (.fieldLink RX7 13 "FloorPanelsModel" "now" "[I") (by decide +kernel)) (fun _ h9 => h9) rfl dX7_remember_51 ?_
          refine lv_iconst (v := nI 0) hx hb dX7_remember_54 (by decide) ?_
          refine lv_aload_n hx hb dX7_remember_55 rfl (lv_at hl 1 rfl) ?_
          refine va_get (D := G.1) (ci := 4) (v := .ref md) (C := RX7) (T := TX7) (N := 11) hx hb hts in_c_X7_remember_X7 hown hK.1 hP 0 rfl rfl 5 (by decide) (hts (.fieldLink RX7 19 "FloorPanelsModel" "diary" "[I") (by decide +kernel)) (fun _ h9 => h9) rfl dX7_remember_56 ?_
          refine lv_sipush (v := nI 131) hx hb dX7_remember_59 (by decide) ?_
          refine lv_aload_n hx hb dX7_remember_62 rfl (lv_at hl 1 rfl) ?_
          refine va_get (D := G.1) (ci := 4) (v := .int (nI 13)) (C := RX7) (T := TX7) (N := 11) hx hb hts in_c_X7_remember_X7 hown hK.1 hP 0 rfl rfl 6 (by decide) (hts (.fieldLink RX7 136 "FloorPanelsModel" "acts" "I") (by decide +kernel)) (fun _ h9 => h9) rfl dX7_remember_63 ?_
          refine nv_imul hx hb dX7_remember_66 ?_
          refine cWS (As := [.ref mn, .int (nI 0), .ref md, .int (nI 1703)]) (rest := []) (st1 := []) (w3 := [(M, .inr (4, [.int (nI rf), .ref mt, .int (nI sz), .ref mn, .ref mtr, .ref md, .int (nI 13), .ref mk, .ref mik, .ref na, .ref so])), (mn, .inl (G.2 0, 131, .inl (mr n (nI g) sk mm))), (md, .inl (G.2 0, 1834, .inl (dput ac df (mr n (nI g) sk mm))))]) ⟨hx, hb, hml, hown, hts⟩ (c_X7_copyState l G mn 131 (mr n (nI g) sk mm) md 1834 (dsh 1703 df) 0 1703 (by first | omega | assumption) (by first | omega | assumption) (by first | omega | assumption) (by first | omega | assumption)) (va_cwS 4 hts gX7_remember_X7_copyState rfl rfl rfl (by decide +kernel) ⟨Nat.le_of_ble_eq_true rfl, Nat.le_of_ble_eq_true rfl⟩) (preS_of hK hP hD [1, 2] (by decide) rfl) rfl hl.1 rfl (lv_room (Nat.le_of_ble_eq_true rfl)) dX7_remember_67 ⟨Nat.zero_le _, Nat.zero_le _⟩ hP hD hS [1, 2] (by decide) rfl rfl (by rw [dput_t (by omega), fz]; rfl) rfl (fun H locs hP hD hS => ?_)
          refine lv_aload_n hx hb dX7_remember_70 rfl (lv_at hl 1 rfl) ?_
          refine lv_dup hx hb dX7_remember_71 rfl ?_
          refine va_get (D := G.1) (ci := 4) (v := .int (nI 13)) (C := RX7) (T := TX7) (N := 11) hx hb hts in_c_X7_remember_X7 hown hK.1 hP 0 rfl rfl 6 (by decide) (hts (.fieldLink RX7 136 "FloorPanelsModel" "acts" "I") (by decide +kernel)) (fun _ h9 => h9) rfl dX7_remember_72 ?_
          refine lv_iconst (v := nI 1) hx hb dX7_remember_75 (by decide) ?_
          refine lv_iadd hx hb dX7_remember_76 ?_
          rw [show (nI 13) + (nI 1) = nI (min (ac + 1) 14) from by rw [show ac = 14 by omega]; rfl]
          refine va_put (D := G.1) (ci := 4) (v := .int (nI (min (ac + 1) 14))) (ty := .int) (C := RX7) (T := TX7) (N := 11) hx hb hts in_c_X7_remember_X7 tyX7 tyX7_ok nmX7 hown hK.1 hP hD hS 0 rfl rfl 6 (by decide) (hts (.fieldLink RX7 136 "FloorPanelsModel" "acts" "I") (by decide +kernel)) (fun _ h9 => h9) rfl (by decide +kernel) rfl rfl (Nat.le_of_ble_eq_true rfl) dX7_remember_77 (fun H locs hP hD hS => ?_)
          have hP : VP G [(M, .inr (4, [.int (nI rf), .ref mt, .int (nI sz), .ref mn, .ref mtr, .ref md, .int (nI (min (ac + 1) 14)), .ref mk, .ref mik, .ref na, .ref so])), (mn, .inl (G.2 0, 131, .inl (mr n (nI g) sk mm))), (md, .inl (G.2 0, 1834, .inl (dput ac df (mr n (nI g) sk mm))))] H := hP
          have hD : va_D _ [(M, .inr (4, [.int (nI rf), .ref mt, .int (nI sz), .ref mn, .ref mtr, .ref md, .int (nI (min (ac + 1) 14)), .ref mk, .ref mik, .ref na, .ref so])), (mn, .inl (G.2 0, 131, .inl (mr n (nI g) sk mm))), (md, .inl (G.2 0, 1834, .inl (dput ac df (mr n (nI g) sk mm))))] := hD
          exact W_v hx hb hr hlk dX7_remember_80 hP hS (rfl)
        ·
          refine lv_aload_n hx hb dX7_remember_18 rfl (lv_at hl 1 rfl) ?_
          refine va_get (D := G.1) (ci := 4) (v := .ref md) (C := RX7) (T := TX7) (N := 11) hx hb hts in_c_X7_remember_X7 hown hK.1 hP 0 rfl rfl 5 (by decide) (hts (.fieldLink RX7 19 "FloorPanelsModel" "diary" "[I") (by decide +kernel)) (fun _ h9 => h9) rfl dX7_remember_19 ?_
          refine lv_iload_n hx hb dX7_remember_22 rfl (lv_at hl 0 rfl) ?_
          refine lv_aload_n hx hb dX7_remember_23 rfl (lv_at hl 1 rfl) ?_
          refine va_get (D := G.1) (ci := 4) (v := .ref md) (C := RX7) (T := TX7) (N := 11) hx hb hts in_c_X7_remember_X7 hown hK.1 hP 0 rfl rfl 5 (by decide) (hts (.fieldLink RX7 19 "FloorPanelsModel" "diary" "[I") (by decide +kernel)) (fun _ h9 => h9) rfl dX7_remember_24 ?_
          refine lv_iload_n hx hb dX7_remember_27 rfl (lv_at hl 0 rfl) ?_
          refine lv_sipush (v := nI 131) hx hb dX7_remember_28 (by decide) ?_
          refine nv_iadd hx hb dX7_remember_31 ?_
          refine nv_iald hx hb hK hP 2 rfl (by omega) (by decide) dX7_remember_32 ?_
          rw [show (dsh i df) (i + 131) = (df (i + 131)) from dsh_r]
          refine nv_iast hx hb hK hP hD hS 2 rfl (v := (df (i + 131))) rfl (by omega) (by decide) dX7_remember_33 (w3 := [(M, .inr (4, [.int (nI rf), .ref mt, .int (nI sz), .ref mn, .ref mtr, .ref md, .int (nI ac), .ref mk, .ref mik, .ref na, .ref so])), (mn, .inl (G.2 0, 131, .inl (mr n (nI g) sk mm))), (md, .inl (G.2 0, 1834, .inl (dsh (i + 1) df)))]) (by rw [dsh_s]; rfl) (fun H locs hP hD hS => ?_)
          refine lv_iinc (v := nI (i + 1)) (lv' := [(1, .int (nI (i + 1))), (0, .ref M)]) hx hb dX7_remember_34 hl (k := 0) rfl (inc_n _ 1) (by decide) rfl (fun ls hl => ?_)
          refine lv_goto (tgt := 11) hx hb dX7_remember_37 (by decide) ?_
          exact ih_11 (i + 1) (by first | omega | assumption) (by omega) _ _ hP hD hS ls (lv_sub hl [0, 1] (by rfl))
    exact loop_11 (1703 - 0 + 1) 0 (by first | omega | assumption) (Nat.lt_succ_self _) _ _ (by rw [dsh_0]; exact hP) (by rw [dsh_0]; exact hD) hS ls (lv_sub hl [0, 1] (by rfl))

theorem in_c_X7_add_X7 : ∀ w ∈ wsX70, w ∈ wsX7_add := by decide +kernel
set_option maxHeartbeats 4000000 in
set_option maxRecDepth 100000 in
theorem c_X7_add (l : Launch) (G : GG) (M : Nat) (rf : Nat) (mt : Nat) (sz : Nat) (mn : Nat) (mtr : Nat) (md : Nat) (ac : Nat) (mk : Nat) (mik : Nat) (na : Nat) (so : Nat) (n : Nat) (g : Nat) (sk : Int32) (mm : Nat → Int32) (df : Nat → Int32) (lv : Nat) (k : Nat) (h_n : n < 16) (h_n1 : 1 ≤ n) (h_g : g < n) (h_lv : lv ≤ n) (h_k : k < 4) (h_ac : ac ≤ 14) : Met l yX7_add wsX7_add ({ frames := 3, cells := 0, slots := 0, locals := 67 } : Room) (va_Pc [.ref M, .int (nI lv), .int (nI k)] (PB G [(M, .inr (4, [.int (nI rf), .ref mt, .int (nI sz), .ref mn, .ref mtr, .ref md, .int (nI ac), .ref mk, .ref mik, .ref na, .ref so])), (mn, .inl (G.2 0, 131, .inl (mr n (nI g) sk mm))), (md, .inl (G.2 0, 1834, .inl df))])) (QW G (some (.int (nI (n + 1)))) [(M, .inr (4, [.int (nI 0), .ref mt, .int (nI sz), .ref mn, .ref mtr, .ref md, .int (nI (min (ac + 1) 14)), .ref mk, .ref mik, .ref na, .ref so])), (mn, .inl (G.2 0, 131, .inl (mr (n + 1) (nI (insG lv g)) sk (fum lv (nI k) (sm lv n lv mm))))), (md, .inl (G.2 0, 1834, .inl (dput ac df (mr n (nI g) sk mm))))] (vA [(M, .inr (4, [.int (nI rf), .ref mt, .int (nI sz), .ref mn, .ref mtr, .ref md, .int (nI ac), .ref mk, .ref mik, .ref na, .ref so])), (mn, .inl (G.2 0, 131, .inl (mr n (nI g) sk mm))), (md, .inl (G.2 0, 1834, .inl df))])) 0 0 (vA [(M, .inr (4, [.int (nI rf), .ref mt, .int (nI sz), .ref mn, .ref mtr, .ref md, .int (nI ac), .ref mk, .ref mik, .ref na, .ref so])), (mn, .inl (G.2 0, 131, .inl (mr n (nI g) sk mm))), (md, .inl (G.2 0, 1834, .inl df))]) := by
  refine Met.go (cc := cX7_add) (maxL := 3) (ret := (some .int)) (by decide) rfl (Nat.le_of_ble_eq_true rfl) ?_
  intro p e s m below meth c ls hx hb hr hml hown hts hlk hP hK hD hS hl
  have hown : s.vm.findClass RX7 = some m.cls := hown
  have hl : lv_has ls 3 [(0, .ref M), (1, .int (nI lv)), (2, .int (nI k))] := hl
  refine lv_aload_n hx hb dX7_add_0 rfl (lv_at hl 0 rfl) ?_
  refine lv_aload_n hx hb dX7_add_1 rfl (lv_at hl 0 rfl) ?_
  refine va_get (D := G.1) (ci := 4) (v := .ref mn) (C := RX7) (T := TX7) (N := 11) hx hb hts in_c_X7_add_X7 hown hK.1 hP 0 rfl rfl 3 (by decide) (hts (.fieldLink RX7 13 "FloorPanelsModel" "now" "[I") (by decide +kernel)) (fun _ h9 => h9) rfl dX7_add_2 ?_
  refine lv_iload_n hx hb dX7_add_5 rfl (lv_at hl 1 rfl) ?_
  refine lv_iload_n hx hb dX7_add_6 rfl (lv_at hl 2 rfl) ?_
  refine cRS (As := [.ref mn, .int (nI lv), .int (nI k)]) (rest := [.ref M]) (v := .int (nI (wna n (lv : Int) (k : Int)))) ⟨hx, hb, hml, hown, hts⟩ (c_X7_whyNotAdd_n l G mn n g sk mm lv k (by first | omega | assumption) (by first | omega | assumption) (by first | omega | assumption)) (va_cwS 3 hts gX7_add_X7_whyNotAdd rfl rfl rfl (by decide +kernel) ⟨Nat.le_of_ble_eq_true rfl, Nat.le_of_ble_eq_true rfl⟩) (preS_of hK hP hD [1] (by decide) rfl) rfl hl.1 rfl (lv_room (Nat.le_of_ble_eq_true rfl)) dX7_add_7 ⟨Nat.zero_le _, Nat.zero_le _⟩ ?_
  rw [show (nI (wna n (lv : Int) (k : Int))) = nI 0 from congrArg nI (wna_ok h_lv h_k h_n)]
  refine cWV (As := [.int (nI 0)]) (rest := []) (st1 := [.int (zb (0 < 0))]) (w3 := [(M, .inr (4, [.int (nI 0), .ref mt, .int (nI sz), .ref mn, .ref mtr, .ref md, .int (nI ac), .ref mk, .ref mik, .ref na, .ref so])), (mn, .inl (G.2 0, 131, .inl (mr n (nI g) sk mm))), (md, .inl (G.2 0, 1834, .inl df))]) ⟨hx, hb, hml, hown, hts⟩ (c_X7_refused l G M rf mt sz mn mtr md ac mk mik na so 0 (by first | omega | assumption)) (cwV 1 hts gX7_add_X7_refused rfl rfl rfl (by decide +kernel) ⟨Nat.le_of_ble_eq_true rfl, Nat.le_of_ble_eq_true rfl⟩) (preV_of hK hP hD [0] (by decide) rfl (ci := 4) (q0 := 0) rfl rfl rfl) rfl hl.1 rfl (lv_room (Nat.le_of_ble_eq_true rfl)) dX7_add_10 ⟨Nat.zero_le _, Nat.zero_le _⟩ hP hD hS [0] (by decide) rfl rfl (rfl) rfl (fun H locs hP hD hS => ?_)
  refine bb_eq (tgt := 18) hx hb dX7_add_13 (by decide) (fun c_13 => ?_) (fun c_13 => False.elim (by omega))
  refine lv_aload_n hx hb dX7_add_18 rfl (lv_at hl 0 rfl) ?_
  refine cWV (As := []) (rest := []) (st1 := []) (w3 := [(M, .inr (4, [.int (nI 0), .ref mt, .int (nI sz), .ref mn, .ref mtr, .ref md, .int (nI (min (ac + 1) 14)), .ref mk, .ref mik, .ref na, .ref so])), (mn, .inl (G.2 0, 131, .inl (mr n (nI g) sk mm))), (md, .inl (G.2 0, 1834, .inl (dput ac df (mr n (nI g) sk mm))))]) ⟨hx, hb, hml, hown, hts⟩ (c_X7_remember l G M 0 mt sz mn mtr md ac mk mik na so n g sk mm df (by first | omega | assumption)) (cwV 0 hts gX7_add_X7_remember rfl rfl rfl (by decide +kernel) ⟨Nat.le_of_ble_eq_true rfl, Nat.le_of_ble_eq_true rfl⟩) (preV_of hK hP hD [0, 1, 2] (by decide) rfl (ci := 4) (q0 := 0) rfl rfl rfl) rfl hl.1 rfl (lv_room (Nat.le_of_ble_eq_true rfl)) dX7_add_19 ⟨Nat.zero_le _, Nat.zero_le _⟩ hP hD hS [0, 1, 2] (by decide) rfl rfl (rfl) rfl (fun H locs hP hD hS => ?_)
  refine lv_aload_n hx hb dX7_add_22 rfl (lv_at hl 0 rfl) ?_
  refine va_get (D := G.1) (ci := 4) (v := .ref mn) (C := RX7) (T := TX7) (N := 11) hx hb hts in_c_X7_add_X7 hown hK.1 hP 0 rfl rfl 3 (by decide) (hts (.fieldLink RX7 13 "FloorPanelsModel" "now" "[I") (by decide +kernel)) (fun _ h9 => h9) rfl dX7_add_23 ?_
  refine lv_iload_n hx hb dX7_add_26 rfl (lv_at hl 1 rfl) ?_
  refine lv_iload_n hx hb dX7_add_27 rfl (lv_at hl 2 rfl) ?_
  refine cWS (As := [.ref mn, .int (nI lv), .int (nI k)]) (rest := []) (st1 := [.int (nI (n + 1))]) (w3 := [(M, .inr (4, [.int (nI 0), .ref mt, .int (nI sz), .ref mn, .ref mtr, .ref md, .int (nI (min (ac + 1) 14)), .ref mk, .ref mik, .ref na, .ref so])), (mn, .inl (G.2 0, 131, .inl (mr (n + 1) (nI (insG lv g)) sk (fum lv (nI k) (sm lv n lv mm))))), (md, .inl (G.2 0, 1834, .inl (dput ac df (mr n (nI g) sk mm))))]) ⟨hx, hb, hml, hown, hts⟩ (c_X7_insert l G mn n g sk mm lv (nI k) (by first | omega | assumption) (by first | omega | assumption) (by first | omega | assumption) (by first | omega | assumption)) (va_cwS 3 hts gX7_add_X7_insert rfl rfl rfl (by decide +kernel) ⟨Nat.le_of_ble_eq_true rfl, Nat.le_of_ble_eq_true rfl⟩) (preS_of hK hP hD [1] (by decide) rfl) rfl hl.1 rfl (lv_room (Nat.le_of_ble_eq_true rfl)) dX7_add_28 ⟨Nat.zero_le _, Nat.zero_le _⟩ hP hD hS [1] (by decide) rfl rfl (rfl) rfl (fun H locs hP hD hS => ?_)
  exact W_i hx hb hr hlk dX7_add_31 hP hS (rfl) (rfl)

theorem in_n_X7_add_X7 : ∀ w ∈ wsX70, w ∈ wsX7_add := by decide +kernel
set_option maxHeartbeats 4000000 in
set_option maxRecDepth 100000 in
theorem n_X7_add (l : Launch) (G : GG) (M : Nat) (rf : Nat) (mt : Nat) (sz : Nat) (mn : Nat) (mtr : Nat) (md : Nat) (ac : Nat) (mk : Nat) (mik : Nat) (na : Nat) (so : Nat) (n : Nat) (g : Nat) (sk : Int32) (mm : Nat → Int32) (z : Int32) (y : Int32) (h_n : n ≤ 16) (h_w : 0 < wna n z.toInt y.toInt) : Met l yX7_add wsX7_add ({ frames := 3, cells := 0, slots := 0, locals := 67 } : Room) (va_Pc [.ref M, .int z, .int y] (PB G [(M, .inr (4, [.int (nI rf), .ref mt, .int (nI sz), .ref mn, .ref mtr, .ref md, .int (nI ac), .ref mk, .ref mik, .ref na, .ref so])), (mn, .inl (G.2 0, 131, .inl (mr n (nI g) sk mm)))])) (QW G (some (.int (nI 0))) [(M, .inr (4, [.int (nI (wna n z.toInt y.toInt)), .ref mt, .int (nI sz), .ref mn, .ref mtr, .ref md, .int (nI ac), .ref mk, .ref mik, .ref na, .ref so])), (mn, .inl (G.2 0, 131, .inl (mr n (nI g) sk mm)))] (vA [(M, .inr (4, [.int (nI rf), .ref mt, .int (nI sz), .ref mn, .ref mtr, .ref md, .int (nI ac), .ref mk, .ref mik, .ref na, .ref so])), (mn, .inl (G.2 0, 131, .inl (mr n (nI g) sk mm)))])) 0 0 (vA [(M, .inr (4, [.int (nI rf), .ref mt, .int (nI sz), .ref mn, .ref mtr, .ref md, .int (nI ac), .ref mk, .ref mik, .ref na, .ref so])), (mn, .inl (G.2 0, 131, .inl (mr n (nI g) sk mm)))]) := by
  refine Met.go (cc := cX7_add) (maxL := 3) (ret := (some .int)) (by decide) rfl (Nat.le_of_ble_eq_true rfl) ?_
  intro p e s m below meth c ls hx hb hr hml hown hts hlk hP hK hD hS hl
  have hown : s.vm.findClass RX7 = some m.cls := hown
  have hl : lv_has ls 3 [(0, .ref M), (1, .int z), (2, .int y)] := hl
  refine lv_aload_n hx hb dX7_add_0 rfl (lv_at hl 0 rfl) ?_
  refine lv_aload_n hx hb dX7_add_1 rfl (lv_at hl 0 rfl) ?_
  refine va_get (D := G.1) (ci := 4) (v := .ref mn) (C := RX7) (T := TX7) (N := 11) hx hb hts in_n_X7_add_X7 hown hK.1 hP 0 rfl rfl 3 (by decide) (hts (.fieldLink RX7 13 "FloorPanelsModel" "now" "[I") (by decide +kernel)) (fun _ h9 => h9) rfl dX7_add_2 ?_
  refine lv_iload_n hx hb dX7_add_5 rfl (lv_at hl 1 rfl) ?_
  refine lv_iload_n hx hb dX7_add_6 rfl (lv_at hl 2 rfl) ?_
  refine cRS (As := [.ref mn, .int z, .int y]) (rest := [.ref M]) (v := .int (nI (wna n z.toInt y.toInt))) ⟨hx, hb, hml, hown, hts⟩ (c_X7_whyNotAdd l G mn n g sk mm z y (by first | omega | assumption)) (va_cwS 3 hts gX7_add_X7_whyNotAdd rfl rfl rfl (by decide +kernel) ⟨Nat.le_of_ble_eq_true rfl, Nat.le_of_ble_eq_true rfl⟩) (preS_of hK hP hD [1] (by decide) rfl) rfl hl.1 rfl (lv_room (Nat.le_of_ble_eq_true rfl)) dX7_add_7 ⟨Nat.zero_le _, Nat.zero_le _⟩ ?_
  have h_w2 := wna_le n z.toInt y.toInt
  refine cWV (As := [.int (nI (wna n z.toInt y.toInt))]) (rest := []) (st1 := [.int (zb (0 < (wna n z.toInt y.toInt)))]) (w3 := [(M, .inr (4, [.int (nI (wna n z.toInt y.toInt)), .ref mt, .int (nI sz), .ref mn, .ref mtr, .ref md, .int (nI ac), .ref mk, .ref mik, .ref na, .ref so])), (mn, .inl (G.2 0, 131, .inl (mr n (nI g) sk mm)))]) ⟨hx, hb, hml, hown, hts⟩ (c_X7_refused l G M rf mt sz mn mtr md ac mk mik na so (wna n z.toInt y.toInt) (by first | omega | assumption)) (cwV 1 hts gX7_add_X7_refused rfl rfl rfl (by decide +kernel) ⟨Nat.le_of_ble_eq_true rfl, Nat.le_of_ble_eq_true rfl⟩) (preV_of hK hP hD [0] (by decide) rfl (ci := 4) (q0 := 0) rfl rfl rfl) rfl hl.1 rfl (lv_room (Nat.le_of_ble_eq_true rfl)) dX7_add_10 ⟨Nat.zero_le _, Nat.zero_le _⟩ hP hD hS [0] (by decide) rfl rfl (rfl) rfl (fun H locs hP hD hS => ?_)
  refine bb_eq (tgt := 18) hx hb dX7_add_13 (by decide) (fun c_13 => False.elim (by omega)) (fun c_13 => ?_)
  refine lv_iconst (v := nI 0) hx hb dX7_add_16 (by decide) ?_
  exact W_i hx hb hr hlk dX7_add_17 hP hS (rfl) (rfl)

theorem in_c_X7_remove_X7 : ∀ w ∈ wsX70, w ∈ wsX7_remove := by decide +kernel
set_option maxHeartbeats 4000000 in
set_option maxRecDepth 100000 in
theorem c_X7_remove (l : Launch) (G : GG) (M : Nat) (rf : Nat) (mt : Nat) (sz : Nat) (mn : Nat) (mtr : Nat) (md : Nat) (ac : Nat) (mk : Nat) (mik : Nat) (na : Nat) (so : Nat) (n : Nat) (g : Nat) (sk : Int32) (mm : Nat → Int32) (df : Nat → Int32) (lv : Nat) (h_n : n ≤ 16) (h_n1 : 1 ≤ n) (h_g : g < n) (h_lv : lv < n) (h_ne : lv ≠ g) (h_ac : ac ≤ 14) : Met l yX7_remove wsX7_remove ({ frames := 3, cells := 0, slots := 0, locals := 67 } : Room) (va_Pc [.ref M, .int (nI lv)] (PB G [(M, .inr (4, [.int (nI rf), .ref mt, .int (nI sz), .ref mn, .ref mtr, .ref md, .int (nI ac), .ref mk, .ref mik, .ref na, .ref so])), (mn, .inl (G.2 0, 131, .inl (mr n (nI g) sk mm))), (md, .inl (G.2 0, 1834, .inl df))])) (QW G (some (.int (nI (n - 1)))) [(M, .inr (4, [.int (nI 0), .ref mt, .int (nI sz), .ref mn, .ref mtr, .ref md, .int (nI (min (ac + 1) 14)), .ref mk, .ref mik, .ref na, .ref so])), (mn, .inl (G.2 0, 131, .inl (mr (n - 1) (nI (delG lv g)) sk (dm lv (n - 1) (n - 1) mm)))), (md, .inl (G.2 0, 1834, .inl (dput ac df (mr n (nI g) sk mm))))] (vA [(M, .inr (4, [.int (nI rf), .ref mt, .int (nI sz), .ref mn, .ref mtr, .ref md, .int (nI ac), .ref mk, .ref mik, .ref na, .ref so])), (mn, .inl (G.2 0, 131, .inl (mr n (nI g) sk mm))), (md, .inl (G.2 0, 1834, .inl df))])) 0 0 (vA [(M, .inr (4, [.int (nI rf), .ref mt, .int (nI sz), .ref mn, .ref mtr, .ref md, .int (nI ac), .ref mk, .ref mik, .ref na, .ref so])), (mn, .inl (G.2 0, 131, .inl (mr n (nI g) sk mm))), (md, .inl (G.2 0, 1834, .inl df))]) := by
  refine Met.go (cc := cX7_remove) (maxL := 2) (ret := (some .int)) (by decide) rfl (Nat.le_of_ble_eq_true rfl) ?_
  intro p e s m below meth c ls hx hb hr hml hown hts hlk hP hK hD hS hl
  have hown : s.vm.findClass RX7 = some m.cls := hown
  have hl : lv_has ls 2 [(0, .ref M), (1, .int (nI lv))] := hl
  refine lv_aload_n hx hb dX7_remove_0 rfl (lv_at hl 0 rfl) ?_
  refine lv_aload_n hx hb dX7_remove_1 rfl (lv_at hl 0 rfl) ?_
  refine va_get (D := G.1) (ci := 4) (v := .ref mn) (C := RX7) (T := TX7) (N := 11) hx hb hts in_c_X7_remove_X7 hown hK.1 hP 0 rfl rfl 3 (by decide) (hts (.fieldLink RX7 13 "FloorPanelsModel" "now" "[I") (by decide +kernel)) (fun _ h9 => h9) rfl dX7_remove_2 ?_
  refine lv_iload_n hx hb dX7_remove_5 rfl (lv_at hl 1 rfl) ?_
  refine cRS (As := [.ref mn, .int (nI lv)]) (rest := [.ref M]) (v := .int (nI (wnr n g (lv : Int)))) ⟨hx, hb, hml, hown, hts⟩ (c_X7_whyNotRemove_n l G mn n g sk mm lv (by first | omega | assumption) (by first | omega | assumption) (by first | omega | assumption) (by first | omega | assumption)) (va_cwS 2 hts gX7_remove_X7_whyNotRemove rfl rfl rfl (by decide +kernel) ⟨Nat.le_of_ble_eq_true rfl, Nat.le_of_ble_eq_true rfl⟩) (preS_of hK hP hD [1] (by decide) rfl) rfl hl.1 rfl (lv_room (Nat.le_of_ble_eq_true rfl)) dX7_remove_6 ⟨Nat.zero_le _, Nat.zero_le _⟩ ?_
  rw [show (nI (wnr n g (lv : Int))) = nI 0 from congrArg nI (wnr_ok h_lv h_ne)]
  refine cWV (As := [.int (nI 0)]) (rest := []) (st1 := [.int (zb (0 < 0))]) (w3 := [(M, .inr (4, [.int (nI 0), .ref mt, .int (nI sz), .ref mn, .ref mtr, .ref md, .int (nI ac), .ref mk, .ref mik, .ref na, .ref so])), (mn, .inl (G.2 0, 131, .inl (mr n (nI g) sk mm))), (md, .inl (G.2 0, 1834, .inl df))]) ⟨hx, hb, hml, hown, hts⟩ (c_X7_refused l G M rf mt sz mn mtr md ac mk mik na so 0 (by first | omega | assumption)) (cwV 1 hts gX7_remove_X7_refused rfl rfl rfl (by decide +kernel) ⟨Nat.le_of_ble_eq_true rfl, Nat.le_of_ble_eq_true rfl⟩) (preV_of hK hP hD [0] (by decide) rfl (ci := 4) (q0 := 0) rfl rfl rfl) rfl hl.1 rfl (lv_room (Nat.le_of_ble_eq_true rfl)) dX7_remove_9 ⟨Nat.zero_le _, Nat.zero_le _⟩ hP hD hS [0] (by decide) rfl rfl (rfl) rfl (fun H locs hP hD hS => ?_)
  refine bb_eq (tgt := 17) hx hb dX7_remove_12 (by decide) (fun c_12 => ?_) (fun c_12 => False.elim (by omega))
  refine lv_aload_n hx hb dX7_remove_17 rfl (lv_at hl 0 rfl) ?_
  refine cWV (As := []) (rest := []) (st1 := []) (w3 := [(M, .inr (4, [.int (nI 0), .ref mt, .int (nI sz), .ref mn, .ref mtr, .ref md, .int (nI (min (ac + 1) 14)), .ref mk, .ref mik, .ref na, .ref so])), (mn, .inl (G.2 0, 131, .inl (mr n (nI g) sk mm))), (md, .inl (G.2 0, 1834, .inl (dput ac df (mr n (nI g) sk mm))))]) ⟨hx, hb, hml, hown, hts⟩ (c_X7_remember l G M 0 mt sz mn mtr md ac mk mik na so n g sk mm df (by first | omega | assumption)) (cwV 0 hts gX7_remove_X7_remember rfl rfl rfl (by decide +kernel) ⟨Nat.le_of_ble_eq_true rfl, Nat.le_of_ble_eq_true rfl⟩) (preV_of hK hP hD [0, 1, 2] (by decide) rfl (ci := 4) (q0 := 0) rfl rfl rfl) rfl hl.1 rfl (lv_room (Nat.le_of_ble_eq_true rfl)) dX7_remove_18 ⟨Nat.zero_le _, Nat.zero_le _⟩ hP hD hS [0, 1, 2] (by decide) rfl rfl (rfl) rfl (fun H locs hP hD hS => ?_)
  refine lv_aload_n hx hb dX7_remove_21 rfl (lv_at hl 0 rfl) ?_
  refine va_get (D := G.1) (ci := 4) (v := .ref mn) (C := RX7) (T := TX7) (N := 11) hx hb hts in_c_X7_remove_X7 hown hK.1 hP 0 rfl rfl 3 (by decide) (hts (.fieldLink RX7 13 "FloorPanelsModel" "now" "[I") (by decide +kernel)) (fun _ h9 => h9) rfl dX7_remove_22 ?_
  refine lv_iload_n hx hb dX7_remove_25 rfl (lv_at hl 1 rfl) ?_
  refine cWS (As := [.ref mn, .int (nI lv)]) (rest := []) (st1 := [.int (nI (n - 1))]) (w3 := [(M, .inr (4, [.int (nI 0), .ref mt, .int (nI sz), .ref mn, .ref mtr, .ref md, .int (nI (min (ac + 1) 14)), .ref mk, .ref mik, .ref na, .ref so])), (mn, .inl (G.2 0, 131, .inl (mr (n - 1) (nI (delG lv g)) sk (dm lv (n - 1) (n - 1) mm)))), (md, .inl (G.2 0, 1834, .inl (dput ac df (mr n (nI g) sk mm))))]) ⟨hx, hb, hml, hown, hts⟩ (c_X7_removeOn l G mn n g sk mm lv (by first | omega | assumption) (by first | omega | assumption) (by first | omega | assumption) (by first | omega | assumption)) (va_cwS 2 hts gX7_remove_X7_removeOn rfl rfl rfl (by decide +kernel) ⟨Nat.le_of_ble_eq_true rfl, Nat.le_of_ble_eq_true rfl⟩) (preS_of hK hP hD [1] (by decide) rfl) rfl hl.1 rfl (lv_room (Nat.le_of_ble_eq_true rfl)) dX7_remove_26 ⟨Nat.zero_le _, Nat.zero_le _⟩ hP hD hS [1] (by decide) rfl rfl (rfl) rfl (fun H locs hP hD hS => ?_)
  exact W_i hx hb hr hlk dX7_remove_29 hP hS (rfl) (rfl)

theorem in_n_X7_remove_X7 : ∀ w ∈ wsX70, w ∈ wsX7_remove := by decide +kernel
set_option maxHeartbeats 4000000 in
set_option maxRecDepth 100000 in
theorem n_X7_remove (l : Launch) (G : GG) (M : Nat) (rf : Nat) (mt : Nat) (sz : Nat) (mn : Nat) (mtr : Nat) (md : Nat) (ac : Nat) (mk : Nat) (mik : Nat) (na : Nat) (so : Nat) (n : Nat) (g : Nat) (sk : Int32) (mm : Nat → Int32) (z : Int32) (h_n : n ≤ 16) (h_n1 : 1 ≤ n) (h_g : g < n) (h_w : 0 < wnr n g z.toInt) : Met l yX7_remove wsX7_remove ({ frames := 3, cells := 0, slots := 0, locals := 67 } : Room) (va_Pc [.ref M, .int z] (PB G [(M, .inr (4, [.int (nI rf), .ref mt, .int (nI sz), .ref mn, .ref mtr, .ref md, .int (nI ac), .ref mk, .ref mik, .ref na, .ref so])), (mn, .inl (G.2 0, 131, .inl (mr n (nI g) sk mm)))])) (QW G (some (.int (nI 0))) [(M, .inr (4, [.int (nI (wnr n g z.toInt)), .ref mt, .int (nI sz), .ref mn, .ref mtr, .ref md, .int (nI ac), .ref mk, .ref mik, .ref na, .ref so])), (mn, .inl (G.2 0, 131, .inl (mr n (nI g) sk mm)))] (vA [(M, .inr (4, [.int (nI rf), .ref mt, .int (nI sz), .ref mn, .ref mtr, .ref md, .int (nI ac), .ref mk, .ref mik, .ref na, .ref so])), (mn, .inl (G.2 0, 131, .inl (mr n (nI g) sk mm)))])) 0 0 (vA [(M, .inr (4, [.int (nI rf), .ref mt, .int (nI sz), .ref mn, .ref mtr, .ref md, .int (nI ac), .ref mk, .ref mik, .ref na, .ref so])), (mn, .inl (G.2 0, 131, .inl (mr n (nI g) sk mm)))]) := by
  refine Met.go (cc := cX7_remove) (maxL := 2) (ret := (some .int)) (by decide) rfl (Nat.le_of_ble_eq_true rfl) ?_
  intro p e s m below meth c ls hx hb hr hml hown hts hlk hP hK hD hS hl
  have hown : s.vm.findClass RX7 = some m.cls := hown
  have hl : lv_has ls 2 [(0, .ref M), (1, .int z)] := hl
  refine lv_aload_n hx hb dX7_remove_0 rfl (lv_at hl 0 rfl) ?_
  refine lv_aload_n hx hb dX7_remove_1 rfl (lv_at hl 0 rfl) ?_
  refine va_get (D := G.1) (ci := 4) (v := .ref mn) (C := RX7) (T := TX7) (N := 11) hx hb hts in_n_X7_remove_X7 hown hK.1 hP 0 rfl rfl 3 (by decide) (hts (.fieldLink RX7 13 "FloorPanelsModel" "now" "[I") (by decide +kernel)) (fun _ h9 => h9) rfl dX7_remove_2 ?_
  refine lv_iload_n hx hb dX7_remove_5 rfl (lv_at hl 1 rfl) ?_
  refine cRS (As := [.ref mn, .int z]) (rest := [.ref M]) (v := .int (nI (wnr n g z.toInt))) ⟨hx, hb, hml, hown, hts⟩ (c_X7_whyNotRemove l G mn n g sk mm z (by first | omega | assumption) (by first | omega | assumption) (by first | omega | assumption)) (va_cwS 2 hts gX7_remove_X7_whyNotRemove rfl rfl rfl (by decide +kernel) ⟨Nat.le_of_ble_eq_true rfl, Nat.le_of_ble_eq_true rfl⟩) (preS_of hK hP hD [1] (by decide) rfl) rfl hl.1 rfl (lv_room (Nat.le_of_ble_eq_true rfl)) dX7_remove_6 ⟨Nat.zero_le _, Nat.zero_le _⟩ ?_
  have h_w2 := wnr_le n g z.toInt
  refine cWV (As := [.int (nI (wnr n g z.toInt))]) (rest := []) (st1 := [.int (zb (0 < (wnr n g z.toInt)))]) (w3 := [(M, .inr (4, [.int (nI (wnr n g z.toInt)), .ref mt, .int (nI sz), .ref mn, .ref mtr, .ref md, .int (nI ac), .ref mk, .ref mik, .ref na, .ref so])), (mn, .inl (G.2 0, 131, .inl (mr n (nI g) sk mm)))]) ⟨hx, hb, hml, hown, hts⟩ (c_X7_refused l G M rf mt sz mn mtr md ac mk mik na so (wnr n g z.toInt) (by first | omega | assumption)) (cwV 1 hts gX7_remove_X7_refused rfl rfl rfl (by decide +kernel) ⟨Nat.le_of_ble_eq_true rfl, Nat.le_of_ble_eq_true rfl⟩) (preV_of hK hP hD [0] (by decide) rfl (ci := 4) (q0 := 0) rfl rfl rfl) rfl hl.1 rfl (lv_room (Nat.le_of_ble_eq_true rfl)) dX7_remove_9 ⟨Nat.zero_le _, Nat.zero_le _⟩ hP hD hS [0] (by decide) rfl rfl (rfl) rfl (fun H locs hP hD hS => ?_)
  refine bb_eq (tgt := 17) hx hb dX7_remove_12 (by decide) (fun c_12 => False.elim (by omega)) (fun c_12 => ?_)
  refine lv_iconst (v := nI 0) hx hb dX7_remove_15 (by decide) ?_
  exact W_i hx hb hr hlk dX7_remove_16 hP hS (rfl) (rfl)

theorem in_c_X7_kind_X7 : ∀ w ∈ wsX70, w ∈ wsX7_kind := by decide +kernel
set_option maxHeartbeats 4000000 in
set_option maxRecDepth 100000 in
theorem c_X7_kind (l : Launch) (G : GG) (M : Nat) (rf : Nat) (mt : Nat) (sz : Nat) (mn : Nat) (mtr : Nat) (md : Nat) (ac : Nat) (mk : Nat) (mik : Nat) (na : Nat) (so : Nat) (n : Nat) (g : Nat) (sk : Int32) (mm : Nat → Int32) (df : Nat → Int32) (lv : Nat) (k : Nat) (h_n : n ≤ 16) (h_n1 : 1 ≤ n) (h_g : g < n) (h_lv : lv < n) (h_k : k < 4) (h_ok : ¬ (lv = g ∧ k ≠ 0)) (h_ac : ac ≤ 14) : Met l yX7_kind wsX7_kind ({ frames := 3, cells := 0, slots := 0, locals := 68 } : Room) (va_Pc [.ref M, .int (nI lv), .int (nI k)] (PB G [(M, .inr (4, [.int (nI rf), .ref mt, .int (nI sz), .ref mn, .ref mtr, .ref md, .int (nI ac), .ref mk, .ref mik, .ref na, .ref so])), (mn, .inl (G.2 0, 131, .inl (mr n (nI g) sk mm))), (md, .inl (G.2 0, 1834, .inl df))])) (QW G (some (.int (mm (3 + lv)))) [(M, .inr (4, [.int (nI 0), .ref mt, .int (nI sz), .ref mn, .ref mtr, .ref md, .int (nI (min (ac + 1) 14)), .ref mk, .ref mik, .ref na, .ref so])), (mn, .inl (G.2 0, 131, .inl (mr n (nI g) sk (upd mm (3 + lv) (nI k))))), (md, .inl (G.2 0, 1834, .inl (dput ac df (mr n (nI g) sk mm))))] (vA [(M, .inr (4, [.int (nI rf), .ref mt, .int (nI sz), .ref mn, .ref mtr, .ref md, .int (nI ac), .ref mk, .ref mik, .ref na, .ref so])), (mn, .inl (G.2 0, 131, .inl (mr n (nI g) sk mm))), (md, .inl (G.2 0, 1834, .inl df))])) 0 0 (vA [(M, .inr (4, [.int (nI rf), .ref mt, .int (nI sz), .ref mn, .ref mtr, .ref md, .int (nI ac), .ref mk, .ref mik, .ref na, .ref so])), (mn, .inl (G.2 0, 131, .inl (mr n (nI g) sk mm))), (md, .inl (G.2 0, 1834, .inl df))]) := by
  refine Met.go (cc := cX7_kind) (maxL := 3) (ret := (some .int)) (by decide) rfl (Nat.le_of_ble_eq_true rfl) ?_
  intro p e s m below meth c ls hx hb hr hml hown hts hlk hP hK hD hS hl
  have hown : s.vm.findClass RX7 = some m.cls := hown
  have hl : lv_has ls 3 [(0, .ref M), (1, .int (nI lv)), (2, .int (nI k))] := hl
  refine lv_aload_n hx hb dX7_kind_0 rfl (lv_at hl 0 rfl) ?_
  refine lv_aload_n hx hb dX7_kind_1 rfl (lv_at hl 0 rfl) ?_
  refine va_get (D := G.1) (ci := 4) (v := .ref mn) (C := RX7) (T := TX7) (N := 11) hx hb hts in_c_X7_kind_X7 hown hK.1 hP 0 rfl rfl 3 (by decide) (hts (.fieldLink RX7 13 "FloorPanelsModel" "now" "[I") (by decide +kernel)) (fun _ h9 => h9) rfl dX7_kind_2 ?_
  refine lv_iload_n hx hb dX7_kind_5 rfl (lv_at hl 1 rfl) ?_
  refine lv_iload_n hx hb dX7_kind_6 rfl (lv_at hl 2 rfl) ?_
  refine cRS (As := [.ref mn, .int (nI lv), .int (nI k)]) (rest := [.ref M]) (v := .int (nI (wnk n g (lv : Int) (k : Int)))) ⟨hx, hb, hml, hown, hts⟩ (c_X7_whyNotKind_n l G mn n g sk mm lv k (by first | omega | assumption) (by first | omega | assumption) (by first | omega | assumption) (by first | omega | assumption) (by first | omega | assumption)) (va_cwS 3 hts gX7_kind_X7_whyNotKind rfl rfl rfl (by decide +kernel) ⟨Nat.le_of_ble_eq_true rfl, Nat.le_of_ble_eq_true rfl⟩) (preS_of hK hP hD [1] (by decide) rfl) rfl hl.1 rfl (lv_room (Nat.le_of_ble_eq_true rfl)) dX7_kind_7 ⟨Nat.zero_le _, Nat.zero_le _⟩ ?_
  rw [show (nI (wnk n g (lv : Int) (k : Int))) = nI 0 from congrArg nI (wnk_ok h_lv h_k h_ok)]
  refine cWV (As := [.int (nI 0)]) (rest := []) (st1 := [.int (zb (0 < 0))]) (w3 := [(M, .inr (4, [.int (nI 0), .ref mt, .int (nI sz), .ref mn, .ref mtr, .ref md, .int (nI ac), .ref mk, .ref mik, .ref na, .ref so])), (mn, .inl (G.2 0, 131, .inl (mr n (nI g) sk mm))), (md, .inl (G.2 0, 1834, .inl df))]) ⟨hx, hb, hml, hown, hts⟩ (c_X7_refused l G M rf mt sz mn mtr md ac mk mik na so 0 (by first | omega | assumption)) (cwV 1 hts gX7_kind_X7_refused rfl rfl rfl (by decide +kernel) ⟨Nat.le_of_ble_eq_true rfl, Nat.le_of_ble_eq_true rfl⟩) (preV_of hK hP hD [0] (by decide) rfl (ci := 4) (q0 := 0) rfl rfl rfl) rfl hl.1 rfl (lv_room (Nat.le_of_ble_eq_true rfl)) dX7_kind_10 ⟨Nat.zero_le _, Nat.zero_le _⟩ hP hD hS [0] (by decide) rfl rfl (rfl) rfl (fun H locs hP hD hS => ?_)
  refine bb_eq (tgt := 18) hx hb dX7_kind_13 (by decide) (fun c_13 => ?_) (fun c_13 => False.elim (by omega))
  refine lv_aload_n hx hb dX7_kind_18 rfl (lv_at hl 0 rfl) ?_
  refine cWV (As := []) (rest := []) (st1 := []) (w3 := [(M, .inr (4, [.int (nI 0), .ref mt, .int (nI sz), .ref mn, .ref mtr, .ref md, .int (nI (min (ac + 1) 14)), .ref mk, .ref mik, .ref na, .ref so])), (mn, .inl (G.2 0, 131, .inl (mr n (nI g) sk mm))), (md, .inl (G.2 0, 1834, .inl (dput ac df (mr n (nI g) sk mm))))]) ⟨hx, hb, hml, hown, hts⟩ (c_X7_remember l G M 0 mt sz mn mtr md ac mk mik na so n g sk mm df (by first | omega | assumption)) (cwV 0 hts gX7_kind_X7_remember rfl rfl rfl (by decide +kernel) ⟨Nat.le_of_ble_eq_true rfl, Nat.le_of_ble_eq_true rfl⟩) (preV_of hK hP hD [0, 1, 2] (by decide) rfl (ci := 4) (q0 := 0) rfl rfl rfl) rfl hl.1 rfl (lv_room (Nat.le_of_ble_eq_true rfl)) dX7_kind_19 ⟨Nat.zero_le _, Nat.zero_le _⟩ hP hD hS [0, 1, 2] (by decide) rfl rfl (rfl) rfl (fun H locs hP hD hS => ?_)
  refine lv_aload_n hx hb dX7_kind_22 rfl (lv_at hl 0 rfl) ?_
  refine va_get (D := G.1) (ci := 4) (v := .ref mn) (C := RX7) (T := TX7) (N := 11) hx hb hts in_c_X7_kind_X7 hown hK.1 hP 0 rfl rfl 3 (by decide) (hts (.fieldLink RX7 13 "FloorPanelsModel" "now" "[I") (by decide +kernel)) (fun _ h9 => h9) rfl dX7_kind_23 ?_
  refine lv_iconst (v := nI 3) hx hb dX7_kind_26 (by decide) ?_
  refine lv_iload_n hx hb dX7_kind_27 rfl (lv_at hl 1 rfl) ?_
  refine nv_iadd hx hb dX7_kind_28 ?_
  refine lv_iload_n hx hb dX7_kind_29 rfl (lv_at hl 2 rfl) ?_
  refine cWS (As := [.ref mn, .int (nI (3 + lv)), .int (nI k)]) (rest := []) (st1 := [.int (mm (3 + lv))]) (w3 := [(M, .inr (4, [.int (nI 0), .ref mt, .int (nI sz), .ref mn, .ref mtr, .ref md, .int (nI (min (ac + 1) 14)), .ref mk, .ref mik, .ref na, .ref so])), (mn, .inl (G.2 0, 131, .inl (mr n (nI g) sk (upd mm (3 + lv) (nI k))))), (md, .inl (G.2 0, 1834, .inl (dput ac df (mr n (nI g) sk mm))))]) ⟨hx, hb, hml, hown, hts⟩ (c_X7_lay l G mn n g sk mm (3 + lv) (nI k) (by first | omega | assumption)) (va_cwS 3 hts gX7_kind_X7_lay rfl rfl rfl (by decide +kernel) ⟨Nat.le_of_ble_eq_true rfl, Nat.le_of_ble_eq_true rfl⟩) (preS_of hK hP hD [1] (by decide) rfl) rfl hl.1 rfl (lv_room (Nat.le_of_ble_eq_true rfl)) dX7_kind_30 ⟨Nat.zero_le _, Nat.zero_le _⟩ hP hD hS [1] (by decide) rfl rfl (rfl) rfl (fun H locs hP hD hS => ?_)
  exact W_i hx hb hr hlk dX7_kind_33 hP hS (rfl) (rfl)

theorem in_n_X7_kind_X7 : ∀ w ∈ wsX70, w ∈ wsX7_kind := by decide +kernel
set_option maxHeartbeats 4000000 in
set_option maxRecDepth 100000 in
theorem n_X7_kind (l : Launch) (G : GG) (M : Nat) (rf : Nat) (mt : Nat) (sz : Nat) (mn : Nat) (mtr : Nat) (md : Nat) (ac : Nat) (mk : Nat) (mik : Nat) (na : Nat) (so : Nat) (n : Nat) (g : Nat) (sk : Int32) (mm : Nat → Int32) (z : Int32) (y : Int32) (h_n : n ≤ 16) (h_n1 : 1 ≤ n) (h_g : g < n) (h_w : 0 < wnk n g z.toInt y.toInt) : Met l yX7_kind wsX7_kind ({ frames := 3, cells := 0, slots := 0, locals := 68 } : Room) (va_Pc [.ref M, .int z, .int y] (PB G [(M, .inr (4, [.int (nI rf), .ref mt, .int (nI sz), .ref mn, .ref mtr, .ref md, .int (nI ac), .ref mk, .ref mik, .ref na, .ref so])), (mn, .inl (G.2 0, 131, .inl (mr n (nI g) sk mm)))])) (QW G (some (.int (nI 0))) [(M, .inr (4, [.int (nI (wnk n g z.toInt y.toInt)), .ref mt, .int (nI sz), .ref mn, .ref mtr, .ref md, .int (nI ac), .ref mk, .ref mik, .ref na, .ref so])), (mn, .inl (G.2 0, 131, .inl (mr n (nI g) sk mm)))] (vA [(M, .inr (4, [.int (nI rf), .ref mt, .int (nI sz), .ref mn, .ref mtr, .ref md, .int (nI ac), .ref mk, .ref mik, .ref na, .ref so])), (mn, .inl (G.2 0, 131, .inl (mr n (nI g) sk mm)))])) 0 0 (vA [(M, .inr (4, [.int (nI rf), .ref mt, .int (nI sz), .ref mn, .ref mtr, .ref md, .int (nI ac), .ref mk, .ref mik, .ref na, .ref so])), (mn, .inl (G.2 0, 131, .inl (mr n (nI g) sk mm)))]) := by
  refine Met.go (cc := cX7_kind) (maxL := 3) (ret := (some .int)) (by decide) rfl (Nat.le_of_ble_eq_true rfl) ?_
  intro p e s m below meth c ls hx hb hr hml hown hts hlk hP hK hD hS hl
  have hown : s.vm.findClass RX7 = some m.cls := hown
  have hl : lv_has ls 3 [(0, .ref M), (1, .int z), (2, .int y)] := hl
  refine lv_aload_n hx hb dX7_kind_0 rfl (lv_at hl 0 rfl) ?_
  refine lv_aload_n hx hb dX7_kind_1 rfl (lv_at hl 0 rfl) ?_
  refine va_get (D := G.1) (ci := 4) (v := .ref mn) (C := RX7) (T := TX7) (N := 11) hx hb hts in_n_X7_kind_X7 hown hK.1 hP 0 rfl rfl 3 (by decide) (hts (.fieldLink RX7 13 "FloorPanelsModel" "now" "[I") (by decide +kernel)) (fun _ h9 => h9) rfl dX7_kind_2 ?_
  refine lv_iload_n hx hb dX7_kind_5 rfl (lv_at hl 1 rfl) ?_
  refine lv_iload_n hx hb dX7_kind_6 rfl (lv_at hl 2 rfl) ?_
  refine cRS (As := [.ref mn, .int z, .int y]) (rest := [.ref M]) (v := .int (nI (wnk n g z.toInt y.toInt))) ⟨hx, hb, hml, hown, hts⟩ (c_X7_whyNotKind l G mn n g sk mm z y (by first | omega | assumption) (by first | omega | assumption) (by first | omega | assumption)) (va_cwS 3 hts gX7_kind_X7_whyNotKind rfl rfl rfl (by decide +kernel) ⟨Nat.le_of_ble_eq_true rfl, Nat.le_of_ble_eq_true rfl⟩) (preS_of hK hP hD [1] (by decide) rfl) rfl hl.1 rfl (lv_room (Nat.le_of_ble_eq_true rfl)) dX7_kind_7 ⟨Nat.zero_le _, Nat.zero_le _⟩ ?_
  have h_w2 := wnk_le n g z.toInt y.toInt
  refine cWV (As := [.int (nI (wnk n g z.toInt y.toInt))]) (rest := []) (st1 := [.int (zb (0 < (wnk n g z.toInt y.toInt)))]) (w3 := [(M, .inr (4, [.int (nI (wnk n g z.toInt y.toInt)), .ref mt, .int (nI sz), .ref mn, .ref mtr, .ref md, .int (nI ac), .ref mk, .ref mik, .ref na, .ref so])), (mn, .inl (G.2 0, 131, .inl (mr n (nI g) sk mm)))]) ⟨hx, hb, hml, hown, hts⟩ (c_X7_refused l G M rf mt sz mn mtr md ac mk mik na so (wnk n g z.toInt y.toInt) (by first | omega | assumption)) (cwV 1 hts gX7_kind_X7_refused rfl rfl rfl (by decide +kernel) ⟨Nat.le_of_ble_eq_true rfl, Nat.le_of_ble_eq_true rfl⟩) (preV_of hK hP hD [0] (by decide) rfl (ci := 4) (q0 := 0) rfl rfl rfl) rfl hl.1 rfl (lv_room (Nat.le_of_ble_eq_true rfl)) dX7_kind_10 ⟨Nat.zero_le _, Nat.zero_le _⟩ hP hD hS [0] (by decide) rfl rfl (rfl) rfl (fun H locs hP hD hS => ?_)
  refine bb_eq (tgt := 18) hx hb dX7_kind_13 (by decide) (fun c_13 => False.elim (by omega)) (fun c_13 => ?_)
  refine lv_iconst (v := nI 0) hx hb dX7_kind_16 (by decide) ?_
  exact W_i hx hb hr hlk dX7_kind_17 hP hS (rfl) (rfl)

theorem in_c_X7_ground_X7 : ∀ w ∈ wsX70, w ∈ wsX7_ground := by decide +kernel
set_option maxHeartbeats 4000000 in
set_option maxRecDepth 100000 in
theorem c_X7_ground (l : Launch) (G : GG) (M : Nat) (rf : Nat) (mt : Nat) (sz : Nat) (mn : Nat) (mtr : Nat) (md : Nat) (ac : Nat) (mk : Nat) (mik : Nat) (na : Nat) (so : Nat) (n : Nat) (g : Nat) (sk : Int32) (mm : Nat → Int32) (df : Nat → Int32) (lv : Nat) (h_n : n ≤ 16) (h_n1 : 1 ≤ n) (h_lv : lv < n) (h_w : mm (3 + lv) = 0) (h_ac : ac ≤ 14) : Met l yX7_ground wsX7_ground ({ frames := 3, cells := 0, slots := 0, locals := 67 } : Room) (va_Pc [.ref M, .int (nI lv)] (PB G [(M, .inr (4, [.int (nI rf), .ref mt, .int (nI sz), .ref mn, .ref mtr, .ref md, .int (nI ac), .ref mk, .ref mik, .ref na, .ref so])), (mn, .inl (G.2 0, 131, .inl (mr n (nI g) sk mm))), (md, .inl (G.2 0, 1834, .inl df))])) (QW G (some (.int (nI g))) [(M, .inr (4, [.int (nI 0), .ref mt, .int (nI sz), .ref mn, .ref mtr, .ref md, .int (nI (min (ac + 1) 14)), .ref mk, .ref mik, .ref na, .ref so])), (mn, .inl (G.2 0, 131, .inl (mr n (nI lv) sk mm))), (md, .inl (G.2 0, 1834, .inl (dput ac df (mr n (nI g) sk mm))))] (vA [(M, .inr (4, [.int (nI rf), .ref mt, .int (nI sz), .ref mn, .ref mtr, .ref md, .int (nI ac), .ref mk, .ref mik, .ref na, .ref so])), (mn, .inl (G.2 0, 131, .inl (mr n (nI g) sk mm))), (md, .inl (G.2 0, 1834, .inl df))])) 0 0 (vA [(M, .inr (4, [.int (nI rf), .ref mt, .int (nI sz), .ref mn, .ref mtr, .ref md, .int (nI ac), .ref mk, .ref mik, .ref na, .ref so])), (mn, .inl (G.2 0, 131, .inl (mr n (nI g) sk mm))), (md, .inl (G.2 0, 1834, .inl df))]) := by
  refine Met.go (cc := cX7_ground) (maxL := 2) (ret := (some .int)) (by decide) rfl (Nat.le_of_ble_eq_true rfl) ?_
  intro p e s m below meth c ls hx hb hr hml hown hts hlk hP hK hD hS hl
  have hown : s.vm.findClass RX7 = some m.cls := hown
  have hl : lv_has ls 2 [(0, .ref M), (1, .int (nI lv))] := hl
  refine lv_aload_n hx hb dX7_ground_0 rfl (lv_at hl 0 rfl) ?_
  refine lv_aload_n hx hb dX7_ground_1 rfl (lv_at hl 0 rfl) ?_
  refine va_get (D := G.1) (ci := 4) (v := .ref mn) (C := RX7) (T := TX7) (N := 11) hx hb hts in_c_X7_ground_X7 hown hK.1 hP 0 rfl rfl 3 (by decide) (hts (.fieldLink RX7 13 "FloorPanelsModel" "now" "[I") (by decide +kernel)) (fun _ h9 => h9) rfl dX7_ground_2 ?_
  refine lv_iload_n hx hb dX7_ground_5 rfl (lv_at hl 1 rfl) ?_
  refine cRS (As := [.ref mn, .int (nI lv)]) (rest := [.ref M]) (v := .int (nI 0)) ⟨hx, hb, hml, hown, hts⟩ (c_X7_whyNotGround_ok l G mn n g sk mm lv (by first | omega | assumption) (by first | omega | assumption) (by first | omega | assumption) (by first | omega | assumption)) (va_cwS 2 hts gX7_ground_X7_whyNotGround rfl rfl rfl (by decide +kernel) ⟨Nat.le_of_ble_eq_true rfl, Nat.le_of_ble_eq_true rfl⟩) (preS_of hK hP hD [1] (by decide) rfl) rfl hl.1 rfl (lv_room (Nat.le_of_ble_eq_true rfl)) dX7_ground_6 ⟨Nat.zero_le _, Nat.zero_le _⟩ ?_
  refine cWV (As := [.int (nI 0)]) (rest := []) (st1 := [.int (zb (0 < 0))]) (w3 := [(M, .inr (4, [.int (nI 0), .ref mt, .int (nI sz), .ref mn, .ref mtr, .ref md, .int (nI ac), .ref mk, .ref mik, .ref na, .ref so])), (mn, .inl (G.2 0, 131, .inl (mr n (nI g) sk mm))), (md, .inl (G.2 0, 1834, .inl df))]) ⟨hx, hb, hml, hown, hts⟩ (c_X7_refused l G M rf mt sz mn mtr md ac mk mik na so 0 (by first | omega | assumption)) (cwV 1 hts gX7_ground_X7_refused rfl rfl rfl (by decide +kernel) ⟨Nat.le_of_ble_eq_true rfl, Nat.le_of_ble_eq_true rfl⟩) (preV_of hK hP hD [0] (by decide) rfl (ci := 4) (q0 := 0) rfl rfl rfl) rfl hl.1 rfl (lv_room (Nat.le_of_ble_eq_true rfl)) dX7_ground_9 ⟨Nat.zero_le _, Nat.zero_le _⟩ hP hD hS [0] (by decide) rfl rfl (rfl) rfl (fun H locs hP hD hS => ?_)
  refine bb_eq (tgt := 17) hx hb dX7_ground_12 (by decide) (fun c_12 => ?_) (fun c_12 => False.elim (by omega))
  refine lv_aload_n hx hb dX7_ground_17 rfl (lv_at hl 0 rfl) ?_
  refine cWV (As := []) (rest := []) (st1 := []) (w3 := [(M, .inr (4, [.int (nI 0), .ref mt, .int (nI sz), .ref mn, .ref mtr, .ref md, .int (nI (min (ac + 1) 14)), .ref mk, .ref mik, .ref na, .ref so])), (mn, .inl (G.2 0, 131, .inl (mr n (nI g) sk mm))), (md, .inl (G.2 0, 1834, .inl (dput ac df (mr n (nI g) sk mm))))]) ⟨hx, hb, hml, hown, hts⟩ (c_X7_remember l G M 0 mt sz mn mtr md ac mk mik na so n g sk mm df (by first | omega | assumption)) (cwV 0 hts gX7_ground_X7_remember rfl rfl rfl (by decide +kernel) ⟨Nat.le_of_ble_eq_true rfl, Nat.le_of_ble_eq_true rfl⟩) (preV_of hK hP hD [0, 1, 2] (by decide) rfl (ci := 4) (q0 := 0) rfl rfl rfl) rfl hl.1 rfl (lv_room (Nat.le_of_ble_eq_true rfl)) dX7_ground_18 ⟨Nat.zero_le _, Nat.zero_le _⟩ hP hD hS [0, 1, 2] (by decide) rfl rfl (rfl) rfl (fun H locs hP hD hS => ?_)
  refine lv_aload_n hx hb dX7_ground_21 rfl (lv_at hl 0 rfl) ?_
  refine va_get (D := G.1) (ci := 4) (v := .ref mn) (C := RX7) (T := TX7) (N := 11) hx hb hts in_c_X7_ground_X7 hown hK.1 hP 0 rfl rfl 3 (by decide) (hts (.fieldLink RX7 13 "FloorPanelsModel" "now" "[I") (by decide +kernel)) (fun _ h9 => h9) rfl dX7_ground_22 ?_
  refine lv_iconst (v := nI 1) hx hb dX7_ground_25 (by decide) ?_
  refine lv_iload_n hx hb dX7_ground_26 rfl (lv_at hl 1 rfl) ?_
  refine cWS (As := [.ref mn, .int (nI 1), .int (nI lv)]) (rest := []) (st1 := [.int (nI g)]) (w3 := [(M, .inr (4, [.int (nI 0), .ref mt, .int (nI sz), .ref mn, .ref mtr, .ref md, .int (nI (min (ac + 1) 14)), .ref mk, .ref mik, .ref na, .ref so])), (mn, .inl (G.2 0, 131, .inl (mr n (nI lv) sk mm))), (md, .inl (G.2 0, 1834, .inl (dput ac df (mr n (nI g) sk mm))))]) ⟨hx, hb, hml, hown, hts⟩ (c_X7_lay_g l G mn n g sk mm lv (by first | omega | assumption)) (va_cwS 3 hts gX7_ground_X7_lay rfl rfl rfl (by decide +kernel) ⟨Nat.le_of_ble_eq_true rfl, Nat.le_of_ble_eq_true rfl⟩) (preS_of hK hP hD [1] (by decide) rfl) rfl hl.1 rfl (lv_room (Nat.le_of_ble_eq_true rfl)) dX7_ground_27 ⟨Nat.zero_le _, Nat.zero_le _⟩ hP hD hS [1] (by decide) rfl rfl (rfl) rfl (fun H locs hP hD hS => ?_)
  exact W_i hx hb hr hlk dX7_ground_30 hP hS (rfl) (rfl)

theorem in_n_X7_ground_l_X7 : ∀ w ∈ wsX70, w ∈ wsX7_ground := by decide +kernel
set_option maxHeartbeats 4000000 in
set_option maxRecDepth 100000 in
theorem n_X7_ground_l (l : Launch) (G : GG) (M : Nat) (rf : Nat) (mt : Nat) (sz : Nat) (mn : Nat) (mtr : Nat) (md : Nat) (ac : Nat) (mk : Nat) (mik : Nat) (na : Nat) (so : Nat) (n : Nat) (g : Nat) (sk : Int32) (mm : Nat → Int32) (z : Int32) (h_n : n ≤ 16) (h_n1 : 1 ≤ n) (h_nol : ¬ (0 ≤ z.toInt ∧ z.toInt < (n : Int))) : Met l yX7_ground wsX7_ground ({ frames := 3, cells := 0, slots := 0, locals := 67 } : Room) (va_Pc [.ref M, .int z] (PB G [(M, .inr (4, [.int (nI rf), .ref mt, .int (nI sz), .ref mn, .ref mtr, .ref md, .int (nI ac), .ref mk, .ref mik, .ref na, .ref so])), (mn, .inl (G.2 0, 131, .inl (mr n (nI g) sk mm)))])) (QW G (some (.int (nI 0))) [(M, .inr (4, [.int (nI 1), .ref mt, .int (nI sz), .ref mn, .ref mtr, .ref md, .int (nI ac), .ref mk, .ref mik, .ref na, .ref so])), (mn, .inl (G.2 0, 131, .inl (mr n (nI g) sk mm)))] (vA [(M, .inr (4, [.int (nI rf), .ref mt, .int (nI sz), .ref mn, .ref mtr, .ref md, .int (nI ac), .ref mk, .ref mik, .ref na, .ref so])), (mn, .inl (G.2 0, 131, .inl (mr n (nI g) sk mm)))])) 0 0 (vA [(M, .inr (4, [.int (nI rf), .ref mt, .int (nI sz), .ref mn, .ref mtr, .ref md, .int (nI ac), .ref mk, .ref mik, .ref na, .ref so])), (mn, .inl (G.2 0, 131, .inl (mr n (nI g) sk mm)))]) := by
  refine Met.go (cc := cX7_ground) (maxL := 2) (ret := (some .int)) (by decide) rfl (Nat.le_of_ble_eq_true rfl) ?_
  intro p e s m below meth c ls hx hb hr hml hown hts hlk hP hK hD hS hl
  have hown : s.vm.findClass RX7 = some m.cls := hown
  have hl : lv_has ls 2 [(0, .ref M), (1, .int z)] := hl
  refine lv_aload_n hx hb dX7_ground_0 rfl (lv_at hl 0 rfl) ?_
  refine lv_aload_n hx hb dX7_ground_1 rfl (lv_at hl 0 rfl) ?_
  refine va_get (D := G.1) (ci := 4) (v := .ref mn) (C := RX7) (T := TX7) (N := 11) hx hb hts in_n_X7_ground_l_X7 hown hK.1 hP 0 rfl rfl 3 (by decide) (hts (.fieldLink RX7 13 "FloorPanelsModel" "now" "[I") (by decide +kernel)) (fun _ h9 => h9) rfl dX7_ground_2 ?_
  refine lv_iload_n hx hb dX7_ground_5 rfl (lv_at hl 1 rfl) ?_
  refine cRS (As := [.ref mn, .int z]) (rest := [.ref M]) (v := .int (nI 1)) ⟨hx, hb, hml, hown, hts⟩ (c_X7_whyNotGround_l l G mn n g sk mm z (by first | omega | assumption) (by first | omega | assumption) (by first | omega | assumption)) (va_cwS 2 hts gX7_ground_X7_whyNotGround rfl rfl rfl (by decide +kernel) ⟨Nat.le_of_ble_eq_true rfl, Nat.le_of_ble_eq_true rfl⟩) (preS_of hK hP hD [1] (by decide) rfl) rfl hl.1 rfl (lv_room (Nat.le_of_ble_eq_true rfl)) dX7_ground_6 ⟨Nat.zero_le _, Nat.zero_le _⟩ ?_
  refine cWV (As := [.int (nI 1)]) (rest := []) (st1 := [.int (zb (0 < 1))]) (w3 := [(M, .inr (4, [.int (nI 1), .ref mt, .int (nI sz), .ref mn, .ref mtr, .ref md, .int (nI ac), .ref mk, .ref mik, .ref na, .ref so])), (mn, .inl (G.2 0, 131, .inl (mr n (nI g) sk mm)))]) ⟨hx, hb, hml, hown, hts⟩ (c_X7_refused l G M rf mt sz mn mtr md ac mk mik na so 1 (by first | omega | assumption)) (cwV 1 hts gX7_ground_X7_refused rfl rfl rfl (by decide +kernel) ⟨Nat.le_of_ble_eq_true rfl, Nat.le_of_ble_eq_true rfl⟩) (preV_of hK hP hD [0] (by decide) rfl (ci := 4) (q0 := 0) rfl rfl rfl) rfl hl.1 rfl (lv_room (Nat.le_of_ble_eq_true rfl)) dX7_ground_9 ⟨Nat.zero_le _, Nat.zero_le _⟩ hP hD hS [0] (by decide) rfl rfl (rfl) rfl (fun H locs hP hD hS => ?_)
  refine bb_eq (tgt := 17) hx hb dX7_ground_12 (by decide) (fun c_12 => False.elim (by omega)) (fun c_12 => ?_)
  refine lv_iconst (v := nI 0) hx hb dX7_ground_15 (by decide) ?_
  exact W_i hx hb hr hlk dX7_ground_16 hP hS (rfl) (rfl)

theorem in_n_X7_ground_w_X7 : ∀ w ∈ wsX70, w ∈ wsX7_ground := by decide +kernel
set_option maxHeartbeats 4000000 in
set_option maxRecDepth 100000 in
theorem n_X7_ground_w (l : Launch) (G : GG) (M : Nat) (rf : Nat) (mt : Nat) (sz : Nat) (mn : Nat) (mtr : Nat) (md : Nat) (ac : Nat) (mk : Nat) (mik : Nat) (na : Nat) (so : Nat) (n : Nat) (g : Nat) (sk : Int32) (mm : Nat → Int32) (lv : Nat) (h_n : n ≤ 16) (h_n1 : 1 ≤ n) (h_lv : lv < n) (h_w : ¬ mm (3 + lv) = 0) : Met l yX7_ground wsX7_ground ({ frames := 3, cells := 0, slots := 0, locals := 67 } : Room) (va_Pc [.ref M, .int (nI lv)] (PB G [(M, .inr (4, [.int (nI rf), .ref mt, .int (nI sz), .ref mn, .ref mtr, .ref md, .int (nI ac), .ref mk, .ref mik, .ref na, .ref so])), (mn, .inl (G.2 0, 131, .inl (mr n (nI g) sk mm)))])) (QW G (some (.int (nI 0))) [(M, .inr (4, [.int (nI 2), .ref mt, .int (nI sz), .ref mn, .ref mtr, .ref md, .int (nI ac), .ref mk, .ref mik, .ref na, .ref so])), (mn, .inl (G.2 0, 131, .inl (mr n (nI g) sk mm)))] (vA [(M, .inr (4, [.int (nI rf), .ref mt, .int (nI sz), .ref mn, .ref mtr, .ref md, .int (nI ac), .ref mk, .ref mik, .ref na, .ref so])), (mn, .inl (G.2 0, 131, .inl (mr n (nI g) sk mm)))])) 0 0 (vA [(M, .inr (4, [.int (nI rf), .ref mt, .int (nI sz), .ref mn, .ref mtr, .ref md, .int (nI ac), .ref mk, .ref mik, .ref na, .ref so])), (mn, .inl (G.2 0, 131, .inl (mr n (nI g) sk mm)))]) := by
  refine Met.go (cc := cX7_ground) (maxL := 2) (ret := (some .int)) (by decide) rfl (Nat.le_of_ble_eq_true rfl) ?_
  intro p e s m below meth c ls hx hb hr hml hown hts hlk hP hK hD hS hl
  have hown : s.vm.findClass RX7 = some m.cls := hown
  have hl : lv_has ls 2 [(0, .ref M), (1, .int (nI lv))] := hl
  refine lv_aload_n hx hb dX7_ground_0 rfl (lv_at hl 0 rfl) ?_
  refine lv_aload_n hx hb dX7_ground_1 rfl (lv_at hl 0 rfl) ?_
  refine va_get (D := G.1) (ci := 4) (v := .ref mn) (C := RX7) (T := TX7) (N := 11) hx hb hts in_n_X7_ground_w_X7 hown hK.1 hP 0 rfl rfl 3 (by decide) (hts (.fieldLink RX7 13 "FloorPanelsModel" "now" "[I") (by decide +kernel)) (fun _ h9 => h9) rfl dX7_ground_2 ?_
  refine lv_iload_n hx hb dX7_ground_5 rfl (lv_at hl 1 rfl) ?_
  refine cRS (As := [.ref mn, .int (nI lv)]) (rest := [.ref M]) (v := .int (nI 2)) ⟨hx, hb, hml, hown, hts⟩ (c_X7_whyNotGround_w l G mn n g sk mm lv (by first | omega | assumption) (by first | omega | assumption) (by first | omega | assumption) (by first | omega | assumption)) (va_cwS 2 hts gX7_ground_X7_whyNotGround rfl rfl rfl (by decide +kernel) ⟨Nat.le_of_ble_eq_true rfl, Nat.le_of_ble_eq_true rfl⟩) (preS_of hK hP hD [1] (by decide) rfl) rfl hl.1 rfl (lv_room (Nat.le_of_ble_eq_true rfl)) dX7_ground_6 ⟨Nat.zero_le _, Nat.zero_le _⟩ ?_
  refine cWV (As := [.int (nI 2)]) (rest := []) (st1 := [.int (zb (0 < 2))]) (w3 := [(M, .inr (4, [.int (nI 2), .ref mt, .int (nI sz), .ref mn, .ref mtr, .ref md, .int (nI ac), .ref mk, .ref mik, .ref na, .ref so])), (mn, .inl (G.2 0, 131, .inl (mr n (nI g) sk mm)))]) ⟨hx, hb, hml, hown, hts⟩ (c_X7_refused l G M rf mt sz mn mtr md ac mk mik na so 2 (by first | omega | assumption)) (cwV 1 hts gX7_ground_X7_refused rfl rfl rfl (by decide +kernel) ⟨Nat.le_of_ble_eq_true rfl, Nat.le_of_ble_eq_true rfl⟩) (preV_of hK hP hD [0] (by decide) rfl (ci := 4) (q0 := 0) rfl rfl rfl) rfl hl.1 rfl (lv_room (Nat.le_of_ble_eq_true rfl)) dX7_ground_9 ⟨Nat.zero_le _, Nat.zero_le _⟩ hP hD hS [0] (by decide) rfl rfl (rfl) rfl (fun H locs hP hD hS => ?_)
  refine bb_eq (tgt := 17) hx hb dX7_ground_12 (by decide) (fun c_12 => False.elim (by omega)) (fun c_12 => ?_)
  refine lv_iconst (v := nI 0) hx hb dX7_ground_15 (by decide) ?_
  exact W_i hx hb hr hlk dX7_ground_16 hP hS (rfl) (rfl)

