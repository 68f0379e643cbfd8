theorem in_c_X7_stops_X7 : ∀ w ∈ wsX70, w ∈ wsX7_stops := by decide +kernel
set_option maxHeartbeats 4000000 in
set_option maxRecDepth 100000 in
theorem c_X7_stops (l : Launch) (G : GG) (M : Nat) (rf : Nat) (mt : Nat) (sz : Nat) (mn : Nat) (mtr : Nat) (md : Nat) (ac : Nat) (mk : Nat) (mik : Nat) (na : Nat) (so : Nat) (n : Nat) (g : Nat) (sk : Int32) (mm : Nat → Int32) (nf : Nat → Int32) (f : Nat → Int32) (ca : Nat) (lv : Nat) (h_n : n ≤ 16) (h_R : MRel n sk g f mm) (h_nf : ∀ x_, x_ < n → nf x_ = f (16 + x_)) (h_ca : ca < 3) (h_lv : lv < n) : Met l yX7_stops wsX7_stops ({ frames := 1, cells := 0, slots := 0, locals := 22 } : Room) (va_Pc [.ref M, .int (nI ca), .int (nI lv)] (PB G [(M, .inr (4, [.int (nI rf), .ref mt, .int (nI sz), .ref mn, .ref mtr, .ref md, .int (nI ac), .ref mk, .ref mik, .ref na, .ref so])), (mn, .inl (G.2 0, 131, .inl (mr n (nI g) sk mm))), (na, .inl (G.2 0, 16, .inl nf))])) (QR (some (.int (zb (stp f ca lv))))) 0 0 (fun _ => False) := by
  refine Met.go (cc := cX7_stops) (maxL := 3) (ret := (some .boolean)) (by decide) rfl (Nat.le_of_ble_eq_true rfl) ?_
  intro p e s m below meth c ls hx hb hr hml hown hts hlk hP hK hD hS hl
  have hown : s.vm.findClass RX7 = some m.cls := hown
  have hl : lv_has ls 3 [(0, .ref M), (1, .int (nI ca)), (2, .int (nI lv))] := hl
  refine lv_aload_n hx hb dX7_stops_0 rfl (lv_at hl 0 rfl) ?_
  refine va_get (D := G.1) (ci := 4) (v := .ref na) (C := RX7) (T := TX7) (N := 11) hx hb hts in_c_X7_stops_X7 hown hK.1 hP 0 rfl rfl 9 (by decide) (hts (.fieldLink RX7 29 "FloorPanelsModel" "names" "[I") (by decide +kernel)) (fun _ h9 => h9) rfl dX7_stops_1 ?_
  refine lv_iload_n hx hb dX7_stops_4 rfl (lv_at hl 2 rfl) ?_
  refine nv_iald hx hb hK hP 2 rfl (by omega) (by decide) dX7_stops_5 ?_
  rw [show nf lv = (f (16 + lv)) from h_nf _ h_lv]
  refine lv_iconst (v := (-1)) hx hb dX7_stops_6 (by decide) ?_
  refine lv_icmp_eq (tgt := 26) hx hb dX7_stops_7 (by decide) (fun c_7 => ?_) (fun c_7 => ?_)
  ·
    refine lv_iconst (v := nI 0) hx hb dX7_stops_26 (by decide) ?_
    exact R_z hx hb hr hlk dX7_stops_27 ((zb_f (fun z_ => z_.1 c_7)).symm) zb_nar
  ·
    refine lv_aload_n hx hb dX7_stops_10 rfl (lv_at hl 0 rfl) ?_
    refine va_get (D := G.1) (ci := 4) (v := .ref mn) (C := RX7) (T := TX7) (N := 11) hx hb hts in_c_X7_stops_X7 hown hK.1 hP 0 rfl rfl 3 (by decide) (hts (.fieldLink RX7 13 "FloorPanelsModel" "now" "[I") (by decide +kernel)) (fun _ h9 => h9) rfl dX7_stops_11 ?_
    refine lv_iload_n hx hb dX7_stops_14 rfl (lv_at hl 1 rfl) ?_
    refine lv_iload_n hx hb dX7_stops_15 rfl (lv_at hl 2 rfl) ?_
    refine cRS (As := [.ref mn, .int (nI ca), .int (nI lv)]) (rest := []) (v := .int (zb (mm (83 + 16 * ca + lv) = 1))) ⟨hx, hb, hml, hown, hts⟩ (c_X7_serves l G mn n g sk mm ca lv (by first | omega | assumption) (by first | omega | assumption)) (va_cwS 3 hts gX7_stops_X7_serves rfl rfl rfl (by decide +kernel) ⟨Nat.le_of_ble_eq_true rfl, Nat.le_of_ble_eq_true rfl⟩) (preS_of hK hP hD [1] (by decide) rfl) rfl hl.1 rfl (lv_room (Nat.le_of_ble_eq_true rfl)) dX7_stops_16 ⟨Nat.zero_le _, Nat.zero_le _⟩ ?_
    rw [show (zb (mm (83 + 16 * ca + lv) = 1)) = zb (f ((6 + ca) * 16 + lv) = 1) from by rw [h_R.2.2.2.2 _ h_ca _ h_lv]]
    refine bb_eq (tgt := 26) hx hb dX7_stops_19 (by decide) (fun c_19 => ?_) (fun c_19 => ?_)
    ·
      refine lv_iconst (v := nI 0) hx hb dX7_stops_26 (by decide) ?_
      exact R_z hx hb hr hlk dX7_stops_27 ((zb_f (fun z_ => c_19 z_.2)).symm) zb_nar
    ·
      refine lv_iconst (v := nI 1) hx hb dX7_stops_22 (by decide) ?_
      refine lv_goto (tgt := 27) hx hb dX7_stops_23 (by decide) ?_
      exact R_z hx hb hr hlk dX7_stops_27 ((zb_t ⟨c_7, c_19⟩).symm) zb_nar

theorem in_c_X7_ride_X7 : ∀ w ∈ wsX70, w ∈ wsX7_ride := by decide +kernel
set_option maxHeartbeats 4000000 in
set_option maxRecDepth 100000 in
theorem c_X7_ride (l : Launch) (G : GG) (M : Nat) (rf : Nat) (mt : Nat) (sz : Nat) (mn : Nat) (mtr : Nat) (md : Nat) (ac : Nat) (mk : Nat) (mik : Nat) (na : Nat) (so : Nat) (n : Nat) (g : Nat) (sk : Int32) (mm : Nat → Int32) (nf : Nat → Int32) (f : Nat → Int32) (ca : Nat) (fr : Nat) (nv : Int32) (h_n : n ≤ 16) (h_R : MRel n sk g f mm) (h_nf : ∀ x_, x_ < n → nf x_ = f (16 + x_)) (h_ca : ca < 3) (h_fr : fr < n) : Met l yX7_ride wsX7_ride ({ frames := 2, cells := 0, slots := 0, locals := 44 } : Room) (va_Pc [.ref M, .int (nI ca), .int (nI fr), .int nv] (PB G [(M, .inr (4, [.int (nI rf), .ref mt, .int (nI sz), .ref mn, .ref mtr, .ref md, .int (nI ac), .ref mk, .ref mik, .ref na, .ref so])), (mn, .inl (G.2 0, 131, .inl (mr n (nI g) sk mm))), (na, .inl (G.2 0, 16, .inl nf))])) (QR (some (.int (dst f n ca fr nv)))) 0 0 (fun _ => False) := by
  refine Met.go (cc := cX7_ride) (maxL := 5) (ret := (some .int)) (by decide) rfl (Nat.le_of_ble_eq_true rfl) ?_
  intro p e s m below meth c ls hx hb hr hml hown hts hlk hP hK hD hS hl
  have hown : s.vm.findClass RX7 = some m.cls := hown
  have hl : lv_has ls 5 [(0, .ref M), (1, .int (nI ca)), (2, .int (nI fr)), (3, .int nv)] := hl
  refine lv_iload_n hx hb dX7_ride_0 rfl (lv_at hl 3 rfl) ?_
  refine lv_iconst (v := (-1)) hx hb dX7_ride_1 (by decide) ?_
  refine lv_icmp_eq (tgt := 14) hx hb dX7_ride_2 (by decide) (fun c_2 => ?_) (fun c_2 => ?_)
  ·
    refine lv_iconst (v := (-1)) hx hb dX7_ride_14 (by decide) ?_
    exact R_i hx hb hr hlk dX7_ride_15 ((dst_n (Or.inl c_2)).symm)
  ·
    refine lv_aload_n hx hb dX7_ride_5 rfl (lv_at hl 0 rfl) ?_
    refine lv_iload_n hx hb dX7_ride_6 rfl (lv_at hl 1 rfl) ?_
    refine lv_iload_n hx hb dX7_ride_7 rfl (lv_at hl 2 rfl) ?_
    refine cRV (As := [.int (nI ca), .int (nI fr)]) (rest := []) (v := .int (zb (stp f ca fr))) ⟨hx, hb, hml, hown, hts⟩ (c_X7_stops l G M rf mt sz mn mtr md ac mk mik na so n g sk mm nf f ca fr (by first | omega | assumption) (by first | omega | assumption) (by first | omega | assumption) (by first | omega | assumption) (by first | omega | assumption)) (cwV 2 hts gX7_ride_X7_stops rfl rfl rfl (by decide +kernel) ⟨Nat.le_of_ble_eq_true rfl, Nat.le_of_ble_eq_true rfl⟩) (preV_of hK hP hD [0, 1, 2] (by decide) rfl (ci := 4) (q0 := 0) rfl rfl rfl) rfl hl.1 rfl (lv_room (Nat.le_of_ble_eq_true rfl)) dX7_ride_8 ⟨Nat.zero_le _, Nat.zero_le _⟩ ?_
    refine bb_ne (tgt := 16) hx hb dX7_ride_11 (by decide) (fun c_11 => ?_) (fun c_11 => ?_)
    ·
      refine lv_iconst (v := nI 0) hx hb dX7_ride_16 (by decide) ?_
      refine lv_istore (lv' := [(4, .int (nI 0)), (0, .ref M), (1, .int (nI ca)), (2, .int (nI fr)), (3, .int nv)]) hx hb dX7_ride_17 hl (by decide) rfl (fun ls hl => ?_)
      have loop_19 : ∀ (k_ : Nat) (i : Nat) (h_i : i ≤ n) (h_e : kth (fun x_ => x_ ≠ fr ∧ stp f ca x_ ∧ f ((3 + ca) * 16 + x_) = nv) n 0 0 = kth (fun x_ => x_ ≠ fr ∧ stp f ca x_ ∧ f ((3 + ca) * 16 + x_) = nv) (n - i) i 0) (_ : n - i < k_) (ls : Array Slot), lv_has ls 5 [(4, .int (nI i)), (0, .ref M), (1, .int (nI ca)), (2, .int (nI fr)), (3, .int nv)] → W p l e ({ frames := 2, cells := 0, slots := 0, locals := 44 } : Room) s m ([.ref M, .int (nI ca), .int (nI fr), .int nv] : List Value).toArray below meth c s.heap [] 0 0 (MQ below (QR (some (.int (dst f n ca fr nv)))) ([.ref M, .int (nI ca), .int (nI fr), .int nv] : List Value).toArray s 0 0 (fun _ => False)) (F0 m 19 ls []) := by
        intro k_
        induction k_ with
        | zero => intro i h_i h_e hk_; exact absurd hk_ (Nat.not_lt_zero _)
        | succ k_ ih_19 =>
          intro i h_i h_e hk_ ls hl
          refine lv_iload hx hb dX7_ride_19 (lv_at hl 0 rfl) ?_
          refine lv_aload_n hx hb dX7_ride_21 rfl (lv_at hl 1 rfl) ?_
          refine va_get (D := G.1) (ci := 4) (v := .ref mn) (C := RX7) (T := TX7) (N := 11) hx hb hts in_c_X7_ride_X7 hown hK.1 hP 0 rfl rfl 3 (by decide) (hts (.fieldLink RX7 13 "FloorPanelsModel" "now" "[I") (by decide +kernel)) (fun _ h9 => h9) rfl dX7_ride_22 ?_
          refine lv_iconst (v := nI 0) hx hb dX7_ride_25 (by decide) ?_
          refine nv_iald hx hb hK hP 1 rfl (by omega) (by decide) dX7_ride_26 ?_
          rw [show (mr n (nI g) sk mm) 0 = nI n from mr_0]
          refine bi_ge (tgt := 69) hx hb dX7_ride_27 (by decide) (nI_i (by omega)) (nI_i (by omega)) (fun c_27 => ?_) (fun c_27 => ?_)
          ·
            refine lv_iconst (v := (-1)) hx hb dX7_ride_69 (by decide) ?_
            exact R_i hx hb hr hlk dX7_ride_70 (by rw [dst_s c_2 c_11, h_e, show n - i = 0 by omega]; rfl)
          ·
            refine lv_iload hx hb dX7_ride_30 (lv_at hl 0 rfl) ?_
            refine lv_iload_n hx hb dX7_ride_32 rfl (lv_at hl 3 rfl) ?_
            refine bi_eq (tgt := 63) hx hb dX7_ride_33 (by decide) (nI_i (by omega)) (nI_i (by omega)) (fun c_33 => ?_) (fun c_33 => ?_)
            ·
              refine lv_iinc (v := nI (i + 1)) (lv' := [(4, .int (nI (i + 1))), (0, .ref M), (1, .int (nI ca)), (2, .int (nI fr)), (3, .int nv)]) hx hb dX7_ride_63 hl (k := 0) rfl (inc_n _ 1) (by decide) rfl (fun ls hl => ?_)
              refine lv_goto (tgt := 19) hx hb dX7_ride_66 (by decide) ?_
              exact ih_19 (i + 1) (by first | omega | assumption) (by rw [h_e, show n - i = n - (i + 1) + 1 by omega]; first | exact kth_n (fun z_ => z_.1 (by omega)) | exact kth_n (fun z_ => (show ¬ stp f ca i from by assumption) z_.2.1) | exact kth_n (fun z_ => (show ¬ f ((3 + ca) * 16 + i) = nv from by assumption) z_.2.2)) (by omega) ls (lv_sub hl [0, 1, 2, 3, 4] (by rfl))
            ·
              refine lv_aload_n hx hb dX7_ride_36 rfl (lv_at hl 1 rfl) ?_
              refine lv_iload_n hx hb dX7_ride_37 rfl (lv_at hl 2 rfl) ?_
              refine lv_iload hx hb dX7_ride_38 (lv_at hl 0 rfl) ?_
              refine cRV (As := [.int (nI ca), .int (nI i)]) (rest := []) (v := .int (zb (stp f ca i))) ⟨hx, hb, hml, hown, hts⟩ (c_X7_stops l G M rf mt sz mn mtr md ac mk mik na so n g sk mm nf f ca i (by first | omega | assumption) (by first | omega | assumption) (by first | omega | assumption) (by first | omega | assumption) (by first | omega | assumption)) (cwV 2 hts gX7_ride_X7_stops rfl rfl rfl (by decide +kernel) ⟨Nat.le_of_ble_eq_true rfl, Nat.le_of_ble_eq_true rfl⟩) (preV_of hK hP hD [0, 1, 2] (by decide) rfl (ci := 4) (q0 := 0) rfl rfl rfl) rfl hl.1 rfl (lv_room (Nat.le_of_ble_eq_true rfl)) dX7_ride_40 ⟨Nat.zero_le _, Nat.zero_le _⟩ ?_
              refine bb_eq (tgt := 63) hx hb dX7_ride_43 (by decide) (fun c_43 => ?_) (fun c_43 => ?_)
              ·
                refine lv_iinc (v := nI (i + 1)) (lv' := [(4, .int (nI (i + 1))), (0, .ref M), (1, .int (nI ca)), (2, .int (nI fr)), (3, .int nv)]) hx hb dX7_ride_63 hl (k := 0) rfl (inc_n _ 1) (by decide) rfl (fun ls hl => ?_)
                refine lv_goto (tgt := 19) hx hb dX7_ride_66 (by decide) ?_
                exact ih_19 (i + 1) (by first | omega | assumption) (by rw [h_e, show n - i = n - (i + 1) + 1 by omega]; first | exact kth_n (fun z_ => z_.1 (by omega)) | exact kth_n (fun z_ => (show ¬ stp f ca i from by assumption) z_.2.1) | exact kth_n (fun z_ => (show ¬ f ((3 + ca) * 16 + i) = nv from by assumption) z_.2.2)) (by omega) ls (lv_sub hl [0, 1, 2, 3, 4] (by rfl))
              ·
                refine lv_aload_n hx hb dX7_ride_46 rfl (lv_at hl 1 rfl) ?_
                refine va_get (D := G.1) (ci := 4) (v := .ref mn) (C := RX7) (T := TX7) (N := 11) hx hb hts in_c_X7_ride_X7 hown hK.1 hP 0 rfl rfl 3 (by decide) (hts (.fieldLink RX7 13 "FloorPanelsModel" "now" "[I") (by decide +kernel)) (fun _ h9 => h9) rfl dX7_ride_47 ?_
                refine lv_iload_n hx hb dX7_ride_50 rfl (lv_at hl 2 rfl) ?_
                refine lv_iload hx hb dX7_ride_51 (lv_at hl 0 rfl) ?_
                refine cRS (As := [.ref mn, .int (nI ca), .int (nI i)]) (rest := []) (v := .int (mm (35 + 16 * ca + i))) ⟨hx, hb, hml, hown, hts⟩ (c_X7_says l G mn n g sk mm ca i (by first | omega | assumption) (by first | omega | assumption)) (va_cwS 3 hts gX7_ride_X7_says rfl rfl rfl (by decide +kernel) ⟨Nat.le_of_ble_eq_true rfl, Nat.le_of_ble_eq_true rfl⟩) (preS_of hK hP hD [1] (by decide) rfl) rfl hl.1 rfl (lv_room (Nat.le_of_ble_eq_true rfl)) dX7_ride_53 ⟨Nat.zero_le _, Nat.zero_le _⟩ ?_
                rw [show ((mm (35 + 16 * ca + i))) = (f ((3 + ca) * 16 + i)) from h_R.2.2.2.1 _ h_ca _ (by omega)]
                refine lv_iload_n hx hb dX7_ride_56 rfl (lv_at hl 4 rfl) ?_
                refine lv_icmp_ne (tgt := 63) hx hb dX7_ride_57 (by decide) (fun c_57 => ?_) (fun c_57 => ?_)
                ·
                  refine lv_iinc (v := nI (i + 1)) (lv' := [(4, .int (nI (i + 1))), (0, .ref M), (1, .int (nI ca)), (2, .int (nI fr)), (3, .int nv)]) hx hb dX7_ride_63 hl (k := 0) rfl (inc_n _ 1) (by decide) rfl (fun ls hl => ?_)
                  refine lv_goto (tgt := 19) hx hb dX7_ride_66 (by decide) ?_
                  exact ih_19 (i + 1) (by first | omega | assumption) (by rw [h_e, show n - i = n - (i + 1) + 1 by omega]; first | exact kth_n (fun z_ => z_.1 (by omega)) | exact kth_n (fun z_ => (show ¬ stp f ca i from by assumption) z_.2.1) | exact kth_n (fun z_ => (show ¬ f ((3 + ca) * 16 + i) = nv from by assumption) z_.2.2)) (by omega) ls (lv_sub hl [0, 1, 2, 3, 4] (by rfl))
                ·
                  refine lv_iload hx hb dX7_ride_60 (lv_at hl 0 rfl) ?_
                  exact R_i hx hb hr hlk dX7_ride_62 (by rw [dst_s c_2 c_11, h_e, show n - i = n - (i + 1) + 1 by omega, kth_0 ⟨by omega, c_43, c_57⟩])
      exact loop_19 (n - 0 + 1) 0 (by first | omega | assumption) rfl (Nat.lt_succ_self _)  ls (lv_sub hl [0, 1, 2, 3, 4] (by rfl))
    ·
      refine lv_iconst (v := (-1)) hx hb dX7_ride_14 (by decide) ?_
      exact R_i hx hb hr hlk dX7_ride_15 ((dst_n (Or.inr c_11)).symm)

theorem in_c_X7_strays_X7 : ∀ w ∈ wsX70, w ∈ wsX7_strays := by decide +kernel
set_option maxHeartbeats 4000000 in
set_option maxRecDepth 100000 in
theorem c_X7_strays (l : Launch) (G : GG) (M : Nat) (rf : Nat) (mt : Nat) (sz : Nat) (mn : Nat) (mtr : Nat) (md : Nat) (ac : Nat) (mk : Nat) (mik : Nat) (na : Nat) (so : Nat) (n : Nat) (g : Nat) (sk : Int32) (mm : Nat → Int32) (nf : Nat → Int32) (f : Nat → Int32) (ca : Nat) (h_n : n ≤ 16) (h_R : MRel n sk g f mm) (h_nf : ∀ x_, x_ < n → nf x_ = f (16 + x_)) (h_ca : ca < 3) : Met l yX7_strays wsX7_strays ({ frames := 3, cells := 0, slots := 0, locals := 68 } : Room) (va_Pc [.ref M, .int (nI ca)] (PB G [(M, .inr (4, [.int (nI rf), .ref mt, .int (nI sz), .ref mn, .ref mtr, .ref md, .int (nI ac), .ref mk, .ref mik, .ref na, .ref so])), (mn, .inl (G.2 0, 131, .inl (mr n (nI g) sk mm))), (na, .inl (G.2 0, 16, .inl nf))])) (QR (some (.int (nI (ast f n ca n))))) 0 0 (fun _ => False) := by
  refine Met.go (cc := cX7_strays) (maxL := 5) (ret := (some .int)) (by decide) rfl (Nat.le_of_ble_eq_true rfl) ?_
  intro p e s m below meth c ls hx hb hr hml hown hts hlk hP hK hD hS hl
  have hown : s.vm.findClass RX7 = some m.cls := hown
  have hl : lv_has ls 5 [(0, .ref M), (1, .int (nI ca))] := hl
  refine lv_iconst (v := nI 0) hx hb dX7_strays_0 (by decide) ?_
  refine lv_istore_n (lv' := [(2, .int (nI 0)), (0, .ref M), (1, .int (nI ca))]) hx hb dX7_strays_1 rfl hl (by decide) rfl (fun ls hl => ?_)
  refine lv_iconst (v := nI 0) hx hb dX7_strays_2 (by decide) ?_
  refine lv_istore_n (lv' := [(3, .int (nI 0)), (2, .int (nI 0)), (0, .ref M), (1, .int (nI ca))]) hx hb dX7_strays_3 rfl hl (by decide) rfl (fun ls hl => ?_)
  have loop_4 : ∀ (k_ : Nat) (fr : Nat) (h_fr : fr ≤ n) (h_b : ast f n ca fr ≤ fr * 16) (_ : n - fr < k_) (ls : Array Slot), lv_has ls 5 [(3, .int (nI fr)), (2, .int (nI (ast f n ca fr))), (0, .ref M), (1, .int (nI ca))] → W p l e ({ frames := 3, cells := 0, slots := 0, locals := 68 } : Room) s m ([.ref M, .int (nI ca)] : List Value).toArray below meth c s.heap [] 0 0 (MQ below (QR (some (.int (nI (ast f n ca n))))) ([.ref M, .int (nI ca)] : List Value).toArray s 0 0 (fun _ => False)) (F0 m 4 ls []) := by
    intro k_
    induction k_ with
    | zero => intro fr h_fr h_b hk_; exact absurd hk_ (Nat.not_lt_zero _)
    | succ k_ ih_4 =>
      intro fr h_fr h_b hk_ ls hl
      refine lv_iload_n hx hb dX7_strays_4 rfl (lv_at hl 0 rfl) ?_
      refine lv_aload_n hx hb dX7_strays_5 rfl (lv_at hl 2 rfl) ?_
      refine va_get (D := G.1) (ci := 4) (v := .ref mn) (C := RX7) (T := TX7) (N := 11) hx hb hts in_c_X7_strays_X7 hown hK.1 hP 0 rfl rfl 3 (by decide) (hts (.fieldLink RX7 13 "FloorPanelsModel" "now" "[I") (by decide +kernel)) (fun _ h9 => h9) rfl dX7_strays_6 ?_
      refine lv_iconst (v := nI 0) hx hb dX7_strays_9 (by decide) ?_
      refine nv_iald hx hb hK hP 1 rfl (by omega) (by decide) dX7_strays_10 ?_
      rw [show (mr n (nI g) sk mm) 0 = nI n from mr_0]
      refine bi_ge (tgt := 94) hx hb dX7_strays_11 (by decide) (nI_i (by omega)) (nI_i (by omega)) (fun c_11 => ?_) (fun c_11 => ?_)
      ·
        refine lv_iload_n hx hb dX7_strays_94 rfl (lv_at hl 1 rfl) ?_
        exact R_i hx hb hr hlk dX7_strays_95 (by rw [show fr = n by omega])
      ·
        refine lv_iconst (v := nI 0) hx hb dX7_strays_14 (by decide) ?_
        refine lv_istore (lv' := [(4, .int (nI 0)), (3, .int (nI fr)), (2, .int (nI (ast f n ca fr))), (0, .ref M), (1, .int (nI ca))]) hx hb dX7_strays_15 hl (by decide) rfl (fun ls hl => ?_)
        have loop_17 : ∀ (k_ : Nat) (to : Nat) (h_to : to ≤ n) (h_b1 : ast1 f n ca fr to ≤ to) (_ : n - to < k_) (ls : Array Slot), lv_has ls 5 [(4, .int (nI to)), (3, .int (nI fr)), (2, .int (nI (ast f n ca fr + ast1 f n ca fr to))), (0, .ref M), (1, .int (nI ca))] → W p l e ({ frames := 3, cells := 0, slots := 0, locals := 68 } : Room) s m ([.ref M, .int (nI ca)] : List Value).toArray below meth c s.heap [] 0 0 (MQ below (QR (some (.int (nI (ast f n ca n))))) ([.ref M, .int (nI ca)] : List Value).toArray s 0 0 (fun _ => False)) (F0 m 17 ls []) := by
          intro k_
          induction k_ with
          | zero => intro to h_to h_b1 hk_; exact absurd hk_ (Nat.not_lt_zero _)
          | succ k_ ih_17 =>
            intro to h_to h_b1 hk_ ls hl
            refine lv_iload hx hb dX7_strays_17 (lv_at hl 0 rfl) ?_
            refine lv_aload_n hx hb dX7_strays_19 rfl (lv_at hl 3 rfl) ?_
            refine va_get (D := G.1) (ci := 4) (v := .ref mn) (C := RX7) (T := TX7) (N := 11) hx hb hts in_c_X7_strays_X7 hown hK.1 hP 0 rfl rfl 3 (by decide) (hts (.fieldLink RX7 13 "FloorPanelsModel" "now" "[I") (by decide +kernel)) (fun _ h9 => h9) rfl dX7_strays_20 ?_
            refine lv_iconst (v := nI 0) hx hb dX7_strays_23 (by decide) ?_
            refine nv_iald hx hb hK hP 1 rfl (by omega) (by decide) dX7_strays_24 ?_
            rw [show (mr n (nI g) sk mm) 0 = nI n from mr_0]
            refine bi_ge (tgt := 88) hx hb dX7_strays_25 (by decide) (nI_i (by omega)) (nI_i (by omega)) (fun c_25 => ?_) (fun c_25 => ?_)
            ·
              refine lv_iinc (v := nI (fr + 1)) (lv' := [(3, .int (nI (fr + 1))), (4, .int (nI to)), (2, .int (nI (ast f n ca fr + ast1 f n ca fr to))), (0, .ref M), (1, .int (nI ca))]) hx hb dX7_strays_88 hl (k := 1) rfl (inc_n _ 1) (by decide) rfl (fun ls hl => ?_)
              refine lv_goto (tgt := 4) hx hb dX7_strays_91 (by decide) ?_
              exact ih_4 (fr + 1) (by first | omega | assumption) (ast_le f ca h_n _) (by omega) ls (lv_sub hl [0, 2, 3, 4] (by first | rfl | (rw [ast_s, show n = to by omega]; rfl)))
            ·
              refine lv_iload_n hx hb dX7_strays_28 rfl (lv_at hl 2 rfl) ?_
              refine lv_iload_n hx hb dX7_strays_29 rfl (lv_at hl 1 rfl) ?_
              refine lv_iload hx hb dX7_strays_30 (lv_at hl 0 rfl) ?_
              refine bi_eq (tgt := 79) hx hb dX7_strays_32 (by decide) (nI_i (by omega)) (nI_i (by omega)) (fun c_32 => ?_) (fun c_32 => ?_)
              ·
                refine lv_iconst (v := nI 0) hx hb dX7_strays_79 (by decide) ?_
                refine nv_iadd hx hb dX7_strays_80 ?_
                refine lv_istore_n (lv' := [(2, .int (nI ((ast f n ca fr + ast1 f n ca fr to) + 0))), (4, .int (nI to)), (3, .int (nI fr)), (0, .ref M), (1, .int (nI ca))]) hx hb dX7_strays_81 rfl hl (by decide) rfl (fun ls hl => ?_)
                refine lv_iinc (v := nI (to + 1)) (lv' := [(4, .int (nI (to + 1))), (2, .int (nI ((ast f n ca fr + ast1 f n ca fr to) + 0))), (3, .int (nI fr)), (0, .ref M), (1, .int (nI ca))]) hx hb dX7_strays_82 hl (k := 1) rfl (inc_n _ 1) (by decide) rfl (fun ls hl => ?_)
                refine lv_goto (tgt := 17) hx hb dX7_strays_85 (by decide) ?_
                exact ih_17 (to + 1) (by first | omega | assumption) (ast1_le _ _ _ _ _) (by omega) ls (lv_sub hl [0, 2, 1, 3, 4] (by first | rfl | (rw [show ast1 f n ca fr (to + 1) = ast1 f n ca fr to + 1 from ct_t ⟨by omega, by assumption, by assumption, by assumption⟩]; rfl) | (rw [show ast1 f n ca fr (to + 1) = ast1 f n ca fr to from ct_f (fun z_ => by first | exact absurd z_.1 (by omega) | exact (show ¬ stp f ca fr from by assumption) z_.2.1 | exact (show ¬ stp f ca to from by assumption) z_.2.2.1 | exact z_.2.2.2 (by assumption))]; rfl)))
              ·
                refine lv_aload_n hx hb dX7_strays_35 rfl (lv_at hl 3 rfl) ?_
                refine lv_iload_n hx hb dX7_strays_36 rfl (lv_at hl 4 rfl) ?_
                refine lv_iload_n hx hb dX7_strays_37 rfl (lv_at hl 1 rfl) ?_
                refine cRV (As := [.int (nI ca), .int (nI fr)]) (rest := [.int (nI (ast f n ca fr + ast1 f n ca fr to))]) (v := .int (zb (stp f ca fr))) ⟨hx, hb, hml, hown, hts⟩ (c_X7_stops l G M rf mt sz mn mtr md ac mk mik na so n g sk mm nf f ca fr (by first | omega | assumption) (by first | omega | assumption) (by first | omega | assumption) (by first | omega | assumption) (by first | omega | assumption)) (cwV 2 hts gX7_strays_X7_stops rfl rfl rfl (by decide +kernel) ⟨Nat.le_of_ble_eq_true rfl, Nat.le_of_ble_eq_true rfl⟩) (preV_of hK hP hD [0, 1, 2] (by decide) rfl (ci := 4) (q0 := 0) rfl rfl rfl) rfl hl.1 rfl (lv_room (Nat.le_of_ble_eq_true rfl)) dX7_strays_38 ⟨Nat.zero_le _, Nat.zero_le _⟩ ?_
                refine bb_eq (tgt := 79) hx hb dX7_strays_41 (by decide) (fun c_41 => ?_) (fun c_41 => ?_)
                ·
                  refine lv_iconst (v := nI 0) hx hb dX7_strays_79 (by decide) ?_
                  refine nv_iadd hx hb dX7_strays_80 ?_
                  refine lv_istore_n (lv' := [(2, .int (nI ((ast f n ca fr + ast1 f n ca fr to) + 0))), (4, .int (nI to)), (3, .int (nI fr)), (0, .ref M), (1, .int (nI ca))]) hx hb dX7_strays_81 rfl hl (by decide) rfl (fun ls hl => ?_)
                  refine lv_iinc (v := nI (to + 1)) (lv' := [(4, .int (nI (to + 1))), (2, .int (nI ((ast f n ca fr + ast1 f n ca fr to) + 0))), (3, .int (nI fr)), (0, .ref M), (1, .int (nI ca))]) hx hb dX7_strays_82 hl (k := 1) rfl (inc_n _ 1) (by decide) rfl (fun ls hl => ?_)
                  refine lv_goto (tgt := 17) hx hb dX7_strays_85 (by decide) ?_
                  exact ih_17 (to + 1) (by first | omega | assumption) (ast1_le _ _ _ _ _) (by omega) ls (lv_sub hl [0, 2, 1, 3, 4] (by first | rfl | (rw [show ast1 f n ca fr (to + 1) = ast1 f n ca fr to + 1 from ct_t ⟨by omega, by assumption, by assumption, by assumption⟩]; rfl) | (rw [show ast1 f n ca fr (to + 1) = ast1 f n ca fr to from ct_f (fun z_ => by first | exact absurd z_.1 (by omega) | exact (show ¬ stp f ca fr from by assumption) z_.2.1 | exact (show ¬ stp f ca to from by assumption) z_.2.2.1 | exact z_.2.2.2 (by assumption))]; rfl)))
                ·
                  refine lv_aload_n hx hb dX7_strays_44 rfl (lv_at hl 3 rfl) ?_
                  refine lv_iload_n hx hb dX7_strays_45 rfl (lv_at hl 4 rfl) ?_
                  refine lv_iload hx hb dX7_strays_46 (lv_at hl 0 rfl) ?_
                  refine cRV (As := [.int (nI ca), .int (nI to)]) (rest := [.int (nI (ast f n ca fr + ast1 f n ca fr to))]) (v := .int (zb (stp f ca to))) ⟨hx, hb, hml, hown, hts⟩ (c_X7_stops l G M rf mt sz mn mtr md ac mk mik na so n g sk mm nf f ca to (by first | omega | assumption) (by first | omega | assumption) (by first | omega | assumption) (by first | omega | assumption) (by first | omega | assumption)) (cwV 2 hts gX7_strays_X7_stops rfl rfl rfl (by decide +kernel) ⟨Nat.le_of_ble_eq_true rfl, Nat.le_of_ble_eq_true rfl⟩) (preV_of hK hP hD [0, 1, 2] (by decide) rfl (ci := 4) (q0 := 0) rfl rfl rfl) rfl hl.1 rfl (lv_room (Nat.le_of_ble_eq_true rfl)) dX7_strays_48 ⟨Nat.zero_le _, Nat.zero_le _⟩ ?_
                  refine bb_eq (tgt := 79) hx hb dX7_strays_51 (by decide) (fun c_51 => ?_) (fun c_51 => ?_)
                  ·
                    refine lv_iconst (v := nI 0) hx hb dX7_strays_79 (by decide) ?_
                    refine nv_iadd hx hb dX7_strays_80 ?_
                    refine lv_istore_n (lv' := [(2, .int (nI ((ast f n ca fr + ast1 f n ca fr to) + 0))), (4, .int (nI to)), (3, .int (nI fr)), (0, .ref M), (1, .int (nI ca))]) hx hb dX7_strays_81 rfl hl (by decide) rfl (fun ls hl => ?_)
                    refine lv_iinc (v := nI (to + 1)) (lv' := [(4, .int (nI (to + 1))), (2, .int (nI ((ast f n ca fr + ast1 f n ca fr to) + 0))), (3, .int (nI fr)), (0, .ref M), (1, .int (nI ca))]) hx hb dX7_strays_82 hl (k := 1) rfl (inc_n _ 1) (by decide) rfl (fun ls hl => ?_)
                    refine lv_goto (tgt := 17) hx hb dX7_strays_85 (by decide) ?_
                    exact ih_17 (to + 1) (by first | omega | assumption) (ast1_le _ _ _ _ _) (by omega) ls (lv_sub hl [0, 2, 1, 3, 4] (by first | rfl | (rw [show ast1 f n ca fr (to + 1) = ast1 f n ca fr to + 1 from ct_t ⟨by omega, by assumption, by assumption, by assumption⟩]; rfl) | (rw [show ast1 f n ca fr (to + 1) = ast1 f n ca fr to from ct_f (fun z_ => by first | exact absurd z_.1 (by omega) | exact (show ¬ stp f ca fr from by assumption) z_.2.1 | exact (show ¬ stp f ca to from by assumption) z_.2.2.1 | exact z_.2.2.2 (by assumption))]; rfl)))
                  ·
                    refine lv_aload_n hx hb dX7_strays_54 rfl (lv_at hl 3 rfl) ?_
                    refine lv_iload_n hx hb dX7_strays_55 rfl (lv_at hl 4 rfl) ?_
                    refine lv_iload_n hx hb dX7_strays_56 rfl (lv_at hl 1 rfl) ?_
                    refine lv_aload_n hx hb dX7_strays_57 rfl (lv_at hl 3 rfl) ?_
                    refine va_get (D := G.1) (ci := 4) (v := .ref mn) (C := RX7) (T := TX7) (N := 11) hx hb hts in_c_X7_strays_X7 hown hK.1 hP 0 rfl rfl 3 (by decide) (hts (.fieldLink RX7 13 "FloorPanelsModel" "now" "[I") (by decide +kernel)) (fun _ h9 => h9) rfl dX7_strays_58 ?_
                    refine lv_iload_n hx hb dX7_strays_61 rfl (lv_at hl 4 rfl) ?_
                    refine lv_iload hx hb dX7_strays_62 (lv_at hl 0 rfl) ?_
                    refine cRS (As := [.ref mn, .int (nI ca), .int (nI to)]) (rest := [.int (nI fr), .int (nI ca), .ref M, .int (nI (ast f n ca fr + ast1 f n ca fr to))]) (v := .int (mm (35 + 16 * ca + to))) ⟨hx, hb, hml, hown, hts⟩ (c_X7_says l G mn n g sk mm ca to (by first | omega | assumption) (by first | omega | assumption)) (va_cwS 3 hts gX7_strays_X7_says rfl rfl rfl (by decide +kernel) ⟨Nat.le_of_ble_eq_true rfl, Nat.le_of_ble_eq_true rfl⟩) (preS_of hK hP hD [1] (by decide) rfl) rfl hl.1 rfl (lv_room (Nat.le_of_ble_eq_true rfl)) dX7_strays_64 ⟨Nat.zero_le _, Nat.zero_le _⟩ ?_
                    rw [show ((mm (35 + 16 * ca + to))) = (f ((3 + ca) * 16 + to)) from h_R.2.2.2.1 _ h_ca _ (by omega)]
                    refine cRV (As := [.int (nI ca), .int (nI fr), .int (f ((3 + ca) * 16 + to))]) (rest := [.int (nI (ast f n ca fr + ast1 f n ca fr to))]) (v := .int (dst f n ca fr (f ((3 + ca) * 16 + to)))) ⟨hx, hb, hml, hown, hts⟩ (c_X7_ride l G M rf mt sz mn mtr md ac mk mik na so n g sk mm nf f ca fr (f ((3 + ca) * 16 + to)) (by first | omega | assumption) (by first | omega | assumption) (by first | omega | assumption) (by first | omega | assumption) (by first | omega | assumption)) (cwV 3 hts gX7_strays_X7_ride rfl rfl rfl (by decide +kernel) ⟨Nat.le_of_ble_eq_true rfl, Nat.le_of_ble_eq_true rfl⟩) (preV_of hK hP hD [0, 1, 2] (by decide) rfl (ci := 4) (q0 := 0) rfl rfl rfl) rfl hl.1 rfl (lv_room (Nat.le_of_ble_eq_true rfl)) dX7_strays_67 ⟨Nat.zero_le _, Nat.zero_le _⟩ ?_
                    refine lv_iload hx hb dX7_strays_70 (lv_at hl 0 rfl) ?_
                    refine lv_icmp_eq (tgt := 79) hx hb dX7_strays_72 (by decide) (fun c_72 => ?_) (fun c_72 => ?_)
                    ·
                      refine lv_iconst (v := nI 0) hx hb dX7_strays_79 (by decide) ?_
                      refine nv_iadd hx hb dX7_strays_80 ?_
                      refine lv_istore_n (lv' := [(2, .int (nI ((ast f n ca fr + ast1 f n ca fr to) + 0))), (4, .int (nI to)), (3, .int (nI fr)), (0, .ref M), (1, .int (nI ca))]) hx hb dX7_strays_81 rfl hl (by decide) rfl (fun ls hl => ?_)
                      refine lv_iinc (v := nI (to + 1)) (lv' := [(4, .int (nI (to + 1))), (2, .int (nI ((ast f n ca fr + ast1 f n ca fr to) + 0))), (3, .int (nI fr)), (0, .ref M), (1, .int (nI ca))]) hx hb dX7_strays_82 hl (k := 1) rfl (inc_n _ 1) (by decide) rfl (fun ls hl => ?_)
                      refine lv_goto (tgt := 17) hx hb dX7_strays_85 (by decide) ?_
                      exact ih_17 (to + 1) (by first | omega | assumption) (ast1_le _ _ _ _ _) (by omega) ls (lv_sub hl [0, 2, 1, 3, 4] (by first | rfl | (rw [show ast1 f n ca fr (to + 1) = ast1 f n ca fr to + 1 from ct_t ⟨by omega, by assumption, by assumption, by assumption⟩]; rfl) | (rw [show ast1 f n ca fr (to + 1) = ast1 f n ca fr to from ct_f (fun z_ => by first | exact absurd z_.1 (by omega) | exact (show ¬ stp f ca fr from by assumption) z_.2.1 | exact (show ¬ stp f ca to from by assumption) z_.2.2.1 | exact z_.2.2.2 (by assumption))]; rfl)))
                    ·
                      refine lv_iconst (v := nI 1) hx hb dX7_strays_75 (by decide) ?_
                      refine lv_goto (tgt := 80) hx hb dX7_strays_76 (by decide) ?_
                      refine nv_iadd hx hb dX7_strays_80 ?_
                      refine lv_istore_n (lv' := [(2, .int (nI ((ast f n ca fr + ast1 f n ca fr to) + 1))), (4, .int (nI to)), (3, .int (nI fr)), (0, .ref M), (1, .int (nI ca))]) hx hb dX7_strays_81 rfl hl (by decide) rfl (fun ls hl => ?_)
                      refine lv_iinc (v := nI (to + 1)) (lv' := [(4, .int (nI (to + 1))), (2, .int (nI ((ast f n ca fr + ast1 f n ca fr to) + 1))), (3, .int (nI fr)), (0, .ref M), (1, .int (nI ca))]) hx hb dX7_strays_82 hl (k := 1) rfl (inc_n _ 1) (by decide) rfl (fun ls hl => ?_)
                      refine lv_goto (tgt := 17) hx hb dX7_strays_85 (by decide) ?_
                      exact ih_17 (to + 1) (by first | omega | assumption) (ast1_le _ _ _ _ _) (by omega) ls (lv_sub hl [0, 2, 1, 3, 4] (by first | rfl | (rw [show ast1 f n ca fr (to + 1) = ast1 f n ca fr to + 1 from ct_t ⟨by omega, by assumption, by assumption, by assumption⟩]; rfl) | (rw [show ast1 f n ca fr (to + 1) = ast1 f n ca fr to from ct_f (fun z_ => by first | exact absurd z_.1 (by omega) | exact (show ¬ stp f ca fr from by assumption) z_.2.1 | exact (show ¬ stp f ca to from by assumption) z_.2.2.1 | exact z_.2.2.2 (by assumption))]; rfl)))
        exact loop_17 (n - 0 + 1) 0 (by first | omega | assumption) (ast1_le _ _ _ _ _) (Nat.lt_succ_self _)  ls (lv_sub hl [0, 1, 2, 3, 4] (by first | rfl | (rw [show ast1 f n ca fr (to + 1) = ast1 f n ca fr to + 1 from ct_t ⟨by omega, by assumption, by assumption, by assumption⟩]; rfl) | (rw [show ast1 f n ca fr (to + 1) = ast1 f n ca fr to from ct_f (fun z_ => by first | exact absurd z_.1 (by omega) | exact (show ¬ stp f ca fr from by assumption) z_.2.1 | exact (show ¬ stp f ca to from by assumption) z_.2.2.1 | exact z_.2.2.2 (by assumption))]; rfl)))
  exact loop_4 (n - 0 + 1) 0 (by first | omega | assumption) (ast_le f ca h_n 0) (Nat.lt_succ_self _)  ls (lv_sub hl [0, 1, 2, 3] (by first | rfl | (rw [ast_s, show n = to by omega]; rfl)))

theorem in_c_X7_leads_X7 : ∀ w ∈ wsX70, w ∈ wsX7_leads := by decide +kernel
set_option maxHeartbeats 4000000 in
set_option maxRecDepth 100000 in
theorem c_X7_leads (l : Launch) (G : GG) (M : Nat) (rf : Nat) (mt : Nat) (sz : Nat) (mn : Nat) (mtr : Nat) (md : Nat) (ac : Nat) (mk : Nat) (mik : Nat) (na : Nat) (so : Nat) (n : Nat) (g : Nat) (sk : Int32) (mm : Nat → Int32) (nf : Nat → Int32) (f : Nat → Int32) (fr : Nat) (to : Nat) (h_n : n ≤ 16) (h_R : MRel n sk g f mm) (h_nf : ∀ x_, x_ < n → nf x_ = f (16 + x_)) (h_fr : fr < n) (h_to : to < n) : Met l yX7_leads wsX7_leads ({ frames := 3, cells := 0, slots := 0, locals := 68 } : Room) (va_Pc [.ref M, .int (nI fr), .int (nI to)] (PB G [(M, .inr (4, [.int (nI rf), .ref mt, .int (nI sz), .ref mn, .ref mtr, .ref md, .int (nI ac), .ref mk, .ref mik, .ref na, .ref so])), (mn, .inl (G.2 0, 131, .inl (mr n (nI g) sk mm))), (na, .inl (G.2 0, 16, .inl nf))])) (QR (some (.int (zb (lds f n fr to))))) 0 0 (fun _ => False) := by
  refine Met.go (cc := cX7_leads) (maxL := 4) (ret := (some .boolean)) (by decide) rfl (Nat.le_of_ble_eq_true rfl) ?_
  intro p e s m below meth c ls hx hb hr hml hown hts hlk hP hK hD hS hl
  have hown : s.vm.findClass RX7 = some m.cls := hown
  have hl : lv_has ls 4 [(0, .ref M), (1, .int (nI fr)), (2, .int (nI to))] := hl
  refine lv_iconst (v := nI 0) hx hb dX7_leads_0 (by decide) ?_
  refine lv_istore_n (lv' := [(3, .int (nI 0)), (0, .ref M), (1, .int (nI fr)), (2, .int (nI to))]) hx hb dX7_leads_1 rfl hl (by decide) rfl (fun ls hl => ?_)
  refine lv_iload_n hx hb dX7_leads_2 rfl (lv_at hl 0 rfl) ?_
  refine lv_iconst (v := nI 3) hx hb dX7_leads_3 (by decide) ?_
  refine bi_ge (tgt := 34) hx hb dX7_leads_4 (by decide) (nI_i (by omega)) (nI_i (by omega)) (fun c_4 => False.elim (by omega)) (fun c_4 => ?_)
  refine lv_aload_n hx hb dX7_leads_7 rfl (lv_at hl 1 rfl) ?_
  refine lv_iload_n hx hb dX7_leads_8 rfl (lv_at hl 0 rfl) ?_
  refine lv_iload_n hx hb dX7_leads_9 rfl (lv_at hl 2 rfl) ?_
  refine lv_aload_n hx hb dX7_leads_10 rfl (lv_at hl 1 rfl) ?_
  refine va_get (D := G.1) (ci := 4) (v := .ref mn) (C := RX7) (T := TX7) (N := 11) hx hb hts in_c_X7_leads_X7 hown hK.1 hP 0 rfl rfl 3 (by decide) (hts (.fieldLink RX7 13 "FloorPanelsModel" "now" "[I") (by decide +kernel)) (fun _ h9 => h9) rfl dX7_leads_11 ?_
  refine lv_iload_n hx hb dX7_leads_14 rfl (lv_at hl 0 rfl) ?_
  refine lv_iload_n hx hb dX7_leads_15 rfl (lv_at hl 3 rfl) ?_
  refine cRS (As := [.ref mn, .int (nI 0), .int (nI to)]) (rest := [.int (nI fr), .int (nI 0), .ref M]) (v := .int (mm (35 + 0 + to))) ⟨hx, hb, hml, hown, hts⟩ (c_X7_says l G mn n g sk mm 0 to (by first | omega | assumption) (by first | omega | assumption)) (va_cwS 3 hts gX7_leads_X7_says rfl rfl rfl (by decide +kernel) ⟨Nat.le_of_ble_eq_true rfl, Nat.le_of_ble_eq_true rfl⟩) (preS_of hK hP hD [1] (by decide) rfl) rfl hl.1 rfl (lv_room (Nat.le_of_ble_eq_true rfl)) dX7_leads_16 ⟨Nat.zero_le _, Nat.zero_le _⟩ ?_
  rw [show ((mm (35 + 0 + to))) = (f (48 + to)) from h_R.2.2.2.1 0 (by omega) _ h_to]
  refine cRV (As := [.int (nI 0), .int (nI fr), .int (f (48 + to))]) (rest := []) (v := .int (dst f n 0 fr (f (48 + to)))) ⟨hx, hb, hml, hown, hts⟩ (c_X7_ride l G M rf mt sz mn mtr md ac mk mik na so n g sk mm nf f 0 fr (f (48 + to)) (by first | omega | assumption) (by first | omega | assumption) (by first | omega | assumption) (by first | omega | assumption) (by first | omega | assumption)) (cwV 3 hts gX7_leads_X7_ride rfl rfl rfl (by decide +kernel) ⟨Nat.le_of_ble_eq_true rfl, Nat.le_of_ble_eq_true rfl⟩) (preV_of hK hP hD [0, 1, 2] (by decide) rfl (ci := 4) (q0 := 0) rfl rfl rfl) rfl hl.1 rfl (lv_room (Nat.le_of_ble_eq_true rfl)) dX7_leads_19 ⟨Nat.zero_le _, Nat.zero_le _⟩ ?_
  refine lv_iload_n hx hb dX7_leads_22 rfl (lv_at hl 3 rfl) ?_
  refine lv_icmp_ne (tgt := 28) hx hb dX7_leads_23 (by decide) (fun c_23 => ?_) (fun c_23 => ?_)
  ·
    refine lv_iinc (v := nI (0 + 1)) (lv' := [(3, .int (nI (0 + 1))), (0, .ref M), (1, .int (nI fr)), (2, .int (nI to))]) hx hb dX7_leads_28 hl (k := 0) rfl (inc_n _ 1) (by decide) rfl (fun ls hl => ?_)
    refine lv_goto (tgt := 2) hx hb dX7_leads_31 (by decide) ?_
    refine lv_iload_n hx hb dX7_leads_2 rfl (lv_at hl 0 rfl) ?_
    refine lv_iconst (v := nI 3) hx hb dX7_leads_3 (by decide) ?_
    refine bi_ge (tgt := 34) hx hb dX7_leads_4 (by decide) (nI_i (by omega)) (nI_i (by omega)) (fun c_4 => False.elim (by omega)) (fun c_4 => ?_)
    refine lv_aload_n hx hb dX7_leads_7 rfl (lv_at hl 1 rfl) ?_
    refine lv_iload_n hx hb dX7_leads_8 rfl (lv_at hl 0 rfl) ?_
    refine lv_iload_n hx hb dX7_leads_9 rfl (lv_at hl 2 rfl) ?_
    refine lv_aload_n hx hb dX7_leads_10 rfl (lv_at hl 1 rfl) ?_
    refine va_get (D := G.1) (ci := 4) (v := .ref mn) (C := RX7) (T := TX7) (N := 11) hx hb hts in_c_X7_leads_X7 hown hK.1 hP 0 rfl rfl 3 (by decide) (hts (.fieldLink RX7 13 "FloorPanelsModel" "now" "[I") (by decide +kernel)) (fun _ h9 => h9) rfl dX7_leads_11 ?_
    refine lv_iload_n hx hb dX7_leads_14 rfl (lv_at hl 0 rfl) ?_
    refine lv_iload_n hx hb dX7_leads_15 rfl (lv_at hl 3 rfl) ?_
    refine cRS (As := [.ref mn, .int (nI (0 + 1)), .int (nI to)]) (rest := [.int (nI fr), .int (nI (0 + 1)), .ref M]) (v := .int (mm (35 + 16 + to))) ⟨hx, hb, hml, hown, hts⟩ (c_X7_says l G mn n g sk mm (0 + 1) to (by first | omega | assumption) (by first | omega | assumption)) (va_cwS 3 hts gX7_leads_X7_says rfl rfl rfl (by decide +kernel) ⟨Nat.le_of_ble_eq_true rfl, Nat.le_of_ble_eq_true rfl⟩) (preS_of hK hP hD [1] (by decide) rfl) rfl hl.1 rfl (lv_room (Nat.le_of_ble_eq_true rfl)) dX7_leads_16 ⟨Nat.zero_le _, Nat.zero_le _⟩ ?_
    rw [show ((mm (35 + 16 + to))) = (f (64 + to)) from h_R.2.2.2.1 1 (by omega) _ h_to]
    refine cRV (As := [.int (nI (0 + 1)), .int (nI fr), .int (f (64 + to))]) (rest := []) (v := .int (dst f n 1 fr (f (64 + to)))) ⟨hx, hb, hml, hown, hts⟩ (c_X7_ride l G M rf mt sz mn mtr md ac mk mik na so n g sk mm nf f (0 + 1) fr (f (64 + to)) (by first | omega | assumption) (by first | omega | assumption) (by first | omega | assumption) (by first | omega | assumption) (by first | omega | assumption)) (cwV 3 hts gX7_leads_X7_ride rfl rfl rfl (by decide +kernel) ⟨Nat.le_of_ble_eq_true rfl, Nat.le_of_ble_eq_true rfl⟩) (preV_of hK hP hD [0, 1, 2] (by decide) rfl (ci := 4) (q0 := 0) rfl rfl rfl) rfl hl.1 rfl (lv_room (Nat.le_of_ble_eq_true rfl)) dX7_leads_19 ⟨Nat.zero_le _, Nat.zero_le _⟩ ?_
    refine lv_iload_n hx hb dX7_leads_22 rfl (lv_at hl 3 rfl) ?_
    refine lv_icmp_ne (tgt := 28) hx hb dX7_leads_23 (by decide) (fun c_23 => ?_) (fun c_23 => ?_)
    ·
      refine lv_iinc (v := nI (0 + 1 + 1)) (lv' := [(3, .int (nI (0 + 1 + 1))), (0, .ref M), (1, .int (nI fr)), (2, .int (nI to))]) hx hb dX7_leads_28 hl (k := 0) rfl (inc_n _ 1) (by decide) rfl (fun ls hl => ?_)
      refine lv_goto (tgt := 2) hx hb dX7_leads_31 (by decide) ?_
      refine lv_iload_n hx hb dX7_leads_2 rfl (lv_at hl 0 rfl) ?_
      refine lv_iconst (v := nI 3) hx hb dX7_leads_3 (by decide) ?_
      refine bi_ge (tgt := 34) hx hb dX7_leads_4 (by decide) (nI_i (by omega)) (nI_i (by omega)) (fun c_4 => False.elim (by omega)) (fun c_4 => ?_)
      refine lv_aload_n hx hb dX7_leads_7 rfl (lv_at hl 1 rfl) ?_
      refine lv_iload_n hx hb dX7_leads_8 rfl (lv_at hl 0 rfl) ?_
      refine lv_iload_n hx hb dX7_leads_9 rfl (lv_at hl 2 rfl) ?_
      refine lv_aload_n hx hb dX7_leads_10 rfl (lv_at hl 1 rfl) ?_
      refine va_get (D := G.1) (ci := 4) (v := .ref mn) (C := RX7) (T := TX7) (N := 11) hx hb hts in_c_X7_leads_X7 hown hK.1 hP 0 rfl rfl 3 (by decide) (hts (.fieldLink RX7 13 "FloorPanelsModel" "now" "[I") (by decide +kernel)) (fun _ h9 => h9) rfl dX7_leads_11 ?_
      refine lv_iload_n hx hb dX7_leads_14 rfl (lv_at hl 0 rfl) ?_
      refine lv_iload_n hx hb dX7_leads_15 rfl (lv_at hl 3 rfl) ?_
      refine cRS (As := [.ref mn, .int (nI (0 + 1 + 1)), .int (nI to)]) (rest := [.int (nI fr), .int (nI (0 + 1 + 1)), .ref M]) (v := .int (mm (35 + 32 + to))) ⟨hx, hb, hml, hown, hts⟩ (c_X7_says l G mn n g sk mm (0 + 1 + 1) to (by first | omega | assumption) (by first | omega | assumption)) (va_cwS 3 hts gX7_leads_X7_says rfl rfl rfl (by decide +kernel) ⟨Nat.le_of_ble_eq_true rfl, Nat.le_of_ble_eq_true rfl⟩) (preS_of hK hP hD [1] (by decide) rfl) rfl hl.1 rfl (lv_room (Nat.le_of_ble_eq_true rfl)) dX7_leads_16 ⟨Nat.zero_le _, Nat.zero_le _⟩ ?_
      rw [show ((mm (35 + 32 + to))) = (f (80 + to)) from h_R.2.2.2.1 2 (by omega) _ h_to]
      refine cRV (As := [.int (nI (0 + 1 + 1)), .int (nI fr), .int (f (80 + to))]) (rest := []) (v := .int (dst f n 2 fr (f (80 + to)))) ⟨hx, hb, hml, hown, hts⟩ (c_X7_ride l G M rf mt sz mn mtr md ac mk mik na so n g sk mm nf f (0 + 1 + 1) fr (f (80 + to)) (by first | omega | assumption) (by first | omega | assumption) (by first | omega | assumption) (by first | omega | assumption) (by first | omega | assumption)) (cwV 3 hts gX7_leads_X7_ride rfl rfl rfl (by decide +kernel) ⟨Nat.le_of_ble_eq_true rfl, Nat.le_of_ble_eq_true rfl⟩) (preV_of hK hP hD [0, 1, 2] (by decide) rfl (ci := 4) (q0 := 0) rfl rfl rfl) rfl hl.1 rfl (lv_room (Nat.le_of_ble_eq_true rfl)) dX7_leads_19 ⟨Nat.zero_le _, Nat.zero_le _⟩ ?_
      refine lv_iload_n hx hb dX7_leads_22 rfl (lv_at hl 3 rfl) ?_
      refine lv_icmp_ne (tgt := 28) hx hb dX7_leads_23 (by decide) (fun c_23 => ?_) (fun c_23 => ?_)
      ·
        refine lv_iinc (v := nI (0 + 1 + 1 + 1)) (lv' := [(3, .int (nI (0 + 1 + 1 + 1))), (0, .ref M), (1, .int (nI fr)), (2, .int (nI to))]) hx hb dX7_leads_28 hl (k := 0) rfl (inc_n _ 1) (by decide) rfl (fun ls hl => ?_)
        refine lv_goto (tgt := 2) hx hb dX7_leads_31 (by decide) ?_
        refine lv_iload_n hx hb dX7_leads_2 rfl (lv_at hl 0 rfl) ?_
        refine lv_iconst (v := nI 3) hx hb dX7_leads_3 (by decide) ?_
        refine bi_ge (tgt := 34) hx hb dX7_leads_4 (by decide) (nI_i (by omega)) (nI_i (by omega)) (fun c_4 => ?_) (fun c_4 => False.elim (by omega))
        refine lv_iconst (v := nI 0) hx hb dX7_leads_34 (by decide) ?_
        exact R_z hx hb hr hlk dX7_leads_35 ((zb_f (lds_no (by assumption) (by assumption) (by assumption))).symm) zb_nar
      ·
        refine lv_iconst (v := nI 1) hx hb dX7_leads_26 (by decide) ?_
        exact R_z hx hb hr hlk dX7_leads_27 ((zb_t ⟨2, by omega, c_23⟩).symm) zb_nar
    ·
      refine lv_iconst (v := nI 1) hx hb dX7_leads_26 (by decide) ?_
      exact R_z hx hb hr hlk dX7_leads_27 ((zb_t ⟨1, by omega, c_23⟩).symm) zb_nar
  ·
    refine lv_iconst (v := nI 1) hx hb dX7_leads_26 (by decide) ?_
    exact R_z hx hb hr hlk dX7_leads_27 ((zb_t ⟨0, by omega, c_23⟩).symm) zb_nar

