theorem in_c_X7_about_0_X7 : ∀ w ∈ wsX70, w ∈ wsX7_about := by decide +kernel
set_option maxHeartbeats 4000000 in
set_option maxRecDepth 100000 in
theorem c_X7_about_0 (l : Launch) (G : GG) (M : Nat) (rf : Nat) (mt : Nat) (sz : Nat) (mn : Nat) (mtr : Nat) (md : Nat) (ac : Nat) (mk : Nat) (mik : Nat) (na : Nat) (so : Nat) (n : Nat) (g : Nat) (sk : Int32) (mm : Nat → Int32) (nf : Nat → Int32) (sf : Nat → Int32) (f : Nat → Int32) (h_n : n ≤ 16) (h_n1 : 1 ≤ n) (h_g : g < n) (h_k : mm (3 + g) = 0) (h_R : MRel n sk g f mm) : Met l yX7_about wsX7_about ({ frames := 3, cells := 0, slots := 0, locals := 74 } : Room) (va_Pc [.ref M, .int (nI 0)] (PB G [(M, .inr (4, [.int (nI rf), .ref mt, .int (nI sz), .ref mn, .ref mtr, .ref md, .int (nI ac), .ref mk, .ref mik, .ref na, .ref so])), (mn, .inl (G.2 0, 131, .inl (mr n (nI g) sk mm))), (na, .inl (G.2 0, 16, .inl nf)), (so, .inl (G.2 0, 16, .inl sf))])) (QW G (some (.int (nI n))) [(M, .inr (4, [.int (nI 0), .ref mt, .int (nI sz), .ref mn, .ref mtr, .ref md, .int (nI ac), .ref mk, .ref mik, .ref na, .ref so])), (mn, .inl (G.2 0, 131, .inl (mr n (nI g) sk mm))), (na, .inl (G.2 0, 16, .inl (nmA sk (kdm mm) g 0 n nf))), (so, .inl (G.2 0, 16, .inl (soA sk (kdm mm) g 0 n sf)))] (vA [(M, .inr (4, [.int (nI rf), .ref mt, .int (nI sz), .ref mn, .ref mtr, .ref md, .int (nI ac), .ref mk, .ref mik, .ref na, .ref so])), (mn, .inl (G.2 0, 131, .inl (mr n (nI g) sk mm))), (na, .inl (G.2 0, 16, .inl nf)), (so, .inl (G.2 0, 16, .inl sf))])) 0 0 (vA [(M, .inr (4, [.int (nI rf), .ref mt, .int (nI sz), .ref mn, .ref mtr, .ref md, .int (nI ac), .ref mk, .ref mik, .ref na, .ref so])), (mn, .inl (G.2 0, 131, .inl (mr n (nI g) sk mm))), (na, .inl (G.2 0, 16, .inl nf)), (so, .inl (G.2 0, 16, .inl sf))]) := by
  refine Met.go (cc := cX7_about) (maxL := 5) (ret := (some .int)) (by decide) rfl (Nat.le_of_ble_eq_true rfl) ?_
  intro p e s m below meth c ls hx hb hr hml hown hts hlk hP hK hD hS hl
  have hown : s.vm.findClass RX7 = some m.cls := hown
  have hl : lv_has ls 5 [(0, .ref M), (1, .int (nI 0))] := hl
  refine lv_aload_n hx hb dX7_about_0 rfl (lv_at hl 0 rfl) ?_
  refine lv_iload_n hx hb dX7_about_1 rfl (lv_at hl 1 rfl) ?_
  refine lv_i2l (v := (nI 0).toInt64) hx hb dX7_about_2 rfl ?_
  refine lv_lconst (v := 0) hx hb dX7_about_3 rfl ?_
  refine lv_ldc2 (own := RX7) (v := 8) hx hb hown (hts (.constantLong RX7 139 (8)) (by decide +kernel)) dX7_about_4 ?_
  refine cRS (As := [.long ((nI 0).toInt64), .long (0 : Int64), .long (8 : Int64)]) (rest := [.ref M]) (v := .int (zb ((0 : Int64).toInt ≤ ((nI 0).toInt64).toInt ∧ ((nI 0).toInt64).toInt ≤ (8 : Int64).toInt))) ⟨hx, hb, hml, hown, hts⟩ (c_X7_in l G ((nI 0).toInt64) (0 : Int64) (8 : Int64) ) (va_cwS 3 hts gX7_about_X7_in rfl rfl rfl (by decide +kernel) ⟨Nat.le_of_ble_eq_true rfl, Nat.le_of_ble_eq_true rfl⟩) (preS_of hK hP hD [] (by decide) rfl) rfl hl.1 rfl (lv_room (Nat.le_of_ble_eq_true rfl)) dX7_about_7 ⟨Nat.zero_le _, Nat.zero_le _⟩ ?_
  refine bb_eq (tgt := 17) hx hb dX7_about_10 (by decide) (fun c_10 => False.elim (by (rw [i2l_toInt, nI_i (by omega), show (0 : Int64).toInt = 0 from rfl, show (8 : Int64).toInt = 8 from rfl] at c_10; omega))) (fun c_10 => ?_)
  refine lv_iconst (v := nI 0) hx hb dX7_about_13 (by decide) ?_
  refine lv_goto (tgt := 18) hx hb dX7_about_14 (by decide) ?_
  refine cWV (As := [.int (nI 0)]) (rest := []) (st1 := [.int (zb (0 < 0))]) (w3 := [(M, .inr (4, [.int (nI 0), .ref mt, .int (nI sz), .ref mn, .ref mtr, .ref md, .int (nI ac), .ref mk, .ref mik, .ref na, .ref so])), (mn, .inl (G.2 0, 131, .inl (mr n (nI g) sk mm))), (na, .inl (G.2 0, 16, .inl nf)), (so, .inl (G.2 0, 16, .inl sf))]) ⟨hx, hb, hml, hown, hts⟩ (c_X7_refused l G M rf mt sz mn mtr md ac mk mik na so 0 (by first | omega | assumption)) (cwV 1 hts gX7_about_X7_refused rfl rfl rfl (by decide +kernel) ⟨Nat.le_of_ble_eq_true rfl, Nat.le_of_ble_eq_true rfl⟩) (preV_of hK hP hD [0] (by decide) rfl (ci := 4) (q0 := 0) rfl rfl rfl) rfl hl.1 rfl (lv_room (Nat.le_of_ble_eq_true rfl)) dX7_about_18 ⟨Nat.zero_le _, Nat.zero_le _⟩ hP hD hS [0] (by decide) rfl rfl (rfl) rfl (fun H locs hP hD hS => ?_)
  refine bb_eq (tgt := 26) hx hb dX7_about_21 (by decide) (fun c_21 => ?_) (fun c_21 => False.elim (by omega))
  refine lv_aload_n hx hb dX7_about_26 rfl (lv_at hl 0 rfl) ?_
  refine lv_aload_n hx hb dX7_about_27 rfl (lv_at hl 0 rfl) ?_
  refine va_get (D := G.1) (ci := 4) (v := .ref mn) (C := RX7) (T := TX7) (N := 11) hx hb hts in_c_X7_about_0_X7 hown hK.1 hP 0 rfl rfl 3 (by decide) (hts (.fieldLink RX7 13 "FloorPanelsModel" "now" "[I") (by decide +kernel)) (fun _ h9 => h9) rfl dX7_about_28 ?_
  refine cWV (As := [.ref mn]) (rest := []) (st1 := []) (w3 := [(M, .inr (4, [.int (nI 0), .ref mt, .int (nI sz), .ref mn, .ref mtr, .ref md, .int (nI ac), .ref mk, .ref mik, .ref na, .ref so])), (mn, .inl (G.2 0, 131, .inl (mr n (nI g) sk mm))), (na, .inl (G.2 0, 16, .inl (nmA sk (kdm mm) g 0 n nf))), (so, .inl (G.2 0, 16, .inl (soA sk (kdm mm) g 0 n sf)))]) ⟨hx, hb, hml, hown, hts⟩ (c_X7_name l G M 0 mt sz mn mtr md ac mk mik na so mn n g sk mm nf sf (by first | omega | assumption) (by first | omega | assumption) (by first | omega | assumption)) (cwV 1 hts gX7_about_X7_name rfl rfl rfl (by decide +kernel) ⟨Nat.le_of_ble_eq_true rfl, Nat.le_of_ble_eq_true rfl⟩) (preV_of hK hP hD [0, 1, 2, 3] (by decide) rfl (ci := 4) (q0 := 0) rfl rfl rfl) rfl hl.1 rfl (lv_room (Nat.le_of_ble_eq_true rfl)) dX7_about_31 ⟨Nat.zero_le _, Nat.zero_le _⟩ hP hD hS [0, 1, 2, 3] (by decide) rfl rfl (rfl) rfl (fun H locs hP hD hS => ?_)
  refine lv_iconst (v := nI 0) hx hb dX7_about_34 (by decide) ?_
  refine lv_istore_n (lv' := [(2, .int (nI 0)), (0, .ref M), (1, .int (nI 0))]) hx hb dX7_about_35 rfl hl (by decide) rfl (fun ls hl => ?_)
  refine lv_iconst (v := nI 0) hx hb dX7_about_36 (by decide) ?_
  refine lv_istore_n (lv' := [(3, .int (nI 0)), (2, .int (nI 0)), (0, .ref M), (1, .int (nI 0))]) hx hb dX7_about_37 rfl hl (by decide) rfl (fun ls hl => ?_)
  refine lv_iconst (v := nI 0) hx hb dX7_about_38 (by decide) ?_
  refine lv_istore (lv' := [(4, .int (nI 0)), (3, .int (nI 0)), (2, .int (nI 0)), (0, .ref M), (1, .int (nI 0))]) hx hb dX7_about_39 hl (by decide) rfl (fun ls hl => ?_)
  have loop_41 : ∀ (k_ : Nat) (i : Nat) (h_i : i ≤ n) (_ : n - i < k_) (H : Heap) (locs : List Loc) (_ : VP G [(M, .inr (4, [.int (nI 0), .ref mt, .int (nI sz), .ref mn, .ref mtr, .ref md, .int (nI ac), .ref mk, .ref mik, .ref na, .ref so])), (mn, .inl (G.2 0, 131, .inl (mr n (nI g) sk mm))), (na, .inl (G.2 0, 16, .inl (nmA sk (kdm mm) g 0 n nf))), (so, .inl (G.2 0, 16, .inl (soA sk (kdm mm) g 0 n sf)))] H) (_ : va_D (vA [(M, .inr (4, [.int (nI rf), .ref mt, .int (nI sz), .ref mn, .ref mtr, .ref md, .int (nI ac), .ref mk, .ref mik, .ref na, .ref so])), (mn, .inl (G.2 0, 131, .inl (mr n (nI g) sk mm))), (na, .inl (G.2 0, 16, .inl nf)), (so, .inl (G.2 0, 16, .inl sf))]) [(M, .inr (4, [.int (nI 0), .ref mt, .int (nI sz), .ref mn, .ref mtr, .ref md, .int (nI ac), .ref mk, .ref mik, .ref na, .ref so])), (mn, .inl (G.2 0, 131, .inl (mr n (nI g) sk mm))), (na, .inl (G.2 0, 16, .inl (nmA sk (kdm mm) g 0 n nf))), (so, .inl (G.2 0, 16, .inl (soA sk (kdm mm) g 0 n sf)))]) (_ : va_S (vA [(M, .inr (4, [.int (nI rf), .ref mt, .int (nI sz), .ref mn, .ref mtr, .ref md, .int (nI ac), .ref mk, .ref mik, .ref na, .ref so])), (mn, .inl (G.2 0, 131, .inl (mr n (nI g) sk mm))), (na, .inl (G.2 0, 16, .inl nf)), (so, .inl (G.2 0, 16, .inl sf))]) s.heap H locs) (ls : Array Slot), lv_has ls 5 [(4, .int (nI i)), (3, .int (nI (ct (fun x_ => 1 < lk f n x_) i))), (2, .int (nI (ct (fun x_ => f (16 + x_) = -1) i))), (0, .ref M), (1, .int (nI 0))] → W p l e ({ frames := 3, cells := 0, slots := 0, locals := 74 } : Room) s m ([.ref M, .int (nI 0)] : List Value).toArray below meth c H locs 0 0 (MQ below (QW G (some (.int (nI n))) [(M, .inr (4, [.int (nI 0), .ref mt, .int (nI sz), .ref mn, .ref mtr, .ref md, .int (nI ac), .ref mk, .ref mik, .ref na, .ref so])), (mn, .inl (G.2 0, 131, .inl (mr n (nI g) sk mm))), (na, .inl (G.2 0, 16, .inl (nmA sk (kdm mm) g 0 n nf))), (so, .inl (G.2 0, 16, .inl (soA sk (kdm mm) g 0 n sf)))] (vA [(M, .inr (4, [.int (nI rf), .ref mt, .int (nI sz), .ref mn, .ref mtr, .ref md, .int (nI ac), .ref mk, .ref mik, .ref na, .ref so])), (mn, .inl (G.2 0, 131, .inl (mr n (nI g) sk mm))), (na, .inl (G.2 0, 16, .inl nf)), (so, .inl (G.2 0, 16, .inl sf))])) ([.ref M, .int (nI 0)] : List Value).toArray s 0 0 (vA [(M, .inr (4, [.int (nI rf), .ref mt, .int (nI sz), .ref mn, .ref mtr, .ref md, .int (nI ac), .ref mk, .ref mik, .ref na, .ref so])), (mn, .inl (G.2 0, 131, .inl (mr n (nI g) sk mm))), (na, .inl (G.2 0, 16, .inl nf)), (so, .inl (G.2 0, 16, .inl sf))])) (F0 m 41 ls []) := by
    intro k_
    induction k_ with
    | zero => intro i h_i hk_; exact absurd hk_ (Nat.not_lt_zero _)
    | succ k_ ih_41 =>
      intro i h_i hk_ H locs hP hD hS ls hl
      refine lv_iload hx hb dX7_about_41 (lv_at hl 0 rfl) ?_
      refine lv_aload_n hx hb dX7_about_43 rfl (lv_at hl 3 rfl) ?_
      refine va_get (D := G.1) (ci := 4) (v := .ref mn) (C := RX7) (T := TX7) (N := 11) hx hb hts in_c_X7_about_0_X7 hown hK.1 hP 0 rfl rfl 3 (by decide) (hts (.fieldLink RX7 13 "FloorPanelsModel" "now" "[I") (by decide +kernel)) (fun _ h9 => h9) rfl dX7_about_44 ?_
      refine lv_iconst (v := nI 0) hx hb dX7_about_47 (by decide) ?_
      refine nv_iald hx hb hK hP 1 rfl (by omega) (by decide) dX7_about_48 ?_
      rw [show (mr n (nI g) sk mm) 0 = nI n from mr_0]
      refine bi_ge (tgt := 104) hx hb dX7_about_49 (by decide) (nI_i (by omega)) (nI_i (by omega)) (fun c_49 => ?_) (fun c_49 => ?_)
      ·
        refine lv_iload_n hx hb dX7_about_104 rfl (lv_at hl 4 rfl) ?_
        refine lv_tableOut (tgt := 207) hx hb dX7_about_105 (by decide) (by decide) ?_
        refine lv_aload_n hx hb dX7_about_207 rfl (lv_at hl 3 rfl) ?_
        refine va_get (D := G.1) (ci := 4) (v := .ref mn) (C := RX7) (T := TX7) (N := 11) hx hb hts in_c_X7_about_0_X7 hown hK.1 hP 0 rfl rfl 3 (by decide) (hts (.fieldLink RX7 13 "FloorPanelsModel" "now" "[I") (by decide +kernel)) (fun _ h9 => h9) rfl dX7_about_208 ?_
        refine lv_iload_n hx hb dX7_about_211 rfl (lv_at hl 4 rfl) ?_
        refine nv_iald hx hb hK hP 1 rfl (by omega) (by decide) dX7_about_212 ?_
        rw [show (mr n (nI g) sk mm) 0 = nI n from mr_0]
        exact W_i hx hb hr hlk dX7_about_213 hP hS (rfl) (rfl)
      ·
        have h_lk := lk_le f n i
        have h_c4 := ct_le (fun x_ => f (16 + x_) = -1) i
        have h_c5 := ct_le (fun x_ => 1 < lk f n x_) i
        refine lv_iload_n hx hb dX7_about_52 rfl (lv_at hl 2 rfl) ?_
        refine lv_aload_n hx hb dX7_about_53 rfl (lv_at hl 3 rfl) ?_
        refine va_get (D := G.1) (ci := 4) (v := .ref na) (C := RX7) (T := TX7) (N := 11) hx hb hts in_c_X7_about_0_X7 hown hK.1 hP 0 rfl rfl 9 (by decide) (hts (.fieldLink RX7 29 "FloorPanelsModel" "names" "[I") (by decide +kernel)) (fun _ h9 => h9) rfl dX7_about_54 ?_
        refine lv_iload hx hb dX7_about_57 (lv_at hl 0 rfl) ?_
        refine nv_iald hx hb hK hP 2 rfl (by omega) (by decide) dX7_about_59 ?_
        rw [show (nmA sk (kdm mm) g 0 n nf) i = (f (16 + i)) from h_R.nf (by omega)]
        refine lv_iconst (v := (-1)) hx hb dX7_about_60 (by decide) ?_
        refine lv_icmp_ne (tgt := 68) hx hb dX7_about_61 (by decide) (fun c_61 => ?_) (fun c_61 => ?_)
        ·
          refine lv_iconst (v := nI 0) hx hb dX7_about_68 (by decide) ?_
          refine nv_iadd hx hb dX7_about_69 ?_
          refine lv_istore_n (lv' := [(2, .int (nI ((ct (fun x_ => f (16 + x_) = -1) i) + 0))), (4, .int (nI i)), (3, .int (nI (ct (fun x_ => 1 < lk f n x_) i))), (0, .ref M), (1, .int (nI 0))]) hx hb dX7_about_70 rfl hl (by decide) rfl (fun ls hl => ?_)
          refine lv_iload_n hx hb dX7_about_71 rfl (lv_at hl 2 rfl) ?_
          refine lv_aload_n hx hb dX7_about_72 rfl (lv_at hl 3 rfl) ?_
          refine lv_aload_n hx hb dX7_about_73 rfl (lv_at hl 3 rfl) ?_
          refine va_get (D := G.1) (ci := 4) (v := .ref mn) (C := RX7) (T := TX7) (N := 11) hx hb hts in_c_X7_about_0_X7 hown hK.1 hP 0 rfl rfl 3 (by decide) (hts (.fieldLink RX7 13 "FloorPanelsModel" "now" "[I") (by decide +kernel)) (fun _ h9 => h9) rfl dX7_about_74 ?_
          refine lv_aload_n hx hb dX7_about_77 rfl (lv_at hl 3 rfl) ?_
          refine va_get (D := G.1) (ci := 4) (v := .ref na) (C := RX7) (T := TX7) (N := 11) hx hb hts in_c_X7_about_0_X7 hown hK.1 hP 0 rfl rfl 9 (by decide) (hts (.fieldLink RX7 29 "FloorPanelsModel" "names" "[I") (by decide +kernel)) (fun _ h9 => h9) rfl dX7_about_78 ?_
          refine lv_iload hx hb dX7_about_81 (lv_at hl 1 rfl) ?_
          refine nv_iald hx hb hK hP 2 rfl (by omega) (by decide) dX7_about_83 ?_
          rw [show (nmA sk (kdm mm) g 0 n nf) i = (f (16 + i)) from h_R.nf (by omega)]
          refine cRV (As := [.ref mn, .int (f (16 + i))]) (rest := [.int (nI (ct (fun x_ => 1 < lk f n x_) i))]) (v := .int (nI (ct (fun x_ => ¬ (f (16 + i)) = -1 ∧ (nmA sk (kdm mm) g 0 n nf) x_ = (f (16 + i))) n))) ⟨hx, hb, hml, hown, hts⟩ (c_X7_alike l G M 0 mt sz mn mtr md ac mk mik na so mn n g sk mm (nmA sk (kdm mm) g 0 n nf) (f (16 + i)) (by first | omega | assumption)) (cwV 2 hts gX7_about_X7_alike rfl rfl rfl (by decide +kernel) ⟨Nat.le_of_ble_eq_true rfl, Nat.le_of_ble_eq_true rfl⟩) (preV_of hK hP hD [0, 1, 2] (by decide) rfl (ci := 4) (q0 := 0) rfl rfl rfl) rfl hl.1 rfl (lv_room (Nat.le_of_ble_eq_true rfl)) dX7_about_84 ⟨Nat.zero_le _, Nat.zero_le _⟩ ?_
          rw [show (nI (ct (fun x_ => ¬ (f (16 + i)) = -1 ∧ (nmA sk (kdm mm) g 0 n nf) x_ = (f (16 + i))) n)) = nI (lk f n i) from congrArg nI (lk_A h_R)]
          refine lv_iconst (v := nI 1) hx hb dX7_about_87 (by decide) ?_
          refine bi_le (tgt := 95) hx hb dX7_about_88 (by decide) (nI_i (by omega)) (nI_i (by omega)) (fun c_88 => ?_) (fun c_88 => ?_)
          ·
            refine lv_iconst (v := nI 0) hx hb dX7_about_95 (by decide) ?_
            refine nv_iadd hx hb dX7_about_96 ?_
            refine lv_istore_n (lv' := [(3, .int (nI ((ct (fun x_ => 1 < lk f n x_) i) + 0))), (2, .int (nI ((ct (fun x_ => f (16 + x_) = -1) i) + 0))), (4, .int (nI i)), (0, .ref M), (1, .int (nI 0))]) hx hb dX7_about_97 rfl hl (by decide) rfl (fun ls hl => ?_)
            refine lv_iinc (v := nI (i + 1)) (lv' := [(4, .int (nI (i + 1))), (3, .int (nI ((ct (fun x_ => 1 < lk f n x_) i) + 0))), (2, .int (nI ((ct (fun x_ => f (16 + x_) = -1) i) + 0))), (0, .ref M), (1, .int (nI 0))]) hx hb dX7_about_98 hl (k := 2) rfl (inc_n _ 1) (by decide) rfl (fun ls hl => ?_)
            refine lv_goto (tgt := 41) hx hb dX7_about_101 (by decide) ?_
            exact ih_41 (i + 1) (by first | omega | assumption) (by omega) _ _ hP hD hS ls (lv_sub hl [0, 1, 2, 3, 4] (by first | (rw [ct_t (p := fun x_ => f (16 + x_) = -1) (by assumption), ct_t (p := fun x_ => 1 < lk f n x_) (by omega)]; rfl) | (rw [ct_t (p := fun x_ => f (16 + x_) = -1) (by assumption), ct_f (p := fun x_ => 1 < lk f n x_) (by omega)]; rfl) | (rw [ct_f (p := fun x_ => f (16 + x_) = -1) (by assumption), ct_t (p := fun x_ => 1 < lk f n x_) (by omega)]; rfl) | (rw [ct_f (p := fun x_ => f (16 + x_) = -1) (by assumption), ct_f (p := fun x_ => 1 < lk f n x_) (by omega)]; rfl)))
          ·
            refine lv_iconst (v := nI 1) hx hb dX7_about_91 (by decide) ?_
            refine lv_goto (tgt := 96) hx hb dX7_about_92 (by decide) ?_
            refine nv_iadd hx hb dX7_about_96 ?_
            refine lv_istore_n (lv' := [(3, .int (nI ((ct (fun x_ => 1 < lk f n x_) i) + 1))), (2, .int (nI ((ct (fun x_ => f (16 + x_) = -1) i) + 0))), (4, .int (nI i)), (0, .ref M), (1, .int (nI 0))]) hx hb dX7_about_97 rfl hl (by decide) rfl (fun ls hl => ?_)
            refine lv_iinc (v := nI (i + 1)) (lv' := [(4, .int (nI (i + 1))), (3, .int (nI ((ct (fun x_ => 1 < lk f n x_) i) + 1))), (2, .int (nI ((ct (fun x_ => f (16 + x_) = -1) i) + 0))), (0, .ref M), (1, .int (nI 0))]) hx hb dX7_about_98 hl (k := 2) rfl (inc_n _ 1) (by decide) rfl (fun ls hl => ?_)
            refine lv_goto (tgt := 41) hx hb dX7_about_101 (by decide) ?_
            exact ih_41 (i + 1) (by first | omega | assumption) (by omega) _ _ hP hD hS ls (lv_sub hl [0, 1, 2, 3, 4] (by first | (rw [ct_t (p := fun x_ => f (16 + x_) = -1) (by assumption), ct_t (p := fun x_ => 1 < lk f n x_) (by omega)]; rfl) | (rw [ct_t (p := fun x_ => f (16 + x_) = -1) (by assumption), ct_f (p := fun x_ => 1 < lk f n x_) (by omega)]; rfl) | (rw [ct_f (p := fun x_ => f (16 + x_) = -1) (by assumption), ct_t (p := fun x_ => 1 < lk f n x_) (by omega)]; rfl) | (rw [ct_f (p := fun x_ => f (16 + x_) = -1) (by assumption), ct_f (p := fun x_ => 1 < lk f n x_) (by omega)]; rfl)))
        ·
          refine lv_iconst (v := nI 1) hx hb dX7_about_64 (by decide) ?_
          refine lv_goto (tgt := 69) hx hb dX7_about_65 (by decide) ?_
          refine nv_iadd hx hb dX7_about_69 ?_
          refine lv_istore_n (lv' := [(2, .int (nI ((ct (fun x_ => f (16 + x_) = -1) i) + 1))), (4, .int (nI i)), (3, .int (nI (ct (fun x_ => 1 < lk f n x_) i))), (0, .ref M), (1, .int (nI 0))]) hx hb dX7_about_70 rfl hl (by decide) rfl (fun ls hl => ?_)
          refine lv_iload_n hx hb dX7_about_71 rfl (lv_at hl 2 rfl) ?_
          refine lv_aload_n hx hb dX7_about_72 rfl (lv_at hl 3 rfl) ?_
          refine lv_aload_n hx hb dX7_about_73 rfl (lv_at hl 3 rfl) ?_
          refine va_get (D := G.1) (ci := 4) (v := .ref mn) (C := RX7) (T := TX7) (N := 11) hx hb hts in_c_X7_about_0_X7 hown hK.1 hP 0 rfl rfl 3 (by decide) (hts (.fieldLink RX7 13 "FloorPanelsModel" "now" "[I") (by decide +kernel)) (fun _ h9 => h9) rfl dX7_about_74 ?_
          refine lv_aload_n hx hb dX7_about_77 rfl (lv_at hl 3 rfl) ?_
          refine va_get (D := G.1) (ci := 4) (v := .ref na) (C := RX7) (T := TX7) (N := 11) hx hb hts in_c_X7_about_0_X7 hown hK.1 hP 0 rfl rfl 9 (by decide) (hts (.fieldLink RX7 29 "FloorPanelsModel" "names" "[I") (by decide +kernel)) (fun _ h9 => h9) rfl dX7_about_78 ?_
          refine lv_iload hx hb dX7_about_81 (lv_at hl 1 rfl) ?_
          refine nv_iald hx hb hK hP 2 rfl (by omega) (by decide) dX7_about_83 ?_
          rw [show (nmA sk (kdm mm) g 0 n nf) i = (f (16 + i)) from h_R.nf (by omega)]
          refine cRV (As := [.ref mn, .int (f (16 + i))]) (rest := [.int (nI (ct (fun x_ => 1 < lk f n x_) i))]) (v := .int (nI (ct (fun x_ => ¬ (f (16 + i)) = -1 ∧ (nmA sk (kdm mm) g 0 n nf) x_ = (f (16 + i))) n))) ⟨hx, hb, hml, hown, hts⟩ (c_X7_alike l G M 0 mt sz mn mtr md ac mk mik na so mn n g sk mm (nmA sk (kdm mm) g 0 n nf) (f (16 + i)) (by first | omega | assumption)) (cwV 2 hts gX7_about_X7_alike rfl rfl rfl (by decide +kernel) ⟨Nat.le_of_ble_eq_true rfl, Nat.le_of_ble_eq_true rfl⟩) (preV_of hK hP hD [0, 1, 2] (by decide) rfl (ci := 4) (q0 := 0) rfl rfl rfl) rfl hl.1 rfl (lv_room (Nat.le_of_ble_eq_true rfl)) dX7_about_84 ⟨Nat.zero_le _, Nat.zero_le _⟩ ?_
          rw [show (nI (ct (fun x_ => ¬ (f (16 + i)) = -1 ∧ (nmA sk (kdm mm) g 0 n nf) x_ = (f (16 + i))) n)) = nI (lk f n i) from congrArg nI (lk_A h_R)]
          refine lv_iconst (v := nI 1) hx hb dX7_about_87 (by decide) ?_
          refine bi_le (tgt := 95) hx hb dX7_about_88 (by decide) (nI_i (by omega)) (nI_i (by omega)) (fun c_88 => ?_) (fun c_88 => ?_)
          ·
            refine lv_iconst (v := nI 0) hx hb dX7_about_95 (by decide) ?_
            refine nv_iadd hx hb dX7_about_96 ?_
            refine lv_istore_n (lv' := [(3, .int (nI ((ct (fun x_ => 1 < lk f n x_) i) + 0))), (2, .int (nI ((ct (fun x_ => f (16 + x_) = -1) i) + 1))), (4, .int (nI i)), (0, .ref M), (1, .int (nI 0))]) hx hb dX7_about_97 rfl hl (by decide) rfl (fun ls hl => ?_)
            refine lv_iinc (v := nI (i + 1)) (lv' := [(4, .int (nI (i + 1))), (3, .int (nI ((ct (fun x_ => 1 < lk f n x_) i) + 0))), (2, .int (nI ((ct (fun x_ => f (16 + x_) = -1) i) + 1))), (0, .ref M), (1, .int (nI 0))]) hx hb dX7_about_98 hl (k := 2) rfl (inc_n _ 1) (by decide) rfl (fun ls hl => ?_)
            refine lv_goto (tgt := 41) hx hb dX7_about_101 (by decide) ?_
            exact ih_41 (i + 1) (by first | omega | assumption) (by omega) _ _ hP hD hS ls (lv_sub hl [0, 1, 2, 3, 4] (by first | (rw [ct_t (p := fun x_ => f (16 + x_) = -1) (by assumption), ct_t (p := fun x_ => 1 < lk f n x_) (by omega)]; rfl) | (rw [ct_t (p := fun x_ => f (16 + x_) = -1) (by assumption), ct_f (p := fun x_ => 1 < lk f n x_) (by omega)]; rfl) | (rw [ct_f (p := fun x_ => f (16 + x_) = -1) (by assumption), ct_t (p := fun x_ => 1 < lk f n x_) (by omega)]; rfl) | (rw [ct_f (p := fun x_ => f (16 + x_) = -1) (by assumption), ct_f (p := fun x_ => 1 < lk f n x_) (by omega)]; rfl)))
          ·
            refine lv_iconst (v := nI 1) hx hb dX7_about_91 (by decide) ?_
            refine lv_goto (tgt := 96) hx hb dX7_about_92 (by decide) ?_
            refine nv_iadd hx hb dX7_about_96 ?_
            refine lv_istore_n (lv' := [(3, .int (nI ((ct (fun x_ => 1 < lk f n x_) i) + 1))), (2, .int (nI ((ct (fun x_ => f (16 + x_) = -1) i) + 1))), (4, .int (nI i)), (0, .ref M), (1, .int (nI 0))]) hx hb dX7_about_97 rfl hl (by decide) rfl (fun ls hl => ?_)
            refine lv_iinc (v := nI (i + 1)) (lv' := [(4, .int (nI (i + 1))), (3, .int (nI ((ct (fun x_ => 1 < lk f n x_) i) + 1))), (2, .int (nI ((ct (fun x_ => f (16 + x_) = -1) i) + 1))), (0, .ref M), (1, .int (nI 0))]) hx hb dX7_about_98 hl (k := 2) rfl (inc_n _ 1) (by decide) rfl (fun ls hl => ?_)
            refine lv_goto (tgt := 41) hx hb dX7_about_101 (by decide) ?_
            exact ih_41 (i + 1) (by first | omega | assumption) (by omega) _ _ hP hD hS ls (lv_sub hl [0, 1, 2, 3, 4] (by first | (rw [ct_t (p := fun x_ => f (16 + x_) = -1) (by assumption), ct_t (p := fun x_ => 1 < lk f n x_) (by omega)]; rfl) | (rw [ct_t (p := fun x_ => f (16 + x_) = -1) (by assumption), ct_f (p := fun x_ => 1 < lk f n x_) (by omega)]; rfl) | (rw [ct_f (p := fun x_ => f (16 + x_) = -1) (by assumption), ct_t (p := fun x_ => 1 < lk f n x_) (by omega)]; rfl) | (rw [ct_f (p := fun x_ => f (16 + x_) = -1) (by assumption), ct_f (p := fun x_ => 1 < lk f n x_) (by omega)]; rfl)))
  exact loop_41 (n - 0 + 1) 0 (by first | omega | assumption) (Nat.lt_succ_self _) _ _ hP hD hS ls (lv_sub hl [0, 1, 2, 3, 4] (by rfl))

theorem in_c_X7_about_1_X7 : ∀ w ∈ wsX70, w ∈ wsX7_about := by decide +kernel
set_option maxHeartbeats 4000000 in
set_option maxRecDepth 100000 in
theorem c_X7_about_1 (l : Launch) (G : GG) (M : Nat) (rf : Nat) (mt : Nat) (sz : Nat) (mn : Nat) (mtr : Nat) (md : Nat) (ac : Nat) (mk : Nat) (mik : Nat) (na : Nat) (so : Nat) (n : Nat) (g : Nat) (sk : Int32) (mm : Nat → Int32) (nf : Nat → Int32) (sf : Nat → Int32) (f : Nat → Int32) (h_n : n ≤ 16) (h_n1 : 1 ≤ n) (h_g : g < n) (h_k : mm (3 + g) = 0) (h_R : MRel n sk g f mm) : Met l yX7_about wsX7_about ({ frames := 3, cells := 0, slots := 0, locals := 74 } : Room) (va_Pc [.ref M, .int (nI 1)] (PB G [(M, .inr (4, [.int (nI rf), .ref mt, .int (nI sz), .ref mn, .ref mtr, .ref md, .int (nI ac), .ref mk, .ref mik, .ref na, .ref so])), (mn, .inl (G.2 0, 131, .inl (mr n (nI g) sk mm))), (na, .inl (G.2 0, 16, .inl nf)), (so, .inl (G.2 0, 16, .inl sf))])) (QW G (some (.int (nI g))) [(M, .inr (4, [.int (nI 0), .ref mt, .int (nI sz), .ref mn, .ref mtr, .ref md, .int (nI ac), .ref mk, .ref mik, .ref na, .ref so])), (mn, .inl (G.2 0, 131, .inl (mr n (nI g) sk mm))), (na, .inl (G.2 0, 16, .inl (nmA sk (kdm mm) g 0 n nf))), (so, .inl (G.2 0, 16, .inl (soA sk (kdm mm) g 0 n sf)))] (vA [(M, .inr (4, [.int (nI rf), .ref mt, .int (nI sz), .ref mn, .ref mtr, .ref md, .int (nI ac), .ref mk, .ref mik, .ref na, .ref so])), (mn, .inl (G.2 0, 131, .inl (mr n (nI g) sk mm))), (na, .inl (G.2 0, 16, .inl nf)), (so, .inl (G.2 0, 16, .inl sf))])) 0 0 (vA [(M, .inr (4, [.int (nI rf), .ref mt, .int (nI sz), .ref mn, .ref mtr, .ref md, .int (nI ac), .ref mk, .ref mik, .ref na, .ref so])), (mn, .inl (G.2 0, 131, .inl (mr n (nI g) sk mm))), (na, .inl (G.2 0, 16, .inl nf)), (so, .inl (G.2 0, 16, .inl sf))]) := by
  refine Met.go (cc := cX7_about) (maxL := 5) (ret := (some .int)) (by decide) rfl (Nat.le_of_ble_eq_true rfl) ?_
  intro p e s m below meth c ls hx hb hr hml hown hts hlk hP hK hD hS hl
  have hown : s.vm.findClass RX7 = some m.cls := hown
  have hl : lv_has ls 5 [(0, .ref M), (1, .int (nI 1))] := hl
  refine lv_aload_n hx hb dX7_about_0 rfl (lv_at hl 0 rfl) ?_
  refine lv_iload_n hx hb dX7_about_1 rfl (lv_at hl 1 rfl) ?_
  refine lv_i2l (v := (nI 1).toInt64) hx hb dX7_about_2 rfl ?_
  refine lv_lconst (v := 0) hx hb dX7_about_3 rfl ?_
  refine lv_ldc2 (own := RX7) (v := 8) hx hb hown (hts (.constantLong RX7 139 (8)) (by decide +kernel)) dX7_about_4 ?_
  refine cRS (As := [.long ((nI 1).toInt64), .long (0 : Int64), .long (8 : Int64)]) (rest := [.ref M]) (v := .int (zb ((0 : Int64).toInt ≤ ((nI 1).toInt64).toInt ∧ ((nI 1).toInt64).toInt ≤ (8 : Int64).toInt))) ⟨hx, hb, hml, hown, hts⟩ (c_X7_in l G ((nI 1).toInt64) (0 : Int64) (8 : Int64) ) (va_cwS 3 hts gX7_about_X7_in rfl rfl rfl (by decide +kernel) ⟨Nat.le_of_ble_eq_true rfl, Nat.le_of_ble_eq_true rfl⟩) (preS_of hK hP hD [] (by decide) rfl) rfl hl.1 rfl (lv_room (Nat.le_of_ble_eq_true rfl)) dX7_about_7 ⟨Nat.zero_le _, Nat.zero_le _⟩ ?_
  refine bb_eq (tgt := 17) hx hb dX7_about_10 (by decide) (fun c_10 => False.elim (by (rw [i2l_toInt, nI_i (by omega), show (0 : Int64).toInt = 0 from rfl, show (8 : Int64).toInt = 8 from rfl] at c_10; omega))) (fun c_10 => ?_)
  refine lv_iconst (v := nI 0) hx hb dX7_about_13 (by decide) ?_
  refine lv_goto (tgt := 18) hx hb dX7_about_14 (by decide) ?_
  refine cWV (As := [.int (nI 0)]) (rest := []) (st1 := [.int (zb (0 < 0))]) (w3 := [(M, .inr (4, [.int (nI 0), .ref mt, .int (nI sz), .ref mn, .ref mtr, .ref md, .int (nI ac), .ref mk, .ref mik, .ref na, .ref so])), (mn, .inl (G.2 0, 131, .inl (mr n (nI g) sk mm))), (na, .inl (G.2 0, 16, .inl nf)), (so, .inl (G.2 0, 16, .inl sf))]) ⟨hx, hb, hml, hown, hts⟩ (c_X7_refused l G M rf mt sz mn mtr md ac mk mik na so 0 (by first | omega | assumption)) (cwV 1 hts gX7_about_X7_refused rfl rfl rfl (by decide +kernel) ⟨Nat.le_of_ble_eq_true rfl, Nat.le_of_ble_eq_true rfl⟩) (preV_of hK hP hD [0] (by decide) rfl (ci := 4) (q0 := 0) rfl rfl rfl) rfl hl.1 rfl (lv_room (Nat.le_of_ble_eq_true rfl)) dX7_about_18 ⟨Nat.zero_le _, Nat.zero_le _⟩ hP hD hS [0] (by decide) rfl rfl (rfl) rfl (fun H locs hP hD hS => ?_)
  refine bb_eq (tgt := 26) hx hb dX7_about_21 (by decide) (fun c_21 => ?_) (fun c_21 => False.elim (by omega))
  refine lv_aload_n hx hb dX7_about_26 rfl (lv_at hl 0 rfl) ?_
  refine lv_aload_n hx hb dX7_about_27 rfl (lv_at hl 0 rfl) ?_
  refine va_get (D := G.1) (ci := 4) (v := .ref mn) (C := RX7) (T := TX7) (N := 11) hx hb hts in_c_X7_about_1_X7 hown hK.1 hP 0 rfl rfl 3 (by decide) (hts (.fieldLink RX7 13 "FloorPanelsModel" "now" "[I") (by decide +kernel)) (fun _ h9 => h9) rfl dX7_about_28 ?_
  refine cWV (As := [.ref mn]) (rest := []) (st1 := []) (w3 := [(M, .inr (4, [.int (nI 0), .ref mt, .int (nI sz), .ref mn, .ref mtr, .ref md, .int (nI ac), .ref mk, .ref mik, .ref na, .ref so])), (mn, .inl (G.2 0, 131, .inl (mr n (nI g) sk mm))), (na, .inl (G.2 0, 16, .inl (nmA sk (kdm mm) g 0 n nf))), (so, .inl (G.2 0, 16, .inl (soA sk (kdm mm) g 0 n sf)))]) ⟨hx, hb, hml, hown, hts⟩ (c_X7_name l G M 0 mt sz mn mtr md ac mk mik na so mn n g sk mm nf sf (by first | omega | assumption) (by first | omega | assumption) (by first | omega | assumption)) (cwV 1 hts gX7_about_X7_name rfl rfl rfl (by decide +kernel) ⟨Nat.le_of_ble_eq_true rfl, Nat.le_of_ble_eq_true rfl⟩) (preV_of hK hP hD [0, 1, 2, 3] (by decide) rfl (ci := 4) (q0 := 0) rfl rfl rfl) rfl hl.1 rfl (lv_room (Nat.le_of_ble_eq_true rfl)) dX7_about_31 ⟨Nat.zero_le _, Nat.zero_le _⟩ hP hD hS [0, 1, 2, 3] (by decide) rfl rfl (rfl) rfl (fun H locs hP hD hS => ?_)
  refine lv_iconst (v := nI 0) hx hb dX7_about_34 (by decide) ?_
  refine lv_istore_n (lv' := [(2, .int (nI 0)), (0, .ref M), (1, .int (nI 1))]) hx hb dX7_about_35 rfl hl (by decide) rfl (fun ls hl => ?_)
  refine lv_iconst (v := nI 0) hx hb dX7_about_36 (by decide) ?_
  refine lv_istore_n (lv' := [(3, .int (nI 0)), (2, .int (nI 0)), (0, .ref M), (1, .int (nI 1))]) hx hb dX7_about_37 rfl hl (by decide) rfl (fun ls hl => ?_)
  refine lv_iconst (v := nI 0) hx hb dX7_about_38 (by decide) ?_
  refine lv_istore (lv' := [(4, .int (nI 0)), (3, .int (nI 0)), (2, .int (nI 0)), (0, .ref M), (1, .int (nI 1))]) hx hb dX7_about_39 hl (by decide) rfl (fun ls hl => ?_)
  have loop_41 : ∀ (k_ : Nat) (i : Nat) (h_i : i ≤ n) (_ : n - i < k_) (H : Heap) (locs : List Loc) (_ : VP G [(M, .inr (4, [.int (nI 0), .ref mt, .int (nI sz), .ref mn, .ref mtr, .ref md, .int (nI ac), .ref mk, .ref mik, .ref na, .ref so])), (mn, .inl (G.2 0, 131, .inl (mr n (nI g) sk mm))), (na, .inl (G.2 0, 16, .inl (nmA sk (kdm mm) g 0 n nf))), (so, .inl (G.2 0, 16, .inl (soA sk (kdm mm) g 0 n sf)))] H) (_ : va_D (vA [(M, .inr (4, [.int (nI rf), .ref mt, .int (nI sz), .ref mn, .ref mtr, .ref md, .int (nI ac), .ref mk, .ref mik, .ref na, .ref so])), (mn, .inl (G.2 0, 131, .inl (mr n (nI g) sk mm))), (na, .inl (G.2 0, 16, .inl nf)), (so, .inl (G.2 0, 16, .inl sf))]) [(M, .inr (4, [.int (nI 0), .ref mt, .int (nI sz), .ref mn, .ref mtr, .ref md, .int (nI ac), .ref mk, .ref mik, .ref na, .ref so])), (mn, .inl (G.2 0, 131, .inl (mr n (nI g) sk mm))), (na, .inl (G.2 0, 16, .inl (nmA sk (kdm mm) g 0 n nf))), (so, .inl (G.2 0, 16, .inl (soA sk (kdm mm) g 0 n sf)))]) (_ : va_S (vA [(M, .inr (4, [.int (nI rf), .ref mt, .int (nI sz), .ref mn, .ref mtr, .ref md, .int (nI ac), .ref mk, .ref mik, .ref na, .ref so])), (mn, .inl (G.2 0, 131, .inl (mr n (nI g) sk mm))), (na, .inl (G.2 0, 16, .inl nf)), (so, .inl (G.2 0, 16, .inl sf))]) s.heap H locs) (ls : Array Slot), lv_has ls 5 [(4, .int (nI i)), (3, .int (nI (ct (fun x_ => 1 < lk f n x_) i))), (2, .int (nI (ct (fun x_ => f (16 + x_) = -1) i))), (0, .ref M), (1, .int (nI 1))] → W p l e ({ frames := 3, cells := 0, slots := 0, locals := 74 } : Room) s m ([.ref M, .int (nI 1)] : List Value).toArray below meth c H locs 0 0 (MQ below (QW G (some (.int (nI g))) [(M, .inr (4, [.int (nI 0), .ref mt, .int (nI sz), .ref mn, .ref mtr, .ref md, .int (nI ac), .ref mk, .ref mik, .ref na, .ref so])), (mn, .inl (G.2 0, 131, .inl (mr n (nI g) sk mm))), (na, .inl (G.2 0, 16, .inl (nmA sk (kdm mm) g 0 n nf))), (so, .inl (G.2 0, 16, .inl (soA sk (kdm mm) g 0 n sf)))] (vA [(M, .inr (4, [.int (nI rf), .ref mt, .int (nI sz), .ref mn, .ref mtr, .ref md, .int (nI ac), .ref mk, .ref mik, .ref na, .ref so])), (mn, .inl (G.2 0, 131, .inl (mr n (nI g) sk mm))), (na, .inl (G.2 0, 16, .inl nf)), (so, .inl (G.2 0, 16, .inl sf))])) ([.ref M, .int (nI 1)] : List Value).toArray s 0 0 (vA [(M, .inr (4, [.int (nI rf), .ref mt, .int (nI sz), .ref mn, .ref mtr, .ref md, .int (nI ac), .ref mk, .ref mik, .ref na, .ref so])), (mn, .inl (G.2 0, 131, .inl (mr n (nI g) sk mm))), (na, .inl (G.2 0, 16, .inl nf)), (so, .inl (G.2 0, 16, .inl sf))])) (F0 m 41 ls []) := by
    intro k_
    induction k_ with
    | zero => intro i h_i hk_; exact absurd hk_ (Nat.not_lt_zero _)
    | succ k_ ih_41 =>
      intro i h_i hk_ H locs hP hD hS ls hl
      refine lv_iload hx hb dX7_about_41 (lv_at hl 0 rfl) ?_
      refine lv_aload_n hx hb dX7_about_43 rfl (lv_at hl 3 rfl) ?_
      refine va_get (D := G.1) (ci := 4) (v := .ref mn) (C := RX7) (T := TX7) (N := 11) hx hb hts in_c_X7_about_1_X7 hown hK.1 hP 0 rfl rfl 3 (by decide) (hts (.fieldLink RX7 13 "FloorPanelsModel" "now" "[I") (by decide +kernel)) (fun _ h9 => h9) rfl dX7_about_44 ?_
      refine lv_iconst (v := nI 0) hx hb dX7_about_47 (by decide) ?_
      refine nv_iald hx hb hK hP 1 rfl (by omega) (by decide) dX7_about_48 ?_
      rw [show (mr n (nI g) sk mm) 0 = nI n from mr_0]
      refine bi_ge (tgt := 104) hx hb dX7_about_49 (by decide) (nI_i (by omega)) (nI_i (by omega)) (fun c_49 => ?_) (fun c_49 => ?_)
      ·
        refine lv_iload_n hx hb dX7_about_104 rfl (lv_at hl 4 rfl) ?_
        refine lv_tableOut (tgt := 207) hx hb dX7_about_105 (by decide) (by decide) ?_
        refine lv_aload_n hx hb dX7_about_207 rfl (lv_at hl 3 rfl) ?_
        refine va_get (D := G.1) (ci := 4) (v := .ref mn) (C := RX7) (T := TX7) (N := 11) hx hb hts in_c_X7_about_1_X7 hown hK.1 hP 0 rfl rfl 3 (by decide) (hts (.fieldLink RX7 13 "FloorPanelsModel" "now" "[I") (by decide +kernel)) (fun _ h9 => h9) rfl dX7_about_208 ?_
        refine lv_iload_n hx hb dX7_about_211 rfl (lv_at hl 4 rfl) ?_
        refine nv_iald hx hb hK hP 1 rfl (by omega) (by decide) dX7_about_212 ?_
        rw [show (mr n (nI g) sk mm) 1 = nI g from mr_1]
        exact W_i hx hb hr hlk dX7_about_213 hP hS (rfl) (rfl)
      ·
        have h_lk := lk_le f n i
        have h_c4 := ct_le (fun x_ => f (16 + x_) = -1) i
        have h_c5 := ct_le (fun x_ => 1 < lk f n x_) i
        refine lv_iload_n hx hb dX7_about_52 rfl (lv_at hl 2 rfl) ?_
        refine lv_aload_n hx hb dX7_about_53 rfl (lv_at hl 3 rfl) ?_
        refine va_get (D := G.1) (ci := 4) (v := .ref na) (C := RX7) (T := TX7) (N := 11) hx hb hts in_c_X7_about_1_X7 hown hK.1 hP 0 rfl rfl 9 (by decide) (hts (.fieldLink RX7 29 "FloorPanelsModel" "names" "[I") (by decide +kernel)) (fun _ h9 => h9) rfl dX7_about_54 ?_
        refine lv_iload hx hb dX7_about_57 (lv_at hl 0 rfl) ?_
        refine nv_iald hx hb hK hP 2 rfl (by omega) (by decide) dX7_about_59 ?_
        rw [show (nmA sk (kdm mm) g 0 n nf) i = (f (16 + i)) from h_R.nf (by omega)]
        refine lv_iconst (v := (-1)) hx hb dX7_about_60 (by decide) ?_
        refine lv_icmp_ne (tgt := 68) hx hb dX7_about_61 (by decide) (fun c_61 => ?_) (fun c_61 => ?_)
        ·
          refine lv_iconst (v := nI 0) hx hb dX7_about_68 (by decide) ?_
          refine nv_iadd hx hb dX7_about_69 ?_
          refine lv_istore_n (lv' := [(2, .int (nI ((ct (fun x_ => f (16 + x_) = -1) i) + 0))), (4, .int (nI i)), (3, .int (nI (ct (fun x_ => 1 < lk f n x_) i))), (0, .ref M), (1, .int (nI 1))]) hx hb dX7_about_70 rfl hl (by decide) rfl (fun ls hl => ?_)
          refine lv_iload_n hx hb dX7_about_71 rfl (lv_at hl 2 rfl) ?_
          refine lv_aload_n hx hb dX7_about_72 rfl (lv_at hl 3 rfl) ?_
          refine lv_aload_n hx hb dX7_about_73 rfl (lv_at hl 3 rfl) ?_
          refine va_get (D := G.1) (ci := 4) (v := .ref mn) (C := RX7) (T := TX7) (N := 11) hx hb hts in_c_X7_about_1_X7 hown hK.1 hP 0 rfl rfl 3 (by decide) (hts (.fieldLink RX7 13 "FloorPanelsModel" "now" "[I") (by decide +kernel)) (fun _ h9 => h9) rfl dX7_about_74 ?_
          refine lv_aload_n hx hb dX7_about_77 rfl (lv_at hl 3 rfl) ?_
          refine va_get (D := G.1) (ci := 4) (v := .ref na) (C := RX7) (T := TX7) (N := 11) hx hb hts in_c_X7_about_1_X7 hown hK.1 hP 0 rfl rfl 9 (by decide) (hts (.fieldLink RX7 29 "FloorPanelsModel" "names" "[I") (by decide +kernel)) (fun _ h9 => h9) rfl dX7_about_78 ?_
          refine lv_iload hx hb dX7_about_81 (lv_at hl 1 rfl) ?_
          refine nv_iald hx hb hK hP 2 rfl (by omega) (by decide) dX7_about_83 ?_
          rw [show (nmA sk (kdm mm) g 0 n nf) i = (f (16 + i)) from h_R.nf (by omega)]
          refine cRV (As := [.ref mn, .int (f (16 + i))]) (rest := [.int (nI (ct (fun x_ => 1 < lk f n x_) i))]) (v := .int (nI (ct (fun x_ => ¬ (f (16 + i)) = -1 ∧ (nmA sk (kdm mm) g 0 n nf) x_ = (f (16 + i))) n))) ⟨hx, hb, hml, hown, hts⟩ (c_X7_alike l G M 0 mt sz mn mtr md ac mk mik na so mn n g sk mm (nmA sk (kdm mm) g 0 n nf) (f (16 + i)) (by first | omega | assumption)) (cwV 2 hts gX7_about_X7_alike rfl rfl rfl (by decide +kernel) ⟨Nat.le_of_ble_eq_true rfl, Nat.le_of_ble_eq_true rfl⟩) (preV_of hK hP hD [0, 1, 2] (by decide) rfl (ci := 4) (q0 := 0) rfl rfl rfl) rfl hl.1 rfl (lv_room (Nat.le_of_ble_eq_true rfl)) dX7_about_84 ⟨Nat.zero_le _, Nat.zero_le _⟩ ?_
          rw [show (nI (ct (fun x_ => ¬ (f (16 + i)) = -1 ∧ (nmA sk (kdm mm) g 0 n nf) x_ = (f (16 + i))) n)) = nI (lk f n i) from congrArg nI (lk_A h_R)]
          refine lv_iconst (v := nI 1) hx hb dX7_about_87 (by decide) ?_
          refine bi_le (tgt := 95) hx hb dX7_about_88 (by decide) (nI_i (by omega)) (nI_i (by omega)) (fun c_88 => ?_) (fun c_88 => ?_)
          ·
            refine lv_iconst (v := nI 0) hx hb dX7_about_95 (by decide) ?_
            refine nv_iadd hx hb dX7_about_96 ?_
            refine lv_istore_n (lv' := [(3, .int (nI ((ct (fun x_ => 1 < lk f n x_) i) + 0))), (2, .int (nI ((ct (fun x_ => f (16 + x_) = -1) i) + 0))), (4, .int (nI i)), (0, .ref M), (1, .int (nI 1))]) hx hb dX7_about_97 rfl hl (by decide) rfl (fun ls hl => ?_)
            refine lv_iinc (v := nI (i + 1)) (lv' := [(4, .int (nI (i + 1))), (3, .int (nI ((ct (fun x_ => 1 < lk f n x_) i) + 0))), (2, .int (nI ((ct (fun x_ => f (16 + x_) = -1) i) + 0))), (0, .ref M), (1, .int (nI 1))]) hx hb dX7_about_98 hl (k := 2) rfl (inc_n _ 1) (by decide) rfl (fun ls hl => ?_)
            refine lv_goto (tgt := 41) hx hb dX7_about_101 (by decide) ?_
            exact ih_41 (i + 1) (by first | omega | assumption) (by omega) _ _ hP hD hS ls (lv_sub hl [0, 1, 2, 3, 4] (by first | (rw [ct_t (p := fun x_ => f (16 + x_) = -1) (by assumption), ct_t (p := fun x_ => 1 < lk f n x_) (by omega)]; rfl) | (rw [ct_t (p := fun x_ => f (16 + x_) = -1) (by assumption), ct_f (p := fun x_ => 1 < lk f n x_) (by omega)]; rfl) | (rw [ct_f (p := fun x_ => f (16 + x_) = -1) (by assumption), ct_t (p := fun x_ => 1 < lk f n x_) (by omega)]; rfl) | (rw [ct_f (p := fun x_ => f (16 + x_) = -1) (by assumption), ct_f (p := fun x_ => 1 < lk f n x_) (by omega)]; rfl)))
          ·
            refine lv_iconst (v := nI 1) hx hb dX7_about_91 (by decide) ?_
            refine lv_goto (tgt := 96) hx hb dX7_about_92 (by decide) ?_
            refine nv_iadd hx hb dX7_about_96 ?_
            refine lv_istore_n (lv' := [(3, .int (nI ((ct (fun x_ => 1 < lk f n x_) i) + 1))), (2, .int (nI ((ct (fun x_ => f (16 + x_) = -1) i) + 0))), (4, .int (nI i)), (0, .ref M), (1, .int (nI 1))]) hx hb dX7_about_97 rfl hl (by decide) rfl (fun ls hl => ?_)
            refine lv_iinc (v := nI (i + 1)) (lv' := [(4, .int (nI (i + 1))), (3, .int (nI ((ct (fun x_ => 1 < lk f n x_) i) + 1))), (2, .int (nI ((ct (fun x_ => f (16 + x_) = -1) i) + 0))), (0, .ref M), (1, .int (nI 1))]) hx hb dX7_about_98 hl (k := 2) rfl (inc_n _ 1) (by decide) rfl (fun ls hl => ?_)
            refine lv_goto (tgt := 41) hx hb dX7_about_101 (by decide) ?_
            exact ih_41 (i + 1) (by first | omega | assumption) (by omega) _ _ hP hD hS ls (lv_sub hl [0, 1, 2, 3, 4] (by first | (rw [ct_t (p := fun x_ => f (16 + x_) = -1) (by assumption), ct_t (p := fun x_ => 1 < lk f n x_) (by omega)]; rfl) | (rw [ct_t (p := fun x_ => f (16 + x_) = -1) (by assumption), ct_f (p := fun x_ => 1 < lk f n x_) (by omega)]; rfl) | (rw [ct_f (p := fun x_ => f (16 + x_) = -1) (by assumption), ct_t (p := fun x_ => 1 < lk f n x_) (by omega)]; rfl) | (rw [ct_f (p := fun x_ => f (16 + x_) = -1) (by assumption), ct_f (p := fun x_ => 1 < lk f n x_) (by omega)]; rfl)))
        ·
          refine lv_iconst (v := nI 1) hx hb dX7_about_64 (by decide) ?_
          refine lv_goto (tgt := 69) hx hb dX7_about_65 (by decide) ?_
          refine nv_iadd hx hb dX7_about_69 ?_
          refine lv_istore_n (lv' := [(2, .int (nI ((ct (fun x_ => f (16 + x_) = -1) i) + 1))), (4, .int (nI i)), (3, .int (nI (ct (fun x_ => 1 < lk f n x_) i))), (0, .ref M), (1, .int (nI 1))]) hx hb dX7_about_70 rfl hl (by decide) rfl (fun ls hl => ?_)
          refine lv_iload_n hx hb dX7_about_71 rfl (lv_at hl 2 rfl) ?_
          refine lv_aload_n hx hb dX7_about_72 rfl (lv_at hl 3 rfl) ?_
          refine lv_aload_n hx hb dX7_about_73 rfl (lv_at hl 3 rfl) ?_
          refine va_get (D := G.1) (ci := 4) (v := .ref mn) (C := RX7) (T := TX7) (N := 11) hx hb hts in_c_X7_about_1_X7 hown hK.1 hP 0 rfl rfl 3 (by decide) (hts (.fieldLink RX7 13 "FloorPanelsModel" "now" "[I") (by decide +kernel)) (fun _ h9 => h9) rfl dX7_about_74 ?_
          refine lv_aload_n hx hb dX7_about_77 rfl (lv_at hl 3 rfl) ?_
          refine va_get (D := G.1) (ci := 4) (v := .ref na) (C := RX7) (T := TX7) (N := 11) hx hb hts in_c_X7_about_1_X7 hown hK.1 hP 0 rfl rfl 9 (by decide) (hts (.fieldLink RX7 29 "FloorPanelsModel" "names" "[I") (by decide +kernel)) (fun _ h9 => h9) rfl dX7_about_78 ?_
          refine lv_iload hx hb dX7_about_81 (lv_at hl 1 rfl) ?_
          refine nv_iald hx hb hK hP 2 rfl (by omega) (by decide) dX7_about_83 ?_
          rw [show (nmA sk (kdm mm) g 0 n nf) i = (f (16 + i)) from h_R.nf (by omega)]
          refine cRV (As := [.ref mn, .int (f (16 + i))]) (rest := [.int (nI (ct (fun x_ => 1 < lk f n x_) i))]) (v := .int (nI (ct (fun x_ => ¬ (f (16 + i)) = -1 ∧ (nmA sk (kdm mm) g 0 n nf) x_ = (f (16 + i))) n))) ⟨hx, hb, hml, hown, hts⟩ (c_X7_alike l G M 0 mt sz mn mtr md ac mk mik na so mn n g sk mm (nmA sk (kdm mm) g 0 n nf) (f (16 + i)) (by first | omega | assumption)) (cwV 2 hts gX7_about_X7_alike rfl rfl rfl (by decide +kernel) ⟨Nat.le_of_ble_eq_true rfl, Nat.le_of_ble_eq_true rfl⟩) (preV_of hK hP hD [0, 1, 2] (by decide) rfl (ci := 4) (q0 := 0) rfl rfl rfl) rfl hl.1 rfl (lv_room (Nat.le_of_ble_eq_true rfl)) dX7_about_84 ⟨Nat.zero_le _, Nat.zero_le _⟩ ?_
          rw [show (nI (ct (fun x_ => ¬ (f (16 + i)) = -1 ∧ (nmA sk (kdm mm) g 0 n nf) x_ = (f (16 + i))) n)) = nI (lk f n i) from congrArg nI (lk_A h_R)]
          refine lv_iconst (v := nI 1) hx hb dX7_about_87 (by decide) ?_
          refine bi_le (tgt := 95) hx hb dX7_about_88 (by decide) (nI_i (by omega)) (nI_i (by omega)) (fun c_88 => ?_) (fun c_88 => ?_)
          ·
            refine lv_iconst (v := nI 0) hx hb dX7_about_95 (by decide) ?_
            refine nv_iadd hx hb dX7_about_96 ?_
            refine lv_istore_n (lv' := [(3, .int (nI ((ct (fun x_ => 1 < lk f n x_) i) + 0))), (2, .int (nI ((ct (fun x_ => f (16 + x_) = -1) i) + 1))), (4, .int (nI i)), (0, .ref M), (1, .int (nI 1))]) hx hb dX7_about_97 rfl hl (by decide) rfl (fun ls hl => ?_)
            refine lv_iinc (v := nI (i + 1)) (lv' := [(4, .int (nI (i + 1))), (3, .int (nI ((ct (fun x_ => 1 < lk f n x_) i) + 0))), (2, .int (nI ((ct (fun x_ => f (16 + x_) = -1) i) + 1))), (0, .ref M), (1, .int (nI 1))]) hx hb dX7_about_98 hl (k := 2) rfl (inc_n _ 1) (by decide) rfl (fun ls hl => ?_)
            refine lv_goto (tgt := 41) hx hb dX7_about_101 (by decide) ?_
            exact ih_41 (i + 1) (by first | omega | assumption) (by omega) _ _ hP hD hS ls (lv_sub hl [0, 1, 2, 3, 4] (by first | (rw [ct_t (p := fun x_ => f (16 + x_) = -1) (by assumption), ct_t (p := fun x_ => 1 < lk f n x_) (by omega)]; rfl) | (rw [ct_t (p := fun x_ => f (16 + x_) = -1) (by assumption), ct_f (p := fun x_ => 1 < lk f n x_) (by omega)]; rfl) | (rw [ct_f (p := fun x_ => f (16 + x_) = -1) (by assumption), ct_t (p := fun x_ => 1 < lk f n x_) (by omega)]; rfl) | (rw [ct_f (p := fun x_ => f (16 + x_) = -1) (by assumption), ct_f (p := fun x_ => 1 < lk f n x_) (by omega)]; rfl)))
          ·
            refine lv_iconst (v := nI 1) hx hb dX7_about_91 (by decide) ?_
            refine lv_goto (tgt := 96) hx hb dX7_about_92 (by decide) ?_
            refine nv_iadd hx hb dX7_about_96 ?_
            refine lv_istore_n (lv' := [(3, .int (nI ((ct (fun x_ => 1 < lk f n x_) i) + 1))), (2, .int (nI ((ct (fun x_ => f (16 + x_) = -1) i) + 1))), (4, .int (nI i)), (0, .ref M), (1, .int (nI 1))]) hx hb dX7_about_97 rfl hl (by decide) rfl (fun ls hl => ?_)
            refine lv_iinc (v := nI (i + 1)) (lv' := [(4, .int (nI (i + 1))), (3, .int (nI ((ct (fun x_ => 1 < lk f n x_) i) + 1))), (2, .int (nI ((ct (fun x_ => f (16 + x_) = -1) i) + 1))), (0, .ref M), (1, .int (nI 1))]) hx hb dX7_about_98 hl (k := 2) rfl (inc_n _ 1) (by decide) rfl (fun ls hl => ?_)
            refine lv_goto (tgt := 41) hx hb dX7_about_101 (by decide) ?_
            exact ih_41 (i + 1) (by first | omega | assumption) (by omega) _ _ hP hD hS ls (lv_sub hl [0, 1, 2, 3, 4] (by first | (rw [ct_t (p := fun x_ => f (16 + x_) = -1) (by assumption), ct_t (p := fun x_ => 1 < lk f n x_) (by omega)]; rfl) | (rw [ct_t (p := fun x_ => f (16 + x_) = -1) (by assumption), ct_f (p := fun x_ => 1 < lk f n x_) (by omega)]; rfl) | (rw [ct_f (p := fun x_ => f (16 + x_) = -1) (by assumption), ct_t (p := fun x_ => 1 < lk f n x_) (by omega)]; rfl) | (rw [ct_f (p := fun x_ => f (16 + x_) = -1) (by assumption), ct_f (p := fun x_ => 1 < lk f n x_) (by omega)]; rfl)))
  exact loop_41 (n - 0 + 1) 0 (by first | omega | assumption) (Nat.lt_succ_self _) _ _ hP hD hS ls (lv_sub hl [0, 1, 2, 3, 4] (by rfl))

theorem in_c_X7_about_2_X7 : ∀ w ∈ wsX70, w ∈ wsX7_about := by decide +kernel
set_option maxHeartbeats 4000000 in
set_option maxRecDepth 100000 in
theorem c_X7_about_2 (l : Launch) (G : GG) (M : Nat) (rf : Nat) (mt : Nat) (sz : Nat) (mn : Nat) (mtr : Nat) (md : Nat) (ac : Nat) (mk : Nat) (mik : Nat) (na : Nat) (so : Nat) (n : Nat) (g : Nat) (sk : Int32) (mm : Nat → Int32) (nf : Nat → Int32) (sf : Nat → Int32) (f : Nat → Int32) (h_n : n ≤ 16) (h_n1 : 1 ≤ n) (h_g : g < n) (h_k : mm (3 + g) = 0) (h_R : MRel n sk g f mm) : Met l yX7_about wsX7_about ({ frames := 3, cells := 0, slots := 0, locals := 74 } : Room) (va_Pc [.ref M, .int (nI 2)] (PB G [(M, .inr (4, [.int (nI rf), .ref mt, .int (nI sz), .ref mn, .ref mtr, .ref md, .int (nI ac), .ref mk, .ref mik, .ref na, .ref so])), (mn, .inl (G.2 0, 131, .inl (mr n (nI g) sk mm))), (na, .inl (G.2 0, 16, .inl nf)), (so, .inl (G.2 0, 16, .inl sf))])) (QW G (some (.int (nI (wr f 2 n)))) [(M, .inr (4, [.int (nI 0), .ref mt, .int (nI sz), .ref mn, .ref mtr, .ref md, .int (nI ac), .ref mk, .ref mik, .ref na, .ref so])), (mn, .inl (G.2 0, 131, .inl (mr n (nI g) sk mm))), (na, .inl (G.2 0, 16, .inl (nmA sk (kdm mm) g 0 n nf))), (so, .inl (G.2 0, 16, .inl (soA sk (kdm mm) g 0 n sf)))] (vA [(M, .inr (4, [.int (nI rf), .ref mt, .int (nI sz), .ref mn, .ref mtr, .ref md, .int (nI ac), .ref mk, .ref mik, .ref na, .ref so])), (mn, .inl (G.2 0, 131, .inl (mr n (nI g) sk mm))), (na, .inl (G.2 0, 16, .inl nf)), (so, .inl (G.2 0, 16, .inl sf))])) 0 0 (vA [(M, .inr (4, [.int (nI rf), .ref mt, .int (nI sz), .ref mn, .ref mtr, .ref md, .int (nI ac), .ref mk, .ref mik, .ref na, .ref so])), (mn, .inl (G.2 0, 131, .inl (mr n (nI g) sk mm))), (na, .inl (G.2 0, 16, .inl nf)), (so, .inl (G.2 0, 16, .inl sf))]) := by
  refine Met.go (cc := cX7_about) (maxL := 5) (ret := (some .int)) (by decide) rfl (Nat.le_of_ble_eq_true rfl) ?_
  intro p e s m below meth c ls hx hb hr hml hown hts hlk hP hK hD hS hl
  have hown : s.vm.findClass RX7 = some m.cls := hown
  have hl : lv_has ls 5 [(0, .ref M), (1, .int (nI 2))] := hl
  refine lv_aload_n hx hb dX7_about_0 rfl (lv_at hl 0 rfl) ?_
  refine lv_iload_n hx hb dX7_about_1 rfl (lv_at hl 1 rfl) ?_
  refine lv_i2l (v := (nI 2).toInt64) hx hb dX7_about_2 rfl ?_
  refine lv_lconst (v := 0) hx hb dX7_about_3 rfl ?_
  refine lv_ldc2 (own := RX7) (v := 8) hx hb hown (hts (.constantLong RX7 139 (8)) (by decide +kernel)) dX7_about_4 ?_
  refine cRS (As := [.long ((nI 2).toInt64), .long (0 : Int64), .long (8 : Int64)]) (rest := [.ref M]) (v := .int (zb ((0 : Int64).toInt ≤ ((nI 2).toInt64).toInt ∧ ((nI 2).toInt64).toInt ≤ (8 : Int64).toInt))) ⟨hx, hb, hml, hown, hts⟩ (c_X7_in l G ((nI 2).toInt64) (0 : Int64) (8 : Int64) ) (va_cwS 3 hts gX7_about_X7_in rfl rfl rfl (by decide +kernel) ⟨Nat.le_of_ble_eq_true rfl, Nat.le_of_ble_eq_true rfl⟩) (preS_of hK hP hD [] (by decide) rfl) rfl hl.1 rfl (lv_room (Nat.le_of_ble_eq_true rfl)) dX7_about_7 ⟨Nat.zero_le _, Nat.zero_le _⟩ ?_
  refine bb_eq (tgt := 17) hx hb dX7_about_10 (by decide) (fun c_10 => False.elim (by (rw [i2l_toInt, nI_i (by omega), show (0 : Int64).toInt = 0 from rfl, show (8 : Int64).toInt = 8 from rfl] at c_10; omega))) (fun c_10 => ?_)
  refine lv_iconst (v := nI 0) hx hb dX7_about_13 (by decide) ?_
  refine lv_goto (tgt := 18) hx hb dX7_about_14 (by decide) ?_
  refine cWV (As := [.int (nI 0)]) (rest := []) (st1 := [.int (zb (0 < 0))]) (w3 := [(M, .inr (4, [.int (nI 0), .ref mt, .int (nI sz), .ref mn, .ref mtr, .ref md, .int (nI ac), .ref mk, .ref mik, .ref na, .ref so])), (mn, .inl (G.2 0, 131, .inl (mr n (nI g) sk mm))), (na, .inl (G.2 0, 16, .inl nf)), (so, .inl (G.2 0, 16, .inl sf))]) ⟨hx, hb, hml, hown, hts⟩ (c_X7_refused l G M rf mt sz mn mtr md ac mk mik na so 0 (by first | omega | assumption)) (cwV 1 hts gX7_about_X7_refused rfl rfl rfl (by decide +kernel) ⟨Nat.le_of_ble_eq_true rfl, Nat.le_of_ble_eq_true rfl⟩) (preV_of hK hP hD [0] (by decide) rfl (ci := 4) (q0 := 0) rfl rfl rfl) rfl hl.1 rfl (lv_room (Nat.le_of_ble_eq_true rfl)) dX7_about_18 ⟨Nat.zero_le _, Nat.zero_le _⟩ hP hD hS [0] (by decide) rfl rfl (rfl) rfl (fun H locs hP hD hS => ?_)
  refine bb_eq (tgt := 26) hx hb dX7_about_21 (by decide) (fun c_21 => ?_) (fun c_21 => False.elim (by omega))
  refine lv_aload_n hx hb dX7_about_26 rfl (lv_at hl 0 rfl) ?_
  refine lv_aload_n hx hb dX7_about_27 rfl (lv_at hl 0 rfl) ?_
  refine va_get (D := G.1) (ci := 4) (v := .ref mn) (C := RX7) (T := TX7) (N := 11) hx hb hts in_c_X7_about_2_X7 hown hK.1 hP 0 rfl rfl 3 (by decide) (hts (.fieldLink RX7 13 "FloorPanelsModel" "now" "[I") (by decide +kernel)) (fun _ h9 => h9) rfl dX7_about_28 ?_
  refine cWV (As := [.ref mn]) (rest := []) (st1 := []) (w3 := [(M, .inr (4, [.int (nI 0), .ref mt, .int (nI sz), .ref mn, .ref mtr, .ref md, .int (nI ac), .ref mk, .ref mik, .ref na, .ref so])), (mn, .inl (G.2 0, 131, .inl (mr n (nI g) sk mm))), (na, .inl (G.2 0, 16, .inl (nmA sk (kdm mm) g 0 n nf))), (so, .inl (G.2 0, 16, .inl (soA sk (kdm mm) g 0 n sf)))]) ⟨hx, hb, hml, hown, hts⟩ (c_X7_name l G M 0 mt sz mn mtr md ac mk mik na so mn n g sk mm nf sf (by first | omega | assumption) (by first | omega | assumption) (by first | omega | assumption)) (cwV 1 hts gX7_about_X7_name rfl rfl rfl (by decide +kernel) ⟨Nat.le_of_ble_eq_true rfl, Nat.le_of_ble_eq_true rfl⟩) (preV_of hK hP hD [0, 1, 2, 3] (by decide) rfl (ci := 4) (q0 := 0) rfl rfl rfl) rfl hl.1 rfl (lv_room (Nat.le_of_ble_eq_true rfl)) dX7_about_31 ⟨Nat.zero_le _, Nat.zero_le _⟩ hP hD hS [0, 1, 2, 3] (by decide) rfl rfl (rfl) rfl (fun H locs hP hD hS => ?_)
  refine lv_iconst (v := nI 0) hx hb dX7_about_34 (by decide) ?_
  refine lv_istore_n (lv' := [(2, .int (nI 0)), (0, .ref M), (1, .int (nI 2))]) hx hb dX7_about_35 rfl hl (by decide) rfl (fun ls hl => ?_)
  refine lv_iconst (v := nI 0) hx hb dX7_about_36 (by decide) ?_
  refine lv_istore_n (lv' := [(3, .int (nI 0)), (2, .int (nI 0)), (0, .ref M), (1, .int (nI 2))]) hx hb dX7_about_37 rfl hl (by decide) rfl (fun ls hl => ?_)
  refine lv_iconst (v := nI 0) hx hb dX7_about_38 (by decide) ?_
  refine lv_istore (lv' := [(4, .int (nI 0)), (3, .int (nI 0)), (2, .int (nI 0)), (0, .ref M), (1, .int (nI 2))]) hx hb dX7_about_39 hl (by decide) rfl (fun ls hl => ?_)
  have loop_41 : ∀ (k_ : Nat) (i : Nat) (h_i : i ≤ n) (_ : n - i < k_) (H : Heap) (locs : List Loc) (_ : VP G [(M, .inr (4, [.int (nI 0), .ref mt, .int (nI sz), .ref mn, .ref mtr, .ref md, .int (nI ac), .ref mk, .ref mik, .ref na, .ref so])), (mn, .inl (G.2 0, 131, .inl (mr n (nI g) sk mm))), (na, .inl (G.2 0, 16, .inl (nmA sk (kdm mm) g 0 n nf))), (so, .inl (G.2 0, 16, .inl (soA sk (kdm mm) g 0 n sf)))] H) (_ : va_D (vA [(M, .inr (4, [.int (nI rf), .ref mt, .int (nI sz), .ref mn, .ref mtr, .ref md, .int (nI ac), .ref mk, .ref mik, .ref na, .ref so])), (mn, .inl (G.2 0, 131, .inl (mr n (nI g) sk mm))), (na, .inl (G.2 0, 16, .inl nf)), (so, .inl (G.2 0, 16, .inl sf))]) [(M, .inr (4, [.int (nI 0), .ref mt, .int (nI sz), .ref mn, .ref mtr, .ref md, .int (nI ac), .ref mk, .ref mik, .ref na, .ref so])), (mn, .inl (G.2 0, 131, .inl (mr n (nI g) sk mm))), (na, .inl (G.2 0, 16, .inl (nmA sk (kdm mm) g 0 n nf))), (so, .inl (G.2 0, 16, .inl (soA sk (kdm mm) g 0 n sf)))]) (_ : va_S (vA [(M, .inr (4, [.int (nI rf), .ref mt, .int (nI sz), .ref mn, .ref mtr, .ref md, .int (nI ac), .ref mk, .ref mik, .ref na, .ref so])), (mn, .inl (G.2 0, 131, .inl (mr n (nI g) sk mm))), (na, .inl (G.2 0, 16, .inl nf)), (so, .inl (G.2 0, 16, .inl sf))]) s.heap H locs) (ls : Array Slot), lv_has ls 5 [(4, .int (nI i)), (3, .int (nI (ct (fun x_ => 1 < lk f n x_) i))), (2, .int (nI (ct (fun x_ => f (16 + x_) = -1) i))), (0, .ref M), (1, .int (nI 2))] → W p l e ({ frames := 3, cells := 0, slots := 0, locals := 74 } : Room) s m ([.ref M, .int (nI 2)] : List Value).toArray below meth c H locs 0 0 (MQ below (QW G (some (.int (nI (wr f 2 n)))) [(M, .inr (4, [.int (nI 0), .ref mt, .int (nI sz), .ref mn, .ref mtr, .ref md, .int (nI ac), .ref mk, .ref mik, .ref na, .ref so])), (mn, .inl (G.2 0, 131, .inl (mr n (nI g) sk mm))), (na, .inl (G.2 0, 16, .inl (nmA sk (kdm mm) g 0 n nf))), (so, .inl (G.2 0, 16, .inl (soA sk (kdm mm) g 0 n sf)))] (vA [(M, .inr (4, [.int (nI rf), .ref mt, .int (nI sz), .ref mn, .ref mtr, .ref md, .int (nI ac), .ref mk, .ref mik, .ref na, .ref so])), (mn, .inl (G.2 0, 131, .inl (mr n (nI g) sk mm))), (na, .inl (G.2 0, 16, .inl nf)), (so, .inl (G.2 0, 16, .inl sf))])) ([.ref M, .int (nI 2)] : List Value).toArray s 0 0 (vA [(M, .inr (4, [.int (nI rf), .ref mt, .int (nI sz), .ref mn, .ref mtr, .ref md, .int (nI ac), .ref mk, .ref mik, .ref na, .ref so])), (mn, .inl (G.2 0, 131, .inl (mr n (nI g) sk mm))), (na, .inl (G.2 0, 16, .inl nf)), (so, .inl (G.2 0, 16, .inl sf))])) (F0 m 41 ls []) := by
    intro k_
    induction k_ with
    | zero => intro i h_i hk_; exact absurd hk_ (Nat.not_lt_zero _)
    | succ k_ ih_41 =>
      intro i h_i hk_ H locs hP hD hS ls hl
      refine lv_iload hx hb dX7_about_41 (lv_at hl 0 rfl) ?_
      refine lv_aload_n hx hb dX7_about_43 rfl (lv_at hl 3 rfl) ?_
      refine va_get (D := G.1) (ci := 4) (v := .ref mn) (C := RX7) (T := TX7) (N := 11) hx hb hts in_c_X7_about_2_X7 hown hK.1 hP 0 rfl rfl 3 (by decide) (hts (.fieldLink RX7 13 "FloorPanelsModel" "now" "[I") (by decide +kernel)) (fun _ h9 => h9) rfl dX7_about_44 ?_
      refine lv_iconst (v := nI 0) hx hb dX7_about_47 (by decide) ?_
      refine nv_iald hx hb hK hP 1 rfl (by omega) (by decide) dX7_about_48 ?_
      rw [show (mr n (nI g) sk mm) 0 = nI n from mr_0]
      refine bi_ge (tgt := 104) hx hb dX7_about_49 (by decide) (nI_i (by omega)) (nI_i (by omega)) (fun c_49 => ?_) (fun c_49 => ?_)
      ·
        refine lv_iload_n hx hb dX7_about_104 rfl (lv_at hl 4 rfl) ?_
        refine lv_tableIn (off := 43) (tgt := 148) hx hb dX7_about_105 (by decide) (by decide) (by decide) (by decide) ?_
        refine lv_aload_n hx hb dX7_about_148 rfl (lv_at hl 3 rfl) ?_
        refine lv_aload_n hx hb dX7_about_149 rfl (lv_at hl 3 rfl) ?_
        refine va_get (D := G.1) (ci := 4) (v := .ref mn) (C := RX7) (T := TX7) (N := 11) hx hb hts in_c_X7_about_2_X7 hown hK.1 hP 0 rfl rfl 3 (by decide) (hts (.fieldLink RX7 13 "FloorPanelsModel" "now" "[I") (by decide +kernel)) (fun _ h9 => h9) rfl dX7_about_150 ?_
        refine cRV (As := [.ref mn]) (rest := []) (v := .int (nI (ct (fun x_ => ¬ mm (19 + x_) = (nmA sk (kdm mm) g 0 n nf) x_) n))) ⟨hx, hb, hml, hown, hts⟩ (c_X7_wrongSigns l G M 0 mt sz mn mtr md ac mk mik na so mn n g sk mm (nmA sk (kdm mm) g 0 n nf) (by first | omega | assumption)) (cwV 1 hts gX7_about_X7_wrongSigns rfl rfl rfl (by decide +kernel) ⟨Nat.le_of_ble_eq_true rfl, Nat.le_of_ble_eq_true rfl⟩) (preV_of hK hP hD [0, 1, 2] (by decide) rfl (ci := 4) (q0 := 0) rfl rfl rfl) rfl hl.1 rfl (lv_room (Nat.le_of_ble_eq_true rfl)) dX7_about_153 ⟨Nat.zero_le _, Nat.zero_le _⟩ ?_
        rw [show (nI (ct (fun x_ => ¬ mm (19 + x_) = (nmA sk (kdm mm) g 0 n nf) x_) n)) = nI (wr f 2 n) from congrArg nI (mwr_A.trans (mwr_R h_R))]
        exact W_i hx hb hr hlk dX7_about_156 hP hS (rfl) (rfl)
      ·
        have h_lk := lk_le f n i
        have h_c4 := ct_le (fun x_ => f (16 + x_) = -1) i
        have h_c5 := ct_le (fun x_ => 1 < lk f n x_) i
        refine lv_iload_n hx hb dX7_about_52 rfl (lv_at hl 2 rfl) ?_
        refine lv_aload_n hx hb dX7_about_53 rfl (lv_at hl 3 rfl) ?_
        refine va_get (D := G.1) (ci := 4) (v := .ref na) (C := RX7) (T := TX7) (N := 11) hx hb hts in_c_X7_about_2_X7 hown hK.1 hP 0 rfl rfl 9 (by decide) (hts (.fieldLink RX7 29 "FloorPanelsModel" "names" "[I") (by decide +kernel)) (fun _ h9 => h9) rfl dX7_about_54 ?_
        refine lv_iload hx hb dX7_about_57 (lv_at hl 0 rfl) ?_
        refine nv_iald hx hb hK hP 2 rfl (by omega) (by decide) dX7_about_59 ?_
        rw [show (nmA sk (kdm mm) g 0 n nf) i = (f (16 + i)) from h_R.nf (by omega)]
        refine lv_iconst (v := (-1)) hx hb dX7_about_60 (by decide) ?_
        refine lv_icmp_ne (tgt := 68) hx hb dX7_about_61 (by decide) (fun c_61 => ?_) (fun c_61 => ?_)
        ·
          refine lv_iconst (v := nI 0) hx hb dX7_about_68 (by decide) ?_
          refine nv_iadd hx hb dX7_about_69 ?_
          refine lv_istore_n (lv' := [(2, .int (nI ((ct (fun x_ => f (16 + x_) = -1) i) + 0))), (4, .int (nI i)), (3, .int (nI (ct (fun x_ => 1 < lk f n x_) i))), (0, .ref M), (1, .int (nI 2))]) hx hb dX7_about_70 rfl hl (by decide) rfl (fun ls hl => ?_)
          refine lv_iload_n hx hb dX7_about_71 rfl (lv_at hl 2 rfl) ?_
          refine lv_aload_n hx hb dX7_about_72 rfl (lv_at hl 3 rfl) ?_
          refine lv_aload_n hx hb dX7_about_73 rfl (lv_at hl 3 rfl) ?_
          refine va_get (D := G.1) (ci := 4) (v := .ref mn) (C := RX7) (T := TX7) (N := 11) hx hb hts in_c_X7_about_2_X7 hown hK.1 hP 0 rfl rfl 3 (by decide) (hts (.fieldLink RX7 13 "FloorPanelsModel" "now" "[I") (by decide +kernel)) (fun _ h9 => h9) rfl dX7_about_74 ?_
          refine lv_aload_n hx hb dX7_about_77 rfl (lv_at hl 3 rfl) ?_
          refine va_get (D := G.1) (ci := 4) (v := .ref na) (C := RX7) (T := TX7) (N := 11) hx hb hts in_c_X7_about_2_X7 hown hK.1 hP 0 rfl rfl 9 (by decide) (hts (.fieldLink RX7 29 "FloorPanelsModel" "names" "[I") (by decide +kernel)) (fun _ h9 => h9) rfl dX7_about_78 ?_
          refine lv_iload hx hb dX7_about_81 (lv_at hl 1 rfl) ?_
          refine nv_iald hx hb hK hP 2 rfl (by omega) (by decide) dX7_about_83 ?_
          rw [show (nmA sk (kdm mm) g 0 n nf) i = (f (16 + i)) from h_R.nf (by omega)]
          refine cRV (As := [.ref mn, .int (f (16 + i))]) (rest := [.int (nI (ct (fun x_ => 1 < lk f n x_) i))]) (v := .int (nI (ct (fun x_ => ¬ (f (16 + i)) = -1 ∧ (nmA sk (kdm mm) g 0 n nf) x_ = (f (16 + i))) n))) ⟨hx, hb, hml, hown, hts⟩ (c_X7_alike l G M 0 mt sz mn mtr md ac mk mik na so mn n g sk mm (nmA sk (kdm mm) g 0 n nf) (f (16 + i)) (by first | omega | assumption)) (cwV 2 hts gX7_about_X7_alike rfl rfl rfl (by decide +kernel) ⟨Nat.le_of_ble_eq_true rfl, Nat.le_of_ble_eq_true rfl⟩) (preV_of hK hP hD [0, 1, 2] (by decide) rfl (ci := 4) (q0 := 0) rfl rfl rfl) rfl hl.1 rfl (lv_room (Nat.le_of_ble_eq_true rfl)) dX7_about_84 ⟨Nat.zero_le _, Nat.zero_le _⟩ ?_
          rw [show (nI (ct (fun x_ => ¬ (f (16 + i)) = -1 ∧ (nmA sk (kdm mm) g 0 n nf) x_ = (f (16 + i))) n)) = nI (lk f n i) from congrArg nI (lk_A h_R)]
          refine lv_iconst (v := nI 1) hx hb dX7_about_87 (by decide) ?_
          refine bi_le (tgt := 95) hx hb dX7_about_88 (by decide) (nI_i (by omega)) (nI_i (by omega)) (fun c_88 => ?_) (fun c_88 => ?_)
          ·
            refine lv_iconst (v := nI 0) hx hb dX7_about_95 (by decide) ?_
            refine nv_iadd hx hb dX7_about_96 ?_
            refine lv_istore_n (lv' := [(3, .int (nI ((ct (fun x_ => 1 < lk f n x_) i) + 0))), (2, .int (nI ((ct (fun x_ => f (16 + x_) = -1) i) + 0))), (4, .int (nI i)), (0, .ref M), (1, .int (nI 2))]) hx hb dX7_about_97 rfl hl (by decide) rfl (fun ls hl => ?_)
            refine lv_iinc (v := nI (i + 1)) (lv' := [(4, .int (nI (i + 1))), (3, .int (nI ((ct (fun x_ => 1 < lk f n x_) i) + 0))), (2, .int (nI ((ct (fun x_ => f (16 + x_) = -1) i) + 0))), (0, .ref M), (1, .int (nI 2))]) hx hb dX7_about_98 hl (k := 2) rfl (inc_n _ 1) (by decide) rfl (fun ls hl => ?_)
            refine lv_goto (tgt := 41) hx hb dX7_about_101 (by decide) ?_
            exact ih_41 (i + 1) (by first | omega | assumption) (by omega) _ _ hP hD hS ls (lv_sub hl [0, 1, 2, 3, 4] (by first | (rw [ct_t (p := fun x_ => f (16 + x_) = -1) (by assumption), ct_t (p := fun x_ => 1 < lk f n x_) (by omega)]; rfl) | (rw [ct_t (p := fun x_ => f (16 + x_) = -1) (by assumption), ct_f (p := fun x_ => 1 < lk f n x_) (by omega)]; rfl) | (rw [ct_f (p := fun x_ => f (16 + x_) = -1) (by assumption), ct_t (p := fun x_ => 1 < lk f n x_) (by omega)]; rfl) | (rw [ct_f (p := fun x_ => f (16 + x_) = -1) (by assumption), ct_f (p := fun x_ => 1 < lk f n x_) (by omega)]; rfl)))
          ·
            refine lv_iconst (v := nI 1) hx hb dX7_about_91 (by decide) ?_
            refine lv_goto (tgt := 96) hx hb dX7_about_92 (by decide) ?_
            refine nv_iadd hx hb dX7_about_96 ?_
            refine lv_istore_n (lv' := [(3, .int (nI ((ct (fun x_ => 1 < lk f n x_) i) + 1))), (2, .int (nI ((ct (fun x_ => f (16 + x_) = -1) i) + 0))), (4, .int (nI i)), (0, .ref M), (1, .int (nI 2))]) hx hb dX7_about_97 rfl hl (by decide) rfl (fun ls hl => ?_)
            refine lv_iinc (v := nI (i + 1)) (lv' := [(4, .int (nI (i + 1))), (3, .int (nI ((ct (fun x_ => 1 < lk f n x_) i) + 1))), (2, .int (nI ((ct (fun x_ => f (16 + x_) = -1) i) + 0))), (0, .ref M), (1, .int (nI 2))]) hx hb dX7_about_98 hl (k := 2) rfl (inc_n _ 1) (by decide) rfl (fun ls hl => ?_)
            refine lv_goto (tgt := 41) hx hb dX7_about_101 (by decide) ?_
            exact ih_41 (i + 1) (by first | omega | assumption) (by omega) _ _ hP hD hS ls (lv_sub hl [0, 1, 2, 3, 4] (by first | (rw [ct_t (p := fun x_ => f (16 + x_) = -1) (by assumption), ct_t (p := fun x_ => 1 < lk f n x_) (by omega)]; rfl) | (rw [ct_t (p := fun x_ => f (16 + x_) = -1) (by assumption), ct_f (p := fun x_ => 1 < lk f n x_) (by omega)]; rfl) | (rw [ct_f (p := fun x_ => f (16 + x_) = -1) (by assumption), ct_t (p := fun x_ => 1 < lk f n x_) (by omega)]; rfl) | (rw [ct_f (p := fun x_ => f (16 + x_) = -1) (by assumption), ct_f (p := fun x_ => 1 < lk f n x_) (by omega)]; rfl)))
        ·
          refine lv_iconst (v := nI 1) hx hb dX7_about_64 (by decide) ?_
          refine lv_goto (tgt := 69) hx hb dX7_about_65 (by decide) ?_
          refine nv_iadd hx hb dX7_about_69 ?_
          refine lv_istore_n (lv' := [(2, .int (nI ((ct (fun x_ => f (16 + x_) = -1) i) + 1))), (4, .int (nI i)), (3, .int (nI (ct (fun x_ => 1 < lk f n x_) i))), (0, .ref M), (1, .int (nI 2))]) hx hb dX7_about_70 rfl hl (by decide) rfl (fun ls hl => ?_)
          refine lv_iload_n hx hb dX7_about_71 rfl (lv_at hl 2 rfl) ?_
          refine lv_aload_n hx hb dX7_about_72 rfl (lv_at hl 3 rfl) ?_
          refine lv_aload_n hx hb dX7_about_73 rfl (lv_at hl 3 rfl) ?_
          refine va_get (D := G.1) (ci := 4) (v := .ref mn) (C := RX7) (T := TX7) (N := 11) hx hb hts in_c_X7_about_2_X7 hown hK.1 hP 0 rfl rfl 3 (by decide) (hts (.fieldLink RX7 13 "FloorPanelsModel" "now" "[I") (by decide +kernel)) (fun _ h9 => h9) rfl dX7_about_74 ?_
          refine lv_aload_n hx hb dX7_about_77 rfl (lv_at hl 3 rfl) ?_
          refine va_get (D := G.1) (ci := 4) (v := .ref na) (C := RX7) (T := TX7) (N := 11) hx hb hts in_c_X7_about_2_X7 hown hK.1 hP 0 rfl rfl 9 (by decide) (hts (.fieldLink RX7 29 "FloorPanelsModel" "names" "[I") (by decide +kernel)) (fun _ h9 => h9) rfl dX7_about_78 ?_
          refine lv_iload hx hb dX7_about_81 (lv_at hl 1 rfl) ?_
          refine nv_iald hx hb hK hP 2 rfl (by omega) (by decide) dX7_about_83 ?_
          rw [show (nmA sk (kdm mm) g 0 n nf) i = (f (16 + i)) from h_R.nf (by omega)]
          refine cRV (As := [.ref mn, .int (f (16 + i))]) (rest := [.int (nI (ct (fun x_ => 1 < lk f n x_) i))]) (v := .int (nI (ct (fun x_ => ¬ (f (16 + i)) = -1 ∧ (nmA sk (kdm mm) g 0 n nf) x_ = (f (16 + i))) n))) ⟨hx, hb, hml, hown, hts⟩ (c_X7_alike l G M 0 mt sz mn mtr md ac mk mik na so mn n g sk mm (nmA sk (kdm mm) g 0 n nf) (f (16 + i)) (by first | omega | assumption)) (cwV 2 hts gX7_about_X7_alike rfl rfl rfl (by decide +kernel) ⟨Nat.le_of_ble_eq_true rfl, Nat.le_of_ble_eq_true rfl⟩) (preV_of hK hP hD [0, 1, 2] (by decide) rfl (ci := 4) (q0 := 0) rfl rfl rfl) rfl hl.1 rfl (lv_room (Nat.le_of_ble_eq_true rfl)) dX7_about_84 ⟨Nat.zero_le _, Nat.zero_le _⟩ ?_
          rw [show (nI (ct (fun x_ => ¬ (f (16 + i)) = -1 ∧ (nmA sk (kdm mm) g 0 n nf) x_ = (f (16 + i))) n)) = nI (lk f n i) from congrArg nI (lk_A h_R)]
          refine lv_iconst (v := nI 1) hx hb dX7_about_87 (by decide) ?_
          refine bi_le (tgt := 95) hx hb dX7_about_88 (by decide) (nI_i (by omega)) (nI_i (by omega)) (fun c_88 => ?_) (fun c_88 => ?_)
          ·
            refine lv_iconst (v := nI 0) hx hb dX7_about_95 (by decide) ?_
            refine nv_iadd hx hb dX7_about_96 ?_
            refine lv_istore_n (lv' := [(3, .int (nI ((ct (fun x_ => 1 < lk f n x_) i) + 0))), (2, .int (nI ((ct (fun x_ => f (16 + x_) = -1) i) + 1))), (4, .int (nI i)), (0, .ref M), (1, .int (nI 2))]) hx hb dX7_about_97 rfl hl (by decide) rfl (fun ls hl => ?_)
            refine lv_iinc (v := nI (i + 1)) (lv' := [(4, .int (nI (i + 1))), (3, .int (nI ((ct (fun x_ => 1 < lk f n x_) i) + 0))), (2, .int (nI ((ct (fun x_ => f (16 + x_) = -1) i) + 1))), (0, .ref M), (1, .int (nI 2))]) hx hb dX7_about_98 hl (k := 2) rfl (inc_n _ 1) (by decide) rfl (fun ls hl => ?_)
            refine lv_goto (tgt := 41) hx hb dX7_about_101 (by decide) ?_
            exact ih_41 (i + 1) (by first | omega | assumption) (by omega) _ _ hP hD hS ls (lv_sub hl [0, 1, 2, 3, 4] (by first | (rw [ct_t (p := fun x_ => f (16 + x_) = -1) (by assumption), ct_t (p := fun x_ => 1 < lk f n x_) (by omega)]; rfl) | (rw [ct_t (p := fun x_ => f (16 + x_) = -1) (by assumption), ct_f (p := fun x_ => 1 < lk f n x_) (by omega)]; rfl) | (rw [ct_f (p := fun x_ => f (16 + x_) = -1) (by assumption), ct_t (p := fun x_ => 1 < lk f n x_) (by omega)]; rfl) | (rw [ct_f (p := fun x_ => f (16 + x_) = -1) (by assumption), ct_f (p := fun x_ => 1 < lk f n x_) (by omega)]; rfl)))
          ·
            refine lv_iconst (v := nI 1) hx hb dX7_about_91 (by decide) ?_
            refine lv_goto (tgt := 96) hx hb dX7_about_92 (by decide) ?_
            refine nv_iadd hx hb dX7_about_96 ?_
            refine lv_istore_n (lv' := [(3, .int (nI ((ct (fun x_ => 1 < lk f n x_) i) + 1))), (2, .int (nI ((ct (fun x_ => f (16 + x_) = -1) i) + 1))), (4, .int (nI i)), (0, .ref M), (1, .int (nI 2))]) hx hb dX7_about_97 rfl hl (by decide) rfl (fun ls hl => ?_)
            refine lv_iinc (v := nI (i + 1)) (lv' := [(4, .int (nI (i + 1))), (3, .int (nI ((ct (fun x_ => 1 < lk f n x_) i) + 1))), (2, .int (nI ((ct (fun x_ => f (16 + x_) = -1) i) + 1))), (0, .ref M), (1, .int (nI 2))]) hx hb dX7_about_98 hl (k := 2) rfl (inc_n _ 1) (by decide) rfl (fun ls hl => ?_)
            refine lv_goto (tgt := 41) hx hb dX7_about_101 (by decide) ?_
            exact ih_41 (i + 1) (by first | omega | assumption) (by omega) _ _ hP hD hS ls (lv_sub hl [0, 1, 2, 3, 4] (by first | (rw [ct_t (p := fun x_ => f (16 + x_) = -1) (by assumption), ct_t (p := fun x_ => 1 < lk f n x_) (by omega)]; rfl) | (rw [ct_t (p := fun x_ => f (16 + x_) = -1) (by assumption), ct_f (p := fun x_ => 1 < lk f n x_) (by omega)]; rfl) | (rw [ct_f (p := fun x_ => f (16 + x_) = -1) (by assumption), ct_t (p := fun x_ => 1 < lk f n x_) (by omega)]; rfl) | (rw [ct_f (p := fun x_ => f (16 + x_) = -1) (by assumption), ct_f (p := fun x_ => 1 < lk f n x_) (by omega)]; rfl)))
  exact loop_41 (n - 0 + 1) 0 (by first | omega | assumption) (Nat.lt_succ_self _) _ _ hP hD hS ls (lv_sub hl [0, 1, 2, 3, 4] (by rfl))

theorem in_c_X7_about_3_X7 : ∀ w ∈ wsX70, w ∈ wsX7_about := by decide +kernel
set_option maxHeartbeats 4000000 in
set_option maxRecDepth 100000 in
theorem c_X7_about_3 (l : Launch) (G : GG) (M : Nat) (rf : Nat) (mt : Nat) (sz : Nat) (mn : Nat) (mtr : Nat) (md : Nat) (ac : Nat) (mk : Nat) (mik : Nat) (na : Nat) (so : Nat) (n : Nat) (g : Nat) (sk : Int32) (mm : Nat → Int32) (nf : Nat → Int32) (sf : Nat → Int32) (f : Nat → Int32) (h_n : n ≤ 16) (h_n1 : 1 ≤ n) (h_g : g < n) (h_k : mm (3 + g) = 0) (h_R : MRel n sk g f mm) : Met l yX7_about wsX7_about ({ frames := 4, cells := 0, slots := 0, locals := 95 } : Room) (va_Pc [.ref M, .int (nI 3)] (PB G [(M, .inr (4, [.int (nI rf), .ref mt, .int (nI sz), .ref mn, .ref mtr, .ref md, .int (nI ac), .ref mk, .ref mik, .ref na, .ref so])), (mn, .inl (G.2 0, 131, .inl (mr n (nI g) sk mm))), (na, .inl (G.2 0, 16, .inl nf)), (so, .inl (G.2 0, 16, .inl sf))])) (QW G (some (.int (nI (wr f 3 n + wr f 4 n + wr f 5 n)))) [(M, .inr (4, [.int (nI 0), .ref mt, .int (nI sz), .ref mn, .ref mtr, .ref md, .int (nI ac), .ref mk, .ref mik, .ref na, .ref so])), (mn, .inl (G.2 0, 131, .inl (mr n (nI g) sk mm))), (na, .inl (G.2 0, 16, .inl (nmA sk (kdm mm) g 0 n nf))), (so, .inl (G.2 0, 16, .inl (soA sk (kdm mm) g 0 n sf)))] (vA [(M, .inr (4, [.int (nI rf), .ref mt, .int (nI sz), .ref mn, .ref mtr, .ref md, .int (nI ac), .ref mk, .ref mik, .ref na, .ref so])), (mn, .inl (G.2 0, 131, .inl (mr n (nI g) sk mm))), (na, .inl (G.2 0, 16, .inl nf)), (so, .inl (G.2 0, 16, .inl sf))])) 0 0 (vA [(M, .inr (4, [.int (nI rf), .ref mt, .int (nI sz), .ref mn, .ref mtr, .ref md, .int (nI ac), .ref mk, .ref mik, .ref na, .ref so])), (mn, .inl (G.2 0, 131, .inl (mr n (nI g) sk mm))), (na, .inl (G.2 0, 16, .inl nf)), (so, .inl (G.2 0, 16, .inl sf))]) := by
  refine Met.go (cc := cX7_about) (maxL := 5) (ret := (some .int)) (by decide) rfl (Nat.le_of_ble_eq_true rfl) ?_
  intro p e s m below meth c ls hx hb hr hml hown hts hlk hP hK hD hS hl
  have hown : s.vm.findClass RX7 = some m.cls := hown
  have hl : lv_has ls 5 [(0, .ref M), (1, .int (nI 3))] := hl
  refine lv_aload_n hx hb dX7_about_0 rfl (lv_at hl 0 rfl) ?_
  refine lv_iload_n hx hb dX7_about_1 rfl (lv_at hl 1 rfl) ?_
  refine lv_i2l (v := (nI 3).toInt64) hx hb dX7_about_2 rfl ?_
  refine lv_lconst (v := 0) hx hb dX7_about_3 rfl ?_
  refine lv_ldc2 (own := RX7) (v := 8) hx hb hown (hts (.constantLong RX7 139 (8)) (by decide +kernel)) dX7_about_4 ?_
  refine cRS (As := [.long ((nI 3).toInt64), .long (0 : Int64), .long (8 : Int64)]) (rest := [.ref M]) (v := .int (zb ((0 : Int64).toInt ≤ ((nI 3).toInt64).toInt ∧ ((nI 3).toInt64).toInt ≤ (8 : Int64).toInt))) ⟨hx, hb, hml, hown, hts⟩ (c_X7_in l G ((nI 3).toInt64) (0 : Int64) (8 : Int64) ) (va_cwS 3 hts gX7_about_X7_in rfl rfl rfl (by decide +kernel) ⟨Nat.le_of_ble_eq_true rfl, Nat.le_of_ble_eq_true rfl⟩) (preS_of hK hP hD [] (by decide) rfl) rfl hl.1 rfl (lv_room (Nat.le_of_ble_eq_true rfl)) dX7_about_7 ⟨Nat.zero_le _, Nat.zero_le _⟩ ?_
  refine bb_eq (tgt := 17) hx hb dX7_about_10 (by decide) (fun c_10 => False.elim (by (rw [i2l_toInt, nI_i (by omega), show (0 : Int64).toInt = 0 from rfl, show (8 : Int64).toInt = 8 from rfl] at c_10; omega))) (fun c_10 => ?_)
  refine lv_iconst (v := nI 0) hx hb dX7_about_13 (by decide) ?_
  refine lv_goto (tgt := 18) hx hb dX7_about_14 (by decide) ?_
  refine cWV (As := [.int (nI 0)]) (rest := []) (st1 := [.int (zb (0 < 0))]) (w3 := [(M, .inr (4, [.int (nI 0), .ref mt, .int (nI sz), .ref mn, .ref mtr, .ref md, .int (nI ac), .ref mk, .ref mik, .ref na, .ref so])), (mn, .inl (G.2 0, 131, .inl (mr n (nI g) sk mm))), (na, .inl (G.2 0, 16, .inl nf)), (so, .inl (G.2 0, 16, .inl sf))]) ⟨hx, hb, hml, hown, hts⟩ (c_X7_refused l G M rf mt sz mn mtr md ac mk mik na so 0 (by first | omega | assumption)) (cwV 1 hts gX7_about_X7_refused rfl rfl rfl (by decide +kernel) ⟨Nat.le_of_ble_eq_true rfl, Nat.le_of_ble_eq_true rfl⟩) (preV_of hK hP hD [0] (by decide) rfl (ci := 4) (q0 := 0) rfl rfl rfl) rfl hl.1 rfl (lv_room (Nat.le_of_ble_eq_true rfl)) dX7_about_18 ⟨Nat.zero_le _, Nat.zero_le _⟩ hP hD hS [0] (by decide) rfl rfl (rfl) rfl (fun H locs hP hD hS => ?_)
  refine bb_eq (tgt := 26) hx hb dX7_about_21 (by decide) (fun c_21 => ?_) (fun c_21 => False.elim (by omega))
  refine lv_aload_n hx hb dX7_about_26 rfl (lv_at hl 0 rfl) ?_
  refine lv_aload_n hx hb dX7_about_27 rfl (lv_at hl 0 rfl) ?_
  refine va_get (D := G.1) (ci := 4) (v := .ref mn) (C := RX7) (T := TX7) (N := 11) hx hb hts in_c_X7_about_3_X7 hown hK.1 hP 0 rfl rfl 3 (by decide) (hts (.fieldLink RX7 13 "FloorPanelsModel" "now" "[I") (by decide +kernel)) (fun _ h9 => h9) rfl dX7_about_28 ?_
  refine cWV (As := [.ref mn]) (rest := []) (st1 := []) (w3 := [(M, .inr (4, [.int (nI 0), .ref mt, .int (nI sz), .ref mn, .ref mtr, .ref md, .int (nI ac), .ref mk, .ref mik, .ref na, .ref so])), (mn, .inl (G.2 0, 131, .inl (mr n (nI g) sk mm))), (na, .inl (G.2 0, 16, .inl (nmA sk (kdm mm) g 0 n nf))), (so, .inl (G.2 0, 16, .inl (soA sk (kdm mm) g 0 n sf)))]) ⟨hx, hb, hml, hown, hts⟩ (c_X7_name l G M 0 mt sz mn mtr md ac mk mik na so mn n g sk mm nf sf (by first | omega | assumption) (by first | omega | assumption) (by first | omega | assumption)) (cwV 1 hts gX7_about_X7_name rfl rfl rfl (by decide +kernel) ⟨Nat.le_of_ble_eq_true rfl, Nat.le_of_ble_eq_true rfl⟩) (preV_of hK hP hD [0, 1, 2, 3] (by decide) rfl (ci := 4) (q0 := 0) rfl rfl rfl) rfl hl.1 rfl (lv_room (Nat.le_of_ble_eq_true rfl)) dX7_about_31 ⟨Nat.zero_le _, Nat.zero_le _⟩ hP hD hS [0, 1, 2, 3] (by decide) rfl rfl (rfl) rfl (fun H locs hP hD hS => ?_)
  refine lv_iconst (v := nI 0) hx hb dX7_about_34 (by decide) ?_
  refine lv_istore_n (lv' := [(2, .int (nI 0)), (0, .ref M), (1, .int (nI 3))]) hx hb dX7_about_35 rfl hl (by decide) rfl (fun ls hl => ?_)
  refine lv_iconst (v := nI 0) hx hb dX7_about_36 (by decide) ?_
  refine lv_istore_n (lv' := [(3, .int (nI 0)), (2, .int (nI 0)), (0, .ref M), (1, .int (nI 3))]) hx hb dX7_about_37 rfl hl (by decide) rfl (fun ls hl => ?_)
  refine lv_iconst (v := nI 0) hx hb dX7_about_38 (by decide) ?_
  refine lv_istore (lv' := [(4, .int (nI 0)), (3, .int (nI 0)), (2, .int (nI 0)), (0, .ref M), (1, .int (nI 3))]) hx hb dX7_about_39 hl (by decide) rfl (fun ls hl => ?_)
  have loop_41 : ∀ (k_ : Nat) (i : Nat) (h_i : i ≤ n) (_ : n - i < k_) (H : Heap) (locs : List Loc) (_ : VP G [(M, .inr (4, [.int (nI 0), .ref mt, .int (nI sz), .ref mn, .ref mtr, .ref md, .int (nI ac), .ref mk, .ref mik, .ref na, .ref so])), (mn, .inl (G.2 0, 131, .inl (mr n (nI g) sk mm))), (na, .inl (G.2 0, 16, .inl (nmA sk (kdm mm) g 0 n nf))), (so, .inl (G.2 0, 16, .inl (soA sk (kdm mm) g 0 n sf)))] H) (_ : va_D (vA [(M, .inr (4, [.int (nI rf), .ref mt, .int (nI sz), .ref mn, .ref mtr, .ref md, .int (nI ac), .ref mk, .ref mik, .ref na, .ref so])), (mn, .inl (G.2 0, 131, .inl (mr n (nI g) sk mm))), (na, .inl (G.2 0, 16, .inl nf)), (so, .inl (G.2 0, 16, .inl sf))]) [(M, .inr (4, [.int (nI 0), .ref mt, .int (nI sz), .ref mn, .ref mtr, .ref md, .int (nI ac), .ref mk, .ref mik, .ref na, .ref so])), (mn, .inl (G.2 0, 131, .inl (mr n (nI g) sk mm))), (na, .inl (G.2 0, 16, .inl (nmA sk (kdm mm) g 0 n nf))), (so, .inl (G.2 0, 16, .inl (soA sk (kdm mm) g 0 n sf)))]) (_ : va_S (vA [(M, .inr (4, [.int (nI rf), .ref mt, .int (nI sz), .ref mn, .ref mtr, .ref md, .int (nI ac), .ref mk, .ref mik, .ref na, .ref so])), (mn, .inl (G.2 0, 131, .inl (mr n (nI g) sk mm))), (na, .inl (G.2 0, 16, .inl nf)), (so, .inl (G.2 0, 16, .inl sf))]) s.heap H locs) (ls : Array Slot), lv_has ls 5 [(4, .int (nI i)), (3, .int (nI (ct (fun x_ => 1 < lk f n x_) i))), (2, .int (nI (ct (fun x_ => f (16 + x_) = -1) i))), (0, .ref M), (1, .int (nI 3))] → W p l e ({ frames := 4, cells := 0, slots := 0, locals := 95 } : Room) s m ([.ref M, .int (nI 3)] : List Value).toArray below meth c H locs 0 0 (MQ below (QW G (some (.int (nI (wr f 3 n + wr f 4 n + wr f 5 n)))) [(M, .inr (4, [.int (nI 0), .ref mt, .int (nI sz), .ref mn, .ref mtr, .ref md, .int (nI ac), .ref mk, .ref mik, .ref na, .ref so])), (mn, .inl (G.2 0, 131, .inl (mr n (nI g) sk mm))), (na, .inl (G.2 0, 16, .inl (nmA sk (kdm mm) g 0 n nf))), (so, .inl (G.2 0, 16, .inl (soA sk (kdm mm) g 0 n sf)))] (vA [(M, .inr (4, [.int (nI rf), .ref mt, .int (nI sz), .ref mn, .ref mtr, .ref md, .int (nI ac), .ref mk, .ref mik, .ref na, .ref so])), (mn, .inl (G.2 0, 131, .inl (mr n (nI g) sk mm))), (na, .inl (G.2 0, 16, .inl nf)), (so, .inl (G.2 0, 16, .inl sf))])) ([.ref M, .int (nI 3)] : List Value).toArray s 0 0 (vA [(M, .inr (4, [.int (nI rf), .ref mt, .int (nI sz), .ref mn, .ref mtr, .ref md, .int (nI ac), .ref mk, .ref mik, .ref na, .ref so])), (mn, .inl (G.2 0, 131, .inl (mr n (nI g) sk mm))), (na, .inl (G.2 0, 16, .inl nf)), (so, .inl (G.2 0, 16, .inl sf))])) (F0 m 41 ls []) := by
    intro k_
    induction k_ with
    | zero => intro i h_i hk_; exact absurd hk_ (Nat.not_lt_zero _)
    | succ k_ ih_41 =>
      intro i h_i hk_ H locs hP hD hS ls hl
      refine lv_iload hx hb dX7_about_41 (lv_at hl 0 rfl) ?_
      refine lv_aload_n hx hb dX7_about_43 rfl (lv_at hl 3 rfl) ?_
      refine va_get (D := G.1) (ci := 4) (v := .ref mn) (C := RX7) (T := TX7) (N := 11) hx hb hts in_c_X7_about_3_X7 hown hK.1 hP 0 rfl rfl 3 (by decide) (hts (.fieldLink RX7 13 "FloorPanelsModel" "now" "[I") (by decide +kernel)) (fun _ h9 => h9) rfl dX7_about_44 ?_
      refine lv_iconst (v := nI 0) hx hb dX7_about_47 (by decide) ?_
      refine nv_iald hx hb hK hP 1 rfl (by omega) (by decide) dX7_about_48 ?_
      rw [show (mr n (nI g) sk mm) 0 = nI n from mr_0]
      refine bi_ge (tgt := 104) hx hb dX7_about_49 (by decide) (nI_i (by omega)) (nI_i (by omega)) (fun c_49 => ?_) (fun c_49 => ?_)
      ·
        refine lv_iload_n hx hb dX7_about_104 rfl (lv_at hl 4 rfl) ?_
        refine lv_tableIn (off := 52) (tgt := 157) hx hb dX7_about_105 (by decide) (by decide) (by decide) (by decide) ?_
        refine lv_aload_n hx hb dX7_about_157 rfl (lv_at hl 3 rfl) ?_
        refine lv_aload_n hx hb dX7_about_158 rfl (lv_at hl 3 rfl) ?_
        refine va_get (D := G.1) (ci := 4) (v := .ref mn) (C := RX7) (T := TX7) (N := 11) hx hb hts in_c_X7_about_3_X7 hown hK.1 hP 0 rfl rfl 3 (by decide) (hts (.fieldLink RX7 13 "FloorPanelsModel" "now" "[I") (by decide +kernel)) (fun _ h9 => h9) rfl dX7_about_159 ?_
        refine cWV (As := [.ref mn]) (rest := []) (st1 := [.int (nI (mwr sk mm g 19 n + mwr sk mm g 35 n + mwr sk mm g 51 n + mwr sk mm g 67 n))]) (w3 := [(M, .inr (4, [.int (nI 0), .ref mt, .int (nI sz), .ref mn, .ref mtr, .ref md, .int (nI ac), .ref mk, .ref mik, .ref na, .ref so])), (mn, .inl (G.2 0, 131, .inl (mr n (nI g) sk mm))), (na, .inl (G.2 0, 16, .inl (nmA sk (kdm mm) g 0 n nf))), (so, .inl (G.2 0, 16, .inl (soA sk (kdm mm) g 0 n sf)))]) ⟨hx, hb, hml, hown, hts⟩ (c_X7_wrong l G M 0 mt sz mn mtr md ac mk mik na so mn n g sk mm (nmA sk (kdm mm) g 0 n nf) (soA sk (kdm mm) g 0 n sf) (by first | omega | assumption) (by first | omega | assumption) (by first | omega | assumption)) (cwV 1 hts gX7_about_X7_wrong rfl rfl rfl (by decide +kernel) ⟨Nat.le_of_ble_eq_true rfl, Nat.le_of_ble_eq_true rfl⟩) (preV_of hK hP hD [0, 1, 2, 3] (by decide) rfl (ci := 4) (q0 := 0) rfl rfl rfl) rfl hl.1 rfl (lv_room (Nat.le_of_ble_eq_true rfl)) dX7_about_162 ⟨Nat.zero_le _, Nat.zero_le _⟩ hP hD hS [0, 1, 2, 3] (by decide) rfl rfl (by rw [nmA_i, soA_i]; rfl) rfl (fun H locs hP hD hS => ?_)
        rw [show (nI (mwr sk mm g 19 n + mwr sk mm g 35 n + mwr sk mm g 51 n + mwr sk mm g 67 n)) = nI (tw f n) from congrArg nI (tw_R h_R)]
        refine lv_aload_n hx hb dX7_about_165 rfl (lv_at hl 3 rfl) ?_
        refine lv_aload_n hx hb dX7_about_166 rfl (lv_at hl 3 rfl) ?_
        refine va_get (D := G.1) (ci := 4) (v := .ref mn) (C := RX7) (T := TX7) (N := 11) hx hb hts in_c_X7_about_3_X7 hown hK.1 hP 0 rfl rfl 3 (by decide) (hts (.fieldLink RX7 13 "FloorPanelsModel" "now" "[I") (by decide +kernel)) (fun _ h9 => h9) rfl dX7_about_167 ?_
        refine cRV (As := [.ref mn]) (rest := [.int (nI (tw f n))]) (v := .int (nI (ct (fun x_ => ¬ mm (19 + x_) = (nmA sk (kdm mm) g 0 n nf) x_) n))) ⟨hx, hb, hml, hown, hts⟩ (c_X7_wrongSigns l G M 0 mt sz mn mtr md ac mk mik na so mn n g sk mm (nmA sk (kdm mm) g 0 n nf) (by first | omega | assumption)) (cwV 1 hts gX7_about_X7_wrongSigns rfl rfl rfl (by decide +kernel) ⟨Nat.le_of_ble_eq_true rfl, Nat.le_of_ble_eq_true rfl⟩) (preV_of hK hP hD [0, 1, 2] (by decide) rfl (ci := 4) (q0 := 0) rfl rfl rfl) rfl hl.1 rfl (lv_room (Nat.le_of_ble_eq_true rfl)) dX7_about_170 ⟨Nat.zero_le _, Nat.zero_le _⟩ ?_
        rw [show (nI (ct (fun x_ => ¬ mm (19 + x_) = (nmA sk (kdm mm) g 0 n nf) x_) n)) = nI (wr f 2 n) from congrArg nI (mwr_A.trans (mwr_R h_R))]
        have h_tw : tw f n = wr f 2 n + wr f 3 n + wr f 4 n + wr f 5 n := rfl
        refine nv_isub hx hb (by omega) dX7_about_173 ?_
        exact W_i hx hb hr hlk dX7_about_174 hP hS (by refine congrArg nI ?_; omega) (rfl)
      ·
        have h_lk := lk_le f n i
        have h_c4 := ct_le (fun x_ => f (16 + x_) = -1) i
        have h_c5 := ct_le (fun x_ => 1 < lk f n x_) i
        refine lv_iload_n hx hb dX7_about_52 rfl (lv_at hl 2 rfl) ?_
        refine lv_aload_n hx hb dX7_about_53 rfl (lv_at hl 3 rfl) ?_
        refine va_get (D := G.1) (ci := 4) (v := .ref na) (C := RX7) (T := TX7) (N := 11) hx hb hts in_c_X7_about_3_X7 hown hK.1 hP 0 rfl rfl 9 (by decide) (hts (.fieldLink RX7 29 "FloorPanelsModel" "names" "[I") (by decide +kernel)) (fun _ h9 => h9) rfl dX7_about_54 ?_
        refine lv_iload hx hb dX7_about_57 (lv_at hl 0 rfl) ?_
        refine nv_iald hx hb hK hP 2 rfl (by omega) (by decide) dX7_about_59 ?_
        rw [show (nmA sk (kdm mm) g 0 n nf) i = (f (16 + i)) from h_R.nf (by omega)]
        refine lv_iconst (v := (-1)) hx hb dX7_about_60 (by decide) ?_
        refine lv_icmp_ne (tgt := 68) hx hb dX7_about_61 (by decide) (fun c_61 => ?_) (fun c_61 => ?_)
        ·
          refine lv_iconst (v := nI 0) hx hb dX7_about_68 (by decide) ?_
          refine nv_iadd hx hb dX7_about_69 ?_
          refine lv_istore_n (lv' := [(2, .int (nI ((ct (fun x_ => f (16 + x_) = -1) i) + 0))), (4, .int (nI i)), (3, .int (nI (ct (fun x_ => 1 < lk f n x_) i))), (0, .ref M), (1, .int (nI 3))]) hx hb dX7_about_70 rfl hl (by decide) rfl (fun ls hl => ?_)
          refine lv_iload_n hx hb dX7_about_71 rfl (lv_at hl 2 rfl) ?_
          refine lv_aload_n hx hb dX7_about_72 rfl (lv_at hl 3 rfl) ?_
          refine lv_aload_n hx hb dX7_about_73 rfl (lv_at hl 3 rfl) ?_
          refine va_get (D := G.1) (ci := 4) (v := .ref mn) (C := RX7) (T := TX7) (N := 11) hx hb hts in_c_X7_about_3_X7 hown hK.1 hP 0 rfl rfl 3 (by decide) (hts (.fieldLink RX7 13 "FloorPanelsModel" "now" "[I") (by decide +kernel)) (fun _ h9 => h9) rfl dX7_about_74 ?_
          refine lv_aload_n hx hb dX7_about_77 rfl (lv_at hl 3 rfl) ?_
          refine va_get (D := G.1) (ci := 4) (v := .ref na) (C := RX7) (T := TX7) (N := 11) hx hb hts in_c_X7_about_3_X7 hown hK.1 hP 0 rfl rfl 9 (by decide) (hts (.fieldLink RX7 29 "FloorPanelsModel" "names" "[I") (by decide +kernel)) (fun _ h9 => h9) rfl dX7_about_78 ?_
          refine lv_iload hx hb dX7_about_81 (lv_at hl 1 rfl) ?_
          refine nv_iald hx hb hK hP 2 rfl (by omega) (by decide) dX7_about_83 ?_
          rw [show (nmA sk (kdm mm) g 0 n nf) i = (f (16 + i)) from h_R.nf (by omega)]
          refine cRV (As := [.ref mn, .int (f (16 + i))]) (rest := [.int (nI (ct (fun x_ => 1 < lk f n x_) i))]) (v := .int (nI (ct (fun x_ => ¬ (f (16 + i)) = -1 ∧ (nmA sk (kdm mm) g 0 n nf) x_ = (f (16 + i))) n))) ⟨hx, hb, hml, hown, hts⟩ (c_X7_alike l G M 0 mt sz mn mtr md ac mk mik na so mn n g sk mm (nmA sk (kdm mm) g 0 n nf) (f (16 + i)) (by first | omega | assumption)) (cwV 2 hts gX7_about_X7_alike rfl rfl rfl (by decide +kernel) ⟨Nat.le_of_ble_eq_true rfl, Nat.le_of_ble_eq_true rfl⟩) (preV_of hK hP hD [0, 1, 2] (by decide) rfl (ci := 4) (q0 := 0) rfl rfl rfl) rfl hl.1 rfl (lv_room (Nat.le_of_ble_eq_true rfl)) dX7_about_84 ⟨Nat.zero_le _, Nat.zero_le _⟩ ?_
          rw [show (nI (ct (fun x_ => ¬ (f (16 + i)) = -1 ∧ (nmA sk (kdm mm) g 0 n nf) x_ = (f (16 + i))) n)) = nI (lk f n i) from congrArg nI (lk_A h_R)]
          refine lv_iconst (v := nI 1) hx hb dX7_about_87 (by decide) ?_
          refine bi_le (tgt := 95) hx hb dX7_about_88 (by decide) (nI_i (by omega)) (nI_i (by omega)) (fun c_88 => ?_) (fun c_88 => ?_)
          ·
            refine lv_iconst (v := nI 0) hx hb dX7_about_95 (by decide) ?_
            refine nv_iadd hx hb dX7_about_96 ?_
            refine lv_istore_n (lv' := [(3, .int (nI ((ct (fun x_ => 1 < lk f n x_) i) + 0))), (2, .int (nI ((ct (fun x_ => f (16 + x_) = -1) i) + 0))), (4, .int (nI i)), (0, .ref M), (1, .int (nI 3))]) hx hb dX7_about_97 rfl hl (by decide) rfl (fun ls hl => ?_)
            refine lv_iinc (v := nI (i + 1)) (lv' := [(4, .int (nI (i + 1))), (3, .int (nI ((ct (fun x_ => 1 < lk f n x_) i) + 0))), (2, .int (nI ((ct (fun x_ => f (16 + x_) = -1) i) + 0))), (0, .ref M), (1, .int (nI 3))]) hx hb dX7_about_98 hl (k := 2) rfl (inc_n _ 1) (by decide) rfl (fun ls hl => ?_)
            refine lv_goto (tgt := 41) hx hb dX7_about_101 (by decide) ?_
            exact ih_41 (i + 1) (by first | omega | assumption) (by omega) _ _ hP hD hS ls (lv_sub hl [0, 1, 2, 3, 4] (by first | (rw [ct_t (p := fun x_ => f (16 + x_) = -1) (by assumption), ct_t (p := fun x_ => 1 < lk f n x_) (by omega)]; rfl) | (rw [ct_t (p := fun x_ => f (16 + x_) = -1) (by assumption), ct_f (p := fun x_ => 1 < lk f n x_) (by omega)]; rfl) | (rw [ct_f (p := fun x_ => f (16 + x_) = -1) (by assumption), ct_t (p := fun x_ => 1 < lk f n x_) (by omega)]; rfl) | (rw [ct_f (p := fun x_ => f (16 + x_) = -1) (by assumption), ct_f (p := fun x_ => 1 < lk f n x_) (by omega)]; rfl)))
          ·
            refine lv_iconst (v := nI 1) hx hb dX7_about_91 (by decide) ?_
            refine lv_goto (tgt := 96) hx hb dX7_about_92 (by decide) ?_
            refine nv_iadd hx hb dX7_about_96 ?_
            refine lv_istore_n (lv' := [(3, .int (nI ((ct (fun x_ => 1 < lk f n x_) i) + 1))), (2, .int (nI ((ct (fun x_ => f (16 + x_) = -1) i) + 0))), (4, .int (nI i)), (0, .ref M), (1, .int (nI 3))]) hx hb dX7_about_97 rfl hl (by decide) rfl (fun ls hl => ?_)
            refine lv_iinc (v := nI (i + 1)) (lv' := [(4, .int (nI (i + 1))), (3, .int (nI ((ct (fun x_ => 1 < lk f n x_) i) + 1))), (2, .int (nI ((ct (fun x_ => f (16 + x_) = -1) i) + 0))), (0, .ref M), (1, .int (nI 3))]) hx hb dX7_about_98 hl (k := 2) rfl (inc_n _ 1) (by decide) rfl (fun ls hl => ?_)
            refine lv_goto (tgt := 41) hx hb dX7_about_101 (by decide) ?_
            exact ih_41 (i + 1) (by first | omega | assumption) (by omega) _ _ hP hD hS ls (lv_sub hl [0, 1, 2, 3, 4] (by first | (rw [ct_t (p := fun x_ => f (16 + x_) = -1) (by assumption), ct_t (p := fun x_ => 1 < lk f n x_) (by omega)]; rfl) | (rw [ct_t (p := fun x_ => f (16 + x_) = -1) (by assumption), ct_f (p := fun x_ => 1 < lk f n x_) (by omega)]; rfl) | (rw [ct_f (p := fun x_ => f (16 + x_) = -1) (by assumption), ct_t (p := fun x_ => 1 < lk f n x_) (by omega)]; rfl) | (rw [ct_f (p := fun x_ => f (16 + x_) = -1) (by assumption), ct_f (p := fun x_ => 1 < lk f n x_) (by omega)]; rfl)))
        ·
          refine lv_iconst (v := nI 1) hx hb dX7_about_64 (by decide) ?_
          refine lv_goto (tgt := 69) hx hb dX7_about_65 (by decide) ?_
          refine nv_iadd hx hb dX7_about_69 ?_
          refine lv_istore_n (lv' := [(2, .int (nI ((ct (fun x_ => f (16 + x_) = -1) i) + 1))), (4, .int (nI i)), (3, .int (nI (ct (fun x_ => 1 < lk f n x_) i))), (0, .ref M), (1, .int (nI 3))]) hx hb dX7_about_70 rfl hl (by decide) rfl (fun ls hl => ?_)
          refine lv_iload_n hx hb dX7_about_71 rfl (lv_at hl 2 rfl) ?_
          refine lv_aload_n hx hb dX7_about_72 rfl (lv_at hl 3 rfl) ?_
          refine lv_aload_n hx hb dX7_about_73 rfl (lv_at hl 3 rfl) ?_
          refine va_get (D := G.1) (ci := 4) (v := .ref mn) (C := RX7) (T := TX7) (N := 11) hx hb hts in_c_X7_about_3_X7 hown hK.1 hP 0 rfl rfl 3 (by decide) (hts (.fieldLink RX7 13 "FloorPanelsModel" "now" "[I") (by decide +kernel)) (fun _ h9 => h9) rfl dX7_about_74 ?_
          refine lv_aload_n hx hb dX7_about_77 rfl (lv_at hl 3 rfl) ?_
          refine va_get (D := G.1) (ci := 4) (v := .ref na) (C := RX7) (T := TX7) (N := 11) hx hb hts in_c_X7_about_3_X7 hown hK.1 hP 0 rfl rfl 9 (by decide) (hts (.fieldLink RX7 29 "FloorPanelsModel" "names" "[I") (by decide +kernel)) (fun _ h9 => h9) rfl dX7_about_78 ?_
          refine lv_iload hx hb dX7_about_81 (lv_at hl 1 rfl) ?_
          refine nv_iald hx hb hK hP 2 rfl (by omega) (by decide) dX7_about_83 ?_
          rw [show (nmA sk (kdm mm) g 0 n nf) i = (f (16 + i)) from h_R.nf (by omega)]
          refine cRV (As := [.ref mn, .int (f (16 + i))]) (rest := [.int (nI (ct (fun x_ => 1 < lk f n x_) i))]) (v := .int (nI (ct (fun x_ => ¬ (f (16 + i)) = -1 ∧ (nmA sk (kdm mm) g 0 n nf) x_ = (f (16 + i))) n))) ⟨hx, hb, hml, hown, hts⟩ (c_X7_alike l G M 0 mt sz mn mtr md ac mk mik na so mn n g sk mm (nmA sk (kdm mm) g 0 n nf) (f (16 + i)) (by first | omega | assumption)) (cwV 2 hts gX7_about_X7_alike rfl rfl rfl (by decide +kernel) ⟨Nat.le_of_ble_eq_true rfl, Nat.le_of_ble_eq_true rfl⟩) (preV_of hK hP hD [0, 1, 2] (by decide) rfl (ci := 4) (q0 := 0) rfl rfl rfl) rfl hl.1 rfl (lv_room (Nat.le_of_ble_eq_true rfl)) dX7_about_84 ⟨Nat.zero_le _, Nat.zero_le _⟩ ?_
          rw [show (nI (ct (fun x_ => ¬ (f (16 + i)) = -1 ∧ (nmA sk (kdm mm) g 0 n nf) x_ = (f (16 + i))) n)) = nI (lk f n i) from congrArg nI (lk_A h_R)]
          refine lv_iconst (v := nI 1) hx hb dX7_about_87 (by decide) ?_
          refine bi_le (tgt := 95) hx hb dX7_about_88 (by decide) (nI_i (by omega)) (nI_i (by omega)) (fun c_88 => ?_) (fun c_88 => ?_)
          ·
            refine lv_iconst (v := nI 0) hx hb dX7_about_95 (by decide) ?_
            refine nv_iadd hx hb dX7_about_96 ?_
            refine lv_istore_n (lv' := [(3, .int (nI ((ct (fun x_ => 1 < lk f n x_) i) + 0))), (2, .int (nI ((ct (fun x_ => f (16 + x_) = -1) i) + 1))), (4, .int (nI i)), (0, .ref M), (1, .int (nI 3))]) hx hb dX7_about_97 rfl hl (by decide) rfl (fun ls hl => ?_)
            refine lv_iinc (v := nI (i + 1)) (lv' := [(4, .int (nI (i + 1))), (3, .int (nI ((ct (fun x_ => 1 < lk f n x_) i) + 0))), (2, .int (nI ((ct (fun x_ => f (16 + x_) = -1) i) + 1))), (0, .ref M), (1, .int (nI 3))]) hx hb dX7_about_98 hl (k := 2) rfl (inc_n _ 1) (by decide) rfl (fun ls hl => ?_)
            refine lv_goto (tgt := 41) hx hb dX7_about_101 (by decide) ?_
            exact ih_41 (i + 1) (by first | omega | assumption) (by omega) _ _ hP hD hS ls (lv_sub hl [0, 1, 2, 3, 4] (by first | (rw [ct_t (p := fun x_ => f (16 + x_) = -1) (by assumption), ct_t (p := fun x_ => 1 < lk f n x_) (by omega)]; rfl) | (rw [ct_t (p := fun x_ => f (16 + x_) = -1) (by assumption), ct_f (p := fun x_ => 1 < lk f n x_) (by omega)]; rfl) | (rw [ct_f (p := fun x_ => f (16 + x_) = -1) (by assumption), ct_t (p := fun x_ => 1 < lk f n x_) (by omega)]; rfl) | (rw [ct_f (p := fun x_ => f (16 + x_) = -1) (by assumption), ct_f (p := fun x_ => 1 < lk f n x_) (by omega)]; rfl)))
          ·
            refine lv_iconst (v := nI 1) hx hb dX7_about_91 (by decide) ?_
            refine lv_goto (tgt := 96) hx hb dX7_about_92 (by decide) ?_
            refine nv_iadd hx hb dX7_about_96 ?_
            refine lv_istore_n (lv' := [(3, .int (nI ((ct (fun x_ => 1 < lk f n x_) i) + 1))), (2, .int (nI ((ct (fun x_ => f (16 + x_) = -1) i) + 1))), (4, .int (nI i)), (0, .ref M), (1, .int (nI 3))]) hx hb dX7_about_97 rfl hl (by decide) rfl (fun ls hl => ?_)
            refine lv_iinc (v := nI (i + 1)) (lv' := [(4, .int (nI (i + 1))), (3, .int (nI ((ct (fun x_ => 1 < lk f n x_) i) + 1))), (2, .int (nI ((ct (fun x_ => f (16 + x_) = -1) i) + 1))), (0, .ref M), (1, .int (nI 3))]) hx hb dX7_about_98 hl (k := 2) rfl (inc_n _ 1) (by decide) rfl (fun ls hl => ?_)
            refine lv_goto (tgt := 41) hx hb dX7_about_101 (by decide) ?_
            exact ih_41 (i + 1) (by first | omega | assumption) (by omega) _ _ hP hD hS ls (lv_sub hl [0, 1, 2, 3, 4] (by first | (rw [ct_t (p := fun x_ => f (16 + x_) = -1) (by assumption), ct_t (p := fun x_ => 1 < lk f n x_) (by omega)]; rfl) | (rw [ct_t (p := fun x_ => f (16 + x_) = -1) (by assumption), ct_f (p := fun x_ => 1 < lk f n x_) (by omega)]; rfl) | (rw [ct_f (p := fun x_ => f (16 + x_) = -1) (by assumption), ct_t (p := fun x_ => 1 < lk f n x_) (by omega)]; rfl) | (rw [ct_f (p := fun x_ => f (16 + x_) = -1) (by assumption), ct_f (p := fun x_ => 1 < lk f n x_) (by omega)]; rfl)))
  exact loop_41 (n - 0 + 1) 0 (by first | omega | assumption) (Nat.lt_succ_self _) _ _ hP hD hS ls (lv_sub hl [0, 1, 2, 3, 4] (by rfl))

theorem in_c_X7_about_4_X7 : ∀ w ∈ wsX70, w ∈ wsX7_about := by decide +kernel
set_option maxHeartbeats 4000000 in
set_option maxRecDepth 100000 in
theorem c_X7_about_4 (l : Launch) (G : GG) (M : Nat) (rf : Nat) (mt : Nat) (sz : Nat) (mn : Nat) (mtr : Nat) (md : Nat) (ac : Nat) (mk : Nat) (mik : Nat) (na : Nat) (so : Nat) (n : Nat) (g : Nat) (sk : Int32) (mm : Nat → Int32) (nf : Nat → Int32) (sf : Nat → Int32) (f : Nat → Int32) (h_n : n ≤ 16) (h_n1 : 1 ≤ n) (h_g : g < n) (h_k : mm (3 + g) = 0) (h_R : MRel n sk g f mm) : Met l yX7_about wsX7_about ({ frames := 3, cells := 0, slots := 0, locals := 74 } : Room) (va_Pc [.ref M, .int (nI 4)] (PB G [(M, .inr (4, [.int (nI rf), .ref mt, .int (nI sz), .ref mn, .ref mtr, .ref md, .int (nI ac), .ref mk, .ref mik, .ref na, .ref so])), (mn, .inl (G.2 0, 131, .inl (mr n (nI g) sk mm))), (na, .inl (G.2 0, 16, .inl nf)), (so, .inl (G.2 0, 16, .inl sf))])) (QW G (some (.int (nI (ct (fun x_ => f (16 + x_) = -1) n)))) [(M, .inr (4, [.int (nI 0), .ref mt, .int (nI sz), .ref mn, .ref mtr, .ref md, .int (nI ac), .ref mk, .ref mik, .ref na, .ref so])), (mn, .inl (G.2 0, 131, .inl (mr n (nI g) sk mm))), (na, .inl (G.2 0, 16, .inl (nmA sk (kdm mm) g 0 n nf))), (so, .inl (G.2 0, 16, .inl (soA sk (kdm mm) g 0 n sf)))] (vA [(M, .inr (4, [.int (nI rf), .ref mt, .int (nI sz), .ref mn, .ref mtr, .ref md, .int (nI ac), .ref mk, .ref mik, .ref na, .ref so])), (mn, .inl (G.2 0, 131, .inl (mr n (nI g) sk mm))), (na, .inl (G.2 0, 16, .inl nf)), (so, .inl (G.2 0, 16, .inl sf))])) 0 0 (vA [(M, .inr (4, [.int (nI rf), .ref mt, .int (nI sz), .ref mn, .ref mtr, .ref md, .int (nI ac), .ref mk, .ref mik, .ref na, .ref so])), (mn, .inl (G.2 0, 131, .inl (mr n (nI g) sk mm))), (na, .inl (G.2 0, 16, .inl nf)), (so, .inl (G.2 0, 16, .inl sf))]) := by
  refine Met.go (cc := cX7_about) (maxL := 5) (ret := (some .int)) (by decide) rfl (Nat.le_of_ble_eq_true rfl) ?_
  intro p e s m below meth c ls hx hb hr hml hown hts hlk hP hK hD hS hl
  have hown : s.vm.findClass RX7 = some m.cls := hown
  have hl : lv_has ls 5 [(0, .ref M), (1, .int (nI 4))] := hl
  refine lv_aload_n hx hb dX7_about_0 rfl (lv_at hl 0 rfl) ?_
  refine lv_iload_n hx hb dX7_about_1 rfl (lv_at hl 1 rfl) ?_
  refine lv_i2l (v := (nI 4).toInt64) hx hb dX7_about_2 rfl ?_
  refine lv_lconst (v := 0) hx hb dX7_about_3 rfl ?_
  refine lv_ldc2 (own := RX7) (v := 8) hx hb hown (hts (.constantLong RX7 139 (8)) (by decide +kernel)) dX7_about_4 ?_
  refine cRS (As := [.long ((nI 4).toInt64), .long (0 : Int64), .long (8 : Int64)]) (rest := [.ref M]) (v := .int (zb ((0 : Int64).toInt ≤ ((nI 4).toInt64).toInt ∧ ((nI 4).toInt64).toInt ≤ (8 : Int64).toInt))) ⟨hx, hb, hml, hown, hts⟩ (c_X7_in l G ((nI 4).toInt64) (0 : Int64) (8 : Int64) ) (va_cwS 3 hts gX7_about_X7_in rfl rfl rfl (by decide +kernel) ⟨Nat.le_of_ble_eq_true rfl, Nat.le_of_ble_eq_true rfl⟩) (preS_of hK hP hD [] (by decide) rfl) rfl hl.1 rfl (lv_room (Nat.le_of_ble_eq_true rfl)) dX7_about_7 ⟨Nat.zero_le _, Nat.zero_le _⟩ ?_
  refine bb_eq (tgt := 17) hx hb dX7_about_10 (by decide) (fun c_10 => False.elim (by (rw [i2l_toInt, nI_i (by omega), show (0 : Int64).toInt = 0 from rfl, show (8 : Int64).toInt = 8 from rfl] at c_10; omega))) (fun c_10 => ?_)
  refine lv_iconst (v := nI 0) hx hb dX7_about_13 (by decide) ?_
  refine lv_goto (tgt := 18) hx hb dX7_about_14 (by decide) ?_
  refine cWV (As := [.int (nI 0)]) (rest := []) (st1 := [.int (zb (0 < 0))]) (w3 := [(M, .inr (4, [.int (nI 0), .ref mt, .int (nI sz), .ref mn, .ref mtr, .ref md, .int (nI ac), .ref mk, .ref mik, .ref na, .ref so])), (mn, .inl (G.2 0, 131, .inl (mr n (nI g) sk mm))), (na, .inl (G.2 0, 16, .inl nf)), (so, .inl (G.2 0, 16, .inl sf))]) ⟨hx, hb, hml, hown, hts⟩ (c_X7_refused l G M rf mt sz mn mtr md ac mk mik na so 0 (by first | omega | assumption)) (cwV 1 hts gX7_about_X7_refused rfl rfl rfl (by decide +kernel) ⟨Nat.le_of_ble_eq_true rfl, Nat.le_of_ble_eq_true rfl⟩) (preV_of hK hP hD [0] (by decide) rfl (ci := 4) (q0 := 0) rfl rfl rfl) rfl hl.1 rfl (lv_room (Nat.le_of_ble_eq_true rfl)) dX7_about_18 ⟨Nat.zero_le _, Nat.zero_le _⟩ hP hD hS [0] (by decide) rfl rfl (rfl) rfl (fun H locs hP hD hS => ?_)
  refine bb_eq (tgt := 26) hx hb dX7_about_21 (by decide) (fun c_21 => ?_) (fun c_21 => False.elim (by omega))
  refine lv_aload_n hx hb dX7_about_26 rfl (lv_at hl 0 rfl) ?_
  refine lv_aload_n hx hb dX7_about_27 rfl (lv_at hl 0 rfl) ?_
  refine va_get (D := G.1) (ci := 4) (v := .ref mn) (C := RX7) (T := TX7) (N := 11) hx hb hts in_c_X7_about_4_X7 hown hK.1 hP 0 rfl rfl 3 (by decide) (hts (.fieldLink RX7 13 "FloorPanelsModel" "now" "[I") (by decide +kernel)) (fun _ h9 => h9) rfl dX7_about_28 ?_
  refine cWV (As := [.ref mn]) (rest := []) (st1 := []) (w3 := [(M, .inr (4, [.int (nI 0), .ref mt, .int (nI sz), .ref mn, .ref mtr, .ref md, .int (nI ac), .ref mk, .ref mik, .ref na, .ref so])), (mn, .inl (G.2 0, 131, .inl (mr n (nI g) sk mm))), (na, .inl (G.2 0, 16, .inl (nmA sk (kdm mm) g 0 n nf))), (so, .inl (G.2 0, 16, .inl (soA sk (kdm mm) g 0 n sf)))]) ⟨hx, hb, hml, hown, hts⟩ (c_X7_name l G M 0 mt sz mn mtr md ac mk mik na so mn n g sk mm nf sf (by first | omega | assumption) (by first | omega | assumption) (by first | omega | assumption)) (cwV 1 hts gX7_about_X7_name rfl rfl rfl (by decide +kernel) ⟨Nat.le_of_ble_eq_true rfl, Nat.le_of_ble_eq_true rfl⟩) (preV_of hK hP hD [0, 1, 2, 3] (by decide) rfl (ci := 4) (q0 := 0) rfl rfl rfl) rfl hl.1 rfl (lv_room (Nat.le_of_ble_eq_true rfl)) dX7_about_31 ⟨Nat.zero_le _, Nat.zero_le _⟩ hP hD hS [0, 1, 2, 3] (by decide) rfl rfl (rfl) rfl (fun H locs hP hD hS => ?_)
  refine lv_iconst (v := nI 0) hx hb dX7_about_34 (by decide) ?_
  refine lv_istore_n (lv' := [(2, .int (nI 0)), (0, .ref M), (1, .int (nI 4))]) hx hb dX7_about_35 rfl hl (by decide) rfl (fun ls hl => ?_)
  refine lv_iconst (v := nI 0) hx hb dX7_about_36 (by decide) ?_
  refine lv_istore_n (lv' := [(3, .int (nI 0)), (2, .int (nI 0)), (0, .ref M), (1, .int (nI 4))]) hx hb dX7_about_37 rfl hl (by decide) rfl (fun ls hl => ?_)
  refine lv_iconst (v := nI 0) hx hb dX7_about_38 (by decide) ?_
  refine lv_istore (lv' := [(4, .int (nI 0)), (3, .int (nI 0)), (2, .int (nI 0)), (0, .ref M), (1, .int (nI 4))]) hx hb dX7_about_39 hl (by decide) rfl (fun ls hl => ?_)
  have loop_41 : ∀ (k_ : Nat) (i : Nat) (h_i : i ≤ n) (_ : n - i < k_) (H : Heap) (locs : List Loc) (_ : VP G [(M, .inr (4, [.int (nI 0), .ref mt, .int (nI sz), .ref mn, .ref mtr, .ref md, .int (nI ac), .ref mk, .ref mik, .ref na, .ref so])), (mn, .inl (G.2 0, 131, .inl (mr n (nI g) sk mm))), (na, .inl (G.2 0, 16, .inl (nmA sk (kdm mm) g 0 n nf))), (so, .inl (G.2 0, 16, .inl (soA sk (kdm mm) g 0 n sf)))] H) (_ : va_D (vA [(M, .inr (4, [.int (nI rf), .ref mt, .int (nI sz), .ref mn, .ref mtr, .ref md, .int (nI ac), .ref mk, .ref mik, .ref na, .ref so])), (mn, .inl (G.2 0, 131, .inl (mr n (nI g) sk mm))), (na, .inl (G.2 0, 16, .inl nf)), (so, .inl (G.2 0, 16, .inl sf))]) [(M, .inr (4, [.int (nI 0), .ref mt, .int (nI sz), .ref mn, .ref mtr, .ref md, .int (nI ac), .ref mk, .ref mik, .ref na, .ref so])), (mn, .inl (G.2 0, 131, .inl (mr n (nI g) sk mm))), (na, .inl (G.2 0, 16, .inl (nmA sk (kdm mm) g 0 n nf))), (so, .inl (G.2 0, 16, .inl (soA sk (kdm mm) g 0 n sf)))]) (_ : va_S (vA [(M, .inr (4, [.int (nI rf), .ref mt, .int (nI sz), .ref mn, .ref mtr, .ref md, .int (nI ac), .ref mk, .ref mik, .ref na, .ref so])), (mn, .inl (G.2 0, 131, .inl (mr n (nI g) sk mm))), (na, .inl (G.2 0, 16, .inl nf)), (so, .inl (G.2 0, 16, .inl sf))]) s.heap H locs) (ls : Array Slot), lv_has ls 5 [(4, .int (nI i)), (3, .int (nI (ct (fun x_ => 1 < lk f n x_) i))), (2, .int (nI (ct (fun x_ => f (16 + x_) = -1) i))), (0, .ref M), (1, .int (nI 4))] → W p l e ({ frames := 3, cells := 0, slots := 0, locals := 74 } : Room) s m ([.ref M, .int (nI 4)] : List Value).toArray below meth c H locs 0 0 (MQ below (QW G (some (.int (nI (ct (fun x_ => f (16 + x_) = -1) n)))) [(M, .inr (4, [.int (nI 0), .ref mt, .int (nI sz), .ref mn, .ref mtr, .ref md, .int (nI ac), .ref mk, .ref mik, .ref na, .ref so])), (mn, .inl (G.2 0, 131, .inl (mr n (nI g) sk mm))), (na, .inl (G.2 0, 16, .inl (nmA sk (kdm mm) g 0 n nf))), (so, .inl (G.2 0, 16, .inl (soA sk (kdm mm) g 0 n sf)))] (vA [(M, .inr (4, [.int (nI rf), .ref mt, .int (nI sz), .ref mn, .ref mtr, .ref md, .int (nI ac), .ref mk, .ref mik, .ref na, .ref so])), (mn, .inl (G.2 0, 131, .inl (mr n (nI g) sk mm))), (na, .inl (G.2 0, 16, .inl nf)), (so, .inl (G.2 0, 16, .inl sf))])) ([.ref M, .int (nI 4)] : List Value).toArray s 0 0 (vA [(M, .inr (4, [.int (nI rf), .ref mt, .int (nI sz), .ref mn, .ref mtr, .ref md, .int (nI ac), .ref mk, .ref mik, .ref na, .ref so])), (mn, .inl (G.2 0, 131, .inl (mr n (nI g) sk mm))), (na, .inl (G.2 0, 16, .inl nf)), (so, .inl (G.2 0, 16, .inl sf))])) (F0 m 41 ls []) := by
    intro k_
    induction k_ with
    | zero => intro i h_i hk_; exact absurd hk_ (Nat.not_lt_zero _)
    | succ k_ ih_41 =>
      intro i h_i hk_ H locs hP hD hS ls hl
      refine lv_iload hx hb dX7_about_41 (lv_at hl 0 rfl) ?_
      refine lv_aload_n hx hb dX7_about_43 rfl (lv_at hl 3 rfl) ?_
      refine va_get (D := G.1) (ci := 4) (v := .ref mn) (C := RX7) (T := TX7) (N := 11) hx hb hts in_c_X7_about_4_X7 hown hK.1 hP 0 rfl rfl 3 (by decide) (hts (.fieldLink RX7 13 "FloorPanelsModel" "now" "[I") (by decide +kernel)) (fun _ h9 => h9) rfl dX7_about_44 ?_
      refine lv_iconst (v := nI 0) hx hb dX7_about_47 (by decide) ?_
      refine nv_iald hx hb hK hP 1 rfl (by omega) (by decide) dX7_about_48 ?_
      rw [show (mr n (nI g) sk mm) 0 = nI n from mr_0]
      refine bi_ge (tgt := 104) hx hb dX7_about_49 (by decide) (nI_i (by omega)) (nI_i (by omega)) (fun c_49 => ?_) (fun c_49 => ?_)
      ·
        refine lv_iload_n hx hb dX7_about_104 rfl (lv_at hl 4 rfl) ?_
        refine lv_tableIn (off := 70) (tgt := 175) hx hb dX7_about_105 (by decide) (by decide) (by decide) (by decide) ?_
        refine lv_iload_n hx hb dX7_about_175 rfl (lv_at hl 2 rfl) ?_
        exact W_i hx hb hr hlk dX7_about_176 hP hS (by rw [show i = n by omega]) (rfl)
      ·
        have h_lk := lk_le f n i
        have h_c4 := ct_le (fun x_ => f (16 + x_) = -1) i
        have h_c5 := ct_le (fun x_ => 1 < lk f n x_) i
        refine lv_iload_n hx hb dX7_about_52 rfl (lv_at hl 2 rfl) ?_
        refine lv_aload_n hx hb dX7_about_53 rfl (lv_at hl 3 rfl) ?_
        refine va_get (D := G.1) (ci := 4) (v := .ref na) (C := RX7) (T := TX7) (N := 11) hx hb hts in_c_X7_about_4_X7 hown hK.1 hP 0 rfl rfl 9 (by decide) (hts (.fieldLink RX7 29 "FloorPanelsModel" "names" "[I") (by decide +kernel)) (fun _ h9 => h9) rfl dX7_about_54 ?_
        refine lv_iload hx hb dX7_about_57 (lv_at hl 0 rfl) ?_
        refine nv_iald hx hb hK hP 2 rfl (by omega) (by decide) dX7_about_59 ?_
        rw [show (nmA sk (kdm mm) g 0 n nf) i = (f (16 + i)) from h_R.nf (by omega)]
        refine lv_iconst (v := (-1)) hx hb dX7_about_60 (by decide) ?_
        refine lv_icmp_ne (tgt := 68) hx hb dX7_about_61 (by decide) (fun c_61 => ?_) (fun c_61 => ?_)
        ·
          refine lv_iconst (v := nI 0) hx hb dX7_about_68 (by decide) ?_
          refine nv_iadd hx hb dX7_about_69 ?_
          refine lv_istore_n (lv' := [(2, .int (nI ((ct (fun x_ => f (16 + x_) = -1) i) + 0))), (4, .int (nI i)), (3, .int (nI (ct (fun x_ => 1 < lk f n x_) i))), (0, .ref M), (1, .int (nI 4))]) hx hb dX7_about_70 rfl hl (by decide) rfl (fun ls hl => ?_)
          refine lv_iload_n hx hb dX7_about_71 rfl (lv_at hl 2 rfl) ?_
          refine lv_aload_n hx hb dX7_about_72 rfl (lv_at hl 3 rfl) ?_
          refine lv_aload_n hx hb dX7_about_73 rfl (lv_at hl 3 rfl) ?_
          refine va_get (D := G.1) (ci := 4) (v := .ref mn) (C := RX7) (T := TX7) (N := 11) hx hb hts in_c_X7_about_4_X7 hown hK.1 hP 0 rfl rfl 3 (by decide) (hts (.fieldLink RX7 13 "FloorPanelsModel" "now" "[I") (by decide +kernel)) (fun _ h9 => h9) rfl dX7_about_74 ?_
          refine lv_aload_n hx hb dX7_about_77 rfl (lv_at hl 3 rfl) ?_
          refine va_get (D := G.1) (ci := 4) (v := .ref na) (C := RX7) (T := TX7) (N := 11) hx hb hts in_c_X7_about_4_X7 hown hK.1 hP 0 rfl rfl 9 (by decide) (hts (.fieldLink RX7 29 "FloorPanelsModel" "names" "[I") (by decide +kernel)) (fun _ h9 => h9) rfl dX7_about_78 ?_
          refine lv_iload hx hb dX7_about_81 (lv_at hl 1 rfl) ?_
          refine nv_iald hx hb hK hP 2 rfl (by omega) (by decide) dX7_about_83 ?_
          rw [show (nmA sk (kdm mm) g 0 n nf) i = (f (16 + i)) from h_R.nf (by omega)]
          refine cRV (As := [.ref mn, .int (f (16 + i))]) (rest := [.int (nI (ct (fun x_ => 1 < lk f n x_) i))]) (v := .int (nI (ct (fun x_ => ¬ (f (16 + i)) = -1 ∧ (nmA sk (kdm mm) g 0 n nf) x_ = (f (16 + i))) n))) ⟨hx, hb, hml, hown, hts⟩ (c_X7_alike l G M 0 mt sz mn mtr md ac mk mik na so mn n g sk mm (nmA sk (kdm mm) g 0 n nf) (f (16 + i)) (by first | omega | assumption)) (cwV 2 hts gX7_about_X7_alike rfl rfl rfl (by decide +kernel) ⟨Nat.le_of_ble_eq_true rfl, Nat.le_of_ble_eq_true rfl⟩) (preV_of hK hP hD [0, 1, 2] (by decide) rfl (ci := 4) (q0 := 0) rfl rfl rfl) rfl hl.1 rfl (lv_room (Nat.le_of_ble_eq_true rfl)) dX7_about_84 ⟨Nat.zero_le _, Nat.zero_le _⟩ ?_
          rw [show (nI (ct (fun x_ => ¬ (f (16 + i)) = -1 ∧ (nmA sk (kdm mm) g 0 n nf) x_ = (f (16 + i))) n)) = nI (lk f n i) from congrArg nI (lk_A h_R)]
          refine lv_iconst (v := nI 1) hx hb dX7_about_87 (by decide) ?_
          refine bi_le (tgt := 95) hx hb dX7_about_88 (by decide) (nI_i (by omega)) (nI_i (by omega)) (fun c_88 => ?_) (fun c_88 => ?_)
          ·
            refine lv_iconst (v := nI 0) hx hb dX7_about_95 (by decide) ?_
            refine nv_iadd hx hb dX7_about_96 ?_
            refine lv_istore_n (lv' := [(3, .int (nI ((ct (fun x_ => 1 < lk f n x_) i) + 0))), (2, .int (nI ((ct (fun x_ => f (16 + x_) = -1) i) + 0))), (4, .int (nI i)), (0, .ref M), (1, .int (nI 4))]) hx hb dX7_about_97 rfl hl (by decide) rfl (fun ls hl => ?_)
            refine lv_iinc (v := nI (i + 1)) (lv' := [(4, .int (nI (i + 1))), (3, .int (nI ((ct (fun x_ => 1 < lk f n x_) i) + 0))), (2, .int (nI ((ct (fun x_ => f (16 + x_) = -1) i) + 0))), (0, .ref M), (1, .int (nI 4))]) hx hb dX7_about_98 hl (k := 2) rfl (inc_n _ 1) (by decide) rfl (fun ls hl => ?_)
            refine lv_goto (tgt := 41) hx hb dX7_about_101 (by decide) ?_
            exact ih_41 (i + 1) (by first | omega | assumption) (by omega) _ _ hP hD hS ls (lv_sub hl [0, 1, 2, 3, 4] (by first | (rw [ct_t (p := fun x_ => f (16 + x_) = -1) (by assumption), ct_t (p := fun x_ => 1 < lk f n x_) (by omega)]; rfl) | (rw [ct_t (p := fun x_ => f (16 + x_) = -1) (by assumption), ct_f (p := fun x_ => 1 < lk f n x_) (by omega)]; rfl) | (rw [ct_f (p := fun x_ => f (16 + x_) = -1) (by assumption), ct_t (p := fun x_ => 1 < lk f n x_) (by omega)]; rfl) | (rw [ct_f (p := fun x_ => f (16 + x_) = -1) (by assumption), ct_f (p := fun x_ => 1 < lk f n x_) (by omega)]; rfl)))
          ·
            refine lv_iconst (v := nI 1) hx hb dX7_about_91 (by decide) ?_
            refine lv_goto (tgt := 96) hx hb dX7_about_92 (by decide) ?_
            refine nv_iadd hx hb dX7_about_96 ?_
            refine lv_istore_n (lv' := [(3, .int (nI ((ct (fun x_ => 1 < lk f n x_) i) + 1))), (2, .int (nI ((ct (fun x_ => f (16 + x_) = -1) i) + 0))), (4, .int (nI i)), (0, .ref M), (1, .int (nI 4))]) hx hb dX7_about_97 rfl hl (by decide) rfl (fun ls hl => ?_)
            refine lv_iinc (v := nI (i + 1)) (lv' := [(4, .int (nI (i + 1))), (3, .int (nI ((ct (fun x_ => 1 < lk f n x_) i) + 1))), (2, .int (nI ((ct (fun x_ => f (16 + x_) = -1) i) + 0))), (0, .ref M), (1, .int (nI 4))]) hx hb dX7_about_98 hl (k := 2) rfl (inc_n _ 1) (by decide) rfl (fun ls hl => ?_)
            refine lv_goto (tgt := 41) hx hb dX7_about_101 (by decide) ?_
            exact ih_41 (i + 1) (by first | omega | assumption) (by omega) _ _ hP hD hS ls (lv_sub hl [0, 1, 2, 3, 4] (by first | (rw [ct_t (p := fun x_ => f (16 + x_) = -1) (by assumption), ct_t (p := fun x_ => 1 < lk f n x_) (by omega)]; rfl) | (rw [ct_t (p := fun x_ => f (16 + x_) = -1) (by assumption), ct_f (p := fun x_ => 1 < lk f n x_) (by omega)]; rfl) | (rw [ct_f (p := fun x_ => f (16 + x_) = -1) (by assumption), ct_t (p := fun x_ => 1 < lk f n x_) (by omega)]; rfl) | (rw [ct_f (p := fun x_ => f (16 + x_) = -1) (by assumption), ct_f (p := fun x_ => 1 < lk f n x_) (by omega)]; rfl)))
        ·
          refine lv_iconst (v := nI 1) hx hb dX7_about_64 (by decide) ?_
          refine lv_goto (tgt := 69) hx hb dX7_about_65 (by decide) ?_
          refine nv_iadd hx hb dX7_about_69 ?_
          refine lv_istore_n (lv' := [(2, .int (nI ((ct (fun x_ => f (16 + x_) = -1) i) + 1))), (4, .int (nI i)), (3, .int (nI (ct (fun x_ => 1 < lk f n x_) i))), (0, .ref M), (1, .int (nI 4))]) hx hb dX7_about_70 rfl hl (by decide) rfl (fun ls hl => ?_)
          refine lv_iload_n hx hb dX7_about_71 rfl (lv_at hl 2 rfl) ?_
          refine lv_aload_n hx hb dX7_about_72 rfl (lv_at hl 3 rfl) ?_
          refine lv_aload_n hx hb dX7_about_73 rfl (lv_at hl 3 rfl) ?_
          refine va_get (D := G.1) (ci := 4) (v := .ref mn) (C := RX7) (T := TX7) (N := 11) hx hb hts in_c_X7_about_4_X7 hown hK.1 hP 0 rfl rfl 3 (by decide) (hts (.fieldLink RX7 13 "FloorPanelsModel" "now" "[I") (by decide +kernel)) (fun _ h9 => h9) rfl dX7_about_74 ?_
          refine lv_aload_n hx hb dX7_about_77 rfl (lv_at hl 3 rfl) ?_
          refine va_get (D := G.1) (ci := 4) (v := .ref na) (C := RX7) (T := TX7) (N := 11) hx hb hts in_c_X7_about_4_X7 hown hK.1 hP 0 rfl rfl 9 (by decide) (hts (.fieldLink RX7 29 "FloorPanelsModel" "names" "[I") (by decide +kernel)) (fun _ h9 => h9) rfl dX7_about_78 ?_
          refine lv_iload hx hb dX7_about_81 (lv_at hl 1 rfl) ?_
          refine nv_iald hx hb hK hP 2 rfl (by omega) (by decide) dX7_about_83 ?_
          rw [show (nmA sk (kdm mm) g 0 n nf) i = (f (16 + i)) from h_R.nf (by omega)]
          refine cRV (As := [.ref mn, .int (f (16 + i))]) (rest := [.int (nI (ct (fun x_ => 1 < lk f n x_) i))]) (v := .int (nI (ct (fun x_ => ¬ (f (16 + i)) = -1 ∧ (nmA sk (kdm mm) g 0 n nf) x_ = (f (16 + i))) n))) ⟨hx, hb, hml, hown, hts⟩ (c_X7_alike l G M 0 mt sz mn mtr md ac mk mik na so mn n g sk mm (nmA sk (kdm mm) g 0 n nf) (f (16 + i)) (by first | omega | assumption)) (cwV 2 hts gX7_about_X7_alike rfl rfl rfl (by decide +kernel) ⟨Nat.le_of_ble_eq_true rfl, Nat.le_of_ble_eq_true rfl⟩) (preV_of hK hP hD [0, 1, 2] (by decide) rfl (ci := 4) (q0 := 0) rfl rfl rfl) rfl hl.1 rfl (lv_room (Nat.le_of_ble_eq_true rfl)) dX7_about_84 ⟨Nat.zero_le _, Nat.zero_le _⟩ ?_
          rw [show (nI (ct (fun x_ => ¬ (f (16 + i)) = -1 ∧ (nmA sk (kdm mm) g 0 n nf) x_ = (f (16 + i))) n)) = nI (lk f n i) from congrArg nI (lk_A h_R)]
          refine lv_iconst (v := nI 1) hx hb dX7_about_87 (by decide) ?_
          refine bi_le (tgt := 95) hx hb dX7_about_88 (by decide) (nI_i (by omega)) (nI_i (by omega)) (fun c_88 => ?_) (fun c_88 => ?_)
          ·
            refine lv_iconst (v := nI 0) hx hb dX7_about_95 (by decide) ?_
            refine nv_iadd hx hb dX7_about_96 ?_
            refine lv_istore_n (lv' := [(3, .int (nI ((ct (fun x_ => 1 < lk f n x_) i) + 0))), (2, .int (nI ((ct (fun x_ => f (16 + x_) = -1) i) + 1))), (4, .int (nI i)), (0, .ref M), (1, .int (nI 4))]) hx hb dX7_about_97 rfl hl (by decide) rfl (fun ls hl => ?_)
            refine lv_iinc (v := nI (i + 1)) (lv' := [(4, .int (nI (i + 1))), (3, .int (nI ((ct (fun x_ => 1 < lk f n x_) i) + 0))), (2, .int (nI ((ct (fun x_ => f (16 + x_) = -1) i) + 1))), (0, .ref M), (1, .int (nI 4))]) hx hb dX7_about_98 hl (k := 2) rfl (inc_n _ 1) (by decide) rfl (fun ls hl => ?_)
            refine lv_goto (tgt := 41) hx hb dX7_about_101 (by decide) ?_
            exact ih_41 (i + 1) (by first | omega | assumption) (by omega) _ _ hP hD hS ls (lv_sub hl [0, 1, 2, 3, 4] (by first | (rw [ct_t (p := fun x_ => f (16 + x_) = -1) (by assumption), ct_t (p := fun x_ => 1 < lk f n x_) (by omega)]; rfl) | (rw [ct_t (p := fun x_ => f (16 + x_) = -1) (by assumption), ct_f (p := fun x_ => 1 < lk f n x_) (by omega)]; rfl) | (rw [ct_f (p := fun x_ => f (16 + x_) = -1) (by assumption), ct_t (p := fun x_ => 1 < lk f n x_) (by omega)]; rfl) | (rw [ct_f (p := fun x_ => f (16 + x_) = -1) (by assumption), ct_f (p := fun x_ => 1 < lk f n x_) (by omega)]; rfl)))
          ·
            refine lv_iconst (v := nI 1) hx hb dX7_about_91 (by decide) ?_
            refine lv_goto (tgt := 96) hx hb dX7_about_92 (by decide) ?_
            refine nv_iadd hx hb dX7_about_96 ?_
            refine lv_istore_n (lv' := [(3, .int (nI ((ct (fun x_ => 1 < lk f n x_) i) + 1))), (2, .int (nI ((ct (fun x_ => f (16 + x_) = -1) i) + 1))), (4, .int (nI i)), (0, .ref M), (1, .int (nI 4))]) hx hb dX7_about_97 rfl hl (by decide) rfl (fun ls hl => ?_)
            refine lv_iinc (v := nI (i + 1)) (lv' := [(4, .int (nI (i + 1))), (3, .int (nI ((ct (fun x_ => 1 < lk f n x_) i) + 1))), (2, .int (nI ((ct (fun x_ => f (16 + x_) = -1) i) + 1))), (0, .ref M), (1, .int (nI 4))]) hx hb dX7_about_98 hl (k := 2) rfl (inc_n _ 1) (by decide) rfl (fun ls hl => ?_)
            refine lv_goto (tgt := 41) hx hb dX7_about_101 (by decide) ?_
            exact ih_41 (i + 1) (by first | omega | assumption) (by omega) _ _ hP hD hS ls (lv_sub hl [0, 1, 2, 3, 4] (by first | (rw [ct_t (p := fun x_ => f (16 + x_) = -1) (by assumption), ct_t (p := fun x_ => 1 < lk f n x_) (by omega)]; rfl) | (rw [ct_t (p := fun x_ => f (16 + x_) = -1) (by assumption), ct_f (p := fun x_ => 1 < lk f n x_) (by omega)]; rfl) | (rw [ct_f (p := fun x_ => f (16 + x_) = -1) (by assumption), ct_t (p := fun x_ => 1 < lk f n x_) (by omega)]; rfl) | (rw [ct_f (p := fun x_ => f (16 + x_) = -1) (by assumption), ct_f (p := fun x_ => 1 < lk f n x_) (by omega)]; rfl)))
  exact loop_41 (n - 0 + 1) 0 (by first | omega | assumption) (Nat.lt_succ_self _) _ _ hP hD hS ls (lv_sub hl [0, 1, 2, 3, 4] (by rfl))

theorem in_c_X7_about_5_X7 : ∀ w ∈ wsX70, w ∈ wsX7_about := by decide +kernel
set_option maxHeartbeats 4000000 in
set_option maxRecDepth 100000 in
theorem c_X7_about_5 (l : Launch) (G : GG) (M : Nat) (rf : Nat) (mt : Nat) (sz : Nat) (mn : Nat) (mtr : Nat) (md : Nat) (ac : Nat) (mk : Nat) (mik : Nat) (na : Nat) (so : Nat) (n : Nat) (g : Nat) (sk : Int32) (mm : Nat → Int32) (nf : Nat → Int32) (sf : Nat → Int32) (f : Nat → Int32) (h_n : n ≤ 16) (h_n1 : 1 ≤ n) (h_g : g < n) (h_k : mm (3 + g) = 0) (h_R : MRel n sk g f mm) : Met l yX7_about wsX7_about ({ frames := 3, cells := 0, slots := 0, locals := 74 } : Room) (va_Pc [.ref M, .int (nI 5)] (PB G [(M, .inr (4, [.int (nI rf), .ref mt, .int (nI sz), .ref mn, .ref mtr, .ref md, .int (nI ac), .ref mk, .ref mik, .ref na, .ref so])), (mn, .inl (G.2 0, 131, .inl (mr n (nI g) sk mm))), (na, .inl (G.2 0, 16, .inl nf)), (so, .inl (G.2 0, 16, .inl sf))])) (QW G (some (.int (nI (ct (fun x_ => 1 < lk f n x_) n)))) [(M, .inr (4, [.int (nI 0), .ref mt, .int (nI sz), .ref mn, .ref mtr, .ref md, .int (nI ac), .ref mk, .ref mik, .ref na, .ref so])), (mn, .inl (G.2 0, 131, .inl (mr n (nI g) sk mm))), (na, .inl (G.2 0, 16, .inl (nmA sk (kdm mm) g 0 n nf))), (so, .inl (G.2 0, 16, .inl (soA sk (kdm mm) g 0 n sf)))] (vA [(M, .inr (4, [.int (nI rf), .ref mt, .int (nI sz), .ref mn, .ref mtr, .ref md, .int (nI ac), .ref mk, .ref mik, .ref na, .ref so])), (mn, .inl (G.2 0, 131, .inl (mr n (nI g) sk mm))), (na, .inl (G.2 0, 16, .inl nf)), (so, .inl (G.2 0, 16, .inl sf))])) 0 0 (vA [(M, .inr (4, [.int (nI rf), .ref mt, .int (nI sz), .ref mn, .ref mtr, .ref md, .int (nI ac), .ref mk, .ref mik, .ref na, .ref so])), (mn, .inl (G.2 0, 131, .inl (mr n (nI g) sk mm))), (na, .inl (G.2 0, 16, .inl nf)), (so, .inl (G.2 0, 16, .inl sf))]) := by
  refine Met.go (cc := cX7_about) (maxL := 5) (ret := (some .int)) (by decide) rfl (Nat.le_of_ble_eq_true rfl) ?_
  intro p e s m below meth c ls hx hb hr hml hown hts hlk hP hK hD hS hl
  have hown : s.vm.findClass RX7 = some m.cls := hown
  have hl : lv_has ls 5 [(0, .ref M), (1, .int (nI 5))] := hl
  refine lv_aload_n hx hb dX7_about_0 rfl (lv_at hl 0 rfl) ?_
  refine lv_iload_n hx hb dX7_about_1 rfl (lv_at hl 1 rfl) ?_
  refine lv_i2l (v := (nI 5).toInt64) hx hb dX7_about_2 rfl ?_
  refine lv_lconst (v := 0) hx hb dX7_about_3 rfl ?_
  refine lv_ldc2 (own := RX7) (v := 8) hx hb hown (hts (.constantLong RX7 139 (8)) (by decide +kernel)) dX7_about_4 ?_
  refine cRS (As := [.long ((nI 5).toInt64), .long (0 : Int64), .long (8 : Int64)]) (rest := [.ref M]) (v := .int (zb ((0 : Int64).toInt ≤ ((nI 5).toInt64).toInt ∧ ((nI 5).toInt64).toInt ≤ (8 : Int64).toInt))) ⟨hx, hb, hml, hown, hts⟩ (c_X7_in l G ((nI 5).toInt64) (0 : Int64) (8 : Int64) ) (va_cwS 3 hts gX7_about_X7_in rfl rfl rfl (by decide +kernel) ⟨Nat.le_of_ble_eq_true rfl, Nat.le_of_ble_eq_true rfl⟩) (preS_of hK hP hD [] (by decide) rfl) rfl hl.1 rfl (lv_room (Nat.le_of_ble_eq_true rfl)) dX7_about_7 ⟨Nat.zero_le _, Nat.zero_le _⟩ ?_
  refine bb_eq (tgt := 17) hx hb dX7_about_10 (by decide) (fun c_10 => False.elim (by (rw [i2l_toInt, nI_i (by omega), show (0 : Int64).toInt = 0 from rfl, show (8 : Int64).toInt = 8 from rfl] at c_10; omega))) (fun c_10 => ?_)
  refine lv_iconst (v := nI 0) hx hb dX7_about_13 (by decide) ?_
  refine lv_goto (tgt := 18) hx hb dX7_about_14 (by decide) ?_
  refine cWV (As := [.int (nI 0)]) (rest := []) (st1 := [.int (zb (0 < 0))]) (w3 := [(M, .inr (4, [.int (nI 0), .ref mt, .int (nI sz), .ref mn, .ref mtr, .ref md, .int (nI ac), .ref mk, .ref mik, .ref na, .ref so])), (mn, .inl (G.2 0, 131, .inl (mr n (nI g) sk mm))), (na, .inl (G.2 0, 16, .inl nf)), (so, .inl (G.2 0, 16, .inl sf))]) ⟨hx, hb, hml, hown, hts⟩ (c_X7_refused l G M rf mt sz mn mtr md ac mk mik na so 0 (by first | omega | assumption)) (cwV 1 hts gX7_about_X7_refused rfl rfl rfl (by decide +kernel) ⟨Nat.le_of_ble_eq_true rfl, Nat.le_of_ble_eq_true rfl⟩) (preV_of hK hP hD [0] (by decide) rfl (ci := 4) (q0 := 0) rfl rfl rfl) rfl hl.1 rfl (lv_room (Nat.le_of_ble_eq_true rfl)) dX7_about_18 ⟨Nat.zero_le _, Nat.zero_le _⟩ hP hD hS [0] (by decide) rfl rfl (rfl) rfl (fun H locs hP hD hS => ?_)
  refine bb_eq (tgt := 26) hx hb dX7_about_21 (by decide) (fun c_21 => ?_) (fun c_21 => False.elim (by omega))
  refine lv_aload_n hx hb dX7_about_26 rfl (lv_at hl 0 rfl) ?_
  refine lv_aload_n hx hb dX7_about_27 rfl (lv_at hl 0 rfl) ?_
  refine va_get (D := G.1) (ci := 4) (v := .ref mn) (C := RX7) (T := TX7) (N := 11) hx hb hts in_c_X7_about_5_X7 hown hK.1 hP 0 rfl rfl 3 (by decide) (hts (.fieldLink RX7 13 "FloorPanelsModel" "now" "[I") (by decide +kernel)) (fun _ h9 => h9) rfl dX7_about_28 ?_
  refine cWV (As := [.ref mn]) (rest := []) (st1 := []) (w3 := [(M, .inr (4, [.int (nI 0), .ref mt, .int (nI sz), .ref mn, .ref mtr, .ref md, .int (nI ac), .ref mk, .ref mik, .ref na, .ref so])), (mn, .inl (G.2 0, 131, .inl (mr n (nI g) sk mm))), (na, .inl (G.2 0, 16, .inl (nmA sk (kdm mm) g 0 n nf))), (so, .inl (G.2 0, 16, .inl (soA sk (kdm mm) g 0 n sf)))]) ⟨hx, hb, hml, hown, hts⟩ (c_X7_name l G M 0 mt sz mn mtr md ac mk mik na so mn n g sk mm nf sf (by first | omega | assumption) (by first | omega | assumption) (by first | omega | assumption)) (cwV 1 hts gX7_about_X7_name rfl rfl rfl (by decide +kernel) ⟨Nat.le_of_ble_eq_true rfl, Nat.le_of_ble_eq_true rfl⟩) (preV_of hK hP hD [0, 1, 2, 3] (by decide) rfl (ci := 4) (q0 := 0) rfl rfl rfl) rfl hl.1 rfl (lv_room (Nat.le_of_ble_eq_true rfl)) dX7_about_31 ⟨Nat.zero_le _, Nat.zero_le _⟩ hP hD hS [0, 1, 2, 3] (by decide) rfl rfl (rfl) rfl (fun H locs hP hD hS => ?_)
  refine lv_iconst (v := nI 0) hx hb dX7_about_34 (by decide) ?_
  refine lv_istore_n (lv' := [(2, .int (nI 0)), (0, .ref M), (1, .int (nI 5))]) hx hb dX7_about_35 rfl hl (by decide) rfl (fun ls hl => ?_)
  refine lv_iconst (v := nI 0) hx hb dX7_about_36 (by decide) ?_
  refine lv_istore_n (lv' := [(3, .int (nI 0)), (2, .int (nI 0)), (0, .ref M), (1, .int (nI 5))]) hx hb dX7_about_37 rfl hl (by decide) rfl (fun ls hl => ?_)
  refine lv_iconst (v := nI 0) hx hb dX7_about_38 (by decide) ?_
  refine lv_istore (lv' := [(4, .int (nI 0)), (3, .int (nI 0)), (2, .int (nI 0)), (0, .ref M), (1, .int (nI 5))]) hx hb dX7_about_39 hl (by decide) rfl (fun ls hl => ?_)
  have loop_41 : ∀ (k_ : Nat) (i : Nat) (h_i : i ≤ n) (_ : n - i < k_) (H : Heap) (locs : List Loc) (_ : VP G [(M, .inr (4, [.int (nI 0), .ref mt, .int (nI sz), .ref mn, .ref mtr, .ref md, .int (nI ac), .ref mk, .ref mik, .ref na, .ref so])), (mn, .inl (G.2 0, 131, .inl (mr n (nI g) sk mm))), (na, .inl (G.2 0, 16, .inl (nmA sk (kdm mm) g 0 n nf))), (so, .inl (G.2 0, 16, .inl (soA sk (kdm mm) g 0 n sf)))] H) (_ : va_D (vA [(M, .inr (4, [.int (nI rf), .ref mt, .int (nI sz), .ref mn, .ref mtr, .ref md, .int (nI ac), .ref mk, .ref mik, .ref na, .ref so])), (mn, .inl (G.2 0, 131, .inl (mr n (nI g) sk mm))), (na, .inl (G.2 0, 16, .inl nf)), (so, .inl (G.2 0, 16, .inl sf))]) [(M, .inr (4, [.int (nI 0), .ref mt, .int (nI sz), .ref mn, .ref mtr, .ref md, .int (nI ac), .ref mk, .ref mik, .ref na, .ref so])), (mn, .inl (G.2 0, 131, .inl (mr n (nI g) sk mm))), (na, .inl (G.2 0, 16, .inl (nmA sk (kdm mm) g 0 n nf))), (so, .inl (G.2 0, 16, .inl (soA sk (kdm mm) g 0 n sf)))]) (_ : va_S (vA [(M, .inr (4, [.int (nI rf), .ref mt, .int (nI sz), .ref mn, .ref mtr, .ref md, .int (nI ac), .ref mk, .ref mik, .ref na, .ref so])), (mn, .inl (G.2 0, 131, .inl (mr n (nI g) sk mm))), (na, .inl (G.2 0, 16, .inl nf)), (so, .inl (G.2 0, 16, .inl sf))]) s.heap H locs) (ls : Array Slot), lv_has ls 5 [(4, .int (nI i)), (3, .int (nI (ct (fun x_ => 1 < lk f n x_) i))), (2, .int (nI (ct (fun x_ => f (16 + x_) = -1) i))), (0, .ref M), (1, .int (nI 5))] → W p l e ({ frames := 3, cells := 0, slots := 0, locals := 74 } : Room) s m ([.ref M, .int (nI 5)] : List Value).toArray below meth c H locs 0 0 (MQ below (QW G (some (.int (nI (ct (fun x_ => 1 < lk f n x_) n)))) [(M, .inr (4, [.int (nI 0), .ref mt, .int (nI sz), .ref mn, .ref mtr, .ref md, .int (nI ac), .ref mk, .ref mik, .ref na, .ref so])), (mn, .inl (G.2 0, 131, .inl (mr n (nI g) sk mm))), (na, .inl (G.2 0, 16, .inl (nmA sk (kdm mm) g 0 n nf))), (so, .inl (G.2 0, 16, .inl (soA sk (kdm mm) g 0 n sf)))] (vA [(M, .inr (4, [.int (nI rf), .ref mt, .int (nI sz), .ref mn, .ref mtr, .ref md, .int (nI ac), .ref mk, .ref mik, .ref na, .ref so])), (mn, .inl (G.2 0, 131, .inl (mr n (nI g) sk mm))), (na, .inl (G.2 0, 16, .inl nf)), (so, .inl (G.2 0, 16, .inl sf))])) ([.ref M, .int (nI 5)] : List Value).toArray s 0 0 (vA [(M, .inr (4, [.int (nI rf), .ref mt, .int (nI sz), .ref mn, .ref mtr, .ref md, .int (nI ac), .ref mk, .ref mik, .ref na, .ref so])), (mn, .inl (G.2 0, 131, .inl (mr n (nI g) sk mm))), (na, .inl (G.2 0, 16, .inl nf)), (so, .inl (G.2 0, 16, .inl sf))])) (F0 m 41 ls []) := by
    intro k_
    induction k_ with
    | zero => intro i h_i hk_; exact absurd hk_ (Nat.not_lt_zero _)
    | succ k_ ih_41 =>
      intro i h_i hk_ H locs hP hD hS ls hl
      refine lv_iload hx hb dX7_about_41 (lv_at hl 0 rfl) ?_
      refine lv_aload_n hx hb dX7_about_43 rfl (lv_at hl 3 rfl) ?_
      refine va_get (D := G.1) (ci := 4) (v := .ref mn) (C := RX7) (T := TX7) (N := 11) hx hb hts in_c_X7_about_5_X7 hown hK.1 hP 0 rfl rfl 3 (by decide) (hts (.fieldLink RX7 13 "FloorPanelsModel" "now" "[I") (by decide +kernel)) (fun _ h9 => h9) rfl dX7_about_44 ?_
      refine lv_iconst (v := nI 0) hx hb dX7_about_47 (by decide) ?_
      refine nv_iald hx hb hK hP 1 rfl (by omega) (by decide) dX7_about_48 ?_
      rw [show (mr n (nI g) sk mm) 0 = nI n from mr_0]
      refine bi_ge (tgt := 104) hx hb dX7_about_49 (by decide) (nI_i (by omega)) (nI_i (by omega)) (fun c_49 => ?_) (fun c_49 => ?_)
      ·
        refine lv_iload_n hx hb dX7_about_104 rfl (lv_at hl 4 rfl) ?_
        refine lv_tableIn (off := 72) (tgt := 177) hx hb dX7_about_105 (by decide) (by decide) (by decide) (by decide) ?_
        refine lv_iload_n hx hb dX7_about_177 rfl (lv_at hl 1 rfl) ?_
        exact W_i hx hb hr hlk dX7_about_178 hP hS (by rw [show i = n by omega]) (rfl)
      ·
        have h_lk := lk_le f n i
        have h_c4 := ct_le (fun x_ => f (16 + x_) = -1) i
        have h_c5 := ct_le (fun x_ => 1 < lk f n x_) i
        refine lv_iload_n hx hb dX7_about_52 rfl (lv_at hl 2 rfl) ?_
        refine lv_aload_n hx hb dX7_about_53 rfl (lv_at hl 3 rfl) ?_
        refine va_get (D := G.1) (ci := 4) (v := .ref na) (C := RX7) (T := TX7) (N := 11) hx hb hts in_c_X7_about_5_X7 hown hK.1 hP 0 rfl rfl 9 (by decide) (hts (.fieldLink RX7 29 "FloorPanelsModel" "names" "[I") (by decide +kernel)) (fun _ h9 => h9) rfl dX7_about_54 ?_
        refine lv_iload hx hb dX7_about_57 (lv_at hl 0 rfl) ?_
        refine nv_iald hx hb hK hP 2 rfl (by omega) (by decide) dX7_about_59 ?_
        rw [show (nmA sk (kdm mm) g 0 n nf) i = (f (16 + i)) from h_R.nf (by omega)]
        refine lv_iconst (v := (-1)) hx hb dX7_about_60 (by decide) ?_
        refine lv_icmp_ne (tgt := 68) hx hb dX7_about_61 (by decide) (fun c_61 => ?_) (fun c_61 => ?_)
        ·
          refine lv_iconst (v := nI 0) hx hb dX7_about_68 (by decide) ?_
          refine nv_iadd hx hb dX7_about_69 ?_
          refine lv_istore_n (lv' := [(2, .int (nI ((ct (fun x_ => f (16 + x_) = -1) i) + 0))), (4, .int (nI i)), (3, .int (nI (ct (fun x_ => 1 < lk f n x_) i))), (0, .ref M), (1, .int (nI 5))]) hx hb dX7_about_70 rfl hl (by decide) rfl (fun ls hl => ?_)
          refine lv_iload_n hx hb dX7_about_71 rfl (lv_at hl 2 rfl) ?_
          refine lv_aload_n hx hb dX7_about_72 rfl (lv_at hl 3 rfl) ?_
          refine lv_aload_n hx hb dX7_about_73 rfl (lv_at hl 3 rfl) ?_
          refine va_get (D := G.1) (ci := 4) (v := .ref mn) (C := RX7) (T := TX7) (N := 11) hx hb hts in_c_X7_about_5_X7 hown hK.1 hP 0 rfl rfl 3 (by decide) (hts (.fieldLink RX7 13 "FloorPanelsModel" "now" "[I") (by decide +kernel)) (fun _ h9 => h9) rfl dX7_about_74 ?_
          refine lv_aload_n hx hb dX7_about_77 rfl (lv_at hl 3 rfl) ?_
          refine va_get (D := G.1) (ci := 4) (v := .ref na) (C := RX7) (T := TX7) (N := 11) hx hb hts in_c_X7_about_5_X7 hown hK.1 hP 0 rfl rfl 9 (by decide) (hts (.fieldLink RX7 29 "FloorPanelsModel" "names" "[I") (by decide +kernel)) (fun _ h9 => h9) rfl dX7_about_78 ?_
          refine lv_iload hx hb dX7_about_81 (lv_at hl 1 rfl) ?_
          refine nv_iald hx hb hK hP 2 rfl (by omega) (by decide) dX7_about_83 ?_
          rw [show (nmA sk (kdm mm) g 0 n nf) i = (f (16 + i)) from h_R.nf (by omega)]
          refine cRV (As := [.ref mn, .int (f (16 + i))]) (rest := [.int (nI (ct (fun x_ => 1 < lk f n x_) i))]) (v := .int (nI (ct (fun x_ => ¬ (f (16 + i)) = -1 ∧ (nmA sk (kdm mm) g 0 n nf) x_ = (f (16 + i))) n))) ⟨hx, hb, hml, hown, hts⟩ (c_X7_alike l G M 0 mt sz mn mtr md ac mk mik na so mn n g sk mm (nmA sk (kdm mm) g 0 n nf) (f (16 + i)) (by first | omega | assumption)) (cwV 2 hts gX7_about_X7_alike rfl rfl rfl (by decide +kernel) ⟨Nat.le_of_ble_eq_true rfl, Nat.le_of_ble_eq_true rfl⟩) (preV_of hK hP hD [0, 1, 2] (by decide) rfl (ci := 4) (q0 := 0) rfl rfl rfl) rfl hl.1 rfl (lv_room (Nat.le_of_ble_eq_true rfl)) dX7_about_84 ⟨Nat.zero_le _, Nat.zero_le _⟩ ?_
          rw [show (nI (ct (fun x_ => ¬ (f (16 + i)) = -1 ∧ (nmA sk (kdm mm) g 0 n nf) x_ = (f (16 + i))) n)) = nI (lk f n i) from congrArg nI (lk_A h_R)]
          refine lv_iconst (v := nI 1) hx hb dX7_about_87 (by decide) ?_
          refine bi_le (tgt := 95) hx hb dX7_about_88 (by decide) (nI_i (by omega)) (nI_i (by omega)) (fun c_88 => ?_) (fun c_88 => ?_)
          ·
            refine lv_iconst (v := nI 0) hx hb dX7_about_95 (by decide) ?_
            refine nv_iadd hx hb dX7_about_96 ?_
            refine lv_istore_n (lv' := [(3, .int (nI ((ct (fun x_ => 1 < lk f n x_) i) + 0))), (2, .int (nI ((ct (fun x_ => f (16 + x_) = -1) i) + 0))), (4, .int (nI i)), (0, .ref M), (1, .int (nI 5))]) hx hb dX7_about_97 rfl hl (by decide) rfl (fun ls hl => ?_)
            refine lv_iinc (v := nI (i + 1)) (lv' := [(4, .int (nI (i + 1))), (3, .int (nI ((ct (fun x_ => 1 < lk f n x_) i) + 0))), (2, .int (nI ((ct (fun x_ => f (16 + x_) = -1) i) + 0))), (0, .ref M), (1, .int (nI 5))]) hx hb dX7_about_98 hl (k := 2) rfl (inc_n _ 1) (by decide) rfl (fun ls hl => ?_)
            refine lv_goto (tgt := 41) hx hb dX7_about_101 (by decide) ?_
            exact ih_41 (i + 1) (by first | omega | assumption) (by omega) _ _ hP hD hS ls (lv_sub hl [0, 1, 2, 3, 4] (by first | (rw [ct_t (p := fun x_ => f (16 + x_) = -1) (by assumption), ct_t (p := fun x_ => 1 < lk f n x_) (by omega)]; rfl) | (rw [ct_t (p := fun x_ => f (16 + x_) = -1) (by assumption), ct_f (p := fun x_ => 1 < lk f n x_) (by omega)]; rfl) | (rw [ct_f (p := fun x_ => f (16 + x_) = -1) (by assumption), ct_t (p := fun x_ => 1 < lk f n x_) (by omega)]; rfl) | (rw [ct_f (p := fun x_ => f (16 + x_) = -1) (by assumption), ct_f (p := fun x_ => 1 < lk f n x_) (by omega)]; rfl)))
          ·
            refine lv_iconst (v := nI 1) hx hb dX7_about_91 (by decide) ?_
            refine lv_goto (tgt := 96) hx hb dX7_about_92 (by decide) ?_
            refine nv_iadd hx hb dX7_about_96 ?_
            refine lv_istore_n (lv' := [(3, .int (nI ((ct (fun x_ => 1 < lk f n x_) i) + 1))), (2, .int (nI ((ct (fun x_ => f (16 + x_) = -1) i) + 0))), (4, .int (nI i)), (0, .ref M), (1, .int (nI 5))]) hx hb dX7_about_97 rfl hl (by decide) rfl (fun ls hl => ?_)
            refine lv_iinc (v := nI (i + 1)) (lv' := [(4, .int (nI (i + 1))), (3, .int (nI ((ct (fun x_ => 1 < lk f n x_) i) + 1))), (2, .int (nI ((ct (fun x_ => f (16 + x_) = -1) i) + 0))), (0, .ref M), (1, .int (nI 5))]) hx hb dX7_about_98 hl (k := 2) rfl (inc_n _ 1) (by decide) rfl (fun ls hl => ?_)
            refine lv_goto (tgt := 41) hx hb dX7_about_101 (by decide) ?_
            exact ih_41 (i + 1) (by first | omega | assumption) (by omega) _ _ hP hD hS ls (lv_sub hl [0, 1, 2, 3, 4] (by first | (rw [ct_t (p := fun x_ => f (16 + x_) = -1) (by assumption), ct_t (p := fun x_ => 1 < lk f n x_) (by omega)]; rfl) | (rw [ct_t (p := fun x_ => f (16 + x_) = -1) (by assumption), ct_f (p := fun x_ => 1 < lk f n x_) (by omega)]; rfl) | (rw [ct_f (p := fun x_ => f (16 + x_) = -1) (by assumption), ct_t (p := fun x_ => 1 < lk f n x_) (by omega)]; rfl) | (rw [ct_f (p := fun x_ => f (16 + x_) = -1) (by assumption), ct_f (p := fun x_ => 1 < lk f n x_) (by omega)]; rfl)))
        ·
          refine lv_iconst (v := nI 1) hx hb dX7_about_64 (by decide) ?_
          refine lv_goto (tgt := 69) hx hb dX7_about_65 (by decide) ?_
          refine nv_iadd hx hb dX7_about_69 ?_
          refine lv_istore_n (lv' := [(2, .int (nI ((ct (fun x_ => f (16 + x_) = -1) i) + 1))), (4, .int (nI i)), (3, .int (nI (ct (fun x_ => 1 < lk f n x_) i))), (0, .ref M), (1, .int (nI 5))]) hx hb dX7_about_70 rfl hl (by decide) rfl (fun ls hl => ?_)
          refine lv_iload_n hx hb dX7_about_71 rfl (lv_at hl 2 rfl) ?_
          refine lv_aload_n hx hb dX7_about_72 rfl (lv_at hl 3 rfl) ?_
          refine lv_aload_n hx hb dX7_about_73 rfl (lv_at hl 3 rfl) ?_
          refine va_get (D := G.1) (ci := 4) (v := .ref mn) (C := RX7) (T := TX7) (N := 11) hx hb hts in_c_X7_about_5_X7 hown hK.1 hP 0 rfl rfl 3 (by decide) (hts (.fieldLink RX7 13 "FloorPanelsModel" "now" "[I") (by decide +kernel)) (fun _ h9 => h9) rfl dX7_about_74 ?_
          refine lv_aload_n hx hb dX7_about_77 rfl (lv_at hl 3 rfl) ?_
          refine va_get (D := G.1) (ci := 4) (v := .ref na) (C := RX7) (T := TX7) (N := 11) hx hb hts in_c_X7_about_5_X7 hown hK.1 hP 0 rfl rfl 9 (by decide) (hts (.fieldLink RX7 29 "FloorPanelsModel" "names" "[I") (by decide +kernel)) (fun _ h9 => h9) rfl dX7_about_78 ?_
          refine lv_iload hx hb dX7_about_81 (lv_at hl 1 rfl) ?_
          refine nv_iald hx hb hK hP 2 rfl (by omega) (by decide) dX7_about_83 ?_
          rw [show (nmA sk (kdm mm) g 0 n nf) i = (f (16 + i)) from h_R.nf (by omega)]
          refine cRV (As := [.ref mn, .int (f (16 + i))]) (rest := [.int (nI (ct (fun x_ => 1 < lk f n x_) i))]) (v := .int (nI (ct (fun x_ => ¬ (f (16 + i)) = -1 ∧ (nmA sk (kdm mm) g 0 n nf) x_ = (f (16 + i))) n))) ⟨hx, hb, hml, hown, hts⟩ (c_X7_alike l G M 0 mt sz mn mtr md ac mk mik na so mn n g sk mm (nmA sk (kdm mm) g 0 n nf) (f (16 + i)) (by first | omega | assumption)) (cwV 2 hts gX7_about_X7_alike rfl rfl rfl (by decide +kernel) ⟨Nat.le_of_ble_eq_true rfl, Nat.le_of_ble_eq_true rfl⟩) (preV_of hK hP hD [0, 1, 2] (by decide) rfl (ci := 4) (q0 := 0) rfl rfl rfl) rfl hl.1 rfl (lv_room (Nat.le_of_ble_eq_true rfl)) dX7_about_84 ⟨Nat.zero_le _, Nat.zero_le _⟩ ?_
          rw [show (nI (ct (fun x_ => ¬ (f (16 + i)) = -1 ∧ (nmA sk (kdm mm) g 0 n nf) x_ = (f (16 + i))) n)) = nI (lk f n i) from congrArg nI (lk_A h_R)]
          refine lv_iconst (v := nI 1) hx hb dX7_about_87 (by decide) ?_
          refine bi_le (tgt := 95) hx hb dX7_about_88 (by decide) (nI_i (by omega)) (nI_i (by omega)) (fun c_88 => ?_) (fun c_88 => ?_)
          ·
            refine lv_iconst (v := nI 0) hx hb dX7_about_95 (by decide) ?_
            refine nv_iadd hx hb dX7_about_96 ?_
            refine lv_istore_n (lv' := [(3, .int (nI ((ct (fun x_ => 1 < lk f n x_) i) + 0))), (2, .int (nI ((ct (fun x_ => f (16 + x_) = -1) i) + 1))), (4, .int (nI i)), (0, .ref M), (1, .int (nI 5))]) hx hb dX7_about_97 rfl hl (by decide) rfl (fun ls hl => ?_)
            refine lv_iinc (v := nI (i + 1)) (lv' := [(4, .int (nI (i + 1))), (3, .int (nI ((ct (fun x_ => 1 < lk f n x_) i) + 0))), (2, .int (nI ((ct (fun x_ => f (16 + x_) = -1) i) + 1))), (0, .ref M), (1, .int (nI 5))]) hx hb dX7_about_98 hl (k := 2) rfl (inc_n _ 1) (by decide) rfl (fun ls hl => ?_)
            refine lv_goto (tgt := 41) hx hb dX7_about_101 (by decide) ?_
            exact ih_41 (i + 1) (by first | omega | assumption) (by omega) _ _ hP hD hS ls (lv_sub hl [0, 1, 2, 3, 4] (by first | (rw [ct_t (p := fun x_ => f (16 + x_) = -1) (by assumption), ct_t (p := fun x_ => 1 < lk f n x_) (by omega)]; rfl) | (rw [ct_t (p := fun x_ => f (16 + x_) = -1) (by assumption), ct_f (p := fun x_ => 1 < lk f n x_) (by omega)]; rfl) | (rw [ct_f (p := fun x_ => f (16 + x_) = -1) (by assumption), ct_t (p := fun x_ => 1 < lk f n x_) (by omega)]; rfl) | (rw [ct_f (p := fun x_ => f (16 + x_) = -1) (by assumption), ct_f (p := fun x_ => 1 < lk f n x_) (by omega)]; rfl)))
          ·
            refine lv_iconst (v := nI 1) hx hb dX7_about_91 (by decide) ?_
            refine lv_goto (tgt := 96) hx hb dX7_about_92 (by decide) ?_
            refine nv_iadd hx hb dX7_about_96 ?_
            refine lv_istore_n (lv' := [(3, .int (nI ((ct (fun x_ => 1 < lk f n x_) i) + 1))), (2, .int (nI ((ct (fun x_ => f (16 + x_) = -1) i) + 1))), (4, .int (nI i)), (0, .ref M), (1, .int (nI 5))]) hx hb dX7_about_97 rfl hl (by decide) rfl (fun ls hl => ?_)
            refine lv_iinc (v := nI (i + 1)) (lv' := [(4, .int (nI (i + 1))), (3, .int (nI ((ct (fun x_ => 1 < lk f n x_) i) + 1))), (2, .int (nI ((ct (fun x_ => f (16 + x_) = -1) i) + 1))), (0, .ref M), (1, .int (nI 5))]) hx hb dX7_about_98 hl (k := 2) rfl (inc_n _ 1) (by decide) rfl (fun ls hl => ?_)
            refine lv_goto (tgt := 41) hx hb dX7_about_101 (by decide) ?_
            exact ih_41 (i + 1) (by first | omega | assumption) (by omega) _ _ hP hD hS ls (lv_sub hl [0, 1, 2, 3, 4] (by first | (rw [ct_t (p := fun x_ => f (16 + x_) = -1) (by assumption), ct_t (p := fun x_ => 1 < lk f n x_) (by omega)]; rfl) | (rw [ct_t (p := fun x_ => f (16 + x_) = -1) (by assumption), ct_f (p := fun x_ => 1 < lk f n x_) (by omega)]; rfl) | (rw [ct_f (p := fun x_ => f (16 + x_) = -1) (by assumption), ct_t (p := fun x_ => 1 < lk f n x_) (by omega)]; rfl) | (rw [ct_f (p := fun x_ => f (16 + x_) = -1) (by assumption), ct_f (p := fun x_ => 1 < lk f n x_) (by omega)]; rfl)))
  exact loop_41 (n - 0 + 1) 0 (by first | omega | assumption) (Nat.lt_succ_self _) _ _ hP hD hS ls (lv_sub hl [0, 1, 2, 3, 4] (by rfl))

theorem in_c_X7_about_6_X7 : ∀ w ∈ wsX70, w ∈ wsX7_about := by decide +kernel
set_option maxHeartbeats 4000000 in
set_option maxRecDepth 100000 in
theorem c_X7_about_6 (l : Launch) (G : GG) (M : Nat) (rf : Nat) (mt : Nat) (sz : Nat) (mn : Nat) (mtr : Nat) (md : Nat) (ac : Nat) (mk : Nat) (mik : Nat) (na : Nat) (so : Nat) (n : Nat) (g : Nat) (sk : Int32) (mm : Nat → Int32) (nf : Nat → Int32) (sf : Nat → Int32) (f : Nat → Int32) (h_n : n ≤ 16) (h_n1 : 1 ≤ n) (h_g : g < n) (h_k : mm (3 + g) = 0) (h_R : MRel n sk g f mm) : Met l yX7_about wsX7_about ({ frames := 3, cells := 0, slots := 0, locals := 74 } : Room) (va_Pc [.ref M, .int (nI 6)] (PB G [(M, .inr (4, [.int (nI rf), .ref mt, .int (nI sz), .ref mn, .ref mtr, .ref md, .int (nI ac), .ref mk, .ref mik, .ref na, .ref so])), (mn, .inl (G.2 0, 131, .inl (mr n (nI g) sk mm))), (na, .inl (G.2 0, 16, .inl nf)), (so, .inl (G.2 0, 16, .inl sf))])) (QW G (some (.int (nI (ct (fun x_ => 1 ≤ x_ ∧ bt sk x_ = true) 31)))) [(M, .inr (4, [.int (nI 0), .ref mt, .int (nI sz), .ref mn, .ref mtr, .ref md, .int (nI ac), .ref mk, .ref mik, .ref na, .ref so])), (mn, .inl (G.2 0, 131, .inl (mr n (nI g) sk mm))), (na, .inl (G.2 0, 16, .inl (nmA sk (kdm mm) g 0 n nf))), (so, .inl (G.2 0, 16, .inl (soA sk (kdm mm) g 0 n sf)))] (vA [(M, .inr (4, [.int (nI rf), .ref mt, .int (nI sz), .ref mn, .ref mtr, .ref md, .int (nI ac), .ref mk, .ref mik, .ref na, .ref so])), (mn, .inl (G.2 0, 131, .inl (mr n (nI g) sk mm))), (na, .inl (G.2 0, 16, .inl nf)), (so, .inl (G.2 0, 16, .inl sf))])) 0 0 (vA [(M, .inr (4, [.int (nI rf), .ref mt, .int (nI sz), .ref mn, .ref mtr, .ref md, .int (nI ac), .ref mk, .ref mik, .ref na, .ref so])), (mn, .inl (G.2 0, 131, .inl (mr n (nI g) sk mm))), (na, .inl (G.2 0, 16, .inl nf)), (so, .inl (G.2 0, 16, .inl sf))]) := by
  refine Met.go (cc := cX7_about) (maxL := 5) (ret := (some .int)) (by decide) rfl (Nat.le_of_ble_eq_true rfl) ?_
  intro p e s m below meth c ls hx hb hr hml hown hts hlk hP hK hD hS hl
  have hown : s.vm.findClass RX7 = some m.cls := hown
  have hl : lv_has ls 5 [(0, .ref M), (1, .int (nI 6))] := hl
  refine lv_aload_n hx hb dX7_about_0 rfl (lv_at hl 0 rfl) ?_
  refine lv_iload_n hx hb dX7_about_1 rfl (lv_at hl 1 rfl) ?_
  refine lv_i2l (v := (nI 6).toInt64) hx hb dX7_about_2 rfl ?_
  refine lv_lconst (v := 0) hx hb dX7_about_3 rfl ?_
  refine lv_ldc2 (own := RX7) (v := 8) hx hb hown (hts (.constantLong RX7 139 (8)) (by decide +kernel)) dX7_about_4 ?_
  refine cRS (As := [.long ((nI 6).toInt64), .long (0 : Int64), .long (8 : Int64)]) (rest := [.ref M]) (v := .int (zb ((0 : Int64).toInt ≤ ((nI 6).toInt64).toInt ∧ ((nI 6).toInt64).toInt ≤ (8 : Int64).toInt))) ⟨hx, hb, hml, hown, hts⟩ (c_X7_in l G ((nI 6).toInt64) (0 : Int64) (8 : Int64) ) (va_cwS 3 hts gX7_about_X7_in rfl rfl rfl (by decide +kernel) ⟨Nat.le_of_ble_eq_true rfl, Nat.le_of_ble_eq_true rfl⟩) (preS_of hK hP hD [] (by decide) rfl) rfl hl.1 rfl (lv_room (Nat.le_of_ble_eq_true rfl)) dX7_about_7 ⟨Nat.zero_le _, Nat.zero_le _⟩ ?_
  refine bb_eq (tgt := 17) hx hb dX7_about_10 (by decide) (fun c_10 => False.elim (by (rw [i2l_toInt, nI_i (by omega), show (0 : Int64).toInt = 0 from rfl, show (8 : Int64).toInt = 8 from rfl] at c_10; omega))) (fun c_10 => ?_)
  refine lv_iconst (v := nI 0) hx hb dX7_about_13 (by decide) ?_
  refine lv_goto (tgt := 18) hx hb dX7_about_14 (by decide) ?_
  refine cWV (As := [.int (nI 0)]) (rest := []) (st1 := [.int (zb (0 < 0))]) (w3 := [(M, .inr (4, [.int (nI 0), .ref mt, .int (nI sz), .ref mn, .ref mtr, .ref md, .int (nI ac), .ref mk, .ref mik, .ref na, .ref so])), (mn, .inl (G.2 0, 131, .inl (mr n (nI g) sk mm))), (na, .inl (G.2 0, 16, .inl nf)), (so, .inl (G.2 0, 16, .inl sf))]) ⟨hx, hb, hml, hown, hts⟩ (c_X7_refused l G M rf mt sz mn mtr md ac mk mik na so 0 (by first | omega | assumption)) (cwV 1 hts gX7_about_X7_refused rfl rfl rfl (by decide +kernel) ⟨Nat.le_of_ble_eq_true rfl, Nat.le_of_ble_eq_true rfl⟩) (preV_of hK hP hD [0] (by decide) rfl (ci := 4) (q0 := 0) rfl rfl rfl) rfl hl.1 rfl (lv_room (Nat.le_of_ble_eq_true rfl)) dX7_about_18 ⟨Nat.zero_le _, Nat.zero_le _⟩ hP hD hS [0] (by decide) rfl rfl (rfl) rfl (fun H locs hP hD hS => ?_)
  refine bb_eq (tgt := 26) hx hb dX7_about_21 (by decide) (fun c_21 => ?_) (fun c_21 => False.elim (by omega))
  refine lv_aload_n hx hb dX7_about_26 rfl (lv_at hl 0 rfl) ?_
  refine lv_aload_n hx hb dX7_about_27 rfl (lv_at hl 0 rfl) ?_
  refine va_get (D := G.1) (ci := 4) (v := .ref mn) (C := RX7) (T := TX7) (N := 11) hx hb hts in_c_X7_about_6_X7 hown hK.1 hP 0 rfl rfl 3 (by decide) (hts (.fieldLink RX7 13 "FloorPanelsModel" "now" "[I") (by decide +kernel)) (fun _ h9 => h9) rfl dX7_about_28 ?_
  refine cWV (As := [.ref mn]) (rest := []) (st1 := []) (w3 := [(M, .inr (4, [.int (nI 0), .ref mt, .int (nI sz), .ref mn, .ref mtr, .ref md, .int (nI ac), .ref mk, .ref mik, .ref na, .ref so])), (mn, .inl (G.2 0, 131, .inl (mr n (nI g) sk mm))), (na, .inl (G.2 0, 16, .inl (nmA sk (kdm mm) g 0 n nf))), (so, .inl (G.2 0, 16, .inl (soA sk (kdm mm) g 0 n sf)))]) ⟨hx, hb, hml, hown, hts⟩ (c_X7_name l G M 0 mt sz mn mtr md ac mk mik na so mn n g sk mm nf sf (by first | omega | assumption) (by first | omega | assumption) (by first | omega | assumption)) (cwV 1 hts gX7_about_X7_name rfl rfl rfl (by decide +kernel) ⟨Nat.le_of_ble_eq_true rfl, Nat.le_of_ble_eq_true rfl⟩) (preV_of hK hP hD [0, 1, 2, 3] (by decide) rfl (ci := 4) (q0 := 0) rfl rfl rfl) rfl hl.1 rfl (lv_room (Nat.le_of_ble_eq_true rfl)) dX7_about_31 ⟨Nat.zero_le _, Nat.zero_le _⟩ hP hD hS [0, 1, 2, 3] (by decide) rfl rfl (rfl) rfl (fun H locs hP hD hS => ?_)
  refine lv_iconst (v := nI 0) hx hb dX7_about_34 (by decide) ?_
  refine lv_istore_n (lv' := [(2, .int (nI 0)), (0, .ref M), (1, .int (nI 6))]) hx hb dX7_about_35 rfl hl (by decide) rfl (fun ls hl => ?_)
  refine lv_iconst (v := nI 0) hx hb dX7_about_36 (by decide) ?_
  refine lv_istore_n (lv' := [(3, .int (nI 0)), (2, .int (nI 0)), (0, .ref M), (1, .int (nI 6))]) hx hb dX7_about_37 rfl hl (by decide) rfl (fun ls hl => ?_)
  refine lv_iconst (v := nI 0) hx hb dX7_about_38 (by decide) ?_
  refine lv_istore (lv' := [(4, .int (nI 0)), (3, .int (nI 0)), (2, .int (nI 0)), (0, .ref M), (1, .int (nI 6))]) hx hb dX7_about_39 hl (by decide) rfl (fun ls hl => ?_)
  have loop_41 : ∀ (k_ : Nat) (i : Nat) (h_i : i ≤ n) (_ : n - i < k_) (H : Heap) (locs : List Loc) (_ : VP G [(M, .inr (4, [.int (nI 0), .ref mt, .int (nI sz), .ref mn, .ref mtr, .ref md, .int (nI ac), .ref mk, .ref mik, .ref na, .ref so])), (mn, .inl (G.2 0, 131, .inl (mr n (nI g) sk mm))), (na, .inl (G.2 0, 16, .inl (nmA sk (kdm mm) g 0 n nf))), (so, .inl (G.2 0, 16, .inl (soA sk (kdm mm) g 0 n sf)))] H) (_ : va_D (vA [(M, .inr (4, [.int (nI rf), .ref mt, .int (nI sz), .ref mn, .ref mtr, .ref md, .int (nI ac), .ref mk, .ref mik, .ref na, .ref so])), (mn, .inl (G.2 0, 131, .inl (mr n (nI g) sk mm))), (na, .inl (G.2 0, 16, .inl nf)), (so, .inl (G.2 0, 16, .inl sf))]) [(M, .inr (4, [.int (nI 0), .ref mt, .int (nI sz), .ref mn, .ref mtr, .ref md, .int (nI ac), .ref mk, .ref mik, .ref na, .ref so])), (mn, .inl (G.2 0, 131, .inl (mr n (nI g) sk mm))), (na, .inl (G.2 0, 16, .inl (nmA sk (kdm mm) g 0 n nf))), (so, .inl (G.2 0, 16, .inl (soA sk (kdm mm) g 0 n sf)))]) (_ : va_S (vA [(M, .inr (4, [.int (nI rf), .ref mt, .int (nI sz), .ref mn, .ref mtr, .ref md, .int (nI ac), .ref mk, .ref mik, .ref na, .ref so])), (mn, .inl (G.2 0, 131, .inl (mr n (nI g) sk mm))), (na, .inl (G.2 0, 16, .inl nf)), (so, .inl (G.2 0, 16, .inl sf))]) s.heap H locs) (ls : Array Slot), lv_has ls 5 [(4, .int (nI i)), (3, .int (nI (ct (fun x_ => 1 < lk f n x_) i))), (2, .int (nI (ct (fun x_ => f (16 + x_) = -1) i))), (0, .ref M), (1, .int (nI 6))] → W p l e ({ frames := 3, cells := 0, slots := 0, locals := 74 } : Room) s m ([.ref M, .int (nI 6)] : List Value).toArray below meth c H locs 0 0 (MQ below (QW G (some (.int (nI (ct (fun x_ => 1 ≤ x_ ∧ bt sk x_ = true) 31)))) [(M, .inr (4, [.int (nI 0), .ref mt, .int (nI sz), .ref mn, .ref mtr, .ref md, .int (nI ac), .ref mk, .ref mik, .ref na, .ref so])), (mn, .inl (G.2 0, 131, .inl (mr n (nI g) sk mm))), (na, .inl (G.2 0, 16, .inl (nmA sk (kdm mm) g 0 n nf))), (so, .inl (G.2 0, 16, .inl (soA sk (kdm mm) g 0 n sf)))] (vA [(M, .inr (4, [.int (nI rf), .ref mt, .int (nI sz), .ref mn, .ref mtr, .ref md, .int (nI ac), .ref mk, .ref mik, .ref na, .ref so])), (mn, .inl (G.2 0, 131, .inl (mr n (nI g) sk mm))), (na, .inl (G.2 0, 16, .inl nf)), (so, .inl (G.2 0, 16, .inl sf))])) ([.ref M, .int (nI 6)] : List Value).toArray s 0 0 (vA [(M, .inr (4, [.int (nI rf), .ref mt, .int (nI sz), .ref mn, .ref mtr, .ref md, .int (nI ac), .ref mk, .ref mik, .ref na, .ref so])), (mn, .inl (G.2 0, 131, .inl (mr n (nI g) sk mm))), (na, .inl (G.2 0, 16, .inl nf)), (so, .inl (G.2 0, 16, .inl sf))])) (F0 m 41 ls []) := by
    intro k_
    induction k_ with
    | zero => intro i h_i hk_; exact absurd hk_ (Nat.not_lt_zero _)
    | succ k_ ih_41 =>
      intro i h_i hk_ H locs hP hD hS ls hl
      refine lv_iload hx hb dX7_about_41 (lv_at hl 0 rfl) ?_
      refine lv_aload_n hx hb dX7_about_43 rfl (lv_at hl 3 rfl) ?_
      refine va_get (D := G.1) (ci := 4) (v := .ref mn) (C := RX7) (T := TX7) (N := 11) hx hb hts in_c_X7_about_6_X7 hown hK.1 hP 0 rfl rfl 3 (by decide) (hts (.fieldLink RX7 13 "FloorPanelsModel" "now" "[I") (by decide +kernel)) (fun _ h9 => h9) rfl dX7_about_44 ?_
      refine lv_iconst (v := nI 0) hx hb dX7_about_47 (by decide) ?_
      refine nv_iald hx hb hK hP 1 rfl (by omega) (by decide) dX7_about_48 ?_
      rw [show (mr n (nI g) sk mm) 0 = nI n from mr_0]
      refine bi_ge (tgt := 104) hx hb dX7_about_49 (by decide) (nI_i (by omega)) (nI_i (by omega)) (fun c_49 => ?_) (fun c_49 => ?_)
      ·
        refine lv_iload_n hx hb dX7_about_104 rfl (lv_at hl 4 rfl) ?_
        refine lv_tableIn (off := 74) (tgt := 179) hx hb dX7_about_105 (by decide) (by decide) (by decide) (by decide) ?_
        refine lv_aload_n hx hb dX7_about_179 rfl (lv_at hl 3 rfl) ?_
        refine va_get (D := G.1) (ci := 4) (v := .ref mn) (C := RX7) (T := TX7) (N := 11) hx hb hts in_c_X7_about_6_X7 hown hK.1 hP 0 rfl rfl 3 (by decide) (hts (.fieldLink RX7 13 "FloorPanelsModel" "now" "[I") (by decide +kernel)) (fun _ h9 => h9) rfl dX7_about_180 ?_
        refine cRS (As := [.ref mn]) (rest := []) (v := .int (nI (ct (fun x_ => 1 ≤ x_ ∧ bt sk x_ = true) 31))) ⟨hx, hb, hml, hown, hts⟩ (c_X7_skippedMany l G mn n g sk mm ) (va_cwS 1 hts gX7_about_X7_skippedMany rfl rfl rfl (by decide +kernel) ⟨Nat.le_of_ble_eq_true rfl, Nat.le_of_ble_eq_true rfl⟩) (preS_of hK hP hD [1] (by decide) rfl) rfl hl.1 rfl (lv_room (Nat.le_of_ble_eq_true rfl)) dX7_about_183 ⟨Nat.zero_le _, Nat.zero_le _⟩ ?_
        exact W_i hx hb hr hlk dX7_about_186 hP hS (rfl) (rfl)
      ·
        have h_lk := lk_le f n i
        have h_c4 := ct_le (fun x_ => f (16 + x_) = -1) i
        have h_c5 := ct_le (fun x_ => 1 < lk f n x_) i
        refine lv_iload_n hx hb dX7_about_52 rfl (lv_at hl 2 rfl) ?_
        refine lv_aload_n hx hb dX7_about_53 rfl (lv_at hl 3 rfl) ?_
        refine va_get (D := G.1) (ci := 4) (v := .ref na) (C := RX7) (T := TX7) (N := 11) hx hb hts in_c_X7_about_6_X7 hown hK.1 hP 0 rfl rfl 9 (by decide) (hts (.fieldLink RX7 29 "FloorPanelsModel" "names" "[I") (by decide +kernel)) (fun _ h9 => h9) rfl dX7_about_54 ?_
        refine lv_iload hx hb dX7_about_57 (lv_at hl 0 rfl) ?_
        refine nv_iald hx hb hK hP 2 rfl (by omega) (by decide) dX7_about_59 ?_
        rw [show (nmA sk (kdm mm) g 0 n nf) i = (f (16 + i)) from h_R.nf (by omega)]
        refine lv_iconst (v := (-1)) hx hb dX7_about_60 (by decide) ?_
        refine lv_icmp_ne (tgt := 68) hx hb dX7_about_61 (by decide) (fun c_61 => ?_) (fun c_61 => ?_)
        ·
          refine lv_iconst (v := nI 0) hx hb dX7_about_68 (by decide) ?_
          refine nv_iadd hx hb dX7_about_69 ?_
          refine lv_istore_n (lv' := [(2, .int (nI ((ct (fun x_ => f (16 + x_) = -1) i) + 0))), (4, .int (nI i)), (3, .int (nI (ct (fun x_ => 1 < lk f n x_) i))), (0, .ref M), (1, .int (nI 6))]) hx hb dX7_about_70 rfl hl (by decide) rfl (fun ls hl => ?_)
          refine lv_iload_n hx hb dX7_about_71 rfl (lv_at hl 2 rfl) ?_
          refine lv_aload_n hx hb dX7_about_72 rfl (lv_at hl 3 rfl) ?_
          refine lv_aload_n hx hb dX7_about_73 rfl (lv_at hl 3 rfl) ?_
          refine va_get (D := G.1) (ci := 4) (v := .ref mn) (C := RX7) (T := TX7) (N := 11) hx hb hts in_c_X7_about_6_X7 hown hK.1 hP 0 rfl rfl 3 (by decide) (hts (.fieldLink RX7 13 "FloorPanelsModel" "now" "[I") (by decide +kernel)) (fun _ h9 => h9) rfl dX7_about_74 ?_
          refine lv_aload_n hx hb dX7_about_77 rfl (lv_at hl 3 rfl) ?_
          refine va_get (D := G.1) (ci := 4) (v := .ref na) (C := RX7) (T := TX7) (N := 11) hx hb hts in_c_X7_about_6_X7 hown hK.1 hP 0 rfl rfl 9 (by decide) (hts (.fieldLink RX7 29 "FloorPanelsModel" "names" "[I") (by decide +kernel)) (fun _ h9 => h9) rfl dX7_about_78 ?_
          refine lv_iload hx hb dX7_about_81 (lv_at hl 1 rfl) ?_
          refine nv_iald hx hb hK hP 2 rfl (by omega) (by decide) dX7_about_83 ?_
          rw [show (nmA sk (kdm mm) g 0 n nf) i = (f (16 + i)) from h_R.nf (by omega)]
          refine cRV (As := [.ref mn, .int (f (16 + i))]) (rest := [.int (nI (ct (fun x_ => 1 < lk f n x_) i))]) (v := .int (nI (ct (fun x_ => ¬ (f (16 + i)) = -1 ∧ (nmA sk (kdm mm) g 0 n nf) x_ = (f (16 + i))) n))) ⟨hx, hb, hml, hown, hts⟩ (c_X7_alike l G M 0 mt sz mn mtr md ac mk mik na so mn n g sk mm (nmA sk (kdm mm) g 0 n nf) (f (16 + i)) (by first | omega | assumption)) (cwV 2 hts gX7_about_X7_alike rfl rfl rfl (by decide +kernel) ⟨Nat.le_of_ble_eq_true rfl, Nat.le_of_ble_eq_true rfl⟩) (preV_of hK hP hD [0, 1, 2] (by decide) rfl (ci := 4) (q0 := 0) rfl rfl rfl) rfl hl.1 rfl (lv_room (Nat.le_of_ble_eq_true rfl)) dX7_about_84 ⟨Nat.zero_le _, Nat.zero_le _⟩ ?_
          rw [show (nI (ct (fun x_ => ¬ (f (16 + i)) = -1 ∧ (nmA sk (kdm mm) g 0 n nf) x_ = (f (16 + i))) n)) = nI (lk f n i) from congrArg nI (lk_A h_R)]
          refine lv_iconst (v := nI 1) hx hb dX7_about_87 (by decide) ?_
          refine bi_le (tgt := 95) hx hb dX7_about_88 (by decide) (nI_i (by omega)) (nI_i (by omega)) (fun c_88 => ?_) (fun c_88 => ?_)
          ·
            refine lv_iconst (v := nI 0) hx hb dX7_about_95 (by decide) ?_
            refine nv_iadd hx hb dX7_about_96 ?_
            refine lv_istore_n (lv' := [(3, .int (nI ((ct (fun x_ => 1 < lk f n x_) i) + 0))), (2, .int (nI ((ct (fun x_ => f (16 + x_) = -1) i) + 0))), (4, .int (nI i)), (0, .ref M), (1, .int (nI 6))]) hx hb dX7_about_97 rfl hl (by decide) rfl (fun ls hl => ?_)
            refine lv_iinc (v := nI (i + 1)) (lv' := [(4, .int (nI (i + 1))), (3, .int (nI ((ct (fun x_ => 1 < lk f n x_) i) + 0))), (2, .int (nI ((ct (fun x_ => f (16 + x_) = -1) i) + 0))), (0, .ref M), (1, .int (nI 6))]) hx hb dX7_about_98 hl (k := 2) rfl (inc_n _ 1) (by decide) rfl (fun ls hl => ?_)
            refine lv_goto (tgt := 41) hx hb dX7_about_101 (by decide) ?_
            exact ih_41 (i + 1) (by first | omega | assumption) (by omega) _ _ hP hD hS ls (lv_sub hl [0, 1, 2, 3, 4] (by first | (rw [ct_t (p := fun x_ => f (16 + x_) = -1) (by assumption), ct_t (p := fun x_ => 1 < lk f n x_) (by omega)]; rfl) | (rw [ct_t (p := fun x_ => f (16 + x_) = -1) (by assumption), ct_f (p := fun x_ => 1 < lk f n x_) (by omega)]; rfl) | (rw [ct_f (p := fun x_ => f (16 + x_) = -1) (by assumption), ct_t (p := fun x_ => 1 < lk f n x_) (by omega)]; rfl) | (rw [ct_f (p := fun x_ => f (16 + x_) = -1) (by assumption), ct_f (p := fun x_ => 1 < lk f n x_) (by omega)]; rfl)))
          ·
            refine lv_iconst (v := nI 1) hx hb dX7_about_91 (by decide) ?_
            refine lv_goto (tgt := 96) hx hb dX7_about_92 (by decide) ?_
            refine nv_iadd hx hb dX7_about_96 ?_
            refine lv_istore_n (lv' := [(3, .int (nI ((ct (fun x_ => 1 < lk f n x_) i) + 1))), (2, .int (nI ((ct (fun x_ => f (16 + x_) = -1) i) + 0))), (4, .int (nI i)), (0, .ref M), (1, .int (nI 6))]) hx hb dX7_about_97 rfl hl (by decide) rfl (fun ls hl => ?_)
            refine lv_iinc (v := nI (i + 1)) (lv' := [(4, .int (nI (i + 1))), (3, .int (nI ((ct (fun x_ => 1 < lk f n x_) i) + 1))), (2, .int (nI ((ct (fun x_ => f (16 + x_) = -1) i) + 0))), (0, .ref M), (1, .int (nI 6))]) hx hb dX7_about_98 hl (k := 2) rfl (inc_n _ 1) (by decide) rfl (fun ls hl => ?_)
            refine lv_goto (tgt := 41) hx hb dX7_about_101 (by decide) ?_
            exact ih_41 (i + 1) (by first | omega | assumption) (by omega) _ _ hP hD hS ls (lv_sub hl [0, 1, 2, 3, 4] (by first | (rw [ct_t (p := fun x_ => f (16 + x_) = -1) (by assumption), ct_t (p := fun x_ => 1 < lk f n x_) (by omega)]; rfl) | (rw [ct_t (p := fun x_ => f (16 + x_) = -1) (by assumption), ct_f (p := fun x_ => 1 < lk f n x_) (by omega)]; rfl) | (rw [ct_f (p := fun x_ => f (16 + x_) = -1) (by assumption), ct_t (p := fun x_ => 1 < lk f n x_) (by omega)]; rfl) | (rw [ct_f (p := fun x_ => f (16 + x_) = -1) (by assumption), ct_f (p := fun x_ => 1 < lk f n x_) (by omega)]; rfl)))
        ·
          refine lv_iconst (v := nI 1) hx hb dX7_about_64 (by decide) ?_
          refine lv_goto (tgt := 69) hx hb dX7_about_65 (by decide) ?_
          refine nv_iadd hx hb dX7_about_69 ?_
          refine lv_istore_n (lv' := [(2, .int (nI ((ct (fun x_ => f (16 + x_) = -1) i) + 1))), (4, .int (nI i)), (3, .int (nI (ct (fun x_ => 1 < lk f n x_) i))), (0, .ref M), (1, .int (nI 6))]) hx hb dX7_about_70 rfl hl (by decide) rfl (fun ls hl => ?_)
          refine lv_iload_n hx hb dX7_about_71 rfl (lv_at hl 2 rfl) ?_
          refine lv_aload_n hx hb dX7_about_72 rfl (lv_at hl 3 rfl) ?_
          refine lv_aload_n hx hb dX7_about_73 rfl (lv_at hl 3 rfl) ?_
          refine va_get (D := G.1) (ci := 4) (v := .ref mn) (C := RX7) (T := TX7) (N := 11) hx hb hts in_c_X7_about_6_X7 hown hK.1 hP 0 rfl rfl 3 (by decide) (hts (.fieldLink RX7 13 "FloorPanelsModel" "now" "[I") (by decide +kernel)) (fun _ h9 => h9) rfl dX7_about_74 ?_
          refine lv_aload_n hx hb dX7_about_77 rfl (lv_at hl 3 rfl) ?_
          refine va_get (D := G.1) (ci := 4) (v := .ref na) (C := RX7) (T := TX7) (N := 11) hx hb hts in_c_X7_about_6_X7 hown hK.1 hP 0 rfl rfl 9 (by decide) (hts (.fieldLink RX7 29 "FloorPanelsModel" "names" "[I") (by decide +kernel)) (fun _ h9 => h9) rfl dX7_about_78 ?_
          refine lv_iload hx hb dX7_about_81 (lv_at hl 1 rfl) ?_
          refine nv_iald hx hb hK hP 2 rfl (by omega) (by decide) dX7_about_83 ?_
          rw [show (nmA sk (kdm mm) g 0 n nf) i = (f (16 + i)) from h_R.nf (by omega)]
          refine cRV (As := [.ref mn, .int (f (16 + i))]) (rest := [.int (nI (ct (fun x_ => 1 < lk f n x_) i))]) (v := .int (nI (ct (fun x_ => ¬ (f (16 + i)) = -1 ∧ (nmA sk (kdm mm) g 0 n nf) x_ = (f (16 + i))) n))) ⟨hx, hb, hml, hown, hts⟩ (c_X7_alike l G M 0 mt sz mn mtr md ac mk mik na so mn n g sk mm (nmA sk (kdm mm) g 0 n nf) (f (16 + i)) (by first | omega | assumption)) (cwV 2 hts gX7_about_X7_alike rfl rfl rfl (by decide +kernel) ⟨Nat.le_of_ble_eq_true rfl, Nat.le_of_ble_eq_true rfl⟩) (preV_of hK hP hD [0, 1, 2] (by decide) rfl (ci := 4) (q0 := 0) rfl rfl rfl) rfl hl.1 rfl (lv_room (Nat.le_of_ble_eq_true rfl)) dX7_about_84 ⟨Nat.zero_le _, Nat.zero_le _⟩ ?_
          rw [show (nI (ct (fun x_ => ¬ (f (16 + i)) = -1 ∧ (nmA sk (kdm mm) g 0 n nf) x_ = (f (16 + i))) n)) = nI (lk f n i) from congrArg nI (lk_A h_R)]
          refine lv_iconst (v := nI 1) hx hb dX7_about_87 (by decide) ?_
          refine bi_le (tgt := 95) hx hb dX7_about_88 (by decide) (nI_i (by omega)) (nI_i (by omega)) (fun c_88 => ?_) (fun c_88 => ?_)
          ·
            refine lv_iconst (v := nI 0) hx hb dX7_about_95 (by decide) ?_
            refine nv_iadd hx hb dX7_about_96 ?_
            refine lv_istore_n (lv' := [(3, .int (nI ((ct (fun x_ => 1 < lk f n x_) i) + 0))), (2, .int (nI ((ct (fun x_ => f (16 + x_) = -1) i) + 1))), (4, .int (nI i)), (0, .ref M), (1, .int (nI 6))]) hx hb dX7_about_97 rfl hl (by decide) rfl (fun ls hl => ?_)
            refine lv_iinc (v := nI (i + 1)) (lv' := [(4, .int (nI (i + 1))), (3, .int (nI ((ct (fun x_ => 1 < lk f n x_) i) + 0))), (2, .int (nI ((ct (fun x_ => f (16 + x_) = -1) i) + 1))), (0, .ref M), (1, .int (nI 6))]) hx hb dX7_about_98 hl (k := 2) rfl (inc_n _ 1) (by decide) rfl (fun ls hl => ?_)
            refine lv_goto (tgt := 41) hx hb dX7_about_101 (by decide) ?_
            exact ih_41 (i + 1) (by first | omega | assumption) (by omega) _ _ hP hD hS ls (lv_sub hl [0, 1, 2, 3, 4] (by first | (rw [ct_t (p := fun x_ => f (16 + x_) = -1) (by assumption), ct_t (p := fun x_ => 1 < lk f n x_) (by omega)]; rfl) | (rw [ct_t (p := fun x_ => f (16 + x_) = -1) (by assumption), ct_f (p := fun x_ => 1 < lk f n x_) (by omega)]; rfl) | (rw [ct_f (p := fun x_ => f (16 + x_) = -1) (by assumption), ct_t (p := fun x_ => 1 < lk f n x_) (by omega)]; rfl) | (rw [ct_f (p := fun x_ => f (16 + x_) = -1) (by assumption), ct_f (p := fun x_ => 1 < lk f n x_) (by omega)]; rfl)))
          ·
            refine lv_iconst (v := nI 1) hx hb dX7_about_91 (by decide) ?_
            refine lv_goto (tgt := 96) hx hb dX7_about_92 (by decide) ?_
            refine nv_iadd hx hb dX7_about_96 ?_
            refine lv_istore_n (lv' := [(3, .int (nI ((ct (fun x_ => 1 < lk f n x_) i) + 1))), (2, .int (nI ((ct (fun x_ => f (16 + x_) = -1) i) + 1))), (4, .int (nI i)), (0, .ref M), (1, .int (nI 6))]) hx hb dX7_about_97 rfl hl (by decide) rfl (fun ls hl => ?_)
            refine lv_iinc (v := nI (i + 1)) (lv' := [(4, .int (nI (i + 1))), (3, .int (nI ((ct (fun x_ => 1 < lk f n x_) i) + 1))), (2, .int (nI ((ct (fun x_ => f (16 + x_) = -1) i) + 1))), (0, .ref M), (1, .int (nI 6))]) hx hb dX7_about_98 hl (k := 2) rfl (inc_n _ 1) (by decide) rfl (fun ls hl => ?_)
            refine lv_goto (tgt := 41) hx hb dX7_about_101 (by decide) ?_
            exact ih_41 (i + 1) (by first | omega | assumption) (by omega) _ _ hP hD hS ls (lv_sub hl [0, 1, 2, 3, 4] (by first | (rw [ct_t (p := fun x_ => f (16 + x_) = -1) (by assumption), ct_t (p := fun x_ => 1 < lk f n x_) (by omega)]; rfl) | (rw [ct_t (p := fun x_ => f (16 + x_) = -1) (by assumption), ct_f (p := fun x_ => 1 < lk f n x_) (by omega)]; rfl) | (rw [ct_f (p := fun x_ => f (16 + x_) = -1) (by assumption), ct_t (p := fun x_ => 1 < lk f n x_) (by omega)]; rfl) | (rw [ct_f (p := fun x_ => f (16 + x_) = -1) (by assumption), ct_f (p := fun x_ => 1 < lk f n x_) (by omega)]; rfl)))
  exact loop_41 (n - 0 + 1) 0 (by first | omega | assumption) (Nat.lt_succ_self _) _ _ hP hD hS ls (lv_sub hl [0, 1, 2, 3, 4] (by rfl))

theorem in_c_X7_about_7_X7 : ∀ w ∈ wsX70, w ∈ wsX7_about := by decide +kernel
set_option maxHeartbeats 4000000 in
set_option maxRecDepth 100000 in
theorem c_X7_about_7 (l : Launch) (G : GG) (M : Nat) (rf : Nat) (mt : Nat) (sz : Nat) (mn : Nat) (mtr : Nat) (md : Nat) (ac : Nat) (mk : Nat) (mik : Nat) (na : Nat) (so : Nat) (n : Nat) (g : Nat) (sk : Int32) (mm : Nat → Int32) (nf : Nat → Int32) (sf : Nat → Int32) (f : Nat → Int32) (h_n : n ≤ 16) (h_n1 : 1 ≤ n) (h_g : g < n) (h_k : mm (3 + g) = 0) (h_R : MRel n sk g f mm) : Met l yX7_about wsX7_about ({ frames := 3, cells := 0, slots := 0, locals := 74 } : Room) (va_Pc [.ref M, .int (nI 7)] (PB G [(M, .inr (4, [.int (nI rf), .ref mt, .int (nI sz), .ref mn, .ref mtr, .ref md, .int (nI ac), .ref mk, .ref mik, .ref na, .ref so])), (mn, .inl (G.2 0, 131, .inl (mr n (nI g) sk mm))), (na, .inl (G.2 0, 16, .inl nf)), (so, .inl (G.2 0, 16, .inl sf))])) (QW G (some (.int (zI (mxs (fun x_ => ¬ f (16 + x_) = -1) (fun x_ => sto sk f g x_) n)))) [(M, .inr (4, [.int (nI 0), .ref mt, .int (nI sz), .ref mn, .ref mtr, .ref md, .int (nI ac), .ref mk, .ref mik, .ref na, .ref so])), (mn, .inl (G.2 0, 131, .inl (mr n (nI g) sk mm))), (na, .inl (G.2 0, 16, .inl (nmA sk (kdm mm) g 0 n nf))), (so, .inl (G.2 0, 16, .inl (soA sk (kdm mm) g 0 n sf)))] (vA [(M, .inr (4, [.int (nI rf), .ref mt, .int (nI sz), .ref mn, .ref mtr, .ref md, .int (nI ac), .ref mk, .ref mik, .ref na, .ref so])), (mn, .inl (G.2 0, 131, .inl (mr n (nI g) sk mm))), (na, .inl (G.2 0, 16, .inl nf)), (so, .inl (G.2 0, 16, .inl sf))])) 0 0 (vA [(M, .inr (4, [.int (nI rf), .ref mt, .int (nI sz), .ref mn, .ref mtr, .ref md, .int (nI ac), .ref mk, .ref mik, .ref na, .ref so])), (mn, .inl (G.2 0, 131, .inl (mr n (nI g) sk mm))), (na, .inl (G.2 0, 16, .inl nf)), (so, .inl (G.2 0, 16, .inl sf))]) := by
  refine Met.go (cc := cX7_about) (maxL := 5) (ret := (some .int)) (by decide) rfl (Nat.le_of_ble_eq_true rfl) ?_
  intro p e s m below meth c ls hx hb hr hml hown hts hlk hP hK hD hS hl
  have hown : s.vm.findClass RX7 = some m.cls := hown
  have hl : lv_has ls 5 [(0, .ref M), (1, .int (nI 7))] := hl
  refine lv_aload_n hx hb dX7_about_0 rfl (lv_at hl 0 rfl) ?_
  refine lv_iload_n hx hb dX7_about_1 rfl (lv_at hl 1 rfl) ?_
  refine lv_i2l (v := (nI 7).toInt64) hx hb dX7_about_2 rfl ?_
  refine lv_lconst (v := 0) hx hb dX7_about_3 rfl ?_
  refine lv_ldc2 (own := RX7) (v := 8) hx hb hown (hts (.constantLong RX7 139 (8)) (by decide +kernel)) dX7_about_4 ?_
  refine cRS (As := [.long ((nI 7).toInt64), .long (0 : Int64), .long (8 : Int64)]) (rest := [.ref M]) (v := .int (zb ((0 : Int64).toInt ≤ ((nI 7).toInt64).toInt ∧ ((nI 7).toInt64).toInt ≤ (8 : Int64).toInt))) ⟨hx, hb, hml, hown, hts⟩ (c_X7_in l G ((nI 7).toInt64) (0 : Int64) (8 : Int64) ) (va_cwS 3 hts gX7_about_X7_in rfl rfl rfl (by decide +kernel) ⟨Nat.le_of_ble_eq_true rfl, Nat.le_of_ble_eq_true rfl⟩) (preS_of hK hP hD [] (by decide) rfl) rfl hl.1 rfl (lv_room (Nat.le_of_ble_eq_true rfl)) dX7_about_7 ⟨Nat.zero_le _, Nat.zero_le _⟩ ?_
  refine bb_eq (tgt := 17) hx hb dX7_about_10 (by decide) (fun c_10 => False.elim (by (rw [i2l_toInt, nI_i (by omega), show (0 : Int64).toInt = 0 from rfl, show (8 : Int64).toInt = 8 from rfl] at c_10; omega))) (fun c_10 => ?_)
  refine lv_iconst (v := nI 0) hx hb dX7_about_13 (by decide) ?_
  refine lv_goto (tgt := 18) hx hb dX7_about_14 (by decide) ?_
  refine cWV (As := [.int (nI 0)]) (rest := []) (st1 := [.int (zb (0 < 0))]) (w3 := [(M, .inr (4, [.int (nI 0), .ref mt, .int (nI sz), .ref mn, .ref mtr, .ref md, .int (nI ac), .ref mk, .ref mik, .ref na, .ref so])), (mn, .inl (G.2 0, 131, .inl (mr n (nI g) sk mm))), (na, .inl (G.2 0, 16, .inl nf)), (so, .inl (G.2 0, 16, .inl sf))]) ⟨hx, hb, hml, hown, hts⟩ (c_X7_refused l G M rf mt sz mn mtr md ac mk mik na so 0 (by first | omega | assumption)) (cwV 1 hts gX7_about_X7_refused rfl rfl rfl (by decide +kernel) ⟨Nat.le_of_ble_eq_true rfl, Nat.le_of_ble_eq_true rfl⟩) (preV_of hK hP hD [0] (by decide) rfl (ci := 4) (q0 := 0) rfl rfl rfl) rfl hl.1 rfl (lv_room (Nat.le_of_ble_eq_true rfl)) dX7_about_18 ⟨Nat.zero_le _, Nat.zero_le _⟩ hP hD hS [0] (by decide) rfl rfl (rfl) rfl (fun H locs hP hD hS => ?_)
  refine bb_eq (tgt := 26) hx hb dX7_about_21 (by decide) (fun c_21 => ?_) (fun c_21 => False.elim (by omega))
  refine lv_aload_n hx hb dX7_about_26 rfl (lv_at hl 0 rfl) ?_
  refine lv_aload_n hx hb dX7_about_27 rfl (lv_at hl 0 rfl) ?_
  refine va_get (D := G.1) (ci := 4) (v := .ref mn) (C := RX7) (T := TX7) (N := 11) hx hb hts in_c_X7_about_7_X7 hown hK.1 hP 0 rfl rfl 3 (by decide) (hts (.fieldLink RX7 13 "FloorPanelsModel" "now" "[I") (by decide +kernel)) (fun _ h9 => h9) rfl dX7_about_28 ?_
  refine cWV (As := [.ref mn]) (rest := []) (st1 := []) (w3 := [(M, .inr (4, [.int (nI 0), .ref mt, .int (nI sz), .ref mn, .ref mtr, .ref md, .int (nI ac), .ref mk, .ref mik, .ref na, .ref so])), (mn, .inl (G.2 0, 131, .inl (mr n (nI g) sk mm))), (na, .inl (G.2 0, 16, .inl (nmA sk (kdm mm) g 0 n nf))), (so, .inl (G.2 0, 16, .inl (soA sk (kdm mm) g 0 n sf)))]) ⟨hx, hb, hml, hown, hts⟩ (c_X7_name l G M 0 mt sz mn mtr md ac mk mik na so mn n g sk mm nf sf (by first | omega | assumption) (by first | omega | assumption) (by first | omega | assumption)) (cwV 1 hts gX7_about_X7_name rfl rfl rfl (by decide +kernel) ⟨Nat.le_of_ble_eq_true rfl, Nat.le_of_ble_eq_true rfl⟩) (preV_of hK hP hD [0, 1, 2, 3] (by decide) rfl (ci := 4) (q0 := 0) rfl rfl rfl) rfl hl.1 rfl (lv_room (Nat.le_of_ble_eq_true rfl)) dX7_about_31 ⟨Nat.zero_le _, Nat.zero_le _⟩ hP hD hS [0, 1, 2, 3] (by decide) rfl rfl (rfl) rfl (fun H locs hP hD hS => ?_)
  refine lv_iconst (v := nI 0) hx hb dX7_about_34 (by decide) ?_
  refine lv_istore_n (lv' := [(2, .int (nI 0)), (0, .ref M), (1, .int (nI 7))]) hx hb dX7_about_35 rfl hl (by decide) rfl (fun ls hl => ?_)
  refine lv_iconst (v := nI 0) hx hb dX7_about_36 (by decide) ?_
  refine lv_istore_n (lv' := [(3, .int (nI 0)), (2, .int (nI 0)), (0, .ref M), (1, .int (nI 7))]) hx hb dX7_about_37 rfl hl (by decide) rfl (fun ls hl => ?_)
  refine lv_iconst (v := nI 0) hx hb dX7_about_38 (by decide) ?_
  refine lv_istore (lv' := [(4, .int (nI 0)), (3, .int (nI 0)), (2, .int (nI 0)), (0, .ref M), (1, .int (nI 7))]) hx hb dX7_about_39 hl (by decide) rfl (fun ls hl => ?_)
  have loop_41 : ∀ (k_ : Nat) (i : Nat) (h_i : i ≤ n) (_ : n - i < k_) (H : Heap) (locs : List Loc) (_ : VP G [(M, .inr (4, [.int (nI 0), .ref mt, .int (nI sz), .ref mn, .ref mtr, .ref md, .int (nI ac), .ref mk, .ref mik, .ref na, .ref so])), (mn, .inl (G.2 0, 131, .inl (mr n (nI g) sk mm))), (na, .inl (G.2 0, 16, .inl (nmA sk (kdm mm) g 0 n nf))), (so, .inl (G.2 0, 16, .inl (soA sk (kdm mm) g 0 n sf)))] H) (_ : va_D (vA [(M, .inr (4, [.int (nI rf), .ref mt, .int (nI sz), .ref mn, .ref mtr, .ref md, .int (nI ac), .ref mk, .ref mik, .ref na, .ref so])), (mn, .inl (G.2 0, 131, .inl (mr n (nI g) sk mm))), (na, .inl (G.2 0, 16, .inl nf)), (so, .inl (G.2 0, 16, .inl sf))]) [(M, .inr (4, [.int (nI 0), .ref mt, .int (nI sz), .ref mn, .ref mtr, .ref md, .int (nI ac), .ref mk, .ref mik, .ref na, .ref so])), (mn, .inl (G.2 0, 131, .inl (mr n (nI g) sk mm))), (na, .inl (G.2 0, 16, .inl (nmA sk (kdm mm) g 0 n nf))), (so, .inl (G.2 0, 16, .inl (soA sk (kdm mm) g 0 n sf)))]) (_ : va_S (vA [(M, .inr (4, [.int (nI rf), .ref mt, .int (nI sz), .ref mn, .ref mtr, .ref md, .int (nI ac), .ref mk, .ref mik, .ref na, .ref so])), (mn, .inl (G.2 0, 131, .inl (mr n (nI g) sk mm))), (na, .inl (G.2 0, 16, .inl nf)), (so, .inl (G.2 0, 16, .inl sf))]) s.heap H locs) (ls : Array Slot), lv_has ls 5 [(4, .int (nI i)), (3, .int (nI (ct (fun x_ => 1 < lk f n x_) i))), (2, .int (nI (ct (fun x_ => f (16 + x_) = -1) i))), (0, .ref M), (1, .int (nI 7))] → W p l e ({ frames := 3, cells := 0, slots := 0, locals := 74 } : Room) s m ([.ref M, .int (nI 7)] : List Value).toArray below meth c H locs 0 0 (MQ below (QW G (some (.int (zI (mxs (fun x_ => ¬ f (16 + x_) = -1) (fun x_ => sto sk f g x_) n)))) [(M, .inr (4, [.int (nI 0), .ref mt, .int (nI sz), .ref mn, .ref mtr, .ref md, .int (nI ac), .ref mk, .ref mik, .ref na, .ref so])), (mn, .inl (G.2 0, 131, .inl (mr n (nI g) sk mm))), (na, .inl (G.2 0, 16, .inl (nmA sk (kdm mm) g 0 n nf))), (so, .inl (G.2 0, 16, .inl (soA sk (kdm mm) g 0 n sf)))] (vA [(M, .inr (4, [.int (nI rf), .ref mt, .int (nI sz), .ref mn, .ref mtr, .ref md, .int (nI ac), .ref mk, .ref mik, .ref na, .ref so])), (mn, .inl (G.2 0, 131, .inl (mr n (nI g) sk mm))), (na, .inl (G.2 0, 16, .inl nf)), (so, .inl (G.2 0, 16, .inl sf))])) ([.ref M, .int (nI 7)] : List Value).toArray s 0 0 (vA [(M, .inr (4, [.int (nI rf), .ref mt, .int (nI sz), .ref mn, .ref mtr, .ref md, .int (nI ac), .ref mk, .ref mik, .ref na, .ref so])), (mn, .inl (G.2 0, 131, .inl (mr n (nI g) sk mm))), (na, .inl (G.2 0, 16, .inl nf)), (so, .inl (G.2 0, 16, .inl sf))])) (F0 m 41 ls []) := by
    intro k_
    induction k_ with
    | zero => intro i h_i hk_; exact absurd hk_ (Nat.not_lt_zero _)
    | succ k_ ih_41 =>
      intro i h_i hk_ H locs hP hD hS ls hl
      refine lv_iload hx hb dX7_about_41 (lv_at hl 0 rfl) ?_
      refine lv_aload_n hx hb dX7_about_43 rfl (lv_at hl 3 rfl) ?_
      refine va_get (D := G.1) (ci := 4) (v := .ref mn) (C := RX7) (T := TX7) (N := 11) hx hb hts in_c_X7_about_7_X7 hown hK.1 hP 0 rfl rfl 3 (by decide) (hts (.fieldLink RX7 13 "FloorPanelsModel" "now" "[I") (by decide +kernel)) (fun _ h9 => h9) rfl dX7_about_44 ?_
      refine lv_iconst (v := nI 0) hx hb dX7_about_47 (by decide) ?_
      refine nv_iald hx hb hK hP 1 rfl (by omega) (by decide) dX7_about_48 ?_
      rw [show (mr n (nI g) sk mm) 0 = nI n from mr_0]
      refine bi_ge (tgt := 104) hx hb dX7_about_49 (by decide) (nI_i (by omega)) (nI_i (by omega)) (fun c_49 => ?_) (fun c_49 => ?_)
      ·
        refine lv_iload_n hx hb dX7_about_104 rfl (lv_at hl 4 rfl) ?_
        refine lv_tableIn (off := 82) (tgt := 187) hx hb dX7_about_105 (by decide) (by decide) (by decide) (by decide) ?_
        refine lv_aload_n hx hb dX7_about_187 rfl (lv_at hl 3 rfl) ?_
        refine lv_aload_n hx hb dX7_about_188 rfl (lv_at hl 3 rfl) ?_
        refine va_get (D := G.1) (ci := 4) (v := .ref mn) (C := RX7) (T := TX7) (N := 11) hx hb hts in_c_X7_about_7_X7 hown hK.1 hP 0 rfl rfl 3 (by decide) (hts (.fieldLink RX7 13 "FloorPanelsModel" "now" "[I") (by decide +kernel)) (fun _ h9 => h9) rfl dX7_about_189 ?_
        refine lv_iload_n hx hb dX7_about_192 rfl (lv_at hl 4 rfl) ?_
        refine lv_bipush (v := nI 7) hx hb dX7_about_193 (by decide) ?_
        refine bi_ne (tgt := 202) hx hb dX7_about_195 (by decide) (nI_i (by omega)) (nI_i (by omega)) (fun c_195 => False.elim (by omega)) (fun c_195 => ?_)
        refine lv_iconst (v := nI 1) hx hb dX7_about_198 (by decide) ?_
        refine lv_goto (tgt := 203) hx hb dX7_about_199 (by decide) ?_
        refine cRV (As := [.ref mn, .int (nI 1)]) (rest := []) (v := .int (zI (mxs (fun x_ => ¬ f (16 + x_) = -1) (fun x_ => sto sk f g x_) n))) ⟨hx, hb, hml, hown, hts⟩ (c_X7_storey_g l G M 0 mt sz mn mtr md ac mk mik na so mn n g sk mm (nmA sk (kdm mm) g 0 n nf) (soA sk (kdm mm) g 0 n sf) f (by first | omega | assumption) (by first | omega | assumption) (fun x_ hx_ => h_R.nf hx_) (fun x_ hx_ => h_R.so h_g hx_)) (cwV 2 hts gX7_about_X7_storey rfl rfl rfl (by decide +kernel) ⟨Nat.le_of_ble_eq_true rfl, Nat.le_of_ble_eq_true rfl⟩) (preV_of hK hP hD [0, 1, 2, 3] (by decide) rfl (ci := 4) (q0 := 0) rfl rfl rfl) rfl hl.1 rfl (lv_room (Nat.le_of_ble_eq_true rfl)) dX7_about_203 ⟨Nat.zero_le _, Nat.zero_le _⟩ ?_
        exact W_i hx hb hr hlk dX7_about_206 hP hS (rfl) (rfl)
      ·
        have h_lk := lk_le f n i
        have h_c4 := ct_le (fun x_ => f (16 + x_) = -1) i
        have h_c5 := ct_le (fun x_ => 1 < lk f n x_) i
        refine lv_iload_n hx hb dX7_about_52 rfl (lv_at hl 2 rfl) ?_
        refine lv_aload_n hx hb dX7_about_53 rfl (lv_at hl 3 rfl) ?_
        refine va_get (D := G.1) (ci := 4) (v := .ref na) (C := RX7) (T := TX7) (N := 11) hx hb hts in_c_X7_about_7_X7 hown hK.1 hP 0 rfl rfl 9 (by decide) (hts (.fieldLink RX7 29 "FloorPanelsModel" "names" "[I") (by decide +kernel)) (fun _ h9 => h9) rfl dX7_about_54 ?_
        refine lv_iload hx hb dX7_about_57 (lv_at hl 0 rfl) ?_
        refine nv_iald hx hb hK hP 2 rfl (by omega) (by decide) dX7_about_59 ?_
        rw [show (nmA sk (kdm mm) g 0 n nf) i = (f (16 + i)) from h_R.nf (by omega)]
        refine lv_iconst (v := (-1)) hx hb dX7_about_60 (by decide) ?_
        refine lv_icmp_ne (tgt := 68) hx hb dX7_about_61 (by decide) (fun c_61 => ?_) (fun c_61 => ?_)
        ·
          refine lv_iconst (v := nI 0) hx hb dX7_about_68 (by decide) ?_
          refine nv_iadd hx hb dX7_about_69 ?_
          refine lv_istore_n (lv' := [(2, .int (nI ((ct (fun x_ => f (16 + x_) = -1) i) + 0))), (4, .int (nI i)), (3, .int (nI (ct (fun x_ => 1 < lk f n x_) i))), (0, .ref M), (1, .int (nI 7))]) hx hb dX7_about_70 rfl hl (by decide) rfl (fun ls hl => ?_)
          refine lv_iload_n hx hb dX7_about_71 rfl (lv_at hl 2 rfl) ?_
          refine lv_aload_n hx hb dX7_about_72 rfl (lv_at hl 3 rfl) ?_
          refine lv_aload_n hx hb dX7_about_73 rfl (lv_at hl 3 rfl) ?_
          refine va_get (D := G.1) (ci := 4) (v := .ref mn) (C := RX7) (T := TX7) (N := 11) hx hb hts in_c_X7_about_7_X7 hown hK.1 hP 0 rfl rfl 3 (by decide) (hts (.fieldLink RX7 13 "FloorPanelsModel" "now" "[I") (by decide +kernel)) (fun _ h9 => h9) rfl dX7_about_74 ?_
          refine lv_aload_n hx hb dX7_about_77 rfl (lv_at hl 3 rfl) ?_
          refine va_get (D := G.1) (ci := 4) (v := .ref na) (C := RX7) (T := TX7) (N := 11) hx hb hts in_c_X7_about_7_X7 hown hK.1 hP 0 rfl rfl 9 (by decide) (hts (.fieldLink RX7 29 "FloorPanelsModel" "names" "[I") (by decide +kernel)) (fun _ h9 => h9) rfl dX7_about_78 ?_
          refine lv_iload hx hb dX7_about_81 (lv_at hl 1 rfl) ?_
          refine nv_iald hx hb hK hP 2 rfl (by omega) (by decide) dX7_about_83 ?_
          rw [show (nmA sk (kdm mm) g 0 n nf) i = (f (16 + i)) from h_R.nf (by omega)]
          refine cRV (As := [.ref mn, .int (f (16 + i))]) (rest := [.int (nI (ct (fun x_ => 1 < lk f n x_) i))]) (v := .int (nI (ct (fun x_ => ¬ (f (16 + i)) = -1 ∧ (nmA sk (kdm mm) g 0 n nf) x_ = (f (16 + i))) n))) ⟨hx, hb, hml, hown, hts⟩ (c_X7_alike l G M 0 mt sz mn mtr md ac mk mik na so mn n g sk mm (nmA sk (kdm mm) g 0 n nf) (f (16 + i)) (by first | omega | assumption)) (cwV 2 hts gX7_about_X7_alike rfl rfl rfl (by decide +kernel) ⟨Nat.le_of_ble_eq_true rfl, Nat.le_of_ble_eq_true rfl⟩) (preV_of hK hP hD [0, 1, 2] (by decide) rfl (ci := 4) (q0 := 0) rfl rfl rfl) rfl hl.1 rfl (lv_room (Nat.le_of_ble_eq_true rfl)) dX7_about_84 ⟨Nat.zero_le _, Nat.zero_le _⟩ ?_
          rw [show (nI (ct (fun x_ => ¬ (f (16 + i)) = -1 ∧ (nmA sk (kdm mm) g 0 n nf) x_ = (f (16 + i))) n)) = nI (lk f n i) from congrArg nI (lk_A h_R)]
          refine lv_iconst (v := nI 1) hx hb dX7_about_87 (by decide) ?_
          refine bi_le (tgt := 95) hx hb dX7_about_88 (by decide) (nI_i (by omega)) (nI_i (by omega)) (fun c_88 => ?_) (fun c_88 => ?_)
          ·
            refine lv_iconst (v := nI 0) hx hb dX7_about_95 (by decide) ?_
            refine nv_iadd hx hb dX7_about_96 ?_
            refine lv_istore_n (lv' := [(3, .int (nI ((ct (fun x_ => 1 < lk f n x_) i) + 0))), (2, .int (nI ((ct (fun x_ => f (16 + x_) = -1) i) + 0))), (4, .int (nI i)), (0, .ref M), (1, .int (nI 7))]) hx hb dX7_about_97 rfl hl (by decide) rfl (fun ls hl => ?_)
            refine lv_iinc (v := nI (i + 1)) (lv' := [(4, .int (nI (i + 1))), (3, .int (nI ((ct (fun x_ => 1 < lk f n x_) i) + 0))), (2, .int (nI ((ct (fun x_ => f (16 + x_) = -1) i) + 0))), (0, .ref M), (1, .int (nI 7))]) hx hb dX7_about_98 hl (k := 2) rfl (inc_n _ 1) (by decide) rfl (fun ls hl => ?_)
            refine lv_goto (tgt := 41) hx hb dX7_about_101 (by decide) ?_
            exact ih_41 (i + 1) (by first | omega | assumption) (by omega) _ _ hP hD hS ls (lv_sub hl [0, 1, 2, 3, 4] (by first | (rw [ct_t (p := fun x_ => f (16 + x_) = -1) (by assumption), ct_t (p := fun x_ => 1 < lk f n x_) (by omega)]; rfl) | (rw [ct_t (p := fun x_ => f (16 + x_) = -1) (by assumption), ct_f (p := fun x_ => 1 < lk f n x_) (by omega)]; rfl) | (rw [ct_f (p := fun x_ => f (16 + x_) = -1) (by assumption), ct_t (p := fun x_ => 1 < lk f n x_) (by omega)]; rfl) | (rw [ct_f (p := fun x_ => f (16 + x_) = -1) (by assumption), ct_f (p := fun x_ => 1 < lk f n x_) (by omega)]; rfl)))
          ·
            refine lv_iconst (v := nI 1) hx hb dX7_about_91 (by decide) ?_
            refine lv_goto (tgt := 96) hx hb dX7_about_92 (by decide) ?_
            refine nv_iadd hx hb dX7_about_96 ?_
            refine lv_istore_n (lv' := [(3, .int (nI ((ct (fun x_ => 1 < lk f n x_) i) + 1))), (2, .int (nI ((ct (fun x_ => f (16 + x_) = -1) i) + 0))), (4, .int (nI i)), (0, .ref M), (1, .int (nI 7))]) hx hb dX7_about_97 rfl hl (by decide) rfl (fun ls hl => ?_)
            refine lv_iinc (v := nI (i + 1)) (lv' := [(4, .int (nI (i + 1))), (3, .int (nI ((ct (fun x_ => 1 < lk f n x_) i) + 1))), (2, .int (nI ((ct (fun x_ => f (16 + x_) = -1) i) + 0))), (0, .ref M), (1, .int (nI 7))]) hx hb dX7_about_98 hl (k := 2) rfl (inc_n _ 1) (by decide) rfl (fun ls hl => ?_)
            refine lv_goto (tgt := 41) hx hb dX7_about_101 (by decide) ?_
            exact ih_41 (i + 1) (by first | omega | assumption) (by omega) _ _ hP hD hS ls (lv_sub hl [0, 1, 2, 3, 4] (by first | (rw [ct_t (p := fun x_ => f (16 + x_) = -1) (by assumption), ct_t (p := fun x_ => 1 < lk f n x_) (by omega)]; rfl) | (rw [ct_t (p := fun x_ => f (16 + x_) = -1) (by assumption), ct_f (p := fun x_ => 1 < lk f n x_) (by omega)]; rfl) | (rw [ct_f (p := fun x_ => f (16 + x_) = -1) (by assumption), ct_t (p := fun x_ => 1 < lk f n x_) (by omega)]; rfl) | (rw [ct_f (p := fun x_ => f (16 + x_) = -1) (by assumption), ct_f (p := fun x_ => 1 < lk f n x_) (by omega)]; rfl)))
        ·
          refine lv_iconst (v := nI 1) hx hb dX7_about_64 (by decide) ?_
          refine lv_goto (tgt := 69) hx hb dX7_about_65 (by decide) ?_
          refine nv_iadd hx hb dX7_about_69 ?_
          refine lv_istore_n (lv' := [(2, .int (nI ((ct (fun x_ => f (16 + x_) = -1) i) + 1))), (4, .int (nI i)), (3, .int (nI (ct (fun x_ => 1 < lk f n x_) i))), (0, .ref M), (1, .int (nI 7))]) hx hb dX7_about_70 rfl hl (by decide) rfl (fun ls hl => ?_)
          refine lv_iload_n hx hb dX7_about_71 rfl (lv_at hl 2 rfl) ?_
          refine lv_aload_n hx hb dX7_about_72 rfl (lv_at hl 3 rfl) ?_
          refine lv_aload_n hx hb dX7_about_73 rfl (lv_at hl 3 rfl) ?_
          refine va_get (D := G.1) (ci := 4) (v := .ref mn) (C := RX7) (T := TX7) (N := 11) hx hb hts in_c_X7_about_7_X7 hown hK.1 hP 0 rfl rfl 3 (by decide) (hts (.fieldLink RX7 13 "FloorPanelsModel" "now" "[I") (by decide +kernel)) (fun _ h9 => h9) rfl dX7_about_74 ?_
          refine lv_aload_n hx hb dX7_about_77 rfl (lv_at hl 3 rfl) ?_
          refine va_get (D := G.1) (ci := 4) (v := .ref na) (C := RX7) (T := TX7) (N := 11) hx hb hts in_c_X7_about_7_X7 hown hK.1 hP 0 rfl rfl 9 (by decide) (hts (.fieldLink RX7 29 "FloorPanelsModel" "names" "[I") (by decide +kernel)) (fun _ h9 => h9) rfl dX7_about_78 ?_
          refine lv_iload hx hb dX7_about_81 (lv_at hl 1 rfl) ?_
          refine nv_iald hx hb hK hP 2 rfl (by omega) (by decide) dX7_about_83 ?_
          rw [show (nmA sk (kdm mm) g 0 n nf) i = (f (16 + i)) from h_R.nf (by omega)]
          refine cRV (As := [.ref mn, .int (f (16 + i))]) (rest := [.int (nI (ct (fun x_ => 1 < lk f n x_) i))]) (v := .int (nI (ct (fun x_ => ¬ (f (16 + i)) = -1 ∧ (nmA sk (kdm mm) g 0 n nf) x_ = (f (16 + i))) n))) ⟨hx, hb, hml, hown, hts⟩ (c_X7_alike l G M 0 mt sz mn mtr md ac mk mik na so mn n g sk mm (nmA sk (kdm mm) g 0 n nf) (f (16 + i)) (by first | omega | assumption)) (cwV 2 hts gX7_about_X7_alike rfl rfl rfl (by decide +kernel) ⟨Nat.le_of_ble_eq_true rfl, Nat.le_of_ble_eq_true rfl⟩) (preV_of hK hP hD [0, 1, 2] (by decide) rfl (ci := 4) (q0 := 0) rfl rfl rfl) rfl hl.1 rfl (lv_room (Nat.le_of_ble_eq_true rfl)) dX7_about_84 ⟨Nat.zero_le _, Nat.zero_le _⟩ ?_
          rw [show (nI (ct (fun x_ => ¬ (f (16 + i)) = -1 ∧ (nmA sk (kdm mm) g 0 n nf) x_ = (f (16 + i))) n)) = nI (lk f n i) from congrArg nI (lk_A h_R)]
          refine lv_iconst (v := nI 1) hx hb dX7_about_87 (by decide) ?_
          refine bi_le (tgt := 95) hx hb dX7_about_88 (by decide) (nI_i (by omega)) (nI_i (by omega)) (fun c_88 => ?_) (fun c_88 => ?_)
          ·
            refine lv_iconst (v := nI 0) hx hb dX7_about_95 (by decide) ?_
            refine nv_iadd hx hb dX7_about_96 ?_
            refine lv_istore_n (lv' := [(3, .int (nI ((ct (fun x_ => 1 < lk f n x_) i) + 0))), (2, .int (nI ((ct (fun x_ => f (16 + x_) = -1) i) + 1))), (4, .int (nI i)), (0, .ref M), (1, .int (nI 7))]) hx hb dX7_about_97 rfl hl (by decide) rfl (fun ls hl => ?_)
            refine lv_iinc (v := nI (i + 1)) (lv' := [(4, .int (nI (i + 1))), (3, .int (nI ((ct (fun x_ => 1 < lk f n x_) i) + 0))), (2, .int (nI ((ct (fun x_ => f (16 + x_) = -1) i) + 1))), (0, .ref M), (1, .int (nI 7))]) hx hb dX7_about_98 hl (k := 2) rfl (inc_n _ 1) (by decide) rfl (fun ls hl => ?_)
            refine lv_goto (tgt := 41) hx hb dX7_about_101 (by decide) ?_
            exact ih_41 (i + 1) (by first | omega | assumption) (by omega) _ _ hP hD hS ls (lv_sub hl [0, 1, 2, 3, 4] (by first | (rw [ct_t (p := fun x_ => f (16 + x_) = -1) (by assumption), ct_t (p := fun x_ => 1 < lk f n x_) (by omega)]; rfl) | (rw [ct_t (p := fun x_ => f (16 + x_) = -1) (by assumption), ct_f (p := fun x_ => 1 < lk f n x_) (by omega)]; rfl) | (rw [ct_f (p := fun x_ => f (16 + x_) = -1) (by assumption), ct_t (p := fun x_ => 1 < lk f n x_) (by omega)]; rfl) | (rw [ct_f (p := fun x_ => f (16 + x_) = -1) (by assumption), ct_f (p := fun x_ => 1 < lk f n x_) (by omega)]; rfl)))
          ·
            refine lv_iconst (v := nI 1) hx hb dX7_about_91 (by decide) ?_
            refine lv_goto (tgt := 96) hx hb dX7_about_92 (by decide) ?_
            refine nv_iadd hx hb dX7_about_96 ?_
            refine lv_istore_n (lv' := [(3, .int (nI ((ct (fun x_ => 1 < lk f n x_) i) + 1))), (2, .int (nI ((ct (fun x_ => f (16 + x_) = -1) i) + 1))), (4, .int (nI i)), (0, .ref M), (1, .int (nI 7))]) hx hb dX7_about_97 rfl hl (by decide) rfl (fun ls hl => ?_)
            refine lv_iinc (v := nI (i + 1)) (lv' := [(4, .int (nI (i + 1))), (3, .int (nI ((ct (fun x_ => 1 < lk f n x_) i) + 1))), (2, .int (nI ((ct (fun x_ => f (16 + x_) = -1) i) + 1))), (0, .ref M), (1, .int (nI 7))]) hx hb dX7_about_98 hl (k := 2) rfl (inc_n _ 1) (by decide) rfl (fun ls hl => ?_)
            refine lv_goto (tgt := 41) hx hb dX7_about_101 (by decide) ?_
            exact ih_41 (i + 1) (by first | omega | assumption) (by omega) _ _ hP hD hS ls (lv_sub hl [0, 1, 2, 3, 4] (by first | (rw [ct_t (p := fun x_ => f (16 + x_) = -1) (by assumption), ct_t (p := fun x_ => 1 < lk f n x_) (by omega)]; rfl) | (rw [ct_t (p := fun x_ => f (16 + x_) = -1) (by assumption), ct_f (p := fun x_ => 1 < lk f n x_) (by omega)]; rfl) | (rw [ct_f (p := fun x_ => f (16 + x_) = -1) (by assumption), ct_t (p := fun x_ => 1 < lk f n x_) (by omega)]; rfl) | (rw [ct_f (p := fun x_ => f (16 + x_) = -1) (by assumption), ct_f (p := fun x_ => 1 < lk f n x_) (by omega)]; rfl)))
  exact loop_41 (n - 0 + 1) 0 (by first | omega | assumption) (Nat.lt_succ_self _) _ _ hP hD hS ls (lv_sub hl [0, 1, 2, 3, 4] (by rfl))

theorem in_c_X7_about_8_X7 : ∀ w ∈ wsX70, w ∈ wsX7_about := by decide +kernel
set_option maxHeartbeats 4000000 in
set_option maxRecDepth 100000 in
theorem c_X7_about_8 (l : Launch) (G : GG) (M : Nat) (rf : Nat) (mt : Nat) (sz : Nat) (mn : Nat) (mtr : Nat) (md : Nat) (ac : Nat) (mk : Nat) (mik : Nat) (na : Nat) (so : Nat) (n : Nat) (g : Nat) (sk : Int32) (mm : Nat → Int32) (nf : Nat → Int32) (sf : Nat → Int32) (f : Nat → Int32) (h_n : n ≤ 16) (h_n1 : 1 ≤ n) (h_g : g < n) (h_k : mm (3 + g) = 0) (h_R : MRel n sk g f mm) : Met l yX7_about wsX7_about ({ frames := 3, cells := 0, slots := 0, locals := 74 } : Room) (va_Pc [.ref M, .int (nI 8)] (PB G [(M, .inr (4, [.int (nI rf), .ref mt, .int (nI sz), .ref mn, .ref mtr, .ref md, .int (nI ac), .ref mk, .ref mik, .ref na, .ref so])), (mn, .inl (G.2 0, 131, .inl (mr n (nI g) sk mm))), (na, .inl (G.2 0, 16, .inl nf)), (so, .inl (G.2 0, 16, .inl sf))])) (QW G (some (.int (zI (mns (fun x_ => ¬ f (16 + x_) = -1) (fun x_ => sto sk f g x_) n)))) [(M, .inr (4, [.int (nI 0), .ref mt, .int (nI sz), .ref mn, .ref mtr, .ref md, .int (nI ac), .ref mk, .ref mik, .ref na, .ref so])), (mn, .inl (G.2 0, 131, .inl (mr n (nI g) sk mm))), (na, .inl (G.2 0, 16, .inl (nmA sk (kdm mm) g 0 n nf))), (so, .inl (G.2 0, 16, .inl (soA sk (kdm mm) g 0 n sf)))] (vA [(M, .inr (4, [.int (nI rf), .ref mt, .int (nI sz), .ref mn, .ref mtr, .ref md, .int (nI ac), .ref mk, .ref mik, .ref na, .ref so])), (mn, .inl (G.2 0, 131, .inl (mr n (nI g) sk mm))), (na, .inl (G.2 0, 16, .inl nf)), (so, .inl (G.2 0, 16, .inl sf))])) 0 0 (vA [(M, .inr (4, [.int (nI rf), .ref mt, .int (nI sz), .ref mn, .ref mtr, .ref md, .int (nI ac), .ref mk, .ref mik, .ref na, .ref so])), (mn, .inl (G.2 0, 131, .inl (mr n (nI g) sk mm))), (na, .inl (G.2 0, 16, .inl nf)), (so, .inl (G.2 0, 16, .inl sf))]) := by
  refine Met.go (cc := cX7_about) (maxL := 5) (ret := (some .int)) (by decide) rfl (Nat.le_of_ble_eq_true rfl) ?_
  intro p e s m below meth c ls hx hb hr hml hown hts hlk hP hK hD hS hl
  have hown : s.vm.findClass RX7 = some m.cls := hown
  have hl : lv_has ls 5 [(0, .ref M), (1, .int (nI 8))] := hl
  refine lv_aload_n hx hb dX7_about_0 rfl (lv_at hl 0 rfl) ?_
  refine lv_iload_n hx hb dX7_about_1 rfl (lv_at hl 1 rfl) ?_
  refine lv_i2l (v := (nI 8).toInt64) hx hb dX7_about_2 rfl ?_
  refine lv_lconst (v := 0) hx hb dX7_about_3 rfl ?_
  refine lv_ldc2 (own := RX7) (v := 8) hx hb hown (hts (.constantLong RX7 139 (8)) (by decide +kernel)) dX7_about_4 ?_
  refine cRS (As := [.long ((nI 8).toInt64), .long (0 : Int64), .long (8 : Int64)]) (rest := [.ref M]) (v := .int (zb ((0 : Int64).toInt ≤ ((nI 8).toInt64).toInt ∧ ((nI 8).toInt64).toInt ≤ (8 : Int64).toInt))) ⟨hx, hb, hml, hown, hts⟩ (c_X7_in l G ((nI 8).toInt64) (0 : Int64) (8 : Int64) ) (va_cwS 3 hts gX7_about_X7_in rfl rfl rfl (by decide +kernel) ⟨Nat.le_of_ble_eq_true rfl, Nat.le_of_ble_eq_true rfl⟩) (preS_of hK hP hD [] (by decide) rfl) rfl hl.1 rfl (lv_room (Nat.le_of_ble_eq_true rfl)) dX7_about_7 ⟨Nat.zero_le _, Nat.zero_le _⟩ ?_
  refine bb_eq (tgt := 17) hx hb dX7_about_10 (by decide) (fun c_10 => False.elim (by (rw [i2l_toInt, nI_i (by omega), show (0 : Int64).toInt = 0 from rfl, show (8 : Int64).toInt = 8 from rfl] at c_10; omega))) (fun c_10 => ?_)
  refine lv_iconst (v := nI 0) hx hb dX7_about_13 (by decide) ?_
  refine lv_goto (tgt := 18) hx hb dX7_about_14 (by decide) ?_
  refine cWV (As := [.int (nI 0)]) (rest := []) (st1 := [.int (zb (0 < 0))]) (w3 := [(M, .inr (4, [.int (nI 0), .ref mt, .int (nI sz), .ref mn, .ref mtr, .ref md, .int (nI ac), .ref mk, .ref mik, .ref na, .ref so])), (mn, .inl (G.2 0, 131, .inl (mr n (nI g) sk mm))), (na, .inl (G.2 0, 16, .inl nf)), (so, .inl (G.2 0, 16, .inl sf))]) ⟨hx, hb, hml, hown, hts⟩ (c_X7_refused l G M rf mt sz mn mtr md ac mk mik na so 0 (by first | omega | assumption)) (cwV 1 hts gX7_about_X7_refused rfl rfl rfl (by decide +kernel) ⟨Nat.le_of_ble_eq_true rfl, Nat.le_of_ble_eq_true rfl⟩) (preV_of hK hP hD [0] (by decide) rfl (ci := 4) (q0 := 0) rfl rfl rfl) rfl hl.1 rfl (lv_room (Nat.le_of_ble_eq_true rfl)) dX7_about_18 ⟨Nat.zero_le _, Nat.zero_le _⟩ hP hD hS [0] (by decide) rfl rfl (rfl) rfl (fun H locs hP hD hS => ?_)
  refine bb_eq (tgt := 26) hx hb dX7_about_21 (by decide) (fun c_21 => ?_) (fun c_21 => False.elim (by omega))
  refine lv_aload_n hx hb dX7_about_26 rfl (lv_at hl 0 rfl) ?_
  refine lv_aload_n hx hb dX7_about_27 rfl (lv_at hl 0 rfl) ?_
  refine va_get (D := G.1) (ci := 4) (v := .ref mn) (C := RX7) (T := TX7) (N := 11) hx hb hts in_c_X7_about_8_X7 hown hK.1 hP 0 rfl rfl 3 (by decide) (hts (.fieldLink RX7 13 "FloorPanelsModel" "now" "[I") (by decide +kernel)) (fun _ h9 => h9) rfl dX7_about_28 ?_
  refine cWV (As := [.ref mn]) (rest := []) (st1 := []) (w3 := [(M, .inr (4, [.int (nI 0), .ref mt, .int (nI sz), .ref mn, .ref mtr, .ref md, .int (nI ac), .ref mk, .ref mik, .ref na, .ref so])), (mn, .inl (G.2 0, 131, .inl (mr n (nI g) sk mm))), (na, .inl (G.2 0, 16, .inl (nmA sk (kdm mm) g 0 n nf))), (so, .inl (G.2 0, 16, .inl (soA sk (kdm mm) g 0 n sf)))]) ⟨hx, hb, hml, hown, hts⟩ (c_X7_name l G M 0 mt sz mn mtr md ac mk mik na so mn n g sk mm nf sf (by first | omega | assumption) (by first | omega | assumption) (by first | omega | assumption)) (cwV 1 hts gX7_about_X7_name rfl rfl rfl (by decide +kernel) ⟨Nat.le_of_ble_eq_true rfl, Nat.le_of_ble_eq_true rfl⟩) (preV_of hK hP hD [0, 1, 2, 3] (by decide) rfl (ci := 4) (q0 := 0) rfl rfl rfl) rfl hl.1 rfl (lv_room (Nat.le_of_ble_eq_true rfl)) dX7_about_31 ⟨Nat.zero_le _, Nat.zero_le _⟩ hP hD hS [0, 1, 2, 3] (by decide) rfl rfl (rfl) rfl (fun H locs hP hD hS => ?_)
  refine lv_iconst (v := nI 0) hx hb dX7_about_34 (by decide) ?_
  refine lv_istore_n (lv' := [(2, .int (nI 0)), (0, .ref M), (1, .int (nI 8))]) hx hb dX7_about_35 rfl hl (by decide) rfl (fun ls hl => ?_)
  refine lv_iconst (v := nI 0) hx hb dX7_about_36 (by decide) ?_
  refine lv_istore_n (lv' := [(3, .int (nI 0)), (2, .int (nI 0)), (0, .ref M), (1, .int (nI 8))]) hx hb dX7_about_37 rfl hl (by decide) rfl (fun ls hl => ?_)
  refine lv_iconst (v := nI 0) hx hb dX7_about_38 (by decide) ?_
  refine lv_istore (lv' := [(4, .int (nI 0)), (3, .int (nI 0)), (2, .int (nI 0)), (0, .ref M), (1, .int (nI 8))]) hx hb dX7_about_39 hl (by decide) rfl (fun ls hl => ?_)
  have loop_41 : ∀ (k_ : Nat) (i : Nat) (h_i : i ≤ n) (_ : n - i < k_) (H : Heap) (locs : List Loc) (_ : VP G [(M, .inr (4, [.int (nI 0), .ref mt, .int (nI sz), .ref mn, .ref mtr, .ref md, .int (nI ac), .ref mk, .ref mik, .ref na, .ref so])), (mn, .inl (G.2 0, 131, .inl (mr n (nI g) sk mm))), (na, .inl (G.2 0, 16, .inl (nmA sk (kdm mm) g 0 n nf))), (so, .inl (G.2 0, 16, .inl (soA sk (kdm mm) g 0 n sf)))] H) (_ : va_D (vA [(M, .inr (4, [.int (nI rf), .ref mt, .int (nI sz), .ref mn, .ref mtr, .ref md, .int (nI ac), .ref mk, .ref mik, .ref na, .ref so])), (mn, .inl (G.2 0, 131, .inl (mr n (nI g) sk mm))), (na, .inl (G.2 0, 16, .inl nf)), (so, .inl (G.2 0, 16, .inl sf))]) [(M, .inr (4, [.int (nI 0), .ref mt, .int (nI sz), .ref mn, .ref mtr, .ref md, .int (nI ac), .ref mk, .ref mik, .ref na, .ref so])), (mn, .inl (G.2 0, 131, .inl (mr n (nI g) sk mm))), (na, .inl (G.2 0, 16, .inl (nmA sk (kdm mm) g 0 n nf))), (so, .inl (G.2 0, 16, .inl (soA sk (kdm mm) g 0 n sf)))]) (_ : va_S (vA [(M, .inr (4, [.int (nI rf), .ref mt, .int (nI sz), .ref mn, .ref mtr, .ref md, .int (nI ac), .ref mk, .ref mik, .ref na, .ref so])), (mn, .inl (G.2 0, 131, .inl (mr n (nI g) sk mm))), (na, .inl (G.2 0, 16, .inl nf)), (so, .inl (G.2 0, 16, .inl sf))]) s.heap H locs) (ls : Array Slot), lv_has ls 5 [(4, .int (nI i)), (3, .int (nI (ct (fun x_ => 1 < lk f n x_) i))), (2, .int (nI (ct (fun x_ => f (16 + x_) = -1) i))), (0, .ref M), (1, .int (nI 8))] → W p l e ({ frames := 3, cells := 0, slots := 0, locals := 74 } : Room) s m ([.ref M, .int (nI 8)] : List Value).toArray below meth c H locs 0 0 (MQ below (QW G (some (.int (zI (mns (fun x_ => ¬ f (16 + x_) = -1) (fun x_ => sto sk f g x_) n)))) [(M, .inr (4, [.int (nI 0), .ref mt, .int (nI sz), .ref mn, .ref mtr, .ref md, .int (nI ac), .ref mk, .ref mik, .ref na, .ref so])), (mn, .inl (G.2 0, 131, .inl (mr n (nI g) sk mm))), (na, .inl (G.2 0, 16, .inl (nmA sk (kdm mm) g 0 n nf))), (so, .inl (G.2 0, 16, .inl (soA sk (kdm mm) g 0 n sf)))] (vA [(M, .inr (4, [.int (nI rf), .ref mt, .int (nI sz), .ref mn, .ref mtr, .ref md, .int (nI ac), .ref mk, .ref mik, .ref na, .ref so])), (mn, .inl (G.2 0, 131, .inl (mr n (nI g) sk mm))), (na, .inl (G.2 0, 16, .inl nf)), (so, .inl (G.2 0, 16, .inl sf))])) ([.ref M, .int (nI 8)] : List Value).toArray s 0 0 (vA [(M, .inr (4, [.int (nI rf), .ref mt, .int (nI sz), .ref mn, .ref mtr, .ref md, .int (nI ac), .ref mk, .ref mik, .ref na, .ref so])), (mn, .inl (G.2 0, 131, .inl (mr n (nI g) sk mm))), (na, .inl (G.2 0, 16, .inl nf)), (so, .inl (G.2 0, 16, .inl sf))])) (F0 m 41 ls []) := by
    intro k_
    induction k_ with
    | zero => intro i h_i hk_; exact absurd hk_ (Nat.not_lt_zero _)
    | succ k_ ih_41 =>
      intro i h_i hk_ H locs hP hD hS ls hl
      refine lv_iload hx hb dX7_about_41 (lv_at hl 0 rfl) ?_
      refine lv_aload_n hx hb dX7_about_43 rfl (lv_at hl 3 rfl) ?_
      refine va_get (D := G.1) (ci := 4) (v := .ref mn) (C := RX7) (T := TX7) (N := 11) hx hb hts in_c_X7_about_8_X7 hown hK.1 hP 0 rfl rfl 3 (by decide) (hts (.fieldLink RX7 13 "FloorPanelsModel" "now" "[I") (by decide +kernel)) (fun _ h9 => h9) rfl dX7_about_44 ?_
      refine lv_iconst (v := nI 0) hx hb dX7_about_47 (by decide) ?_
      refine nv_iald hx hb hK hP 1 rfl (by omega) (by decide) dX7_about_48 ?_
      rw [show (mr n (nI g) sk mm) 0 = nI n from mr_0]
      refine bi_ge (tgt := 104) hx hb dX7_about_49 (by decide) (nI_i (by omega)) (nI_i (by omega)) (fun c_49 => ?_) (fun c_49 => ?_)
      ·
        refine lv_iload_n hx hb dX7_about_104 rfl (lv_at hl 4 rfl) ?_
        refine lv_tableIn (off := 82) (tgt := 187) hx hb dX7_about_105 (by decide) (by decide) (by decide) (by decide) ?_
        refine lv_aload_n hx hb dX7_about_187 rfl (lv_at hl 3 rfl) ?_
        refine lv_aload_n hx hb dX7_about_188 rfl (lv_at hl 3 rfl) ?_
        refine va_get (D := G.1) (ci := 4) (v := .ref mn) (C := RX7) (T := TX7) (N := 11) hx hb hts in_c_X7_about_8_X7 hown hK.1 hP 0 rfl rfl 3 (by decide) (hts (.fieldLink RX7 13 "FloorPanelsModel" "now" "[I") (by decide +kernel)) (fun _ h9 => h9) rfl dX7_about_189 ?_
        refine lv_iload_n hx hb dX7_about_192 rfl (lv_at hl 4 rfl) ?_
        refine lv_bipush (v := nI 7) hx hb dX7_about_193 (by decide) ?_
        refine bi_ne (tgt := 202) hx hb dX7_about_195 (by decide) (nI_i (by omega)) (nI_i (by omega)) (fun c_195 => ?_) (fun c_195 => False.elim (by omega))
        refine lv_iconst (v := nI 0) hx hb dX7_about_202 (by decide) ?_
        refine cRV (As := [.ref mn, .int (nI 0)]) (rest := []) (v := .int (zI (mns (fun x_ => ¬ f (16 + x_) = -1) (fun x_ => sto sk f g x_) n))) ⟨hx, hb, hml, hown, hts⟩ (c_X7_storey_l l G M 0 mt sz mn mtr md ac mk mik na so mn n g sk mm (nmA sk (kdm mm) g 0 n nf) (soA sk (kdm mm) g 0 n sf) f (by first | omega | assumption) (by first | omega | assumption) (fun x_ hx_ => h_R.nf hx_) (fun x_ hx_ => h_R.so h_g hx_)) (cwV 2 hts gX7_about_X7_storey rfl rfl rfl (by decide +kernel) ⟨Nat.le_of_ble_eq_true rfl, Nat.le_of_ble_eq_true rfl⟩) (preV_of hK hP hD [0, 1, 2, 3] (by decide) rfl (ci := 4) (q0 := 0) rfl rfl rfl) rfl hl.1 rfl (lv_room (Nat.le_of_ble_eq_true rfl)) dX7_about_203 ⟨Nat.zero_le _, Nat.zero_le _⟩ ?_
        exact W_i hx hb hr hlk dX7_about_206 hP hS (rfl) (rfl)
      ·
        have h_lk := lk_le f n i
        have h_c4 := ct_le (fun x_ => f (16 + x_) = -1) i
        have h_c5 := ct_le (fun x_ => 1 < lk f n x_) i
        refine lv_iload_n hx hb dX7_about_52 rfl (lv_at hl 2 rfl) ?_
        refine lv_aload_n hx hb dX7_about_53 rfl (lv_at hl 3 rfl) ?_
        refine va_get (D := G.1) (ci := 4) (v := .ref na) (C := RX7) (T := TX7) (N := 11) hx hb hts in_c_X7_about_8_X7 hown hK.1 hP 0 rfl rfl 9 (by decide) (hts (.fieldLink RX7 29 "FloorPanelsModel" "names" "[I") (by decide +kernel)) (fun _ h9 => h9) rfl dX7_about_54 ?_
        refine lv_iload hx hb dX7_about_57 (lv_at hl 0 rfl) ?_
        refine nv_iald hx hb hK hP 2 rfl (by omega) (by decide) dX7_about_59 ?_
        rw [show (nmA sk (kdm mm) g 0 n nf) i = (f (16 + i)) from h_R.nf (by omega)]
        refine lv_iconst (v := (-1)) hx hb dX7_about_60 (by decide) ?_
        refine lv_icmp_ne (tgt := 68) hx hb dX7_about_61 (by decide) (fun c_61 => ?_) (fun c_61 => ?_)
        ·
          refine lv_iconst (v := nI 0) hx hb dX7_about_68 (by decide) ?_
          refine nv_iadd hx hb dX7_about_69 ?_
          refine lv_istore_n (lv' := [(2, .int (nI ((ct (fun x_ => f (16 + x_) = -1) i) + 0))), (4, .int (nI i)), (3, .int (nI (ct (fun x_ => 1 < lk f n x_) i))), (0, .ref M), (1, .int (nI 8))]) hx hb dX7_about_70 rfl hl (by decide) rfl (fun ls hl => ?_)
          refine lv_iload_n hx hb dX7_about_71 rfl (lv_at hl 2 rfl) ?_
          refine lv_aload_n hx hb dX7_about_72 rfl (lv_at hl 3 rfl) ?_
          refine lv_aload_n hx hb dX7_about_73 rfl (lv_at hl 3 rfl) ?_
          refine va_get (D := G.1) (ci := 4) (v := .ref mn) (C := RX7) (T := TX7) (N := 11) hx hb hts in_c_X7_about_8_X7 hown hK.1 hP 0 rfl rfl 3 (by decide) (hts (.fieldLink RX7 13 "FloorPanelsModel" "now" "[I") (by decide +kernel)) (fun _ h9 => h9) rfl dX7_about_74 ?_
          refine lv_aload_n hx hb dX7_about_77 rfl (lv_at hl 3 rfl) ?_
          refine va_get (D := G.1) (ci := 4) (v := .ref na) (C := RX7) (T := TX7) (N := 11) hx hb hts in_c_X7_about_8_X7 hown hK.1 hP 0 rfl rfl 9 (by decide) (hts (.fieldLink RX7 29 "FloorPanelsModel" "names" "[I") (by decide +kernel)) (fun _ h9 => h9) rfl dX7_about_78 ?_
          refine lv_iload hx hb dX7_about_81 (lv_at hl 1 rfl) ?_
          refine nv_iald hx hb hK hP 2 rfl (by omega) (by decide) dX7_about_83 ?_
          rw [show (nmA sk (kdm mm) g 0 n nf) i = (f (16 + i)) from h_R.nf (by omega)]
          refine cRV (As := [.ref mn, .int (f (16 + i))]) (rest := [.int (nI (ct (fun x_ => 1 < lk f n x_) i))]) (v := .int (nI (ct (fun x_ => ¬ (f (16 + i)) = -1 ∧ (nmA sk (kdm mm) g 0 n nf) x_ = (f (16 + i))) n))) ⟨hx, hb, hml, hown, hts⟩ (c_X7_alike l G M 0 mt sz mn mtr md ac mk mik na so mn n g sk mm (nmA sk (kdm mm) g 0 n nf) (f (16 + i)) (by first | omega | assumption)) (cwV 2 hts gX7_about_X7_alike rfl rfl rfl (by decide +kernel) ⟨Nat.le_of_ble_eq_true rfl, Nat.le_of_ble_eq_true rfl⟩) (preV_of hK hP hD [0, 1, 2] (by decide) rfl (ci := 4) (q0 := 0) rfl rfl rfl) rfl hl.1 rfl (lv_room (Nat.le_of_ble_eq_true rfl)) dX7_about_84 ⟨Nat.zero_le _, Nat.zero_le _⟩ ?_
          rw [show (nI (ct (fun x_ => ¬ (f (16 + i)) = -1 ∧ (nmA sk (kdm mm) g 0 n nf) x_ = (f (16 + i))) n)) = nI (lk f n i) from congrArg nI (lk_A h_R)]
          refine lv_iconst (v := nI 1) hx hb dX7_about_87 (by decide) ?_
          refine bi_le (tgt := 95) hx hb dX7_about_88 (by decide) (nI_i (by omega)) (nI_i (by omega)) (fun c_88 => ?_) (fun c_88 => ?_)
          ·
            refine lv_iconst (v := nI 0) hx hb dX7_about_95 (by decide) ?_
            refine nv_iadd hx hb dX7_about_96 ?_
            refine lv_istore_n (lv' := [(3, .int (nI ((ct (fun x_ => 1 < lk f n x_) i) + 0))), (2, .int (nI ((ct (fun x_ => f (16 + x_) = -1) i) + 0))), (4, .int (nI i)), (0, .ref M), (1, .int (nI 8))]) hx hb dX7_about_97 rfl hl (by decide) rfl (fun ls hl => ?_)
            refine lv_iinc (v := nI (i + 1)) (lv' := [(4, .int (nI (i + 1))), (3, .int (nI ((ct (fun x_ => 1 < lk f n x_) i) + 0))), (2, .int (nI ((ct (fun x_ => f (16 + x_) = -1) i) + 0))), (0, .ref M), (1, .int (nI 8))]) hx hb dX7_about_98 hl (k := 2) rfl (inc_n _ 1) (by decide) rfl (fun ls hl => ?_)
            refine lv_goto (tgt := 41) hx hb dX7_about_101 (by decide) ?_
            exact ih_41 (i + 1) (by first | omega | assumption) (by omega) _ _ hP hD hS ls (lv_sub hl [0, 1, 2, 3, 4] (by first | (rw [ct_t (p := fun x_ => f (16 + x_) = -1) (by assumption), ct_t (p := fun x_ => 1 < lk f n x_) (by omega)]; rfl) | (rw [ct_t (p := fun x_ => f (16 + x_) = -1) (by assumption), ct_f (p := fun x_ => 1 < lk f n x_) (by omega)]; rfl) | (rw [ct_f (p := fun x_ => f (16 + x_) = -1) (by assumption), ct_t (p := fun x_ => 1 < lk f n x_) (by omega)]; rfl) | (rw [ct_f (p := fun x_ => f (16 + x_) = -1) (by assumption), ct_f (p := fun x_ => 1 < lk f n x_) (by omega)]; rfl)))
          ·
            refine lv_iconst (v := nI 1) hx hb dX7_about_91 (by decide) ?_
            refine lv_goto (tgt := 96) hx hb dX7_about_92 (by decide) ?_
            refine nv_iadd hx hb dX7_about_96 ?_
            refine lv_istore_n (lv' := [(3, .int (nI ((ct (fun x_ => 1 < lk f n x_) i) + 1))), (2, .int (nI ((ct (fun x_ => f (16 + x_) = -1) i) + 0))), (4, .int (nI i)), (0, .ref M), (1, .int (nI 8))]) hx hb dX7_about_97 rfl hl (by decide) rfl (fun ls hl => ?_)
            refine lv_iinc (v := nI (i + 1)) (lv' := [(4, .int (nI (i + 1))), (3, .int (nI ((ct (fun x_ => 1 < lk f n x_) i) + 1))), (2, .int (nI ((ct (fun x_ => f (16 + x_) = -1) i) + 0))), (0, .ref M), (1, .int (nI 8))]) hx hb dX7_about_98 hl (k := 2) rfl (inc_n _ 1) (by decide) rfl (fun ls hl => ?_)
            refine lv_goto (tgt := 41) hx hb dX7_about_101 (by decide) ?_
            exact ih_41 (i + 1) (by first | omega | assumption) (by omega) _ _ hP hD hS ls (lv_sub hl [0, 1, 2, 3, 4] (by first | (rw [ct_t (p := fun x_ => f (16 + x_) = -1) (by assumption), ct_t (p := fun x_ => 1 < lk f n x_) (by omega)]; rfl) | (rw [ct_t (p := fun x_ => f (16 + x_) = -1) (by assumption), ct_f (p := fun x_ => 1 < lk f n x_) (by omega)]; rfl) | (rw [ct_f (p := fun x_ => f (16 + x_) = -1) (by assumption), ct_t (p := fun x_ => 1 < lk f n x_) (by omega)]; rfl) | (rw [ct_f (p := fun x_ => f (16 + x_) = -1) (by assumption), ct_f (p := fun x_ => 1 < lk f n x_) (by omega)]; rfl)))
        ·
          refine lv_iconst (v := nI 1) hx hb dX7_about_64 (by decide) ?_
          refine lv_goto (tgt := 69) hx hb dX7_about_65 (by decide) ?_
          refine nv_iadd hx hb dX7_about_69 ?_
          refine lv_istore_n (lv' := [(2, .int (nI ((ct (fun x_ => f (16 + x_) = -1) i) + 1))), (4, .int (nI i)), (3, .int (nI (ct (fun x_ => 1 < lk f n x_) i))), (0, .ref M), (1, .int (nI 8))]) hx hb dX7_about_70 rfl hl (by decide) rfl (fun ls hl => ?_)
          refine lv_iload_n hx hb dX7_about_71 rfl (lv_at hl 2 rfl) ?_
          refine lv_aload_n hx hb dX7_about_72 rfl (lv_at hl 3 rfl) ?_
          refine lv_aload_n hx hb dX7_about_73 rfl (lv_at hl 3 rfl) ?_
          refine va_get (D := G.1) (ci := 4) (v := .ref mn) (C := RX7) (T := TX7) (N := 11) hx hb hts in_c_X7_about_8_X7 hown hK.1 hP 0 rfl rfl 3 (by decide) (hts (.fieldLink RX7 13 "FloorPanelsModel" "now" "[I") (by decide +kernel)) (fun _ h9 => h9) rfl dX7_about_74 ?_
          refine lv_aload_n hx hb dX7_about_77 rfl (lv_at hl 3 rfl) ?_
          refine va_get (D := G.1) (ci := 4) (v := .ref na) (C := RX7) (T := TX7) (N := 11) hx hb hts in_c_X7_about_8_X7 hown hK.1 hP 0 rfl rfl 9 (by decide) (hts (.fieldLink RX7 29 "FloorPanelsModel" "names" "[I") (by decide +kernel)) (fun _ h9 => h9) rfl dX7_about_78 ?_
          refine lv_iload hx hb dX7_about_81 (lv_at hl 1 rfl) ?_
          refine nv_iald hx hb hK hP 2 rfl (by omega) (by decide) dX7_about_83 ?_
          rw [show (nmA sk (kdm mm) g 0 n nf) i = (f (16 + i)) from h_R.nf (by omega)]
          refine cRV (As := [.ref mn, .int (f (16 + i))]) (rest := [.int (nI (ct (fun x_ => 1 < lk f n x_) i))]) (v := .int (nI (ct (fun x_ => ¬ (f (16 + i)) = -1 ∧ (nmA sk (kdm mm) g 0 n nf) x_ = (f (16 + i))) n))) ⟨hx, hb, hml, hown, hts⟩ (c_X7_alike l G M 0 mt sz mn mtr md ac mk mik na so mn n g sk mm (nmA sk (kdm mm) g 0 n nf) (f (16 + i)) (by first | omega | assumption)) (cwV 2 hts gX7_about_X7_alike rfl rfl rfl (by decide +kernel) ⟨Nat.le_of_ble_eq_true rfl, Nat.le_of_ble_eq_true rfl⟩) (preV_of hK hP hD [0, 1, 2] (by decide) rfl (ci := 4) (q0 := 0) rfl rfl rfl) rfl hl.1 rfl (lv_room (Nat.le_of_ble_eq_true rfl)) dX7_about_84 ⟨Nat.zero_le _, Nat.zero_le _⟩ ?_
          rw [show (nI (ct (fun x_ => ¬ (f (16 + i)) = -1 ∧ (nmA sk (kdm mm) g 0 n nf) x_ = (f (16 + i))) n)) = nI (lk f n i) from congrArg nI (lk_A h_R)]
          refine lv_iconst (v := nI 1) hx hb dX7_about_87 (by decide) ?_
          refine bi_le (tgt := 95) hx hb dX7_about_88 (by decide) (nI_i (by omega)) (nI_i (by omega)) (fun c_88 => ?_) (fun c_88 => ?_)
          ·
            refine lv_iconst (v := nI 0) hx hb dX7_about_95 (by decide) ?_
            refine nv_iadd hx hb dX7_about_96 ?_
            refine lv_istore_n (lv' := [(3, .int (nI ((ct (fun x_ => 1 < lk f n x_) i) + 0))), (2, .int (nI ((ct (fun x_ => f (16 + x_) = -1) i) + 1))), (4, .int (nI i)), (0, .ref M), (1, .int (nI 8))]) hx hb dX7_about_97 rfl hl (by decide) rfl (fun ls hl => ?_)
            refine lv_iinc (v := nI (i + 1)) (lv' := [(4, .int (nI (i + 1))), (3, .int (nI ((ct (fun x_ => 1 < lk f n x_) i) + 0))), (2, .int (nI ((ct (fun x_ => f (16 + x_) = -1) i) + 1))), (0, .ref M), (1, .int (nI 8))]) hx hb dX7_about_98 hl (k := 2) rfl (inc_n _ 1) (by decide) rfl (fun ls hl => ?_)
            refine lv_goto (tgt := 41) hx hb dX7_about_101 (by decide) ?_
            exact ih_41 (i + 1) (by first | omega | assumption) (by omega) _ _ hP hD hS ls (lv_sub hl [0, 1, 2, 3, 4] (by first | (rw [ct_t (p := fun x_ => f (16 + x_) = -1) (by assumption), ct_t (p := fun x_ => 1 < lk f n x_) (by omega)]; rfl) | (rw [ct_t (p := fun x_ => f (16 + x_) = -1) (by assumption), ct_f (p := fun x_ => 1 < lk f n x_) (by omega)]; rfl) | (rw [ct_f (p := fun x_ => f (16 + x_) = -1) (by assumption), ct_t (p := fun x_ => 1 < lk f n x_) (by omega)]; rfl) | (rw [ct_f (p := fun x_ => f (16 + x_) = -1) (by assumption), ct_f (p := fun x_ => 1 < lk f n x_) (by omega)]; rfl)))
          ·
            refine lv_iconst (v := nI 1) hx hb dX7_about_91 (by decide) ?_
            refine lv_goto (tgt := 96) hx hb dX7_about_92 (by decide) ?_
            refine nv_iadd hx hb dX7_about_96 ?_
            refine lv_istore_n (lv' := [(3, .int (nI ((ct (fun x_ => 1 < lk f n x_) i) + 1))), (2, .int (nI ((ct (fun x_ => f (16 + x_) = -1) i) + 1))), (4, .int (nI i)), (0, .ref M), (1, .int (nI 8))]) hx hb dX7_about_97 rfl hl (by decide) rfl (fun ls hl => ?_)
            refine lv_iinc (v := nI (i + 1)) (lv' := [(4, .int (nI (i + 1))), (3, .int (nI ((ct (fun x_ => 1 < lk f n x_) i) + 1))), (2, .int (nI ((ct (fun x_ => f (16 + x_) = -1) i) + 1))), (0, .ref M), (1, .int (nI 8))]) hx hb dX7_about_98 hl (k := 2) rfl (inc_n _ 1) (by decide) rfl (fun ls hl => ?_)
            refine lv_goto (tgt := 41) hx hb dX7_about_101 (by decide) ?_
            exact ih_41 (i + 1) (by first | omega | assumption) (by omega) _ _ hP hD hS ls (lv_sub hl [0, 1, 2, 3, 4] (by first | (rw [ct_t (p := fun x_ => f (16 + x_) = -1) (by assumption), ct_t (p := fun x_ => 1 < lk f n x_) (by omega)]; rfl) | (rw [ct_t (p := fun x_ => f (16 + x_) = -1) (by assumption), ct_f (p := fun x_ => 1 < lk f n x_) (by omega)]; rfl) | (rw [ct_f (p := fun x_ => f (16 + x_) = -1) (by assumption), ct_t (p := fun x_ => 1 < lk f n x_) (by omega)]; rfl) | (rw [ct_f (p := fun x_ => f (16 + x_) = -1) (by assumption), ct_f (p := fun x_ => 1 < lk f n x_) (by omega)]; rfl)))
  exact loop_41 (n - 0 + 1) 0 (by first | omega | assumption) (Nat.lt_succ_self _) _ _ hP hD hS ls (lv_sub hl [0, 1, 2, 3, 4] (by rfl))

set_option maxHeartbeats 4000000 in
set_option maxRecDepth 100000 in
theorem n_X7_about (l : Launch) (G : GG) (M : Nat) (rf : Nat) (mt : Nat) (sz : Nat) (mn : Nat) (mtr : Nat) (md : Nat) (ac : Nat) (mk : Nat) (mik : Nat) (na : Nat) (so : Nat) (n : Nat) (g : Nat) (sk : Int32) (mm : Nat → Int32) (w : Int32) (h_now : ¬ (0 ≤ w.toInt ∧ w.toInt ≤ 8)) : Met l yX7_about wsX7_about ({ frames := 1, cells := 0, slots := 0, locals := 25 } : Room) (va_Pc [.ref M, .int w] (PB G [(M, .inr (4, [.int (nI rf), .ref mt, .int (nI sz), .ref mn, .ref mtr, .ref md, .int (nI ac), .ref mk, .ref mik, .ref na, .ref so])), (mn, .inl (G.2 0, 131, .inl (mr n (nI g) sk mm)))])) (QW G (some (.int (nI 0))) [(M, .inr (4, [.int (nI 1), .ref mt, .int (nI sz), .ref mn, .ref mtr, .ref md, .int (nI ac), .ref mk, .ref mik, .ref na, .ref so])), (mn, .inl (G.2 0, 131, .inl (mr n (nI g) sk mm)))] (vA [(M, .inr (4, [.int (nI rf), .ref mt, .int (nI sz), .ref mn, .ref mtr, .ref md, .int (nI ac), .ref mk, .ref mik, .ref na, .ref so])), (mn, .inl (G.2 0, 131, .inl (mr n (nI g) sk mm)))])) 0 0 (vA [(M, .inr (4, [.int (nI rf), .ref mt, .int (nI sz), .ref mn, .ref mtr, .ref md, .int (nI ac), .ref mk, .ref mik, .ref na, .ref so])), (mn, .inl (G.2 0, 131, .inl (mr n (nI g) sk mm)))]) := by
  refine Met.go (cc := cX7_about) (maxL := 5) (ret := (some .int)) (by decide) rfl (Nat.le_of_ble_eq_true rfl) ?_
  intro p e s m below meth c ls hx hb hr hml hown hts hlk hP hK hD hS hl
  have hown : s.vm.findClass RX7 = some m.cls := hown
  have hl : lv_has ls 5 [(0, .ref M), (1, .int w)] := hl
  refine lv_aload_n hx hb dX7_about_0 rfl (lv_at hl 0 rfl) ?_
  refine lv_iload_n hx hb dX7_about_1 rfl (lv_at hl 1 rfl) ?_
  refine lv_i2l (v := (w).toInt64) hx hb dX7_about_2 rfl ?_
  refine lv_lconst (v := 0) hx hb dX7_about_3 rfl ?_
  refine lv_ldc2 (own := RX7) (v := 8) hx hb hown (hts (.constantLong RX7 139 (8)) (by decide +kernel)) dX7_about_4 ?_
  refine cRS (As := [.long ((w).toInt64), .long (0 : Int64), .long (8 : Int64)]) (rest := [.ref M]) (v := .int (zb ((0 : Int64).toInt ≤ ((w).toInt64).toInt ∧ ((w).toInt64).toInt ≤ (8 : Int64).toInt))) ⟨hx, hb, hml, hown, hts⟩ (c_X7_in l G ((w).toInt64) (0 : Int64) (8 : Int64) ) (va_cwS 3 hts gX7_about_X7_in rfl rfl rfl (by decide +kernel) ⟨Nat.le_of_ble_eq_true rfl, Nat.le_of_ble_eq_true rfl⟩) (preS_of hK hP hD [] (by decide) rfl) rfl hl.1 rfl (lv_room (Nat.le_of_ble_eq_true rfl)) dX7_about_7 ⟨Nat.zero_le _, Nat.zero_le _⟩ ?_
  refine bb_eq (tgt := 17) hx hb dX7_about_10 (by decide) (fun c_10 => ?_) (fun c_10 => False.elim (by (rw [i2l_toInt, show (0 : Int64).toInt = 0 from rfl, show (8 : Int64).toInt = 8 from rfl] at c_10; omega)))
  refine lv_iconst (v := nI 1) hx hb dX7_about_17 (by decide) ?_
  refine cWV (As := [.int (nI 1)]) (rest := []) (st1 := [.int (zb (0 < 1))]) (w3 := [(M, .inr (4, [.int (nI 1), .ref mt, .int (nI sz), .ref mn, .ref mtr, .ref md, .int (nI ac), .ref mk, .ref mik, .ref na, .ref so])), (mn, .inl (G.2 0, 131, .inl (mr n (nI g) sk mm)))]) ⟨hx, hb, hml, hown, hts⟩ (c_X7_refused l G M rf mt sz mn mtr md ac mk mik na so 1 (by first | omega | assumption)) (cwV 1 hts gX7_about_X7_refused rfl rfl rfl (by decide +kernel) ⟨Nat.le_of_ble_eq_true rfl, Nat.le_of_ble_eq_true rfl⟩) (preV_of hK hP hD [0] (by decide) rfl (ci := 4) (q0 := 0) rfl rfl rfl) rfl hl.1 rfl (lv_room (Nat.le_of_ble_eq_true rfl)) dX7_about_18 ⟨Nat.zero_le _, Nat.zero_le _⟩ hP hD hS [0] (by decide) rfl rfl (rfl) rfl (fun H locs hP hD hS => ?_)
  refine bb_eq (tgt := 26) hx hb dX7_about_21 (by decide) (fun c_21 => False.elim (by omega)) (fun c_21 => ?_)
  refine lv_iconst (v := nI 0) hx hb dX7_about_24 (by decide) ?_
  exact W_i hx hb hr hlk dX7_about_25 hP hS (rfl) (rfl)

