theorem in_c_X7_bestSkip_X7 : ∀ w ∈ wsX70, w ∈ wsX7_bestSkip := by decide +kernel
set_option maxHeartbeats 4000000 in
set_option maxRecDepth 100000 in
theorem c_X7_bestSkip (l : Launch) (G : GG) (M : Nat) (rf : Nat) (mt : Nat) (sz : Nat) (mn : Nat) (mtr : Nat) (md : Nat) (ac : Nat) (mk : Nat) (mik : Nat) (na : Nat) (so : Nat) (n : Nat) (g : Nat) (sk : Int32) (mm : Nat → Int32) (tf : Nat → Int32) (nf : Nat → Int32) (sf : Nat → Int32) (f : Nat → Int32) (h_n : n ≤ 16) (h_n1 : 1 ≤ n) (h_g : g < n) (h_k : mm (3 + g) = 0) (h_R : MRel n sk g f mm) : Met l yX7_bestSkip wsX7_bestSkip ({ frames := 5, cells := 0, slots := 0, locals := 116 } : Room) (va_Pc [.ref M] (PB G [(M, .inr (4, [.int (nI rf), .ref mt, .int (nI sz), .ref mn, .ref mtr, .ref md, .int (nI ac), .ref mk, .ref mik, .ref na, .ref so])), (mn, .inl (G.2 0, 131, .inl (mr n (nI g) sk mm))), (mtr, .inl (G.2 0, 131, .inl tf)), (na, .inl (G.2 0, 16, .inl nf)), (so, .inl (G.2 0, 16, .inl sf))])) (QW G (some (.int (bsF (tg n g sk f) (tw f n) 30))) [(M, .inr (4, [.int (nI 0), .ref mt, .int (nI sz), .ref mn, .ref mtr, .ref md, .int (nI ac), .ref mk, .ref mik, .ref na, .ref so])), (mn, .inl (G.2 0, 131, .inl (mr n (nI g) sk mm))), (mtr, .inl (G.2 0, 131, .inl (mr n (nI g) (skp sk 30 (¬ bt sk 30 = true)) (pur tf 0 mm 131)))), (na, .inl (G.2 0, 16, .inl (nmA (skp sk 30 (¬ bt sk 30 = true)) (kdm (pur tf 0 mm 131)) (g) 0 (n) nf))), (so, .inl (G.2 0, 16, .inl (soA (skp sk 30 (¬ bt sk 30 = true)) (kdm (pur tf 0 mm 131)) (g) 0 (n) sf)))] (vA [(M, .inr (4, [.int (nI rf), .ref mt, .int (nI sz), .ref mn, .ref mtr, .ref md, .int (nI ac), .ref mk, .ref mik, .ref na, .ref so])), (mn, .inl (G.2 0, 131, .inl (mr n (nI g) sk mm))), (mtr, .inl (G.2 0, 131, .inl tf)), (na, .inl (G.2 0, 16, .inl nf)), (so, .inl (G.2 0, 16, .inl sf))])) 0 0 (vA [(M, .inr (4, [.int (nI rf), .ref mt, .int (nI sz), .ref mn, .ref mtr, .ref md, .int (nI ac), .ref mk, .ref mik, .ref na, .ref so])), (mn, .inl (G.2 0, 131, .inl (mr n (nI g) sk mm))), (mtr, .inl (G.2 0, 131, .inl tf)), (na, .inl (G.2 0, 16, .inl nf)), (so, .inl (G.2 0, 16, .inl sf))]) := by
  refine Met.go (cc := cX7_bestSkip) (maxL := 5) (ret := (some .int)) (by decide) rfl (Nat.le_of_ble_eq_true rfl) ?_
  intro p e s m below meth c ls hx hb hr hml hown hts hlk hP hK hD hS hl
  have hown : s.vm.findClass RX7 = some m.cls := hown
  have hl : lv_has ls 5 [(0, .ref M)] := hl
  refine lv_aload_n hx hb dX7_bestSkip_0 rfl (lv_at hl 0 rfl) ?_
  refine lv_iconst (v := nI 0) hx hb dX7_bestSkip_1 (by decide) ?_
  refine va_put (D := G.1) (ci := 4) (v := .int (nI 0)) (ty := .int) (C := RX7) (T := TX7) (N := 11) hx hb hts in_c_X7_bestSkip_X7 tyX7 tyX7_ok nmX7 hown hK.1 hP hD hS 0 rfl rfl 0 (by decide) (hts (.fieldLink RX7 43 "FloorPanelsModel" "refusal" "I") (by decide +kernel)) (fun _ h9 => h9) rfl (by decide +kernel) rfl rfl (Nat.le_of_ble_eq_true rfl) dX7_bestSkip_2 (fun H locs hP hD hS => ?_)
  have hP : VP G [(M, .inr (4, [.int (nI 0), .ref mt, .int (nI sz), .ref mn, .ref mtr, .ref md, .int (nI ac), .ref mk, .ref mik, .ref na, .ref so])), (mn, .inl (G.2 0, 131, .inl (mr n (nI g) sk mm))), (mtr, .inl (G.2 0, 131, .inl tf)), (na, .inl (G.2 0, 16, .inl nf)), (so, .inl (G.2 0, 16, .inl sf))] H := hP
  have hD : va_D _ [(M, .inr (4, [.int (nI 0), .ref mt, .int (nI sz), .ref mn, .ref mtr, .ref md, .int (nI ac), .ref mk, .ref mik, .ref na, .ref so])), (mn, .inl (G.2 0, 131, .inl (mr n (nI g) sk mm))), (mtr, .inl (G.2 0, 131, .inl tf)), (na, .inl (G.2 0, 16, .inl nf)), (so, .inl (G.2 0, 16, .inl sf))] := hD
  refine lv_iconst (v := (-1)) hx hb dX7_bestSkip_5 (by decide) ?_
  refine lv_istore_n (lv' := [(1, .int (-1)), (0, .ref M)]) hx hb dX7_bestSkip_6 rfl hl (by decide) rfl (fun ls hl => ?_)
  refine lv_aload_n hx hb dX7_bestSkip_7 rfl (lv_at hl 1 rfl) ?_
  refine lv_aload_n hx hb dX7_bestSkip_8 rfl (lv_at hl 1 rfl) ?_
  refine va_get (D := G.1) (ci := 4) (v := .ref mn) (C := RX7) (T := TX7) (N := 11) hx hb hts in_c_X7_bestSkip_X7 hown hK.1 hP 0 rfl rfl 3 (by decide) (hts (.fieldLink RX7 13 "FloorPanelsModel" "now" "[I") (by decide +kernel)) (fun _ h9 => h9) rfl dX7_bestSkip_9 ?_
  refine cWV (As := [.ref mn]) (rest := []) (st1 := [.int (nI (mwr sk mm g 19 n + mwr sk mm g 35 n + mwr sk mm g 51 n + mwr sk mm g 67 n))]) (w3 := [(M, .inr (4, [.int (nI 0), .ref mt, .int (nI sz), .ref mn, .ref mtr, .ref md, .int (nI ac), .ref mk, .ref mik, .ref na, .ref so])), (mn, .inl (G.2 0, 131, .inl (mr n (nI g) sk mm))), (mtr, .inl (G.2 0, 131, .inl tf)), (na, .inl (G.2 0, 16, .inl (nmA sk (kdm mm) g 0 n nf))), (so, .inl (G.2 0, 16, .inl (soA sk (kdm mm) g 0 n sf)))]) ⟨hx, hb, hml, hown, hts⟩ (c_X7_wrong l G M 0 mt sz mn mtr md ac mk mik na so mn n g sk mm nf sf (by first | omega | assumption) (by first | omega | assumption) (by first | omega | assumption)) (cwV 1 hts gX7_bestSkip_X7_wrong rfl rfl rfl (by decide +kernel) ⟨Nat.le_of_ble_eq_true rfl, Nat.le_of_ble_eq_true rfl⟩) (preV_of hK hP hD [0, 1, 3, 4] (by decide) rfl (ci := 4) (q0 := 0) rfl rfl rfl) rfl hl.1 rfl (lv_room (Nat.le_of_ble_eq_true rfl)) dX7_bestSkip_12 ⟨Nat.zero_le _, Nat.zero_le _⟩ hP hD hS [0, 1, 3, 4] (by decide) rfl rfl (rfl) rfl (fun H locs hP hD hS => ?_)
  rw [show (nI (mwr sk mm g 19 n + mwr sk mm g 35 n + mwr sk mm g 51 n + mwr sk mm g 67 n)) = nI (tw f n) from congrArg nI (tw_R h_R)]
  refine lv_istore_n (lv' := [(2, .int (nI (tw f n))), (1, .int (-1)), (0, .ref M)]) hx hb dX7_bestSkip_15 rfl hl (by decide) rfl (fun ls hl => ?_)
  refine lv_iconst (v := nI 1) hx hb dX7_bestSkip_16 (by decide) ?_
  refine lv_istore_n (lv' := [(3, .int (nI 1)), (2, .int (nI (tw f n))), (1, .int (-1)), (0, .ref M)]) hx hb dX7_bestSkip_17 rfl hl (by decide) rfl (fun ls hl => ?_)
  have loop_18 : ∀ (k_ : Nat) (q : Nat) (h_q1 : 1 ≤ q) (h_q2 : q ≤ 31) (h_lb : lsF (tg n g sk f) (tw f n) (q - 1) ≤ 64) (_ : 31 - q < k_) (H : Heap) (locs : List Loc) (_ : VP G [(M, .inr (4, [.int (nI 0), .ref mt, .int (nI sz), .ref mn, .ref mtr, .ref md, .int (nI ac), .ref mk, .ref mik, .ref na, .ref so])), (mn, .inl (G.2 0, 131, .inl (mr n (nI g) sk mm))), (mtr, .inl (G.2 0, 131, .inl (it q tf (mr n (nI g) (skp sk (q - 1) (¬ bt sk (q - 1) = true)) (pur tf 0 mm 131))))), (na, .inl (G.2 0, 16, .inl (it q (nmA sk (kdm mm) g 0 n nf) (nmA (skp sk (q - 1) (¬ bt sk (q - 1) = true)) (kdm (pur tf 0 mm 131)) g 0 n nf)))), (so, .inl (G.2 0, 16, .inl (it q (soA sk (kdm mm) g 0 n sf) (soA (skp sk (q - 1) (¬ bt sk (q - 1) = true)) (kdm (pur tf 0 mm 131)) g 0 n sf))))] H) (_ : va_D (vA [(M, .inr (4, [.int (nI rf), .ref mt, .int (nI sz), .ref mn, .ref mtr, .ref md, .int (nI ac), .ref mk, .ref mik, .ref na, .ref so])), (mn, .inl (G.2 0, 131, .inl (mr n (nI g) sk mm))), (mtr, .inl (G.2 0, 131, .inl tf)), (na, .inl (G.2 0, 16, .inl nf)), (so, .inl (G.2 0, 16, .inl sf))]) [(M, .inr (4, [.int (nI 0), .ref mt, .int (nI sz), .ref mn, .ref mtr, .ref md, .int (nI ac), .ref mk, .ref mik, .ref na, .ref so])), (mn, .inl (G.2 0, 131, .inl (mr n (nI g) sk mm))), (mtr, .inl (G.2 0, 131, .inl (it q tf (mr n (nI g) (skp sk (q - 1) (¬ bt sk (q - 1) = true)) (pur tf 0 mm 131))))), (na, .inl (G.2 0, 16, .inl (it q (nmA sk (kdm mm) g 0 n nf) (nmA (skp sk (q - 1) (¬ bt sk (q - 1) = true)) (kdm (pur tf 0 mm 131)) g 0 n nf)))), (so, .inl (G.2 0, 16, .inl (it q (soA sk (kdm mm) g 0 n sf) (soA (skp sk (q - 1) (¬ bt sk (q - 1) = true)) (kdm (pur tf 0 mm 131)) g 0 n sf))))]) (_ : va_S (vA [(M, .inr (4, [.int (nI rf), .ref mt, .int (nI sz), .ref mn, .ref mtr, .ref md, .int (nI ac), .ref mk, .ref mik, .ref na, .ref so])), (mn, .inl (G.2 0, 131, .inl (mr n (nI g) sk mm))), (mtr, .inl (G.2 0, 131, .inl tf)), (na, .inl (G.2 0, 16, .inl nf)), (so, .inl (G.2 0, 16, .inl sf))]) s.heap H locs) (ls : Array Slot), lv_has ls 5 [(3, .int (nI q)), (2, .int (nI (lsF (tg n g sk f) (tw f n) (q - 1)))), (1, .int (bsF (tg n g sk f) (tw f n) (q - 1))), (0, .ref M)] → W p l e ({ frames := 5, cells := 0, slots := 0, locals := 116 } : Room) s m ([.ref M] : List Value).toArray below meth c H locs 0 0 (MQ below (QW G (some (.int (bsF (tg n g sk f) (tw f n) 30))) [(M, .inr (4, [.int (nI 0), .ref mt, .int (nI sz), .ref mn, .ref mtr, .ref md, .int (nI ac), .ref mk, .ref mik, .ref na, .ref so])), (mn, .inl (G.2 0, 131, .inl (mr n (nI g) sk mm))), (mtr, .inl (G.2 0, 131, .inl (mr n (nI g) (skp sk 30 (¬ bt sk 30 = true)) (pur tf 0 mm 131)))), (na, .inl (G.2 0, 16, .inl (nmA (skp sk 30 (¬ bt sk 30 = true)) (kdm (pur tf 0 mm 131)) (g) 0 (n) nf))), (so, .inl (G.2 0, 16, .inl (soA (skp sk 30 (¬ bt sk 30 = true)) (kdm (pur tf 0 mm 131)) (g) 0 (n) sf)))] (vA [(M, .inr (4, [.int (nI rf), .ref mt, .int (nI sz), .ref mn, .ref mtr, .ref md, .int (nI ac), .ref mk, .ref mik, .ref na, .ref so])), (mn, .inl (G.2 0, 131, .inl (mr n (nI g) sk mm))), (mtr, .inl (G.2 0, 131, .inl tf)), (na, .inl (G.2 0, 16, .inl nf)), (so, .inl (G.2 0, 16, .inl sf))])) ([.ref M] : List Value).toArray s 0 0 (vA [(M, .inr (4, [.int (nI rf), .ref mt, .int (nI sz), .ref mn, .ref mtr, .ref md, .int (nI ac), .ref mk, .ref mik, .ref na, .ref so])), (mn, .inl (G.2 0, 131, .inl (mr n (nI g) sk mm))), (mtr, .inl (G.2 0, 131, .inl tf)), (na, .inl (G.2 0, 16, .inl nf)), (so, .inl (G.2 0, 16, .inl sf))])) (F0 m 18 ls []) := by
    intro k_
    induction k_ with
    | zero => intro q h_q1 h_q2 h_lb hk_; exact absurd hk_ (Nat.not_lt_zero _)
    | succ k_ ih_18 =>
      intro q h_q1 h_q2 h_lb hk_ H locs hP hD hS ls hl
      refine lv_iload_n hx hb dX7_bestSkip_18 rfl (lv_at hl 0 rfl) ?_
      refine lv_bipush (v := nI 30) hx hb dX7_bestSkip_19 (by decide) ?_
      refine bi_gt (tgt := 62) hx hb dX7_bestSkip_21 (by decide) (nI_i (by omega)) (nI_i (by omega)) (fun c_21 => ?_) (fun c_21 => ?_)
      ·
        refine lv_iload_n hx hb dX7_bestSkip_62 rfl (lv_at hl 2 rfl) ?_
        exact W_i hx hb hr hlk dX7_bestSkip_63 hP hS (by rw [show q = 31 by omega]) (by rw [show q = 31 by omega]; rfl)
      ·
        refine lv_aload_n hx hb dX7_bestSkip_24 rfl (lv_at hl 3 rfl) ?_
        refine lv_iload_n hx hb dX7_bestSkip_25 rfl (lv_at hl 0 rfl) ?_
        refine cWV (As := [.int (nI q)]) (rest := []) (st1 := [.int (nI (tg n g sk f q))]) (w3 := [(M, .inr (4, [.int (nI 0), .ref mt, .int (nI sz), .ref mn, .ref mtr, .ref md, .int (nI ac), .ref mk, .ref mik, .ref na, .ref so])), (mn, .inl (G.2 0, 131, .inl (mr n (nI g) sk mm))), (mtr, .inl (G.2 0, 131, .inl (mr n (nI g) (skp sk q (¬ bt sk q = true)) (pur tf 0 mm 131)))), (na, .inl (G.2 0, 16, .inl (nmA (skp sk q (¬ bt sk q = true)) (kdm (pur tf 0 mm 131)) g 0 n nf))), (so, .inl (G.2 0, 16, .inl (soA (skp sk q (¬ bt sk q = true)) (kdm (pur tf 0 mm 131)) g 0 n sf)))]) ⟨hx, hb, hml, hown, hts⟩ (c_X7_toggled l G M 0 mt sz mn mtr md ac mk mik na so n g sk mm (it q tf (mr n (nI g) (skp sk (q - 1) (¬ bt sk (q - 1) = true)) (pur tf 0 mm 131))) (it q (nmA sk (kdm mm) g 0 n nf) (nmA (skp sk (q - 1) (¬ bt sk (q - 1) = true)) (kdm (pur tf 0 mm 131)) g 0 n nf)) (it q (soA sk (kdm mm) g 0 n sf) (soA (skp sk (q - 1) (¬ bt sk (q - 1) = true)) (kdm (pur tf 0 mm 131)) g 0 n sf)) f q (by first | omega | assumption) (by first | omega | assumption) (by first | omega | assumption) (by first | omega | assumption) (by first | omega | assumption) (⟨h_q1, by omega⟩)) (cwV 1 hts gX7_bestSkip_X7_toggled rfl rfl rfl (by decide +kernel) ⟨Nat.le_of_ble_eq_true rfl, Nat.le_of_ble_eq_true rfl⟩) (preV_of hK hP hD [0, 1, 2, 3, 4] (by decide) rfl (ci := 4) (q0 := 0) rfl rfl rfl) rfl hl.1 rfl (lv_room (Nat.le_of_ble_eq_true rfl)) dX7_bestSkip_26 ⟨Nat.zero_le _, Nat.zero_le _⟩ hP hD hS [0, 1, 2, 3, 4] (by decide) rfl rfl (by rw [pur_it, nmA_it, soA_it]; rfl) rfl (fun H locs hP hD hS => ?_)
        refine lv_istore (lv' := [(4, .int (nI (tg n g sk f q))), (3, .int (nI q)), (2, .int (nI (lsF (tg n g sk f) (tw f n) (q - 1)))), (1, .int (bsF (tg n g sk f) (tw f n) (q - 1))), (0, .ref M)]) hx hb dX7_bestSkip_29 hl (by decide) rfl (fun ls hl => ?_)
        have h_tg := tg_le n g sk f q h_n
        have h_ls := h_lb
        refine lv_iload hx hb dX7_bestSkip_31 (lv_at hl 0 rfl) ?_
        refine lv_iload_n hx hb dX7_bestSkip_33 rfl (lv_at hl 2 rfl) ?_
        refine bi_ge (tgt := 41) hx hb dX7_bestSkip_34 (by decide) (nI_i (by omega)) (nI_i (by omega)) (fun c_34 => ?_) (fun c_34 => ?_)
        ·
          refine lv_iload_n hx hb dX7_bestSkip_41 rfl (lv_at hl 3 rfl) ?_
          refine lv_istore_n (lv' := [(1, .int (bsF (tg n g sk f) (tw f n) (q - 1))), (4, .int (nI (tg n g sk f q))), (3, .int (nI q)), (2, .int (nI (lsF (tg n g sk f) (tw f n) (q - 1)))), (0, .ref M)]) hx hb dX7_bestSkip_42 rfl hl (by decide) rfl (fun ls hl => ?_)
          refine lv_iload hx hb dX7_bestSkip_43 (lv_at hl 1 rfl) ?_
          refine lv_iload_n hx hb dX7_bestSkip_45 rfl (lv_at hl 3 rfl) ?_
          refine bi_ge (tgt := 54) hx hb dX7_bestSkip_46 (by decide) (nI_i (by omega)) (nI_i (by omega)) (fun c_46 => ?_) (fun c_46 => False.elim (by omega))
          refine lv_iload_n hx hb dX7_bestSkip_54 rfl (lv_at hl 3 rfl) ?_
          refine lv_istore_n (lv' := [(2, .int (nI (lsF (tg n g sk f) (tw f n) (q - 1)))), (1, .int (bsF (tg n g sk f) (tw f n) (q - 1))), (4, .int (nI (tg n g sk f q))), (3, .int (nI q)), (0, .ref M)]) hx hb dX7_bestSkip_55 rfl hl (by decide) rfl (fun ls hl => ?_)
          refine lv_iinc (v := nI (q + 1)) (lv' := [(3, .int (nI (q + 1))), (2, .int (nI (lsF (tg n g sk f) (tw f n) (q - 1)))), (1, .int (bsF (tg n g sk f) (tw f n) (q - 1))), (4, .int (nI (tg n g sk f q))), (0, .ref M)]) hx hb dX7_bestSkip_56 hl (k := 3) rfl (inc_n _ 1) (by decide) rfl (fun ls hl => ?_)
          refine lv_goto (tgt := 18) hx hb dX7_bestSkip_59 (by decide) ?_
          exact ih_18 (q + 1) (by first | omega | assumption) (by first | omega | assumption) (lsF_le (tw_le f h_n) _) (by omega) _ _ (by rw [it_s h_q1, it_s h_q1, it_s h_q1]; exact hP) (by rw [it_s h_q1, it_s h_q1, it_s h_q1]; exact hD) hS ls (lv_sub hl [0, 1, 2, 4] (by (first | (rw [lsF_t h_q1 (by omega), bsF_t h_q1 (by omega)]; rfl) | (rw [lsF_f h_q1 (by omega), bsF_f h_q1 (by omega)]; rfl))))
        ·
          refine lv_iload_n hx hb dX7_bestSkip_37 rfl (lv_at hl 1 rfl) ?_
          refine lv_goto (tgt := 42) hx hb dX7_bestSkip_38 (by decide) ?_
          refine lv_istore_n (lv' := [(1, .int (nI q)), (4, .int (nI (tg n g sk f q))), (3, .int (nI q)), (2, .int (nI (lsF (tg n g sk f) (tw f n) (q - 1)))), (0, .ref M)]) hx hb dX7_bestSkip_42 rfl hl (by decide) rfl (fun ls hl => ?_)
          refine lv_iload hx hb dX7_bestSkip_43 (lv_at hl 1 rfl) ?_
          refine lv_iload_n hx hb dX7_bestSkip_45 rfl (lv_at hl 3 rfl) ?_
          refine bi_ge (tgt := 54) hx hb dX7_bestSkip_46 (by decide) (nI_i (by omega)) (nI_i (by omega)) (fun c_46 => False.elim (by omega)) (fun c_46 => ?_)
          refine lv_iload hx hb dX7_bestSkip_49 (lv_at hl 1 rfl) ?_
          refine lv_goto (tgt := 55) hx hb dX7_bestSkip_51 (by decide) ?_
          refine lv_istore_n (lv' := [(2, .int (nI (tg n g sk f q))), (1, .int (nI q)), (4, .int (nI (tg n g sk f q))), (3, .int (nI q)), (0, .ref M)]) hx hb dX7_bestSkip_55 rfl hl (by decide) rfl (fun ls hl => ?_)
          refine lv_iinc (v := nI (q + 1)) (lv' := [(3, .int (nI (q + 1))), (2, .int (nI (tg n g sk f q))), (1, .int (nI q)), (4, .int (nI (tg n g sk f q))), (0, .ref M)]) hx hb dX7_bestSkip_56 hl (k := 3) rfl (inc_n _ 1) (by decide) rfl (fun ls hl => ?_)
          refine lv_goto (tgt := 18) hx hb dX7_bestSkip_59 (by decide) ?_
          exact ih_18 (q + 1) (by first | omega | assumption) (by first | omega | assumption) (lsF_le (tw_le f h_n) _) (by omega) _ _ (by rw [it_s h_q1, it_s h_q1, it_s h_q1]; exact hP) (by rw [it_s h_q1, it_s h_q1, it_s h_q1]; exact hD) hS ls (lv_sub hl [0, 1, 2, 4] (by (first | (rw [lsF_t h_q1 (by omega), bsF_t h_q1 (by omega)]; rfl) | (rw [lsF_f h_q1 (by omega), bsF_f h_q1 (by omega)]; rfl))))
  exact loop_18 (31 - 1 + 1) 1 (by first | omega | assumption) (by first | omega | assumption) (lsF_le (tw_le f h_n) _) (Nat.lt_succ_self _) _ _ hP hD hS ls (lv_sub hl [0, 1, 2, 3] (by rfl))

theorem in_c_X7_storey_g_X7 : ∀ w ∈ wsX70, w ∈ wsX7_storey := by decide +kernel
set_option maxHeartbeats 4000000 in
set_option maxRecDepth 100000 in
theorem c_X7_storey_g (l : Launch) (G : GG) (M : Nat) (rf : Nat) (mt : Nat) (sz : Nat) (mn : Nat) (mtr : Nat) (md : Nat) (ac : Nat) (mk : Nat) (mik : Nat) (na : Nat) (so : Nat) (r : Nat) (n : Nat) (g : Nat) (sk : Int32) (mm : Nat → Int32) (nf : Nat → Int32) (sf : Nat → Int32) (f : Nat → Int32) (h_n : n ≤ 16) (h_g : g < n) (h_nf : ∀ x_, x_ < n → nf x_ = f (16 + x_)) (h_sf : ∀ x_, x_ < n → sf x_ = zI (sto sk f g x_)) : Met l yX7_storey wsX7_storey ({ frames := 0, cells := 0, slots := 0, locals := 0 } : Room) (va_Pc [.ref M, .ref r, .int (nI 1)] (PB G [(M, .inr (4, [.int (nI rf), .ref mt, .int (nI sz), .ref mn, .ref mtr, .ref md, .int (nI ac), .ref mk, .ref mik, .ref na, .ref so])), (r, .inl (G.2 0, 131, .inl (mr n (nI g) sk mm))), (na, .inl (G.2 0, 16, .inl nf)), (so, .inl (G.2 0, 16, .inl sf))])) (QR (some (.int (zI (mxs (fun x_ => ¬ f (16 + x_) = -1) (fun x_ => sto sk f g x_) n))))) 0 0 (fun _ => False) := by
  refine Met.go (cc := cX7_storey) (maxL := 6) (ret := (some .int)) (by decide) rfl (Nat.le_of_ble_eq_true rfl) ?_
  intro p e s m below meth c ls hx hb hr hml hown hts hlk hP hK hD hS hl
  have hown : s.vm.findClass RX7 = some m.cls := hown
  have hl : lv_has ls 6 [(0, .ref M), (1, .ref r), (2, .int (nI 1))] := hl
  refine lv_iconst (v := nI 0) hx hb dX7_storey_0 (by decide) ?_
  refine lv_istore_n (lv' := [(3, .int (nI 0)), (0, .ref M), (1, .ref r), (2, .int (nI 1))]) hx hb dX7_storey_1 rfl hl (by decide) rfl (fun ls hl => ?_)
  refine lv_iconst (v := nI 0) hx hb dX7_storey_2 (by decide) ?_
  refine lv_istore (lv' := [(4, .int (nI 0)), (3, .int (nI 0)), (0, .ref M), (1, .ref r), (2, .int (nI 1))]) hx hb dX7_storey_3 hl (by decide) rfl (fun ls hl => ?_)
  have loop_5 : ∀ (k_ : Nat) (i : Nat) (h_i : i ≤ n) (_ : n - i < k_) (ls : Array Slot), lv_has ls 6 [(4, .int (nI i)), (3, .int (zI (mxs (fun x_ => ¬ f (16 + x_) = -1) (fun x_ => sto sk f g x_) i))), (0, .ref M), (1, .ref r), (2, .int (nI 1))] → W p l e ({ frames := 0, cells := 0, slots := 0, locals := 0 } : Room) s m ([.ref M, .ref r, .int (nI 1)] : List Value).toArray below meth c s.heap [] 0 0 (MQ below (QR (some (.int (zI (mxs (fun x_ => ¬ f (16 + x_) = -1) (fun x_ => sto sk f g x_) n))))) ([.ref M, .ref r, .int (nI 1)] : List Value).toArray s 0 0 (fun _ => False)) (F0 m 5 ls []) := by
    intro k_
    induction k_ with
    | zero => intro i h_i hk_; exact absurd hk_ (Nat.not_lt_zero _)
    | succ k_ ih_5 =>
      intro i h_i hk_ ls hl
      refine lv_iload hx hb dX7_storey_5 (lv_at hl 0 rfl) ?_
      refine lv_aload_n hx hb dX7_storey_7 rfl (lv_at hl 3 rfl) ?_
      refine lv_iconst (v := nI 0) hx hb dX7_storey_8 (by decide) ?_
      refine nv_iald hx hb hK hP 1 rfl (by omega) (by decide) dX7_storey_9 ?_
      rw [show (mr n (nI g) sk mm) 0 = nI n from mr_0]
      refine bi_ge (tgt := 83) hx hb dX7_storey_10 (by decide) (nI_i (by omega)) (nI_i (by omega)) (fun c_10 => ?_) (fun c_10 => ?_)
      ·
        refine lv_iload_n hx hb dX7_storey_83 rfl (lv_at hl 1 rfl) ?_
        exact R_i hx hb hr hlk dX7_storey_84 (by rw [show i = n by omega])
      ·
        have h_s := sto_rng sk f h_g (show i < n by omega) h_n
        have h_r := mxs_rng (p := fun x_ => ¬ f (16 + x_) = -1) (z := fun x_ => sto sk f g x_) (b := 46) (by omega) (n := i) (fun y_ hy_ _ => (sto_rng sk f h_g (by omega : y_ < n) h_n).2)
        refine lv_aload_n hx hb dX7_storey_13 rfl (lv_at hl 2 rfl) ?_
        refine va_get (D := G.1) (ci := 4) (v := .ref na) (C := RX7) (T := TX7) (N := 11) hx hb hts in_c_X7_storey_g_X7 hown hK.1 hP 0 rfl rfl 9 (by decide) (hts (.fieldLink RX7 29 "FloorPanelsModel" "names" "[I") (by decide +kernel)) (fun _ h9 => h9) rfl dX7_storey_14 ?_
        refine lv_iload hx hb dX7_storey_17 (lv_at hl 0 rfl) ?_
        refine nv_iald hx hb hK hP 2 rfl (by omega) (by decide) dX7_storey_19 ?_
        rw [show nf i = (f (16 + i)) from h_nf i (by omega)]
        refine lv_iconst (v := (-1)) hx hb dX7_storey_20 (by decide) ?_
        refine lv_icmp_eq (tgt := 57) hx hb dX7_storey_21 (by decide) (fun c_21 => ?_) (fun c_21 => ?_)
        ·
          refine lv_iconst (v := nI 0) hx hb dX7_storey_57 (by decide) ?_
          refine lv_istore (lv' := [(5, .int (nI 0)), (4, .int (nI i)), (3, .int (zI (mxs (fun x_ => ¬ f (16 + x_) = -1) (fun x_ => sto sk f g x_) i))), (0, .ref M), (1, .ref r), (2, .int (nI 1))]) hx hb dX7_storey_58 hl (by decide) rfl (fun ls hl => ?_)
          refine lv_iload hx hb dX7_storey_60 (lv_at hl 0 rfl) ?_
          refine b0_eq (tgt := 75) hx hb dX7_storey_62 (by decide) (nI_i (by omega)) (fun c_62 => ?_) (fun c_62 => False.elim (by omega))
          refine lv_iload_n hx hb dX7_storey_75 rfl (lv_at hl 2 rfl) ?_
          refine lv_istore_n (lv' := [(3, .int (zI (mxs (fun x_ => ¬ f (16 + x_) = -1) (fun x_ => sto sk f g x_) i))), (5, .int (nI 0)), (4, .int (nI i)), (0, .ref M), (1, .ref r), (2, .int (nI 1))]) hx hb dX7_storey_76 rfl hl (by decide) rfl (fun ls hl => ?_)
          refine lv_iinc (v := nI (i + 1)) (lv' := [(4, .int (nI (i + 1))), (3, .int (zI (mxs (fun x_ => ¬ f (16 + x_) = -1) (fun x_ => sto sk f g x_) i))), (5, .int (nI 0)), (0, .ref M), (1, .ref r), (2, .int (nI 1))]) hx hb dX7_storey_77 hl (k := 2) rfl (inc_n _ 1) (by decide) rfl (fun ls hl => ?_)
          refine lv_goto (tgt := 5) hx hb dX7_storey_80 (by decide) ?_
          exact ih_5 (i + 1) (by first | omega | assumption) (by omega) ls (lv_sub hl [0, 1, 3, 4, 5] (by first | (rw [mxs_t (by assumption), Int.max_eq_right (by omega)]; rfl) | (rw [mxs_f (fun z_ => z_ (by assumption))]; rfl) | (rw [mxs_t (by assumption), Int.max_eq_left (by omega)]; rfl)))
        ·
          refine lv_iload_n hx hb dX7_storey_24 rfl (lv_at hl 4 rfl) ?_
          refine b0_eq (tgt := 42) hx hb dX7_storey_25 (by decide) (nI_i (by omega)) (fun c_25 => False.elim (by omega)) (fun c_25 => ?_)
          refine lv_aload_n hx hb dX7_storey_28 rfl (lv_at hl 2 rfl) ?_
          refine va_get (D := G.1) (ci := 4) (v := .ref so) (C := RX7) (T := TX7) (N := 11) hx hb hts in_c_X7_storey_g_X7 hown hK.1 hP 0 rfl rfl 10 (by decide) (hts (.fieldLink RX7 32 "FloorPanelsModel" "storeys" "[I") (by decide +kernel)) (fun _ h9 => h9) rfl dX7_storey_29 ?_
          refine lv_iload hx hb dX7_storey_32 (lv_at hl 0 rfl) ?_
          refine nv_iald hx hb hK hP 3 rfl (by omega) (by decide) dX7_storey_34 ?_
          rw [show sf i = zI (sto sk f g i) from h_sf i (by omega)]
          refine lv_iload_n hx hb dX7_storey_35 rfl (lv_at hl 1 rfl) ?_
          refine bi_le (tgt := 57) hx hb dX7_storey_36 (by decide) (zI_toInt (by omega)) (zI_toInt (by omega)) (fun c_36 => ?_) (fun c_36 => ?_)
          ·
            refine lv_iconst (v := nI 0) hx hb dX7_storey_57 (by decide) ?_
            refine lv_istore (lv' := [(5, .int (nI 0)), (4, .int (nI i)), (3, .int (zI (mxs (fun x_ => ¬ f (16 + x_) = -1) (fun x_ => sto sk f g x_) i))), (0, .ref M), (1, .ref r), (2, .int (nI 1))]) hx hb dX7_storey_58 hl (by decide) rfl (fun ls hl => ?_)
            refine lv_iload hx hb dX7_storey_60 (lv_at hl 0 rfl) ?_
            refine b0_eq (tgt := 75) hx hb dX7_storey_62 (by decide) (nI_i (by omega)) (fun c_62 => ?_) (fun c_62 => False.elim (by omega))
            refine lv_iload_n hx hb dX7_storey_75 rfl (lv_at hl 2 rfl) ?_
            refine lv_istore_n (lv' := [(3, .int (zI (mxs (fun x_ => ¬ f (16 + x_) = -1) (fun x_ => sto sk f g x_) i))), (5, .int (nI 0)), (4, .int (nI i)), (0, .ref M), (1, .ref r), (2, .int (nI 1))]) hx hb dX7_storey_76 rfl hl (by decide) rfl (fun ls hl => ?_)
            refine lv_iinc (v := nI (i + 1)) (lv' := [(4, .int (nI (i + 1))), (3, .int (zI (mxs (fun x_ => ¬ f (16 + x_) = -1) (fun x_ => sto sk f g x_) i))), (5, .int (nI 0)), (0, .ref M), (1, .ref r), (2, .int (nI 1))]) hx hb dX7_storey_77 hl (k := 2) rfl (inc_n _ 1) (by decide) rfl (fun ls hl => ?_)
            refine lv_goto (tgt := 5) hx hb dX7_storey_80 (by decide) ?_
            exact ih_5 (i + 1) (by first | omega | assumption) (by omega) ls (lv_sub hl [0, 1, 3, 4, 5] (by first | (rw [mxs_t (by assumption), Int.max_eq_right (by omega)]; rfl) | (rw [mxs_f (fun z_ => z_ (by assumption))]; rfl) | (rw [mxs_t (by assumption), Int.max_eq_left (by omega)]; rfl)))
          ·
            refine lv_goto (tgt := 53) hx hb dX7_storey_39 (by decide) ?_
            refine lv_iconst (v := nI 1) hx hb dX7_storey_53 (by decide) ?_
            refine lv_goto (tgt := 58) hx hb dX7_storey_54 (by decide) ?_
            refine lv_istore (lv' := [(5, .int (nI 1)), (4, .int (nI i)), (3, .int (zI (mxs (fun x_ => ¬ f (16 + x_) = -1) (fun x_ => sto sk f g x_) i))), (0, .ref M), (1, .ref r), (2, .int (nI 1))]) hx hb dX7_storey_58 hl (by decide) rfl (fun ls hl => ?_)
            refine lv_iload hx hb dX7_storey_60 (lv_at hl 0 rfl) ?_
            refine b0_eq (tgt := 75) hx hb dX7_storey_62 (by decide) (nI_i (by omega)) (fun c_62 => False.elim (by omega)) (fun c_62 => ?_)
            refine lv_aload_n hx hb dX7_storey_65 rfl (lv_at hl 3 rfl) ?_
            refine va_get (D := G.1) (ci := 4) (v := .ref so) (C := RX7) (T := TX7) (N := 11) hx hb hts in_c_X7_storey_g_X7 hown hK.1 hP 0 rfl rfl 10 (by decide) (hts (.fieldLink RX7 32 "FloorPanelsModel" "storeys" "[I") (by decide +kernel)) (fun _ h9 => h9) rfl dX7_storey_66 ?_
            refine lv_iload hx hb dX7_storey_69 (lv_at hl 1 rfl) ?_
            refine nv_iald hx hb hK hP 3 rfl (by omega) (by decide) dX7_storey_71 ?_
            rw [show sf i = zI (sto sk f g i) from h_sf i (by omega)]
            refine lv_goto (tgt := 76) hx hb dX7_storey_72 (by decide) ?_
            refine lv_istore_n (lv' := [(3, .int (zI (sto sk f g i))), (5, .int (nI 1)), (4, .int (nI i)), (0, .ref M), (1, .ref r), (2, .int (nI 1))]) hx hb dX7_storey_76 rfl hl (by decide) rfl (fun ls hl => ?_)
            refine lv_iinc (v := nI (i + 1)) (lv' := [(4, .int (nI (i + 1))), (3, .int (zI (sto sk f g i))), (5, .int (nI 1)), (0, .ref M), (1, .ref r), (2, .int (nI 1))]) hx hb dX7_storey_77 hl (k := 2) rfl (inc_n _ 1) (by decide) rfl (fun ls hl => ?_)
            refine lv_goto (tgt := 5) hx hb dX7_storey_80 (by decide) ?_
            exact ih_5 (i + 1) (by first | omega | assumption) (by omega) ls (lv_sub hl [0, 1, 3, 4, 5] (by first | (rw [mxs_t (by assumption), Int.max_eq_right (by omega)]; rfl) | (rw [mxs_f (fun z_ => z_ (by assumption))]; rfl) | (rw [mxs_t (by assumption), Int.max_eq_left (by omega)]; rfl)))
  exact loop_5 (n - 0 + 1) 0 (by first | omega | assumption) (Nat.lt_succ_self _)  ls (lv_sub hl [0, 1, 2, 3, 4] (by rfl))

theorem in_c_X7_storey_l_X7 : ∀ w ∈ wsX70, w ∈ wsX7_storey := by decide +kernel
set_option maxHeartbeats 4000000 in
set_option maxRecDepth 100000 in
theorem c_X7_storey_l (l : Launch) (G : GG) (M : Nat) (rf : Nat) (mt : Nat) (sz : Nat) (mn : Nat) (mtr : Nat) (md : Nat) (ac : Nat) (mk : Nat) (mik : Nat) (na : Nat) (so : Nat) (r : Nat) (n : Nat) (g : Nat) (sk : Int32) (mm : Nat → Int32) (nf : Nat → Int32) (sf : Nat → Int32) (f : Nat → Int32) (h_n : n ≤ 16) (h_g : g < n) (h_nf : ∀ x_, x_ < n → nf x_ = f (16 + x_)) (h_sf : ∀ x_, x_ < n → sf x_ = zI (sto sk f g x_)) : Met l yX7_storey wsX7_storey ({ frames := 0, cells := 0, slots := 0, locals := 0 } : Room) (va_Pc [.ref M, .ref r, .int (nI 0)] (PB G [(M, .inr (4, [.int (nI rf), .ref mt, .int (nI sz), .ref mn, .ref mtr, .ref md, .int (nI ac), .ref mk, .ref mik, .ref na, .ref so])), (r, .inl (G.2 0, 131, .inl (mr n (nI g) sk mm))), (na, .inl (G.2 0, 16, .inl nf)), (so, .inl (G.2 0, 16, .inl sf))])) (QR (some (.int (zI (mns (fun x_ => ¬ f (16 + x_) = -1) (fun x_ => sto sk f g x_) n))))) 0 0 (fun _ => False) := by
  refine Met.go (cc := cX7_storey) (maxL := 6) (ret := (some .int)) (by decide) rfl (Nat.le_of_ble_eq_true rfl) ?_
  intro p e s m below meth c ls hx hb hr hml hown hts hlk hP hK hD hS hl
  have hown : s.vm.findClass RX7 = some m.cls := hown
  have hl : lv_has ls 6 [(0, .ref M), (1, .ref r), (2, .int (nI 0))] := hl
  refine lv_iconst (v := nI 0) hx hb dX7_storey_0 (by decide) ?_
  refine lv_istore_n (lv' := [(3, .int (nI 0)), (0, .ref M), (1, .ref r), (2, .int (nI 0))]) hx hb dX7_storey_1 rfl hl (by decide) rfl (fun ls hl => ?_)
  refine lv_iconst (v := nI 0) hx hb dX7_storey_2 (by decide) ?_
  refine lv_istore (lv' := [(4, .int (nI 0)), (3, .int (nI 0)), (0, .ref M), (1, .ref r), (2, .int (nI 0))]) hx hb dX7_storey_3 hl (by decide) rfl (fun ls hl => ?_)
  have loop_5 : ∀ (k_ : Nat) (i : Nat) (h_i : i ≤ n) (_ : n - i < k_) (ls : Array Slot), lv_has ls 6 [(4, .int (nI i)), (3, .int (zI (mns (fun x_ => ¬ f (16 + x_) = -1) (fun x_ => sto sk f g x_) i))), (0, .ref M), (1, .ref r), (2, .int (nI 0))] → W p l e ({ frames := 0, cells := 0, slots := 0, locals := 0 } : Room) s m ([.ref M, .ref r, .int (nI 0)] : List Value).toArray below meth c s.heap [] 0 0 (MQ below (QR (some (.int (zI (mns (fun x_ => ¬ f (16 + x_) = -1) (fun x_ => sto sk f g x_) n))))) ([.ref M, .ref r, .int (nI 0)] : List Value).toArray s 0 0 (fun _ => False)) (F0 m 5 ls []) := by
    intro k_
    induction k_ with
    | zero => intro i h_i hk_; exact absurd hk_ (Nat.not_lt_zero _)
    | succ k_ ih_5 =>
      intro i h_i hk_ ls hl
      refine lv_iload hx hb dX7_storey_5 (lv_at hl 0 rfl) ?_
      refine lv_aload_n hx hb dX7_storey_7 rfl (lv_at hl 3 rfl) ?_
      refine lv_iconst (v := nI 0) hx hb dX7_storey_8 (by decide) ?_
      refine nv_iald hx hb hK hP 1 rfl (by omega) (by decide) dX7_storey_9 ?_
      rw [show (mr n (nI g) sk mm) 0 = nI n from mr_0]
      refine bi_ge (tgt := 83) hx hb dX7_storey_10 (by decide) (nI_i (by omega)) (nI_i (by omega)) (fun c_10 => ?_) (fun c_10 => ?_)
      ·
        refine lv_iload_n hx hb dX7_storey_83 rfl (lv_at hl 1 rfl) ?_
        exact R_i hx hb hr hlk dX7_storey_84 (by rw [show i = n by omega])
      ·
        have h_s := sto_rng sk f h_g (show i < n by omega) h_n
        have h_r := mns_rng (p := fun x_ => ¬ f (16 + x_) = -1) (z := fun x_ => sto sk f g x_) (b := -15) (by omega) (n := i) (fun y_ hy_ _ => (sto_rng sk f h_g (by omega : y_ < n) h_n).1)
        refine lv_aload_n hx hb dX7_storey_13 rfl (lv_at hl 2 rfl) ?_
        refine va_get (D := G.1) (ci := 4) (v := .ref na) (C := RX7) (T := TX7) (N := 11) hx hb hts in_c_X7_storey_l_X7 hown hK.1 hP 0 rfl rfl 9 (by decide) (hts (.fieldLink RX7 29 "FloorPanelsModel" "names" "[I") (by decide +kernel)) (fun _ h9 => h9) rfl dX7_storey_14 ?_
        refine lv_iload hx hb dX7_storey_17 (lv_at hl 0 rfl) ?_
        refine nv_iald hx hb hK hP 2 rfl (by omega) (by decide) dX7_storey_19 ?_
        rw [show nf i = (f (16 + i)) from h_nf i (by omega)]
        refine lv_iconst (v := (-1)) hx hb dX7_storey_20 (by decide) ?_
        refine lv_icmp_eq (tgt := 57) hx hb dX7_storey_21 (by decide) (fun c_21 => ?_) (fun c_21 => ?_)
        ·
          refine lv_iconst (v := nI 0) hx hb dX7_storey_57 (by decide) ?_
          refine lv_istore (lv' := [(5, .int (nI 0)), (4, .int (nI i)), (3, .int (zI (mns (fun x_ => ¬ f (16 + x_) = -1) (fun x_ => sto sk f g x_) i))), (0, .ref M), (1, .ref r), (2, .int (nI 0))]) hx hb dX7_storey_58 hl (by decide) rfl (fun ls hl => ?_)
          refine lv_iload hx hb dX7_storey_60 (lv_at hl 0 rfl) ?_
          refine b0_eq (tgt := 75) hx hb dX7_storey_62 (by decide) (nI_i (by omega)) (fun c_62 => ?_) (fun c_62 => False.elim (by omega))
          refine lv_iload_n hx hb dX7_storey_75 rfl (lv_at hl 2 rfl) ?_
          refine lv_istore_n (lv' := [(3, .int (zI (mns (fun x_ => ¬ f (16 + x_) = -1) (fun x_ => sto sk f g x_) i))), (5, .int (nI 0)), (4, .int (nI i)), (0, .ref M), (1, .ref r), (2, .int (nI 0))]) hx hb dX7_storey_76 rfl hl (by decide) rfl (fun ls hl => ?_)
          refine lv_iinc (v := nI (i + 1)) (lv' := [(4, .int (nI (i + 1))), (3, .int (zI (mns (fun x_ => ¬ f (16 + x_) = -1) (fun x_ => sto sk f g x_) i))), (5, .int (nI 0)), (0, .ref M), (1, .ref r), (2, .int (nI 0))]) hx hb dX7_storey_77 hl (k := 2) rfl (inc_n _ 1) (by decide) rfl (fun ls hl => ?_)
          refine lv_goto (tgt := 5) hx hb dX7_storey_80 (by decide) ?_
          exact ih_5 (i + 1) (by first | omega | assumption) (by omega) ls (lv_sub hl [0, 1, 3, 4, 5] (by first | (rw [mns_t (by assumption), Int.min_eq_right (by omega)]; rfl) | (rw [mns_f (fun z_ => z_ (by assumption))]; rfl) | (rw [mns_t (by assumption), Int.min_eq_left (by omega)]; rfl)))
        ·
          refine lv_iload_n hx hb dX7_storey_24 rfl (lv_at hl 4 rfl) ?_
          refine b0_eq (tgt := 42) hx hb dX7_storey_25 (by decide) (nI_i (by omega)) (fun c_25 => ?_) (fun c_25 => False.elim (by omega))
          refine lv_aload_n hx hb dX7_storey_42 rfl (lv_at hl 2 rfl) ?_
          refine va_get (D := G.1) (ci := 4) (v := .ref so) (C := RX7) (T := TX7) (N := 11) hx hb hts in_c_X7_storey_l_X7 hown hK.1 hP 0 rfl rfl 10 (by decide) (hts (.fieldLink RX7 32 "FloorPanelsModel" "storeys" "[I") (by decide +kernel)) (fun _ h9 => h9) rfl dX7_storey_43 ?_
          refine lv_iload hx hb dX7_storey_46 (lv_at hl 0 rfl) ?_
          refine nv_iald hx hb hK hP 3 rfl (by omega) (by decide) dX7_storey_48 ?_
          rw [show sf i = zI (sto sk f g i) from h_sf i (by omega)]
          refine lv_iload_n hx hb dX7_storey_49 rfl (lv_at hl 1 rfl) ?_
          refine bi_ge (tgt := 57) hx hb dX7_storey_50 (by decide) (zI_toInt (by omega)) (zI_toInt (by omega)) (fun c_50 => ?_) (fun c_50 => ?_)
          ·
            refine lv_iconst (v := nI 0) hx hb dX7_storey_57 (by decide) ?_
            refine lv_istore (lv' := [(5, .int (nI 0)), (4, .int (nI i)), (3, .int (zI (mns (fun x_ => ¬ f (16 + x_) = -1) (fun x_ => sto sk f g x_) i))), (0, .ref M), (1, .ref r), (2, .int (nI 0))]) hx hb dX7_storey_58 hl (by decide) rfl (fun ls hl => ?_)
            refine lv_iload hx hb dX7_storey_60 (lv_at hl 0 rfl) ?_
            refine b0_eq (tgt := 75) hx hb dX7_storey_62 (by decide) (nI_i (by omega)) (fun c_62 => ?_) (fun c_62 => False.elim (by omega))
            refine lv_iload_n hx hb dX7_storey_75 rfl (lv_at hl 2 rfl) ?_
            refine lv_istore_n (lv' := [(3, .int (zI (mns (fun x_ => ¬ f (16 + x_) = -1) (fun x_ => sto sk f g x_) i))), (5, .int (nI 0)), (4, .int (nI i)), (0, .ref M), (1, .ref r), (2, .int (nI 0))]) hx hb dX7_storey_76 rfl hl (by decide) rfl (fun ls hl => ?_)
            refine lv_iinc (v := nI (i + 1)) (lv' := [(4, .int (nI (i + 1))), (3, .int (zI (mns (fun x_ => ¬ f (16 + x_) = -1) (fun x_ => sto sk f g x_) i))), (5, .int (nI 0)), (0, .ref M), (1, .ref r), (2, .int (nI 0))]) hx hb dX7_storey_77 hl (k := 2) rfl (inc_n _ 1) (by decide) rfl (fun ls hl => ?_)
            refine lv_goto (tgt := 5) hx hb dX7_storey_80 (by decide) ?_
            exact ih_5 (i + 1) (by first | omega | assumption) (by omega) ls (lv_sub hl [0, 1, 3, 4, 5] (by first | (rw [mns_t (by assumption), Int.min_eq_right (by omega)]; rfl) | (rw [mns_f (fun z_ => z_ (by assumption))]; rfl) | (rw [mns_t (by assumption), Int.min_eq_left (by omega)]; rfl)))
          ·
            refine lv_iconst (v := nI 1) hx hb dX7_storey_53 (by decide) ?_
            refine lv_goto (tgt := 58) hx hb dX7_storey_54 (by decide) ?_
            refine lv_istore (lv' := [(5, .int (nI 1)), (4, .int (nI i)), (3, .int (zI (mns (fun x_ => ¬ f (16 + x_) = -1) (fun x_ => sto sk f g x_) i))), (0, .ref M), (1, .ref r), (2, .int (nI 0))]) hx hb dX7_storey_58 hl (by decide) rfl (fun ls hl => ?_)
            refine lv_iload hx hb dX7_storey_60 (lv_at hl 0 rfl) ?_
            refine b0_eq (tgt := 75) hx hb dX7_storey_62 (by decide) (nI_i (by omega)) (fun c_62 => False.elim (by omega)) (fun c_62 => ?_)
            refine lv_aload_n hx hb dX7_storey_65 rfl (lv_at hl 3 rfl) ?_
            refine va_get (D := G.1) (ci := 4) (v := .ref so) (C := RX7) (T := TX7) (N := 11) hx hb hts in_c_X7_storey_l_X7 hown hK.1 hP 0 rfl rfl 10 (by decide) (hts (.fieldLink RX7 32 "FloorPanelsModel" "storeys" "[I") (by decide +kernel)) (fun _ h9 => h9) rfl dX7_storey_66 ?_
            refine lv_iload hx hb dX7_storey_69 (lv_at hl 1 rfl) ?_
            refine nv_iald hx hb hK hP 3 rfl (by omega) (by decide) dX7_storey_71 ?_
            rw [show sf i = zI (sto sk f g i) from h_sf i (by omega)]
            refine lv_goto (tgt := 76) hx hb dX7_storey_72 (by decide) ?_
            refine lv_istore_n (lv' := [(3, .int (zI (sto sk f g i))), (5, .int (nI 1)), (4, .int (nI i)), (0, .ref M), (1, .ref r), (2, .int (nI 0))]) hx hb dX7_storey_76 rfl hl (by decide) rfl (fun ls hl => ?_)
            refine lv_iinc (v := nI (i + 1)) (lv' := [(4, .int (nI (i + 1))), (3, .int (zI (sto sk f g i))), (5, .int (nI 1)), (0, .ref M), (1, .ref r), (2, .int (nI 0))]) hx hb dX7_storey_77 hl (k := 2) rfl (inc_n _ 1) (by decide) rfl (fun ls hl => ?_)
            refine lv_goto (tgt := 5) hx hb dX7_storey_80 (by decide) ?_
            exact ih_5 (i + 1) (by first | omega | assumption) (by omega) ls (lv_sub hl [0, 1, 3, 4, 5] (by first | (rw [mns_t (by assumption), Int.min_eq_right (by omega)]; rfl) | (rw [mns_f (fun z_ => z_ (by assumption))]; rfl) | (rw [mns_t (by assumption), Int.min_eq_left (by omega)]; rfl)))
  exact loop_5 (n - 0 + 1) 0 (by first | omega | assumption) (Nat.lt_succ_self _)  ls (lv_sub hl [0, 1, 2, 3, 4] (by rfl))

