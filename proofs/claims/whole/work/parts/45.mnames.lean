theorem in_c_X7_thrown_X7 : ∀ w ∈ wsX70, w ∈ wsX7_thrown := by decide +kernel
set_option maxHeartbeats 4000000 in
set_option maxRecDepth 100000 in
theorem c_X7_thrown (l : Launch) (G : GG) (M : Nat) (rf : Nat) (mt : Nat) (sz : Nat) (mn : Nat) (mtr : Nat) (md : Nat) (ac : Nat) (mk : Nat) (mik : Nat) (na : Nat) (so : Nat)  : Met l yX7_thrown wsX7_thrown ({ frames := 0, cells := 0, slots := 0, locals := 0 } : Room) (va_Pc [.ref M] (PB G [(M, .inr (4, [.int (nI rf), .ref mt, .int (nI sz), .ref mn, .ref mtr, .ref md, .int (nI ac), .ref mk, .ref mik, .ref na, .ref so]))])) (QR (some (.int (nI rf)))) 0 0 (fun _ => False) := by
  refine Met.go (cc := cX7_thrown) (maxL := 1) (ret := (some .int)) (by decide) rfl (Nat.le_of_ble_eq_true rfl) ?_
  intro p e s m below meth c ls hx hb hr hml hown hts hlk hP hK hD hS hl
  have hown : s.vm.findClass RX7 = some m.cls := hown
  have hl : lv_has ls 1 [(0, .ref M)] := hl
  refine lv_aload_n hx hb dX7_thrown_0 rfl (lv_at hl 0 rfl) ?_
  refine va_get (D := G.1) (ci := 4) (v := .int (nI rf)) (C := RX7) (T := TX7) (N := 11) hx hb hts in_c_X7_thrown_X7 hown hK.1 hP 0 rfl rfl 0 (by decide) (hts (.fieldLink RX7 43 "FloorPanelsModel" "refusal" "I") (by decide +kernel)) (fun _ h9 => h9) rfl dX7_thrown_1 ?_
  exact R_i hx hb hr hlk dX7_thrown_4 (rfl)

theorem in_c_X7_refused_X7 : ∀ w ∈ wsX70, w ∈ wsX7_refused := by decide +kernel
set_option maxHeartbeats 4000000 in
set_option maxRecDepth 100000 in
theorem c_X7_refused (l : Launch) (G : GG) (M : Nat) (rf : Nat) (mt : Nat) (sz : Nat) (mn : Nat) (mtr : Nat) (md : Nat) (ac : Nat) (mk : Nat) (mik : Nat) (na : Nat) (so : Nat) (w : Nat) (h_w : w < 2147483648) : Met l yX7_refused wsX7_refused ({ frames := 0, cells := 0, slots := 0, locals := 0 } : Room) (va_Pc [.ref M, .int (nI w)] (PB G [(M, .inr (4, [.int (nI rf), .ref mt, .int (nI sz), .ref mn, .ref mtr, .ref md, .int (nI ac), .ref mk, .ref mik, .ref na, .ref so]))])) (QW G (some (.int (zb (0 < w)))) [(M, .inr (4, [.int (nI w), .ref mt, .int (nI sz), .ref mn, .ref mtr, .ref md, .int (nI ac), .ref mk, .ref mik, .ref na, .ref so]))] (vA [(M, .inr (4, [.int (nI rf), .ref mt, .int (nI sz), .ref mn, .ref mtr, .ref md, .int (nI ac), .ref mk, .ref mik, .ref na, .ref so]))])) 0 0 (vA [(M, .inr (4, [.int (nI rf), .ref mt, .int (nI sz), .ref mn, .ref mtr, .ref md, .int (nI ac), .ref mk, .ref mik, .ref na, .ref so]))]) := by
  refine Met.go (cc := cX7_refused) (maxL := 2) (ret := (some .boolean)) (by decide) rfl (Nat.le_of_ble_eq_true rfl) ?_
  intro p e s m below meth c ls hx hb hr hml hown hts hlk hP hK hD hS hl
  have hown : s.vm.findClass RX7 = some m.cls := hown
  have hl : lv_has ls 2 [(0, .ref M), (1, .int (nI w))] := hl
  refine lv_aload_n hx hb dX7_refused_0 rfl (lv_at hl 0 rfl) ?_
  refine lv_iload_n hx hb dX7_refused_1 rfl (lv_at hl 1 rfl) ?_
  refine va_put (D := G.1) (ci := 4) (v := .int (nI w)) (ty := .int) (C := RX7) (T := TX7) (N := 11) hx hb hts in_c_X7_refused_X7 tyX7 tyX7_ok nmX7 hown hK.1 hP hD hS 0 rfl rfl 0 (by decide) (hts (.fieldLink RX7 43 "FloorPanelsModel" "refusal" "I") (by decide +kernel)) (fun _ h9 => h9) rfl (by decide +kernel) rfl rfl (Nat.le_of_ble_eq_true rfl) dX7_refused_2 (fun H locs hP hD hS => ?_)
  have hP : VP G [(M, .inr (4, [.int (nI w), .ref mt, .int (nI sz), .ref mn, .ref mtr, .ref md, .int (nI ac), .ref mk, .ref mik, .ref na, .ref so]))] H := hP
  have hD : va_D _ [(M, .inr (4, [.int (nI w), .ref mt, .int (nI sz), .ref mn, .ref mtr, .ref md, .int (nI ac), .ref mk, .ref mik, .ref na, .ref so]))] := hD
  refine lv_iload_n hx hb dX7_refused_5 rfl (lv_at hl 1 rfl) ?_
  refine b0_le (tgt := 13) hx hb dX7_refused_6 (by decide) (nI_i (by omega)) (fun c_6 => ?_) (fun c_6 => ?_)
  ·
    refine lv_iconst (v := nI 0) hx hb dX7_refused_13 (by decide) ?_
    exact W_z hx hb hr hlk dX7_refused_14 hP hS ((zb_f (by first | omega | assumption | exact ⟨by assumption, by assumption⟩ | exact fun z_ => z_ (by assumption) | exact fun z_ => absurd z_.1 (by assumption) | exact fun z_ => absurd z_.2 (by assumption) | exact fun z_ => z_.1 (by assumption) | exact fun z_ => z_.2 (by assumption))).symm) (rfl) zb_nar
  ·
    refine lv_iconst (v := nI 1) hx hb dX7_refused_9 (by decide) ?_
    refine lv_goto (tgt := 14) hx hb dX7_refused_10 (by decide) ?_
    exact W_z hx hb hr hlk dX7_refused_14 hP hS ((zb_t (by first | omega | assumption | exact ⟨by assumption, by assumption⟩ | exact fun z_ => z_ (by assumption) | exact fun z_ => absurd z_.1 (by assumption) | exact fun z_ => absurd z_.2 (by assumption) | exact fun z_ => z_.1 (by assumption) | exact fun z_ => z_.2 (by assumption))).symm) (rfl) zb_nar

theorem in_c_X7_wrongSigns_X7 : ∀ w ∈ wsX70, w ∈ wsX7_wrongSigns := by decide +kernel
set_option maxHeartbeats 4000000 in
set_option maxRecDepth 100000 in
theorem c_X7_wrongSigns (l : Launch) (G : GG) (M : Nat) (rf : Nat) (mt : Nat) (sz : Nat) (mn : Nat) (mtr : Nat) (md : Nat) (ac : Nat) (mk : Nat) (mik : Nat) (na : Nat) (so : Nat) (r : Nat) (n : Nat) (g : Nat) (sk : Int32) (mm : Nat → Int32) (nf : Nat → Int32) (h_n : n ≤ 16) : Met l yX7_wrongSigns wsX7_wrongSigns ({ frames := 0, cells := 0, slots := 0, locals := 0 } : Room) (va_Pc [.ref M, .ref r] (PB G [(M, .inr (4, [.int (nI rf), .ref mt, .int (nI sz), .ref mn, .ref mtr, .ref md, .int (nI ac), .ref mk, .ref mik, .ref na, .ref so])), (r, .inl (G.2 0, 131, .inl (mr n (nI g) sk mm))), (na, .inl (G.2 0, 16, .inl nf))])) (QR (some (.int (nI (ct (fun x_ => ¬ mm (19 + x_) = nf x_) n))))) 0 0 (fun _ => False) := by
  refine Met.go (cc := cX7_wrongSigns) (maxL := 4) (ret := (some .int)) (by decide) rfl (Nat.le_of_ble_eq_true rfl) ?_
  intro p e s m below meth c ls hx hb hr hml hown hts hlk hP hK hD hS hl
  have hown : s.vm.findClass RX7 = some m.cls := hown
  have hl : lv_has ls 4 [(0, .ref M), (1, .ref r)] := hl
  refine lv_iconst (v := nI 0) hx hb dX7_wrongSigns_0 (by decide) ?_
  refine lv_istore_n (lv' := [(2, .int (nI 0)), (0, .ref M), (1, .ref r)]) hx hb dX7_wrongSigns_1 rfl hl (by decide) rfl (fun ls hl => ?_)
  refine lv_iconst (v := nI 0) hx hb dX7_wrongSigns_2 (by decide) ?_
  refine lv_istore_n (lv' := [(3, .int (nI 0)), (2, .int (nI 0)), (0, .ref M), (1, .ref r)]) hx hb dX7_wrongSigns_3 rfl hl (by decide) rfl (fun ls hl => ?_)
  have loop_4 : ∀ (k_ : Nat) (i : Nat) (h_i : i ≤ n) (_ : n - i < k_) (ls : Array Slot), lv_has ls 4 [(3, .int (nI i)), (2, .int (nI (ct (fun x_ => ¬ mm (19 + x_) = nf x_) i))), (0, .ref M), (1, .ref r)] → W p l e ({ frames := 0, cells := 0, slots := 0, locals := 0 } : Room) s m ([.ref M, .ref r] : List Value).toArray below meth c s.heap [] 0 0 (MQ below (QR (some (.int (nI (ct (fun x_ => ¬ mm (19 + x_) = nf x_) n))))) ([.ref M, .ref r] : List Value).toArray s 0 0 (fun _ => False)) (F0 m 4 ls []) := by
    intro k_
    induction k_ with
    | zero => intro i h_i hk_; exact absurd hk_ (Nat.not_lt_zero _)
    | succ k_ ih_4 =>
      intro i h_i hk_ ls hl
      refine lv_iload_n hx hb dX7_wrongSigns_4 rfl (lv_at hl 0 rfl) ?_
      refine lv_aload_n hx hb dX7_wrongSigns_5 rfl (lv_at hl 3 rfl) ?_
      refine lv_iconst (v := nI 0) hx hb dX7_wrongSigns_6 (by decide) ?_
      refine nv_iald hx hb hK hP 1 rfl (by omega) (by decide) dX7_wrongSigns_7 ?_
      rw [show (mr n (nI g) sk mm) 0 = nI n from mr_0]
      refine bi_ge (tgt := 40) hx hb dX7_wrongSigns_8 (by decide) (nI_i (by omega)) (nI_i (by omega)) (fun c_8 => ?_) (fun c_8 => ?_)
      ·
        refine lv_iload_n hx hb dX7_wrongSigns_40 rfl (lv_at hl 1 rfl) ?_
        exact R_i hx hb hr hlk dX7_wrongSigns_41 (by rw [show i = n by omega])
      ·
        refine lv_iload_n hx hb dX7_wrongSigns_11 rfl (lv_at hl 1 rfl) ?_
        refine lv_aload_n hx hb dX7_wrongSigns_12 rfl (lv_at hl 3 rfl) ?_
        refine lv_bipush (v := nI 19) hx hb dX7_wrongSigns_13 (by decide) ?_
        refine lv_iload_n hx hb dX7_wrongSigns_15 rfl (lv_at hl 0 rfl) ?_
        refine nv_iadd hx hb dX7_wrongSigns_16 ?_
        refine nv_iald hx hb hK hP 1 rfl (by omega) (by decide) dX7_wrongSigns_17 ?_
        rw [show (mr n (nI g) sk mm) (19 + i) = (mm (19 + i)) from (mr_j (by omega))]
        refine lv_aload_n hx hb dX7_wrongSigns_18 rfl (lv_at hl 2 rfl) ?_
        refine va_get (D := G.1) (ci := 4) (v := .ref na) (C := RX7) (T := TX7) (N := 11) hx hb hts in_c_X7_wrongSigns_X7 hown hK.1 hP 0 rfl rfl 9 (by decide) (hts (.fieldLink RX7 29 "FloorPanelsModel" "names" "[I") (by decide +kernel)) (fun _ h9 => h9) rfl dX7_wrongSigns_19 ?_
        refine lv_iload_n hx hb dX7_wrongSigns_22 rfl (lv_at hl 0 rfl) ?_
        refine nv_iald hx hb hK hP 2 rfl (by omega) (by decide) dX7_wrongSigns_23 ?_
        refine lv_icmp_ne (tgt := 31) hx hb dX7_wrongSigns_24 (by decide) (fun c_24 => ?_) (fun c_24 => ?_)
        ·
          refine lv_iconst (v := nI 1) hx hb dX7_wrongSigns_31 (by decide) ?_
          refine nv_iadd hx hb dX7_wrongSigns_32 ?_
          refine lv_istore_n (lv' := [(2, .int (nI ((ct (fun x_ => ¬ mm (19 + x_) = nf x_) i) + 1))), (3, .int (nI i)), (0, .ref M), (1, .ref r)]) hx hb dX7_wrongSigns_33 rfl hl (by decide) rfl (fun ls hl => ?_)
          refine lv_iinc (v := nI (i + 1)) (lv' := [(3, .int (nI (i + 1))), (2, .int (nI ((ct (fun x_ => ¬ mm (19 + x_) = nf x_) i) + 1))), (0, .ref M), (1, .ref r)]) hx hb dX7_wrongSigns_34 hl (k := 1) rfl (inc_n _ 1) (by decide) rfl (fun ls hl => ?_)
          refine lv_goto (tgt := 4) hx hb dX7_wrongSigns_37 (by decide) ?_
          exact ih_4 (i + 1) (by first | omega | assumption) (by omega) ls (lv_sub hl [0, 1, 2, 3] (by first | rfl | (rw [ct_t (by assumption)]; rfl) | (rw [ct_f (fun z_ => z_ (by assumption))]; rfl)))
        ·
          refine lv_iconst (v := nI 0) hx hb dX7_wrongSigns_27 (by decide) ?_
          refine lv_goto (tgt := 32) hx hb dX7_wrongSigns_28 (by decide) ?_
          refine nv_iadd hx hb dX7_wrongSigns_32 ?_
          refine lv_istore_n (lv' := [(2, .int (nI ((ct (fun x_ => ¬ mm (19 + x_) = nf x_) i) + 0))), (3, .int (nI i)), (0, .ref M), (1, .ref r)]) hx hb dX7_wrongSigns_33 rfl hl (by decide) rfl (fun ls hl => ?_)
          refine lv_iinc (v := nI (i + 1)) (lv' := [(3, .int (nI (i + 1))), (2, .int (nI ((ct (fun x_ => ¬ mm (19 + x_) = nf x_) i) + 0))), (0, .ref M), (1, .ref r)]) hx hb dX7_wrongSigns_34 hl (k := 1) rfl (inc_n _ 1) (by decide) rfl (fun ls hl => ?_)
          refine lv_goto (tgt := 4) hx hb dX7_wrongSigns_37 (by decide) ?_
          exact ih_4 (i + 1) (by first | omega | assumption) (by omega) ls (lv_sub hl [0, 1, 2, 3] (by first | rfl | (rw [ct_t (by assumption)]; rfl) | (rw [ct_f (fun z_ => z_ (by assumption))]; rfl)))
  exact loop_4 (n - 0 + 1) 0 (by first | omega | assumption) (Nat.lt_succ_self _)  ls (lv_sub hl [0, 1, 2, 3] (by first | rfl | (rw [ct_t (by assumption)]; rfl) | (rw [ct_f (fun z_ => z_ (by assumption))]; rfl)))

theorem in_c_X7_wrongButtons_X7 : ∀ w ∈ wsX70, w ∈ wsX7_wrongButtons := by decide +kernel
set_option maxHeartbeats 4000000 in
set_option maxRecDepth 100000 in
theorem c_X7_wrongButtons (l : Launch) (G : GG) (M : Nat) (rf : Nat) (mt : Nat) (sz : Nat) (mn : Nat) (mtr : Nat) (md : Nat) (ac : Nat) (mk : Nat) (mik : Nat) (na : Nat) (so : Nat) (r : Nat) (n : Nat) (g : Nat) (sk : Int32) (mm : Nat → Int32) (nf : Nat → Int32) (ca : Nat) (h_n : n ≤ 16) (h_ca : ca < 3) : Met l yX7_wrongButtons wsX7_wrongButtons ({ frames := 1, cells := 0, slots := 0, locals := 22 } : Room) (va_Pc [.ref M, .ref r, .int (nI ca)] (PB G [(M, .inr (4, [.int (nI rf), .ref mt, .int (nI sz), .ref mn, .ref mtr, .ref md, .int (nI ac), .ref mk, .ref mik, .ref na, .ref so])), (r, .inl (G.2 0, 131, .inl (mr n (nI g) sk mm))), (na, .inl (G.2 0, 16, .inl nf))])) (QR (some (.int (nI (ct (fun x_ => ¬ mm (35 + 16 * ca + x_) = nf x_) n))))) 0 0 (fun _ => False) := by
  refine Met.go (cc := cX7_wrongButtons) (maxL := 5) (ret := (some .int)) (by decide) rfl (Nat.le_of_ble_eq_true rfl) ?_
  intro p e s m below meth c ls hx hb hr hml hown hts hlk hP hK hD hS hl
  have hown : s.vm.findClass RX7 = some m.cls := hown
  have hl : lv_has ls 5 [(0, .ref M), (1, .ref r), (2, .int (nI ca))] := hl
  refine lv_iconst (v := nI 0) hx hb dX7_wrongButtons_0 (by decide) ?_
  refine lv_istore_n (lv' := [(3, .int (nI 0)), (0, .ref M), (1, .ref r), (2, .int (nI ca))]) hx hb dX7_wrongButtons_1 rfl hl (by decide) rfl (fun ls hl => ?_)
  refine lv_iconst (v := nI 0) hx hb dX7_wrongButtons_2 (by decide) ?_
  refine lv_istore (lv' := [(4, .int (nI 0)), (3, .int (nI 0)), (0, .ref M), (1, .ref r), (2, .int (nI ca))]) hx hb dX7_wrongButtons_3 hl (by decide) rfl (fun ls hl => ?_)
  have loop_5 : ∀ (k_ : Nat) (i : Nat) (h_i : i ≤ n) (_ : n - i < k_) (ls : Array Slot), lv_has ls 5 [(4, .int (nI i)), (3, .int (nI (ct (fun x_ => ¬ mm (35 + 16 * ca + x_) = nf x_) i))), (0, .ref M), (1, .ref r), (2, .int (nI ca))] → W p l e ({ frames := 1, cells := 0, slots := 0, locals := 22 } : Room) s m ([.ref M, .ref r, .int (nI ca)] : List Value).toArray below meth c s.heap [] 0 0 (MQ below (QR (some (.int (nI (ct (fun x_ => ¬ mm (35 + 16 * ca + x_) = nf x_) n))))) ([.ref M, .ref r, .int (nI ca)] : List Value).toArray s 0 0 (fun _ => False)) (F0 m 5 ls []) := by
    intro k_
    induction k_ with
    | zero => intro i h_i hk_; exact absurd hk_ (Nat.not_lt_zero _)
    | succ k_ ih_5 =>
      intro i h_i hk_ ls hl
      refine lv_iload hx hb dX7_wrongButtons_5 (lv_at hl 0 rfl) ?_
      refine lv_aload_n hx hb dX7_wrongButtons_7 rfl (lv_at hl 3 rfl) ?_
      refine lv_iconst (v := nI 0) hx hb dX7_wrongButtons_8 (by decide) ?_
      refine nv_iald hx hb hK hP 1 rfl (by omega) (by decide) dX7_wrongButtons_9 ?_
      rw [show (mr n (nI g) sk mm) 0 = nI n from mr_0]
      refine bi_ge (tgt := 44) hx hb dX7_wrongButtons_10 (by decide) (nI_i (by omega)) (nI_i (by omega)) (fun c_10 => ?_) (fun c_10 => ?_)
      ·
        refine lv_iload_n hx hb dX7_wrongButtons_44 rfl (lv_at hl 1 rfl) ?_
        exact R_i hx hb hr hlk dX7_wrongButtons_45 (by rw [show i = n by omega])
      ·
        refine lv_iload_n hx hb dX7_wrongButtons_13 rfl (lv_at hl 1 rfl) ?_
        refine lv_aload_n hx hb dX7_wrongButtons_14 rfl (lv_at hl 3 rfl) ?_
        refine lv_iload_n hx hb dX7_wrongButtons_15 rfl (lv_at hl 4 rfl) ?_
        refine lv_iload hx hb dX7_wrongButtons_16 (lv_at hl 0 rfl) ?_
        refine cRS (As := [.ref r, .int (nI ca), .int (nI i)]) (rest := [.int (nI (ct (fun x_ => ¬ mm (35 + 16 * ca + x_) = nf x_) i))]) (v := .int (mm (35 + 16 * ca + i))) ⟨hx, hb, hml, hown, hts⟩ (c_X7_says l G r n g sk mm ca i (by first | omega | assumption) (by first | omega | assumption)) (va_cwS 3 hts gX7_wrongButtons_X7_says rfl rfl rfl (by decide +kernel) ⟨Nat.le_of_ble_eq_true rfl, Nat.le_of_ble_eq_true rfl⟩) (preS_of hK hP hD [1] (by decide) rfl) rfl hl.1 rfl (lv_room (Nat.le_of_ble_eq_true rfl)) dX7_wrongButtons_18 ⟨Nat.zero_le _, Nat.zero_le _⟩ ?_
        refine lv_aload_n hx hb dX7_wrongButtons_21 rfl (lv_at hl 2 rfl) ?_
        refine va_get (D := G.1) (ci := 4) (v := .ref na) (C := RX7) (T := TX7) (N := 11) hx hb hts in_c_X7_wrongButtons_X7 hown hK.1 hP 0 rfl rfl 9 (by decide) (hts (.fieldLink RX7 29 "FloorPanelsModel" "names" "[I") (by decide +kernel)) (fun _ h9 => h9) rfl dX7_wrongButtons_22 ?_
        refine lv_iload hx hb dX7_wrongButtons_25 (lv_at hl 0 rfl) ?_
        refine nv_iald hx hb hK hP 2 rfl (by omega) (by decide) dX7_wrongButtons_27 ?_
        refine lv_icmp_ne (tgt := 35) hx hb dX7_wrongButtons_28 (by decide) (fun c_28 => ?_) (fun c_28 => ?_)
        ·
          refine lv_iconst (v := nI 1) hx hb dX7_wrongButtons_35 (by decide) ?_
          refine nv_iadd hx hb dX7_wrongButtons_36 ?_
          refine lv_istore_n (lv' := [(3, .int (nI ((ct (fun x_ => ¬ mm (35 + 16 * ca + x_) = nf x_) i) + 1))), (4, .int (nI i)), (0, .ref M), (1, .ref r), (2, .int (nI ca))]) hx hb dX7_wrongButtons_37 rfl hl (by decide) rfl (fun ls hl => ?_)
          refine lv_iinc (v := nI (i + 1)) (lv' := [(4, .int (nI (i + 1))), (3, .int (nI ((ct (fun x_ => ¬ mm (35 + 16 * ca + x_) = nf x_) i) + 1))), (0, .ref M), (1, .ref r), (2, .int (nI ca))]) hx hb dX7_wrongButtons_38 hl (k := 1) rfl (inc_n _ 1) (by decide) rfl (fun ls hl => ?_)
          refine lv_goto (tgt := 5) hx hb dX7_wrongButtons_41 (by decide) ?_
          exact ih_5 (i + 1) (by first | omega | assumption) (by omega) ls (lv_sub hl [0, 1, 2, 3, 4] (by first | rfl | (rw [ct_t (by assumption)]; rfl) | (rw [ct_f (fun z_ => z_ (by assumption))]; rfl)))
        ·
          refine lv_iconst (v := nI 0) hx hb dX7_wrongButtons_31 (by decide) ?_
          refine lv_goto (tgt := 36) hx hb dX7_wrongButtons_32 (by decide) ?_
          refine nv_iadd hx hb dX7_wrongButtons_36 ?_
          refine lv_istore_n (lv' := [(3, .int (nI ((ct (fun x_ => ¬ mm (35 + 16 * ca + x_) = nf x_) i) + 0))), (4, .int (nI i)), (0, .ref M), (1, .ref r), (2, .int (nI ca))]) hx hb dX7_wrongButtons_37 rfl hl (by decide) rfl (fun ls hl => ?_)
          refine lv_iinc (v := nI (i + 1)) (lv' := [(4, .int (nI (i + 1))), (3, .int (nI ((ct (fun x_ => ¬ mm (35 + 16 * ca + x_) = nf x_) i) + 0))), (0, .ref M), (1, .ref r), (2, .int (nI ca))]) hx hb dX7_wrongButtons_38 hl (k := 1) rfl (inc_n _ 1) (by decide) rfl (fun ls hl => ?_)
          refine lv_goto (tgt := 5) hx hb dX7_wrongButtons_41 (by decide) ?_
          exact ih_5 (i + 1) (by first | omega | assumption) (by omega) ls (lv_sub hl [0, 1, 2, 3, 4] (by first | rfl | (rw [ct_t (by assumption)]; rfl) | (rw [ct_f (fun z_ => z_ (by assumption))]; rfl)))
  exact loop_5 (n - 0 + 1) 0 (by first | omega | assumption) (Nat.lt_succ_self _)  ls (lv_sub hl [0, 1, 2, 3, 4] (by first | rfl | (rw [ct_t (by assumption)]; rfl) | (rw [ct_f (fun z_ => z_ (by assumption))]; rfl)))

theorem in_c_X7_alike_X7 : ∀ w ∈ wsX70, w ∈ wsX7_alike := by decide +kernel
set_option maxHeartbeats 4000000 in
set_option maxRecDepth 100000 in
theorem c_X7_alike (l : Launch) (G : GG) (M : Nat) (rf : Nat) (mt : Nat) (sz : Nat) (mn : Nat) (mtr : Nat) (md : Nat) (ac : Nat) (mk : Nat) (mik : Nat) (na : Nat) (so : Nat) (r : Nat) (n : Nat) (g : Nat) (sk : Int32) (mm : Nat → Int32) (nf : Nat → Int32) (nv : Int32) (h_n : n ≤ 16) : Met l yX7_alike wsX7_alike ({ frames := 0, cells := 0, slots := 0, locals := 0 } : Room) (va_Pc [.ref M, .ref r, .int nv] (PB G [(M, .inr (4, [.int (nI rf), .ref mt, .int (nI sz), .ref mn, .ref mtr, .ref md, .int (nI ac), .ref mk, .ref mik, .ref na, .ref so])), (r, .inl (G.2 0, 131, .inl (mr n (nI g) sk mm))), (na, .inl (G.2 0, 16, .inl nf))])) (QR (some (.int (nI (ct (fun x_ => ¬ nv = -1 ∧ nf x_ = nv) n))))) 0 0 (fun _ => False) := by
  refine Met.go (cc := cX7_alike) (maxL := 5) (ret := (some .int)) (by decide) rfl (Nat.le_of_ble_eq_true rfl) ?_
  intro p e s m below meth c ls hx hb hr hml hown hts hlk hP hK hD hS hl
  have hown : s.vm.findClass RX7 = some m.cls := hown
  have hl : lv_has ls 5 [(0, .ref M), (1, .ref r), (2, .int nv)] := hl
  refine lv_iconst (v := nI 0) hx hb dX7_alike_0 (by decide) ?_
  refine lv_istore_n (lv' := [(3, .int (nI 0)), (0, .ref M), (1, .ref r), (2, .int nv)]) hx hb dX7_alike_1 rfl hl (by decide) rfl (fun ls hl => ?_)
  refine lv_iconst (v := nI 0) hx hb dX7_alike_2 (by decide) ?_
  refine lv_istore (lv' := [(4, .int (nI 0)), (3, .int (nI 0)), (0, .ref M), (1, .ref r), (2, .int nv)]) hx hb dX7_alike_3 hl (by decide) rfl (fun ls hl => ?_)
  have loop_5 : ∀ (k_ : Nat) (i : Nat) (h_i : i ≤ n) (_ : n - i < k_) (ls : Array Slot), lv_has ls 5 [(4, .int (nI i)), (3, .int (nI (ct (fun x_ => ¬ nv = -1 ∧ nf x_ = nv) i))), (0, .ref M), (1, .ref r), (2, .int nv)] → W p l e ({ frames := 0, cells := 0, slots := 0, locals := 0 } : Room) s m ([.ref M, .ref r, .int nv] : List Value).toArray below meth c s.heap [] 0 0 (MQ below (QR (some (.int (nI (ct (fun x_ => ¬ nv = -1 ∧ nf x_ = nv) n))))) ([.ref M, .ref r, .int nv] : List Value).toArray s 0 0 (fun _ => False)) (F0 m 5 ls []) := by
    intro k_
    induction k_ with
    | zero => intro i h_i hk_; exact absurd hk_ (Nat.not_lt_zero _)
    | succ k_ ih_5 =>
      intro i h_i hk_ ls hl
      refine lv_iload hx hb dX7_alike_5 (lv_at hl 0 rfl) ?_
      refine lv_aload_n hx hb dX7_alike_7 rfl (lv_at hl 3 rfl) ?_
      refine lv_iconst (v := nI 0) hx hb dX7_alike_8 (by decide) ?_
      refine nv_iald hx hb hK hP 1 rfl (by omega) (by decide) dX7_alike_9 ?_
      rw [show (mr n (nI g) sk mm) 0 = nI n from mr_0]
      refine bi_ge (tgt := 43) hx hb dX7_alike_10 (by decide) (nI_i (by omega)) (nI_i (by omega)) (fun c_10 => ?_) (fun c_10 => ?_)
      ·
        refine lv_iload_n hx hb dX7_alike_43 rfl (lv_at hl 1 rfl) ?_
        exact R_i hx hb hr hlk dX7_alike_44 (by rw [show i = n by omega])
      ·
        refine lv_iload_n hx hb dX7_alike_13 rfl (lv_at hl 1 rfl) ?_
        refine lv_iload_n hx hb dX7_alike_14 rfl (lv_at hl 4 rfl) ?_
        refine lv_iconst (v := (-1)) hx hb dX7_alike_15 (by decide) ?_
        refine lv_icmp_eq (tgt := 34) hx hb dX7_alike_16 (by decide) (fun c_16 => ?_) (fun c_16 => ?_)
        ·
          refine lv_iconst (v := nI 0) hx hb dX7_alike_34 (by decide) ?_
          refine nv_iadd hx hb dX7_alike_35 ?_
          refine lv_istore_n (lv' := [(3, .int (nI ((ct (fun x_ => ¬ nv = -1 ∧ nf x_ = nv) i) + 0))), (4, .int (nI i)), (0, .ref M), (1, .ref r), (2, .int nv)]) hx hb dX7_alike_36 rfl hl (by decide) rfl (fun ls hl => ?_)
          refine lv_iinc (v := nI (i + 1)) (lv' := [(4, .int (nI (i + 1))), (3, .int (nI ((ct (fun x_ => ¬ nv = -1 ∧ nf x_ = nv) i) + 0))), (0, .ref M), (1, .ref r), (2, .int nv)]) hx hb dX7_alike_37 hl (k := 1) rfl (inc_n _ 1) (by decide) rfl (fun ls hl => ?_)
          refine lv_goto (tgt := 5) hx hb dX7_alike_40 (by decide) ?_
          exact ih_5 (i + 1) (by first | omega | assumption) (by omega) ls (lv_sub hl [0, 1, 2, 3, 4] (by first | rfl | (rw [ct_t ⟨by assumption, by assumption⟩]; rfl) | (rw [ct_f (fun z_ => z_.1 (by assumption))]; rfl) | (rw [ct_f (fun z_ => absurd z_.2 (by assumption))]; rfl)))
        ·
          refine lv_aload_n hx hb dX7_alike_19 rfl (lv_at hl 2 rfl) ?_
          refine va_get (D := G.1) (ci := 4) (v := .ref na) (C := RX7) (T := TX7) (N := 11) hx hb hts in_c_X7_alike_X7 hown hK.1 hP 0 rfl rfl 9 (by decide) (hts (.fieldLink RX7 29 "FloorPanelsModel" "names" "[I") (by decide +kernel)) (fun _ h9 => h9) rfl dX7_alike_20 ?_
          refine lv_iload hx hb dX7_alike_23 (lv_at hl 0 rfl) ?_
          refine nv_iald hx hb hK hP 2 rfl (by omega) (by decide) dX7_alike_25 ?_
          refine lv_iload_n hx hb dX7_alike_26 rfl (lv_at hl 4 rfl) ?_
          refine lv_icmp_ne (tgt := 34) hx hb dX7_alike_27 (by decide) (fun c_27 => ?_) (fun c_27 => ?_)
          ·
            refine lv_iconst (v := nI 0) hx hb dX7_alike_34 (by decide) ?_
            refine nv_iadd hx hb dX7_alike_35 ?_
            refine lv_istore_n (lv' := [(3, .int (nI ((ct (fun x_ => ¬ nv = -1 ∧ nf x_ = nv) i) + 0))), (4, .int (nI i)), (0, .ref M), (1, .ref r), (2, .int nv)]) hx hb dX7_alike_36 rfl hl (by decide) rfl (fun ls hl => ?_)
            refine lv_iinc (v := nI (i + 1)) (lv' := [(4, .int (nI (i + 1))), (3, .int (nI ((ct (fun x_ => ¬ nv = -1 ∧ nf x_ = nv) i) + 0))), (0, .ref M), (1, .ref r), (2, .int nv)]) hx hb dX7_alike_37 hl (k := 1) rfl (inc_n _ 1) (by decide) rfl (fun ls hl => ?_)
            refine lv_goto (tgt := 5) hx hb dX7_alike_40 (by decide) ?_
            exact ih_5 (i + 1) (by first | omega | assumption) (by omega) ls (lv_sub hl [0, 1, 2, 3, 4] (by first | rfl | (rw [ct_t ⟨by assumption, by assumption⟩]; rfl) | (rw [ct_f (fun z_ => z_.1 (by assumption))]; rfl) | (rw [ct_f (fun z_ => absurd z_.2 (by assumption))]; rfl)))
          ·
            refine lv_iconst (v := nI 1) hx hb dX7_alike_30 (by decide) ?_
            refine lv_goto (tgt := 35) hx hb dX7_alike_31 (by decide) ?_
            refine nv_iadd hx hb dX7_alike_35 ?_
            refine lv_istore_n (lv' := [(3, .int (nI ((ct (fun x_ => ¬ nv = -1 ∧ nf x_ = nv) i) + 1))), (4, .int (nI i)), (0, .ref M), (1, .ref r), (2, .int nv)]) hx hb dX7_alike_36 rfl hl (by decide) rfl (fun ls hl => ?_)
            refine lv_iinc (v := nI (i + 1)) (lv' := [(4, .int (nI (i + 1))), (3, .int (nI ((ct (fun x_ => ¬ nv = -1 ∧ nf x_ = nv) i) + 1))), (0, .ref M), (1, .ref r), (2, .int nv)]) hx hb dX7_alike_37 hl (k := 1) rfl (inc_n _ 1) (by decide) rfl (fun ls hl => ?_)
            refine lv_goto (tgt := 5) hx hb dX7_alike_40 (by decide) ?_
            exact ih_5 (i + 1) (by first | omega | assumption) (by omega) ls (lv_sub hl [0, 1, 2, 3, 4] (by first | rfl | (rw [ct_t ⟨by assumption, by assumption⟩]; rfl) | (rw [ct_f (fun z_ => z_.1 (by assumption))]; rfl) | (rw [ct_f (fun z_ => absurd z_.2 (by assumption))]; rfl)))
  exact loop_5 (n - 0 + 1) 0 (by first | omega | assumption) (Nat.lt_succ_self _)  ls (lv_sub hl [0, 1, 2, 3, 4] (by first | rfl | (rw [ct_t ⟨by assumption, by assumption⟩]; rfl) | (rw [ct_f (fun z_ => z_.1 (by assumption))]; rfl) | (rw [ct_f (fun z_ => absurd z_.2 (by assumption))]; rfl)))

set_option maxHeartbeats 4000000 in
set_option maxRecDepth 100000 in
theorem c_X7_wrong (l : Launch) (G : GG) (M : Nat) (rf : Nat) (mt : Nat) (sz : Nat) (mn : Nat) (mtr : Nat) (md : Nat) (ac : Nat) (mk : Nat) (mik : Nat) (na : Nat) (so : Nat) (r : Nat) (n : Nat) (g : Nat) (sk : Int32) (mm : Nat → Int32) (nf : Nat → Int32) (sf : Nat → Int32) (h_n : n ≤ 16) (h_g : g < n) (h_k : mm (3 + g) = 0) : Met l yX7_wrong wsX7_wrong ({ frames := 3, cells := 0, slots := 0, locals := 74 } : Room) (va_Pc [.ref M, .ref r] (PB G [(M, .inr (4, [.int (nI rf), .ref mt, .int (nI sz), .ref mn, .ref mtr, .ref md, .int (nI ac), .ref mk, .ref mik, .ref na, .ref so])), (r, .inl (G.2 0, 131, .inl (mr n (nI g) sk mm))), (na, .inl (G.2 0, 16, .inl nf)), (so, .inl (G.2 0, 16, .inl sf))])) (QW G (some (.int (nI (mwr sk mm g 19 n + mwr sk mm g (35 + 16 * 0) n + mwr sk mm g (35 + 16 * 1) n + mwr sk mm g (35 + 16 * 2) n)))) [(M, .inr (4, [.int (nI rf), .ref mt, .int (nI sz), .ref mn, .ref mtr, .ref md, .int (nI ac), .ref mk, .ref mik, .ref na, .ref so])), (r, .inl (G.2 0, 131, .inl (mr n (nI g) sk mm))), (na, .inl (G.2 0, 16, .inl (nmA sk (kdm mm) g 0 n nf))), (so, .inl (G.2 0, 16, .inl (soA sk (kdm mm) g 0 n sf)))] (vA [(M, .inr (4, [.int (nI rf), .ref mt, .int (nI sz), .ref mn, .ref mtr, .ref md, .int (nI ac), .ref mk, .ref mik, .ref na, .ref so])), (r, .inl (G.2 0, 131, .inl (mr n (nI g) sk mm))), (na, .inl (G.2 0, 16, .inl nf)), (so, .inl (G.2 0, 16, .inl sf))])) 0 0 (vA [(M, .inr (4, [.int (nI rf), .ref mt, .int (nI sz), .ref mn, .ref mtr, .ref md, .int (nI ac), .ref mk, .ref mik, .ref na, .ref so])), (r, .inl (G.2 0, 131, .inl (mr n (nI g) sk mm))), (na, .inl (G.2 0, 16, .inl nf)), (so, .inl (G.2 0, 16, .inl sf))]) := by
  refine Met.go (cc := cX7_wrong) (maxL := 2) (ret := (some .int)) (by decide) rfl (Nat.le_of_ble_eq_true rfl) ?_
  intro p e s m below meth c ls hx hb hr hml hown hts hlk hP hK hD hS hl
  have hown : s.vm.findClass RX7 = some m.cls := hown
  have hl : lv_has ls 2 [(0, .ref M), (1, .ref r)] := hl
  refine lv_aload_n hx hb dX7_wrong_0 rfl (lv_at hl 0 rfl) ?_
  refine lv_aload_n hx hb dX7_wrong_1 rfl (lv_at hl 1 rfl) ?_
  refine cWV (As := [.ref r]) (rest := []) (st1 := []) (w3 := [(M, .inr (4, [.int (nI rf), .ref mt, .int (nI sz), .ref mn, .ref mtr, .ref md, .int (nI ac), .ref mk, .ref mik, .ref na, .ref so])), (r, .inl (G.2 0, 131, .inl (mr n (nI g) sk mm))), (na, .inl (G.2 0, 16, .inl (nmA sk (kdm mm) g 0 n nf))), (so, .inl (G.2 0, 16, .inl (soA sk (kdm mm) g 0 n sf)))]) ⟨hx, hb, hml, hown, hts⟩ (c_X7_name l G M rf mt sz mn mtr md ac mk mik na so r n g sk mm nf sf (by first | omega | assumption) (by first | omega | assumption) (by first | omega | assumption)) (cwV 1 hts gX7_wrong_X7_name rfl rfl rfl (by decide +kernel) ⟨Nat.le_of_ble_eq_true rfl, Nat.le_of_ble_eq_true rfl⟩) (preV_of hK hP hD [0, 1, 2, 3] (by decide) rfl (ci := 4) (q0 := 0) rfl rfl rfl) rfl hl.1 rfl (lv_room (Nat.le_of_ble_eq_true rfl)) dX7_wrong_2 ⟨Nat.zero_le _, Nat.zero_le _⟩ hP hD hS [0, 1, 2, 3] (by decide) rfl rfl (rfl) rfl (fun H locs hP hD hS => ?_)
  refine lv_aload_n hx hb dX7_wrong_5 rfl (lv_at hl 0 rfl) ?_
  refine lv_aload_n hx hb dX7_wrong_6 rfl (lv_at hl 1 rfl) ?_
  refine cRV (As := [.ref r]) (rest := []) (v := .int (nI (ct (fun x_ => ¬ mm (19 + x_) = (nmA sk (kdm mm) g 0 n nf) x_) n))) ⟨hx, hb, hml, hown, hts⟩ (c_X7_wrongSigns l G M rf mt sz mn mtr md ac mk mik na so r n g sk mm (nmA sk (kdm mm) g 0 n nf) (by first | omega | assumption)) (cwV 1 hts gX7_wrong_X7_wrongSigns rfl rfl rfl (by decide +kernel) ⟨Nat.le_of_ble_eq_true rfl, Nat.le_of_ble_eq_true rfl⟩) (preV_of hK hP hD [0, 1, 2] (by decide) rfl (ci := 4) (q0 := 0) rfl rfl rfl) rfl hl.1 rfl (lv_room (Nat.le_of_ble_eq_true rfl)) dX7_wrong_7 ⟨Nat.zero_le _, Nat.zero_le _⟩ ?_
  rw [show (nI (ct (fun x_ => ¬ mm (19 + x_) = (nmA sk (kdm mm) g 0 n nf) x_) n)) = nI (mwr sk mm g 19 n) from congrArg nI mwr_A]
  refine lv_aload_n hx hb dX7_wrong_10 rfl (lv_at hl 0 rfl) ?_
  refine lv_aload_n hx hb dX7_wrong_11 rfl (lv_at hl 1 rfl) ?_
  refine lv_iconst (v := nI 0) hx hb dX7_wrong_12 (by decide) ?_
  refine cRV (As := [.ref r, .int (nI 0)]) (rest := [.int (nI (mwr sk mm g 19 n))]) (v := .int (nI (ct (fun x_ => ¬ mm (35 + 0 + x_) = (nmA sk (kdm mm) g 0 n nf) x_) n))) ⟨hx, hb, hml, hown, hts⟩ (c_X7_wrongButtons l G M rf mt sz mn mtr md ac mk mik na so r n g sk mm (nmA sk (kdm mm) g 0 n nf) 0 (by first | omega | assumption) (by first | omega | assumption)) (cwV 2 hts gX7_wrong_X7_wrongButtons rfl rfl rfl (by decide +kernel) ⟨Nat.le_of_ble_eq_true rfl, Nat.le_of_ble_eq_true rfl⟩) (preV_of hK hP hD [0, 1, 2] (by decide) rfl (ci := 4) (q0 := 0) rfl rfl rfl) rfl hl.1 rfl (lv_room (Nat.le_of_ble_eq_true rfl)) dX7_wrong_13 ⟨Nat.zero_le _, Nat.zero_le _⟩ ?_
  rw [show (nI (ct (fun x_ => ¬ mm (35 + 0 + x_) = (nmA sk (kdm mm) g 0 n nf) x_) n)) = nI (mwr sk mm g (35 + 16 * 0) n) from congrArg nI mwr_A]
  refine nv_iadd hx hb dX7_wrong_16 ?_
  refine lv_aload_n hx hb dX7_wrong_17 rfl (lv_at hl 0 rfl) ?_
  refine lv_aload_n hx hb dX7_wrong_18 rfl (lv_at hl 1 rfl) ?_
  refine lv_iconst (v := nI 1) hx hb dX7_wrong_19 (by decide) ?_
  refine cRV (As := [.ref r, .int (nI 1)]) (rest := [.int (nI ((mwr sk mm g 19 n) + (mwr sk mm g (35 + 16 * 0) n)))]) (v := .int (nI (ct (fun x_ => ¬ mm (35 + 16 + x_) = (nmA sk (kdm mm) g 0 n nf) x_) n))) ⟨hx, hb, hml, hown, hts⟩ (c_X7_wrongButtons l G M rf mt sz mn mtr md ac mk mik na so r n g sk mm (nmA sk (kdm mm) g 0 n nf) 1 (by first | omega | assumption) (by first | omega | assumption)) (cwV 2 hts gX7_wrong_X7_wrongButtons rfl rfl rfl (by decide +kernel) ⟨Nat.le_of_ble_eq_true rfl, Nat.le_of_ble_eq_true rfl⟩) (preV_of hK hP hD [0, 1, 2] (by decide) rfl (ci := 4) (q0 := 0) rfl rfl rfl) rfl hl.1 rfl (lv_room (Nat.le_of_ble_eq_true rfl)) dX7_wrong_20 ⟨Nat.zero_le _, Nat.zero_le _⟩ ?_
  rw [show (nI (ct (fun x_ => ¬ mm (35 + 16 + x_) = (nmA sk (kdm mm) g 0 n nf) x_) n)) = nI (mwr sk mm g (35 + 16 * 1) n) from congrArg nI mwr_A]
  refine nv_iadd hx hb dX7_wrong_23 ?_
  refine lv_aload_n hx hb dX7_wrong_24 rfl (lv_at hl 0 rfl) ?_
  refine lv_aload_n hx hb dX7_wrong_25 rfl (lv_at hl 1 rfl) ?_
  refine lv_iconst (v := nI 2) hx hb dX7_wrong_26 (by decide) ?_
  refine cRV (As := [.ref r, .int (nI 2)]) (rest := [.int (nI (((mwr sk mm g 19 n) + (mwr sk mm g (35 + 16 * 0) n)) + (mwr sk mm g (35 + 16 * 1) n)))]) (v := .int (nI (ct (fun x_ => ¬ mm (35 + 32 + x_) = (nmA sk (kdm mm) g 0 n nf) x_) n))) ⟨hx, hb, hml, hown, hts⟩ (c_X7_wrongButtons l G M rf mt sz mn mtr md ac mk mik na so r n g sk mm (nmA sk (kdm mm) g 0 n nf) 2 (by first | omega | assumption) (by first | omega | assumption)) (cwV 2 hts gX7_wrong_X7_wrongButtons rfl rfl rfl (by decide +kernel) ⟨Nat.le_of_ble_eq_true rfl, Nat.le_of_ble_eq_true rfl⟩) (preV_of hK hP hD [0, 1, 2] (by decide) rfl (ci := 4) (q0 := 0) rfl rfl rfl) rfl hl.1 rfl (lv_room (Nat.le_of_ble_eq_true rfl)) dX7_wrong_27 ⟨Nat.zero_le _, Nat.zero_le _⟩ ?_
  rw [show (nI (ct (fun x_ => ¬ mm (35 + 32 + x_) = (nmA sk (kdm mm) g 0 n nf) x_) n)) = nI (mwr sk mm g (35 + 16 * 2) n) from congrArg nI mwr_A]
  refine nv_iadd hx hb dX7_wrong_30 ?_
  exact W_i hx hb hr hlk dX7_wrong_31 hP hS (rfl) (rfl)

theorem in_c_X7_putSignOn_X7 : ∀ w ∈ wsX70, w ∈ wsX7_putSignOn := by decide +kernel
set_option maxHeartbeats 4000000 in
set_option maxRecDepth 100000 in
theorem c_X7_putSignOn (l : Launch) (G : GG) (M : Nat) (rf : Nat) (mt : Nat) (sz : Nat) (mn : Nat) (mtr : Nat) (md : Nat) (ac : Nat) (mk : Nat) (mik : Nat) (na : Nat) (so : Nat) (r : Nat) (n : Nat) (g : Nat) (sk : Int32) (mm : Nat → Int32) (nf : Nat → Int32) (sf : Nat → Int32) (lv : Nat) (h_n : n ≤ 16) (h_g : g < n) (h_k : mm (3 + g) = 0) (h_lv : lv < n) : Met l yX7_putSignOn wsX7_putSignOn ({ frames := 3, cells := 0, slots := 0, locals := 74 } : Room) (va_Pc [.ref M, .ref r, .int (nI lv)] (PB G [(M, .inr (4, [.int (nI rf), .ref mt, .int (nI sz), .ref mn, .ref mtr, .ref md, .int (nI ac), .ref mk, .ref mik, .ref na, .ref so])), (r, .inl (G.2 0, 131, .inl (mr n (nI g) sk mm))), (na, .inl (G.2 0, 16, .inl nf)), (so, .inl (G.2 0, 16, .inl sf))])) (QW G (some (.int (mm (19 + lv)))) [(M, .inr (4, [.int (nI rf), .ref mt, .int (nI sz), .ref mn, .ref mtr, .ref md, .int (nI ac), .ref mk, .ref mik, .ref na, .ref so])), (r, .inl (G.2 0, 131, .inl (mr n (nI g) sk (upd mm (19 + lv) (nm sk (kdm mm) g lv))))), (na, .inl (G.2 0, 16, .inl (nmA sk (kdm mm) g 0 n nf))), (so, .inl (G.2 0, 16, .inl (soA sk (kdm mm) g 0 n sf)))] (vA [(M, .inr (4, [.int (nI rf), .ref mt, .int (nI sz), .ref mn, .ref mtr, .ref md, .int (nI ac), .ref mk, .ref mik, .ref na, .ref so])), (r, .inl (G.2 0, 131, .inl (mr n (nI g) sk mm))), (na, .inl (G.2 0, 16, .inl nf)), (so, .inl (G.2 0, 16, .inl sf))])) 0 0 (vA [(M, .inr (4, [.int (nI rf), .ref mt, .int (nI sz), .ref mn, .ref mtr, .ref md, .int (nI ac), .ref mk, .ref mik, .ref na, .ref so])), (r, .inl (G.2 0, 131, .inl (mr n (nI g) sk mm))), (na, .inl (G.2 0, 16, .inl nf)), (so, .inl (G.2 0, 16, .inl sf))]) := by
  refine Met.go (cc := cX7_putSignOn) (maxL := 4) (ret := (some .int)) (by decide) rfl (Nat.le_of_ble_eq_true rfl) ?_
  intro p e s m below meth c ls hx hb hr hml hown hts hlk hP hK hD hS hl
  have hown : s.vm.findClass RX7 = some m.cls := hown
  have hl : lv_has ls 4 [(0, .ref M), (1, .ref r), (2, .int (nI lv))] := hl
  refine lv_aload_n hx hb dX7_putSignOn_0 rfl (lv_at hl 0 rfl) ?_
  refine lv_aload_n hx hb dX7_putSignOn_1 rfl (lv_at hl 1 rfl) ?_
  refine cWV (As := [.ref r]) (rest := []) (st1 := []) (w3 := [(M, .inr (4, [.int (nI rf), .ref mt, .int (nI sz), .ref mn, .ref mtr, .ref md, .int (nI ac), .ref mk, .ref mik, .ref na, .ref so])), (r, .inl (G.2 0, 131, .inl (mr n (nI g) sk mm))), (na, .inl (G.2 0, 16, .inl (nmA sk (kdm mm) g 0 n nf))), (so, .inl (G.2 0, 16, .inl (soA sk (kdm mm) g 0 n sf)))]) ⟨hx, hb, hml, hown, hts⟩ (c_X7_name l G M rf mt sz mn mtr md ac mk mik na so r n g sk mm nf sf (by first | omega | assumption) (by first | omega | assumption) (by first | omega | assumption)) (cwV 1 hts gX7_putSignOn_X7_name rfl rfl rfl (by decide +kernel) ⟨Nat.le_of_ble_eq_true rfl, Nat.le_of_ble_eq_true rfl⟩) (preV_of hK hP hD [0, 1, 2, 3] (by decide) rfl (ci := 4) (q0 := 0) rfl rfl rfl) rfl hl.1 rfl (lv_room (Nat.le_of_ble_eq_true rfl)) dX7_putSignOn_2 ⟨Nat.zero_le _, Nat.zero_le _⟩ hP hD hS [0, 1, 2, 3] (by decide) rfl rfl (rfl) rfl (fun H locs hP hD hS => ?_)
  refine lv_aload_n hx hb dX7_putSignOn_5 rfl (lv_at hl 1 rfl) ?_
  refine lv_bipush (v := nI 19) hx hb dX7_putSignOn_6 (by decide) ?_
  refine lv_iload_n hx hb dX7_putSignOn_8 rfl (lv_at hl 2 rfl) ?_
  refine nv_iadd hx hb dX7_putSignOn_9 ?_
  refine nv_iald hx hb hK hP 1 rfl (by omega) (by decide) dX7_putSignOn_10 ?_
  rw [show (mr n (nI g) sk mm) (19 + lv) = (mm (19 + lv)) from (mr_j (by omega))]
  refine lv_istore_n (lv' := [(3, .int (mm (19 + lv))), (0, .ref M), (1, .ref r), (2, .int (nI lv))]) hx hb dX7_putSignOn_11 rfl hl (by decide) rfl (fun ls hl => ?_)
  refine lv_aload_n hx hb dX7_putSignOn_12 rfl (lv_at hl 2 rfl) ?_
  refine lv_bipush (v := nI 19) hx hb dX7_putSignOn_13 (by decide) ?_
  refine lv_iload_n hx hb dX7_putSignOn_15 rfl (lv_at hl 3 rfl) ?_
  refine nv_iadd hx hb dX7_putSignOn_16 ?_
  refine lv_aload_n hx hb dX7_putSignOn_17 rfl (lv_at hl 1 rfl) ?_
  refine va_get (D := G.1) (ci := 4) (v := .ref na) (C := RX7) (T := TX7) (N := 11) hx hb hts in_c_X7_putSignOn_X7 hown hK.1 hP 0 rfl rfl 9 (by decide) (hts (.fieldLink RX7 29 "FloorPanelsModel" "names" "[I") (by decide +kernel)) (fun _ h9 => h9) rfl dX7_putSignOn_18 ?_
  refine lv_iload_n hx hb dX7_putSignOn_21 rfl (lv_at hl 3 rfl) ?_
  refine nv_iald hx hb hK hP 2 rfl (by omega) (by decide) dX7_putSignOn_22 ?_
  rw [show (nmA sk (kdm mm) g 0 n nf) lv = (nm sk (kdm mm) g lv) from nmA_at (Nat.zero_le _) h_lv]
  refine nv_iast hx hb hK hP hD hS 1 rfl (v := (nm sk (kdm mm) g lv)) rfl (by omega) (by decide) dX7_putSignOn_23 (w3 := [(M, .inr (4, [.int (nI rf), .ref mt, .int (nI sz), .ref mn, .ref mtr, .ref md, .int (nI ac), .ref mk, .ref mik, .ref na, .ref so])), (r, .inl (G.2 0, 131, .inl (mr n (nI g) sk (upd mm (19 + lv) (nm sk (kdm mm) g lv))))), (na, .inl (G.2 0, 16, .inl (nmA sk (kdm mm) g 0 n nf))), (so, .inl (G.2 0, 16, .inl (soA sk (kdm mm) g 0 n sf)))]) (by rw [mr_uj (by omega)]; rfl) (fun H locs hP hD hS => ?_)
  refine lv_iload_n hx hb dX7_putSignOn_24 rfl (lv_at hl 0 rfl) ?_
  exact W_i hx hb hr hlk dX7_putSignOn_25 hP hS (rfl) (rfl)

theorem in_c_X7_putButtonOn_X7 : ∀ w ∈ wsX70, w ∈ wsX7_putButtonOn := by decide +kernel
set_option maxHeartbeats 4000000 in
set_option maxRecDepth 100000 in
theorem c_X7_putButtonOn (l : Launch) (G : GG) (M : Nat) (rf : Nat) (mt : Nat) (sz : Nat) (mn : Nat) (mtr : Nat) (md : Nat) (ac : Nat) (mk : Nat) (mik : Nat) (na : Nat) (so : Nat) (r : Nat) (n : Nat) (g : Nat) (sk : Int32) (mm : Nat → Int32) (nf : Nat → Int32) (sf : Nat → Int32) (ca : Nat) (lv : Nat) (h_n : n ≤ 16) (h_g : g < n) (h_k : mm (3 + g) = 0) (h_ca : ca < 3) (h_lv : lv < n) : Met l yX7_putButtonOn wsX7_putButtonOn ({ frames := 3, cells := 0, slots := 0, locals := 74 } : Room) (va_Pc [.ref M, .ref r, .int (nI ca), .int (nI lv)] (PB G [(M, .inr (4, [.int (nI rf), .ref mt, .int (nI sz), .ref mn, .ref mtr, .ref md, .int (nI ac), .ref mk, .ref mik, .ref na, .ref so])), (r, .inl (G.2 0, 131, .inl (mr n (nI g) sk mm))), (na, .inl (G.2 0, 16, .inl nf)), (so, .inl (G.2 0, 16, .inl sf))])) (QW G (some (.int (mm (35 + 16 * ca + lv)))) [(M, .inr (4, [.int (nI rf), .ref mt, .int (nI sz), .ref mn, .ref mtr, .ref md, .int (nI ac), .ref mk, .ref mik, .ref na, .ref so])), (r, .inl (G.2 0, 131, .inl (mr n (nI g) sk (upd mm (35 + 16 * ca + lv) (nm sk (kdm mm) g lv))))), (na, .inl (G.2 0, 16, .inl (nmA sk (kdm mm) g 0 n nf))), (so, .inl (G.2 0, 16, .inl (soA sk (kdm mm) g 0 n sf)))] (vA [(M, .inr (4, [.int (nI rf), .ref mt, .int (nI sz), .ref mn, .ref mtr, .ref md, .int (nI ac), .ref mk, .ref mik, .ref na, .ref so])), (r, .inl (G.2 0, 131, .inl (mr n (nI g) sk mm))), (na, .inl (G.2 0, 16, .inl nf)), (so, .inl (G.2 0, 16, .inl sf))])) 0 0 (vA [(M, .inr (4, [.int (nI rf), .ref mt, .int (nI sz), .ref mn, .ref mtr, .ref md, .int (nI ac), .ref mk, .ref mik, .ref na, .ref so])), (r, .inl (G.2 0, 131, .inl (mr n (nI g) sk mm))), (na, .inl (G.2 0, 16, .inl nf)), (so, .inl (G.2 0, 16, .inl sf))]) := by
  refine Met.go (cc := cX7_putButtonOn) (maxL := 5) (ret := (some .int)) (by decide) rfl (Nat.le_of_ble_eq_true rfl) ?_
  intro p e s m below meth c ls hx hb hr hml hown hts hlk hP hK hD hS hl
  have hown : s.vm.findClass RX7 = some m.cls := hown
  have hl : lv_has ls 5 [(0, .ref M), (1, .ref r), (2, .int (nI ca)), (3, .int (nI lv))] := hl
  refine lv_aload_n hx hb dX7_putButtonOn_0 rfl (lv_at hl 0 rfl) ?_
  refine lv_aload_n hx hb dX7_putButtonOn_1 rfl (lv_at hl 1 rfl) ?_
  refine cWV (As := [.ref r]) (rest := []) (st1 := []) (w3 := [(M, .inr (4, [.int (nI rf), .ref mt, .int (nI sz), .ref mn, .ref mtr, .ref md, .int (nI ac), .ref mk, .ref mik, .ref na, .ref so])), (r, .inl (G.2 0, 131, .inl (mr n (nI g) sk mm))), (na, .inl (G.2 0, 16, .inl (nmA sk (kdm mm) g 0 n nf))), (so, .inl (G.2 0, 16, .inl (soA sk (kdm mm) g 0 n sf)))]) ⟨hx, hb, hml, hown, hts⟩ (c_X7_name l G M rf mt sz mn mtr md ac mk mik na so r n g sk mm nf sf (by first | omega | assumption) (by first | omega | assumption) (by first | omega | assumption)) (cwV 1 hts gX7_putButtonOn_X7_name rfl rfl rfl (by decide +kernel) ⟨Nat.le_of_ble_eq_true rfl, Nat.le_of_ble_eq_true rfl⟩) (preV_of hK hP hD [0, 1, 2, 3] (by decide) rfl (ci := 4) (q0 := 0) rfl rfl rfl) rfl hl.1 rfl (lv_room (Nat.le_of_ble_eq_true rfl)) dX7_putButtonOn_2 ⟨Nat.zero_le _, Nat.zero_le _⟩ hP hD hS [0, 1, 2, 3] (by decide) rfl rfl (rfl) rfl (fun H locs hP hD hS => ?_)
  refine lv_aload_n hx hb dX7_putButtonOn_5 rfl (lv_at hl 1 rfl) ?_
  refine lv_iload_n hx hb dX7_putButtonOn_6 rfl (lv_at hl 2 rfl) ?_
  refine lv_iload_n hx hb dX7_putButtonOn_7 rfl (lv_at hl 3 rfl) ?_
  refine cRS (As := [.ref r, .int (nI ca), .int (nI lv)]) (rest := []) (v := .int (mm (35 + 16 * ca + lv))) ⟨hx, hb, hml, hown, hts⟩ (c_X7_says l G r n g sk mm ca lv (by first | omega | assumption) (by first | omega | assumption)) (va_cwS 3 hts gX7_putButtonOn_X7_says rfl rfl rfl (by decide +kernel) ⟨Nat.le_of_ble_eq_true rfl, Nat.le_of_ble_eq_true rfl⟩) (preS_of hK hP hD [1] (by decide) rfl) rfl hl.1 rfl (lv_room (Nat.le_of_ble_eq_true rfl)) dX7_putButtonOn_8 ⟨Nat.zero_le _, Nat.zero_le _⟩ ?_
  refine lv_istore (lv' := [(4, .int (mm (35 + 16 * ca + lv))), (0, .ref M), (1, .ref r), (2, .int (nI ca)), (3, .int (nI lv))]) hx hb dX7_putButtonOn_11 hl (by decide) rfl (fun ls hl => ?_)
  refine lv_aload_n hx hb dX7_putButtonOn_13 rfl (lv_at hl 2 rfl) ?_
  refine lv_bipush (v := nI 35) hx hb dX7_putButtonOn_14 (by decide) ?_
  refine lv_bipush (v := nI 16) hx hb dX7_putButtonOn_16 (by decide) ?_
  refine lv_iload_n hx hb dX7_putButtonOn_18 rfl (lv_at hl 3 rfl) ?_
  refine nv_imul hx hb dX7_putButtonOn_19 ?_
  refine nv_iadd hx hb dX7_putButtonOn_20 ?_
  refine lv_iload_n hx hb dX7_putButtonOn_21 rfl (lv_at hl 4 rfl) ?_
  refine nv_iadd hx hb dX7_putButtonOn_22 ?_
  refine lv_aload_n hx hb dX7_putButtonOn_23 rfl (lv_at hl 1 rfl) ?_
  refine va_get (D := G.1) (ci := 4) (v := .ref na) (C := RX7) (T := TX7) (N := 11) hx hb hts in_c_X7_putButtonOn_X7 hown hK.1 hP 0 rfl rfl 9 (by decide) (hts (.fieldLink RX7 29 "FloorPanelsModel" "names" "[I") (by decide +kernel)) (fun _ h9 => h9) rfl dX7_putButtonOn_24 ?_
  refine lv_iload_n hx hb dX7_putButtonOn_27 rfl (lv_at hl 4 rfl) ?_
  refine nv_iald hx hb hK hP 2 rfl (by omega) (by decide) dX7_putButtonOn_28 ?_
  rw [show (nmA sk (kdm mm) g 0 n nf) lv = (nm sk (kdm mm) g lv) from nmA_at (Nat.zero_le _) h_lv]
  refine nv_iast hx hb hK hP hD hS 1 rfl (v := (nm sk (kdm mm) g lv)) rfl (by omega) (by decide) dX7_putButtonOn_29 (w3 := [(M, .inr (4, [.int (nI rf), .ref mt, .int (nI sz), .ref mn, .ref mtr, .ref md, .int (nI ac), .ref mk, .ref mik, .ref na, .ref so])), (r, .inl (G.2 0, 131, .inl (mr n (nI g) sk (upd mm ((35 + (16 * ca)) + lv) (nm sk (kdm mm) g lv))))), (na, .inl (G.2 0, 16, .inl (nmA sk (kdm mm) g 0 n nf))), (so, .inl (G.2 0, 16, .inl (soA sk (kdm mm) g 0 n sf)))]) (by rw [mr_uj (by omega)]; rfl) (fun H locs hP hD hS => ?_)
  refine lv_iload hx hb dX7_putButtonOn_30 (lv_at hl 0 rfl) ?_
  exact W_i hx hb hr hlk dX7_putButtonOn_32 hP hS (rfl) (rfl)

theorem in_c_X7_putCarOn_X7 : ∀ w ∈ wsX70, w ∈ wsX7_putCarOn := by decide +kernel
set_option maxHeartbeats 4000000 in
set_option maxRecDepth 100000 in
theorem c_X7_putCarOn (l : Launch) (G : GG) (M : Nat) (rf : Nat) (mt : Nat) (sz : Nat) (mn : Nat) (mtr : Nat) (md : Nat) (ac : Nat) (mk : Nat) (mik : Nat) (na : Nat) (so : Nat) (r : Nat) (n : Nat) (g : Nat) (sk : Int32) (mm : Nat → Int32) (nf : Nat → Int32) (sf : Nat → Int32) (ca : Nat) (h_n : n ≤ 16) (h_g : g < n) (h_k : mm (3 + g) = 0) (h_ca : ca < 3) : Met l yX7_putCarOn wsX7_putCarOn ({ frames := 3, cells := 0, slots := 0, locals := 74 } : Room) (va_Pc [.ref M, .ref r, .int (nI ca)] (PB G [(M, .inr (4, [.int (nI rf), .ref mt, .int (nI sz), .ref mn, .ref mtr, .ref md, .int (nI ac), .ref mk, .ref mik, .ref na, .ref so])), (r, .inl (G.2 0, 131, .inl (mr n (nI g) sk mm))), (na, .inl (G.2 0, 16, .inl nf)), (so, .inl (G.2 0, 16, .inl sf))])) (QW G (some (.int (nI (mwr sk mm g (35 + 16 * ca) n)))) [(M, .inr (4, [.int (nI rf), .ref mt, .int (nI sz), .ref mn, .ref mtr, .ref md, .int (nI ac), .ref mk, .ref mik, .ref na, .ref so])), (r, .inl (G.2 0, 131, .inl (mr n (nI g) sk (pur mm (35 + 16 * ca) (nm sk (kdm mm) g) n)))), (na, .inl (G.2 0, 16, .inl (nmA sk (kdm mm) g 0 n nf))), (so, .inl (G.2 0, 16, .inl (soA sk (kdm mm) g 0 n sf)))] (vA [(M, .inr (4, [.int (nI rf), .ref mt, .int (nI sz), .ref mn, .ref mtr, .ref md, .int (nI ac), .ref mk, .ref mik, .ref na, .ref so])), (r, .inl (G.2 0, 131, .inl (mr n (nI g) sk mm))), (na, .inl (G.2 0, 16, .inl nf)), (so, .inl (G.2 0, 16, .inl sf))])) 0 0 (vA [(M, .inr (4, [.int (nI rf), .ref mt, .int (nI sz), .ref mn, .ref mtr, .ref md, .int (nI ac), .ref mk, .ref mik, .ref na, .ref so])), (r, .inl (G.2 0, 131, .inl (mr n (nI g) sk mm))), (na, .inl (G.2 0, 16, .inl nf)), (so, .inl (G.2 0, 16, .inl sf))]) := by
  refine Met.go (cc := cX7_putCarOn) (maxL := 5) (ret := (some .int)) (by decide) rfl (Nat.le_of_ble_eq_true rfl) ?_
  intro p e s m below meth c ls hx hb hr hml hown hts hlk hP hK hD hS hl
  have hown : s.vm.findClass RX7 = some m.cls := hown
  have hl : lv_has ls 5 [(0, .ref M), (1, .ref r), (2, .int (nI ca))] := hl
  refine lv_aload_n hx hb dX7_putCarOn_0 rfl (lv_at hl 0 rfl) ?_
  refine lv_aload_n hx hb dX7_putCarOn_1 rfl (lv_at hl 1 rfl) ?_
  refine cWV (As := [.ref r]) (rest := []) (st1 := []) (w3 := [(M, .inr (4, [.int (nI rf), .ref mt, .int (nI sz), .ref mn, .ref mtr, .ref md, .int (nI ac), .ref mk, .ref mik, .ref na, .ref so])), (r, .inl (G.2 0, 131, .inl (mr n (nI g) sk mm))), (na, .inl (G.2 0, 16, .inl (nmA sk (kdm mm) g 0 n nf))), (so, .inl (G.2 0, 16, .inl (soA sk (kdm mm) g 0 n sf)))]) ⟨hx, hb, hml, hown, hts⟩ (c_X7_name l G M rf mt sz mn mtr md ac mk mik na so r n g sk mm nf sf (by first | omega | assumption) (by first | omega | assumption) (by first | omega | assumption)) (cwV 1 hts gX7_putCarOn_X7_name rfl rfl rfl (by decide +kernel) ⟨Nat.le_of_ble_eq_true rfl, Nat.le_of_ble_eq_true rfl⟩) (preV_of hK hP hD [0, 1, 2, 3] (by decide) rfl (ci := 4) (q0 := 0) rfl rfl rfl) rfl hl.1 rfl (lv_room (Nat.le_of_ble_eq_true rfl)) dX7_putCarOn_2 ⟨Nat.zero_le _, Nat.zero_le _⟩ hP hD hS [0, 1, 2, 3] (by decide) rfl rfl (rfl) rfl (fun H locs hP hD hS => ?_)
  refine lv_aload_n hx hb dX7_putCarOn_5 rfl (lv_at hl 0 rfl) ?_
  refine lv_aload_n hx hb dX7_putCarOn_6 rfl (lv_at hl 1 rfl) ?_
  refine lv_iload_n hx hb dX7_putCarOn_7 rfl (lv_at hl 2 rfl) ?_
  refine cRV (As := [.ref r, .int (nI ca)]) (rest := []) (v := .int (nI (ct (fun x_ => ¬ mm (35 + 16 * ca + x_) = (nmA sk (kdm mm) g 0 n nf) x_) n))) ⟨hx, hb, hml, hown, hts⟩ (c_X7_wrongButtons l G M rf mt sz mn mtr md ac mk mik na so r n g sk mm (nmA sk (kdm mm) g 0 n nf) ca (by first | omega | assumption) (by first | omega | assumption)) (cwV 2 hts gX7_putCarOn_X7_wrongButtons rfl rfl rfl (by decide +kernel) ⟨Nat.le_of_ble_eq_true rfl, Nat.le_of_ble_eq_true rfl⟩) (preV_of hK hP hD [0, 1, 2] (by decide) rfl (ci := 4) (q0 := 0) rfl rfl rfl) rfl hl.1 rfl (lv_room (Nat.le_of_ble_eq_true rfl)) dX7_putCarOn_8 ⟨Nat.zero_le _, Nat.zero_le _⟩ ?_
  rw [show (nI (ct (fun x_ => ¬ mm (35 + 16 * ca + x_) = (nmA sk (kdm mm) g 0 n nf) x_) n)) = nI (mwr sk mm g (35 + 16 * ca) n) from congrArg nI mwr_A]
  refine lv_istore_n (lv' := [(3, .int (nI (mwr sk mm g (35 + 16 * ca) n))), (0, .ref M), (1, .ref r), (2, .int (nI ca))]) hx hb dX7_putCarOn_11 rfl hl (by decide) rfl (fun ls hl => ?_)
  refine lv_iconst (v := nI 0) hx hb dX7_putCarOn_12 (by decide) ?_
  refine lv_istore (lv' := [(4, .int (nI 0)), (3, .int (nI (mwr sk mm g (35 + 16 * ca) n))), (0, .ref M), (1, .ref r), (2, .int (nI ca))]) hx hb dX7_putCarOn_13 hl (by decide) rfl (fun ls hl => ?_)
  have loop_15 : ∀ (k_ : Nat) (i : Nat) (h_i : i ≤ n) (_ : n - i < k_) (H : Heap) (locs : List Loc) (_ : VP G [(M, .inr (4, [.int (nI rf), .ref mt, .int (nI sz), .ref mn, .ref mtr, .ref md, .int (nI ac), .ref mk, .ref mik, .ref na, .ref so])), (r, .inl (G.2 0, 131, .inl (mr n (nI g) sk (pur mm (35 + 16 * ca) (nm sk (kdm mm) g) i)))), (na, .inl (G.2 0, 16, .inl (nmA sk (kdm mm) g 0 n nf))), (so, .inl (G.2 0, 16, .inl (soA sk (kdm mm) g 0 n sf)))] H) (_ : va_D (vA [(M, .inr (4, [.int (nI rf), .ref mt, .int (nI sz), .ref mn, .ref mtr, .ref md, .int (nI ac), .ref mk, .ref mik, .ref na, .ref so])), (r, .inl (G.2 0, 131, .inl (mr n (nI g) sk mm))), (na, .inl (G.2 0, 16, .inl nf)), (so, .inl (G.2 0, 16, .inl sf))]) [(M, .inr (4, [.int (nI rf), .ref mt, .int (nI sz), .ref mn, .ref mtr, .ref md, .int (nI ac), .ref mk, .ref mik, .ref na, .ref so])), (r, .inl (G.2 0, 131, .inl (mr n (nI g) sk (pur mm (35 + 16 * ca) (nm sk (kdm mm) g) i)))), (na, .inl (G.2 0, 16, .inl (nmA sk (kdm mm) g 0 n nf))), (so, .inl (G.2 0, 16, .inl (soA sk (kdm mm) g 0 n sf)))]) (_ : va_S (vA [(M, .inr (4, [.int (nI rf), .ref mt, .int (nI sz), .ref mn, .ref mtr, .ref md, .int (nI ac), .ref mk, .ref mik, .ref na, .ref so])), (r, .inl (G.2 0, 131, .inl (mr n (nI g) sk mm))), (na, .inl (G.2 0, 16, .inl nf)), (so, .inl (G.2 0, 16, .inl sf))]) s.heap H locs) (ls : Array Slot), lv_has ls 5 [(4, .int (nI i)), (3, .int (nI (mwr sk mm g (35 + 16 * ca) n))), (0, .ref M), (1, .ref r), (2, .int (nI ca))] → W p l e ({ frames := 3, cells := 0, slots := 0, locals := 74 } : Room) s m ([.ref M, .ref r, .int (nI ca)] : List Value).toArray below meth c H locs 0 0 (MQ below (QW G (some (.int (nI (mwr sk mm g (35 + 16 * ca) n)))) [(M, .inr (4, [.int (nI rf), .ref mt, .int (nI sz), .ref mn, .ref mtr, .ref md, .int (nI ac), .ref mk, .ref mik, .ref na, .ref so])), (r, .inl (G.2 0, 131, .inl (mr n (nI g) sk (pur mm (35 + 16 * ca) (nm sk (kdm mm) g) n)))), (na, .inl (G.2 0, 16, .inl (nmA sk (kdm mm) g 0 n nf))), (so, .inl (G.2 0, 16, .inl (soA sk (kdm mm) g 0 n sf)))] (vA [(M, .inr (4, [.int (nI rf), .ref mt, .int (nI sz), .ref mn, .ref mtr, .ref md, .int (nI ac), .ref mk, .ref mik, .ref na, .ref so])), (r, .inl (G.2 0, 131, .inl (mr n (nI g) sk mm))), (na, .inl (G.2 0, 16, .inl nf)), (so, .inl (G.2 0, 16, .inl sf))])) ([.ref M, .ref r, .int (nI ca)] : List Value).toArray s 0 0 (vA [(M, .inr (4, [.int (nI rf), .ref mt, .int (nI sz), .ref mn, .ref mtr, .ref md, .int (nI ac), .ref mk, .ref mik, .ref na, .ref so])), (r, .inl (G.2 0, 131, .inl (mr n (nI g) sk mm))), (na, .inl (G.2 0, 16, .inl nf)), (so, .inl (G.2 0, 16, .inl sf))])) (F0 m 15 ls []) := by
    intro k_
    induction k_ with
    | zero => intro i h_i hk_; exact absurd hk_ (Nat.not_lt_zero _)
    | succ k_ ih_15 =>
      intro i h_i hk_ H locs hP hD hS ls hl
      refine lv_iload hx hb dX7_putCarOn_15 (lv_at hl 0 rfl) ?_
      refine lv_aload_n hx hb dX7_putCarOn_17 rfl (lv_at hl 3 rfl) ?_
      refine lv_iconst (v := nI 0) hx hb dX7_putCarOn_18 (by decide) ?_
      refine nv_iald hx hb hK hP 1 rfl (by omega) (by decide) dX7_putCarOn_19 ?_
      rw [show (mr n (nI g) sk (pur mm (35 + 16 * ca) (nm sk (kdm mm) g) i)) 0 = nI n from mr_0]
      refine bi_ge (tgt := 48) hx hb dX7_putCarOn_20 (by decide) (nI_i (by omega)) (nI_i (by omega)) (fun c_20 => ?_) (fun c_20 => ?_)
      ·
        refine lv_iload_n hx hb dX7_putCarOn_48 rfl (lv_at hl 1 rfl) ?_
        exact W_i hx hb hr hlk dX7_putCarOn_49 hP hS (rfl) (by rw [show i = n by omega])
      ·
        refine lv_aload_n hx hb dX7_putCarOn_23 rfl (lv_at hl 3 rfl) ?_
        refine lv_bipush (v := nI 35) hx hb dX7_putCarOn_24 (by decide) ?_
        refine lv_bipush (v := nI 16) hx hb dX7_putCarOn_26 (by decide) ?_
        refine lv_iload_n hx hb dX7_putCarOn_28 rfl (lv_at hl 4 rfl) ?_
        refine nv_imul hx hb dX7_putCarOn_29 ?_
        refine nv_iadd hx hb dX7_putCarOn_30 ?_
        refine lv_iload hx hb dX7_putCarOn_31 (lv_at hl 0 rfl) ?_
        refine nv_iadd hx hb dX7_putCarOn_33 ?_
        refine lv_aload_n hx hb dX7_putCarOn_34 rfl (lv_at hl 2 rfl) ?_
        refine va_get (D := G.1) (ci := 4) (v := .ref na) (C := RX7) (T := TX7) (N := 11) hx hb hts in_c_X7_putCarOn_X7 hown hK.1 hP 0 rfl rfl 9 (by decide) (hts (.fieldLink RX7 29 "FloorPanelsModel" "names" "[I") (by decide +kernel)) (fun _ h9 => h9) rfl dX7_putCarOn_35 ?_
        refine lv_iload hx hb dX7_putCarOn_38 (lv_at hl 0 rfl) ?_
        refine nv_iald hx hb hK hP 2 rfl (by omega) (by decide) dX7_putCarOn_40 ?_
        rw [show (nmA sk (kdm mm) g 0 n nf) i = (nm sk (kdm mm) g i) from nmA_at (Nat.zero_le _) (by omega)]
        refine nv_iast hx hb hK hP hD hS 1 rfl (v := (nm sk (kdm mm) g i)) rfl (by omega) (by decide) dX7_putCarOn_41 (w3 := [(M, .inr (4, [.int (nI rf), .ref mt, .int (nI sz), .ref mn, .ref mtr, .ref md, .int (nI ac), .ref mk, .ref mik, .ref na, .ref so])), (r, .inl (G.2 0, 131, .inl (mr n (nI g) sk (pur mm (35 + 16 * ca) (nm sk (kdm mm) g) (i + 1))))), (na, .inl (G.2 0, 16, .inl (nmA sk (kdm mm) g 0 n nf))), (so, .inl (G.2 0, 16, .inl (soA sk (kdm mm) g 0 n sf)))]) (by rw [mr_uj (by omega), pur_s rfl]; rfl) (fun H locs hP hD hS => ?_)
        refine lv_iinc (v := nI (i + 1)) (lv' := [(4, .int (nI (i + 1))), (3, .int (nI (mwr sk mm g (35 + 16 * ca) n))), (0, .ref M), (1, .ref r), (2, .int (nI ca))]) hx hb dX7_putCarOn_42 hl (k := 0) rfl (inc_n _ 1) (by decide) rfl (fun ls hl => ?_)
        refine lv_goto (tgt := 15) hx hb dX7_putCarOn_45 (by decide) ?_
        exact ih_15 (i + 1) (by first | omega | assumption) (by omega) _ _ hP hD hS ls (lv_sub hl [0, 1, 2, 3, 4] (by rfl))
  exact loop_15 (n - 0 + 1) 0 (by first | omega | assumption) (Nat.lt_succ_self _) _ _ (by rw [pur_0]; exact hP) (by rw [pur_0]; exact hD) hS ls (lv_sub hl [0, 1, 2, 3, 4] (by rfl))

theorem in_c_X7_exchangeOn_X7 : ∀ w ∈ wsX70, w ∈ wsX7_exchangeOn := by decide +kernel
set_option maxHeartbeats 4000000 in
set_option maxRecDepth 100000 in
theorem c_X7_exchangeOn (l : Launch) (G : GG) (M : Nat) (rf : Nat) (mt : Nat) (sz : Nat) (mn : Nat) (mtr : Nat) (md : Nat) (ac : Nat) (mk : Nat) (mik : Nat) (na : Nat) (so : Nat) (r : Nat) (n : Nat) (g : Nat) (sk : Int32) (mm : Nat → Int32) (nf : Nat → Int32) (sf : Nat → Int32) (ca : Nat) (lv : Nat) (lm : Nat) (h_n : n ≤ 16) (h_g : g < n) (h_k : mm (3 + g) = 0) (h_ca : ca < 3) (h_lv : lv < n) (h_lm : lm < n) : Met l yX7_exchangeOn wsX7_exchangeOn ({ frames := 3, cells := 0, slots := 0, locals := 74 } : Room) (va_Pc [.ref M, .ref r, .int (nI ca), .int (nI lv), .int (nI lm)] (PB G [(M, .inr (4, [.int (nI rf), .ref mt, .int (nI sz), .ref mn, .ref mtr, .ref md, .int (nI ac), .ref mk, .ref mik, .ref na, .ref so])), (r, .inl (G.2 0, 131, .inl (mr n (nI g) sk mm))), (na, .inl (G.2 0, 16, .inl nf)), (so, .inl (G.2 0, 16, .inl sf))])) (QW G (some (.int (nI (mxw sk mm g ca lv lm)))) [(M, .inr (4, [.int (nI rf), .ref mt, .int (nI sz), .ref mn, .ref mtr, .ref md, .int (nI ac), .ref mk, .ref mik, .ref na, .ref so])), (r, .inl (G.2 0, 131, .inl (mr n (nI g) sk (mxc ca lv lm mm)))), (na, .inl (G.2 0, 16, .inl (nmA sk (kdm mm) g 0 n nf))), (so, .inl (G.2 0, 16, .inl (soA sk (kdm mm) g 0 n sf)))] (vA [(M, .inr (4, [.int (nI rf), .ref mt, .int (nI sz), .ref mn, .ref mtr, .ref md, .int (nI ac), .ref mk, .ref mik, .ref na, .ref so])), (r, .inl (G.2 0, 131, .inl (mr n (nI g) sk mm))), (na, .inl (G.2 0, 16, .inl nf)), (so, .inl (G.2 0, 16, .inl sf))])) 0 0 (vA [(M, .inr (4, [.int (nI rf), .ref mt, .int (nI sz), .ref mn, .ref mtr, .ref md, .int (nI ac), .ref mk, .ref mik, .ref na, .ref so])), (r, .inl (G.2 0, 131, .inl (mr n (nI g) sk mm))), (na, .inl (G.2 0, 16, .inl nf)), (so, .inl (G.2 0, 16, .inl sf))]) := by
  refine Met.go (cc := cX7_exchangeOn) (maxL := 7) (ret := (some .int)) (by decide) rfl (Nat.le_of_ble_eq_true rfl) ?_
  intro p e s m below meth c ls hx hb hr hml hown hts hlk hP hK hD hS hl
  have hown : s.vm.findClass RX7 = some m.cls := hown
  have hl : lv_has ls 7 [(0, .ref M), (1, .ref r), (2, .int (nI ca)), (3, .int (nI lv)), (4, .int (nI lm))] := hl
  refine lv_aload_n hx hb dX7_exchangeOn_0 rfl (lv_at hl 1 rfl) ?_
  refine lv_iload_n hx hb dX7_exchangeOn_1 rfl (lv_at hl 2 rfl) ?_
  refine lv_iload_n hx hb dX7_exchangeOn_2 rfl (lv_at hl 3 rfl) ?_
  refine cRS (As := [.ref r, .int (nI ca), .int (nI lv)]) (rest := []) (v := .int (mm (35 + 16 * ca + lv))) ⟨hx, hb, hml, hown, hts⟩ (c_X7_says l G r n g sk mm ca lv (by first | omega | assumption) (by first | omega | assumption)) (va_cwS 3 hts gX7_exchangeOn_X7_says rfl rfl rfl (by decide +kernel) ⟨Nat.le_of_ble_eq_true rfl, Nat.le_of_ble_eq_true rfl⟩) (preS_of hK hP hD [1] (by decide) rfl) rfl hl.1 rfl (lv_room (Nat.le_of_ble_eq_true rfl)) dX7_exchangeOn_3 ⟨Nat.zero_le _, Nat.zero_le _⟩ ?_
  refine lv_istore (lv' := [(5, .int (mm (35 + 16 * ca + lv))), (0, .ref M), (1, .ref r), (2, .int (nI ca)), (3, .int (nI lv)), (4, .int (nI lm))]) hx hb dX7_exchangeOn_6 hl (by decide) rfl (fun ls hl => ?_)
  refine lv_aload_n hx hb dX7_exchangeOn_8 rfl (lv_at hl 2 rfl) ?_
  refine lv_bipush (v := nI 35) hx hb dX7_exchangeOn_9 (by decide) ?_
  refine lv_bipush (v := nI 16) hx hb dX7_exchangeOn_11 (by decide) ?_
  refine lv_iload_n hx hb dX7_exchangeOn_13 rfl (lv_at hl 3 rfl) ?_
  refine nv_imul hx hb dX7_exchangeOn_14 ?_
  refine nv_iadd hx hb dX7_exchangeOn_15 ?_
  refine lv_iload_n hx hb dX7_exchangeOn_16 rfl (lv_at hl 4 rfl) ?_
  refine nv_iadd hx hb dX7_exchangeOn_17 ?_
  refine lv_aload_n hx hb dX7_exchangeOn_18 rfl (lv_at hl 2 rfl) ?_
  refine lv_iload_n hx hb dX7_exchangeOn_19 rfl (lv_at hl 3 rfl) ?_
  refine lv_iload hx hb dX7_exchangeOn_20 (lv_at hl 5 rfl) ?_
  refine cRS (As := [.ref r, .int (nI ca), .int (nI lm)]) (rest := [.int (nI ((35 + (16 * ca)) + lv)), .ref r]) (v := .int (mm (35 + 16 * ca + lm))) ⟨hx, hb, hml, hown, hts⟩ (c_X7_says l G r n g sk mm ca lm (by first | omega | assumption) (by first | omega | assumption)) (va_cwS 3 hts gX7_exchangeOn_X7_says rfl rfl rfl (by decide +kernel) ⟨Nat.le_of_ble_eq_true rfl, Nat.le_of_ble_eq_true rfl⟩) (preS_of hK hP hD [1] (by decide) rfl) rfl hl.1 rfl (lv_room (Nat.le_of_ble_eq_true rfl)) dX7_exchangeOn_22 ⟨Nat.zero_le _, Nat.zero_le _⟩ ?_
  refine nv_iast hx hb hK hP hD hS 1 rfl (v := (mm (35 + 16 * ca + lm))) rfl (by omega) (by decide) dX7_exchangeOn_25 (w3 := [(M, .inr (4, [.int (nI rf), .ref mt, .int (nI sz), .ref mn, .ref mtr, .ref md, .int (nI ac), .ref mk, .ref mik, .ref na, .ref so])), (r, .inl (G.2 0, 131, .inl (mr n (nI g) sk (upd mm ((35 + (16 * ca)) + lv) (mm (35 + 16 * ca + lm)))))), (na, .inl (G.2 0, 16, .inl nf)), (so, .inl (G.2 0, 16, .inl sf))]) (by rw [mr_uj (by omega)]; rfl) (fun H locs hP hD hS => ?_)
  refine lv_aload_n hx hb dX7_exchangeOn_26 rfl (lv_at hl 2 rfl) ?_
  refine lv_bipush (v := nI 35) hx hb dX7_exchangeOn_27 (by decide) ?_
  refine lv_bipush (v := nI 16) hx hb dX7_exchangeOn_29 (by decide) ?_
  refine lv_iload_n hx hb dX7_exchangeOn_31 rfl (lv_at hl 3 rfl) ?_
  refine nv_imul hx hb dX7_exchangeOn_32 ?_
  refine nv_iadd hx hb dX7_exchangeOn_33 ?_
  refine lv_iload hx hb dX7_exchangeOn_34 (lv_at hl 5 rfl) ?_
  refine nv_iadd hx hb dX7_exchangeOn_36 ?_
  refine lv_iload hx hb dX7_exchangeOn_37 (lv_at hl 0 rfl) ?_
  refine nv_iast hx hb hK hP hD hS 1 rfl (v := (mm (35 + 16 * ca + lv))) rfl (by omega) (by decide) dX7_exchangeOn_39 (w3 := [(M, .inr (4, [.int (nI rf), .ref mt, .int (nI sz), .ref mn, .ref mtr, .ref md, .int (nI ac), .ref mk, .ref mik, .ref na, .ref so])), (r, .inl (G.2 0, 131, .inl (mr n (nI g) sk (upd (upd mm ((35 + (16 * ca)) + lv) (mm (35 + 16 * ca + lm))) ((35 + (16 * ca)) + lm) (mm (35 + 16 * ca + lv)))))), (na, .inl (G.2 0, 16, .inl nf)), (so, .inl (G.2 0, 16, .inl sf))]) (by rw [mr_uj (by omega)]; rfl) (fun H locs hP hD hS => ?_)
  refine lv_aload_n hx hb dX7_exchangeOn_40 rfl (lv_at hl 1 rfl) ?_
  refine lv_aload_n hx hb dX7_exchangeOn_41 rfl (lv_at hl 2 rfl) ?_
  refine cWV (As := [.ref r]) (rest := []) (st1 := []) (w3 := [(M, .inr (4, [.int (nI rf), .ref mt, .int (nI sz), .ref mn, .ref mtr, .ref md, .int (nI ac), .ref mk, .ref mik, .ref na, .ref so])), (r, .inl (G.2 0, 131, .inl (mr n (nI g) sk (mxc ca lv lm mm)))), (na, .inl (G.2 0, 16, .inl (nmA sk (kdm mm) g 0 n nf))), (so, .inl (G.2 0, 16, .inl (soA sk (kdm mm) g 0 n sf)))]) ⟨hx, hb, hml, hown, hts⟩ (c_X7_name l G M rf mt sz mn mtr md ac mk mik na so r n g sk (upd (upd mm ((35 + (16 * ca)) + lv) (mm (35 + 16 * ca + lm))) ((35 + (16 * ca)) + lm) (mm (35 + 16 * ca + lv))) nf sf (by first | omega | assumption) (by first | omega | assumption) (by first | exact h_k | exact (mxc_k h_n g h_g).trans h_k)) (cwV 1 hts gX7_exchangeOn_X7_name rfl rfl rfl (by decide +kernel) ⟨Nat.le_of_ble_eq_true rfl, Nat.le_of_ble_eq_true rfl⟩) (preV_of hK hP hD [0, 1, 2, 3] (by decide) rfl (ci := 4) (q0 := 0) rfl rfl rfl) rfl hl.1 rfl (lv_room (Nat.le_of_ble_eq_true rfl)) dX7_exchangeOn_42 ⟨Nat.zero_le _, Nat.zero_le _⟩ hP hD hS [0, 1, 2, 3] (by decide) rfl rfl (by rw [← nmA_cong h_g (mxc_k (m := mm) (ca := ca) (lv := lv) (lm := lm) h_n), ← soA_cong h_g (mxc_k (m := mm) (ca := ca) (lv := lv) (lm := lm) h_n)]; rfl) rfl (fun H locs hP hD hS => ?_)
  refine lv_aload_n hx hb dX7_exchangeOn_45 rfl (lv_at hl 2 rfl) ?_
  refine lv_iload_n hx hb dX7_exchangeOn_46 rfl (lv_at hl 3 rfl) ?_
  refine lv_iload_n hx hb dX7_exchangeOn_47 rfl (lv_at hl 4 rfl) ?_
  refine cRS (As := [.ref r, .int (nI ca), .int (nI lv)]) (rest := []) (v := .int ((mxc ca lv lm mm) (35 + 16 * ca + lv))) ⟨hx, hb, hml, hown, hts⟩ (c_X7_says l G r n g sk (mxc ca lv lm mm) ca lv (by first | omega | assumption) (by first | omega | assumption)) (va_cwS 3 hts gX7_exchangeOn_X7_says rfl rfl rfl (by decide +kernel) ⟨Nat.le_of_ble_eq_true rfl, Nat.le_of_ble_eq_true rfl⟩) (preS_of hK hP hD [1] (by decide) rfl) rfl hl.1 rfl (lv_room (Nat.le_of_ble_eq_true rfl)) dX7_exchangeOn_48 ⟨Nat.zero_le _, Nat.zero_le _⟩ ?_
  rw [show (((mxc ca lv lm mm) (35 + 16 * ca + lv))) = (mm (35 + 16 * ca + lm)) from mxc_l]
  refine lv_aload_n hx hb dX7_exchangeOn_51 rfl (lv_at hl 1 rfl) ?_
  refine va_get (D := G.1) (ci := 4) (v := .ref na) (C := RX7) (T := TX7) (N := 11) hx hb hts in_c_X7_exchangeOn_X7 hown hK.1 hP 0 rfl rfl 9 (by decide) (hts (.fieldLink RX7 29 "FloorPanelsModel" "names" "[I") (by decide +kernel)) (fun _ h9 => h9) rfl dX7_exchangeOn_52 ?_
  refine lv_iload_n hx hb dX7_exchangeOn_55 rfl (lv_at hl 4 rfl) ?_
  refine nv_iald hx hb hK hP 2 rfl (by omega) (by decide) dX7_exchangeOn_56 ?_
  rw [show (nmA sk (kdm mm) g 0 n nf) lv = (nm sk (kdm mm) g lv) from nmA_at (Nat.zero_le _) h_lv]
  refine lv_icmp_ne (tgt := 64) hx hb dX7_exchangeOn_57 (by decide) (fun c_57 => ?_) (fun c_57 => ?_)
  ·
    refine lv_iconst (v := nI 1) hx hb dX7_exchangeOn_64 (by decide) ?_
    refine lv_istore (lv' := [(6, .int (nI 1)), (5, .int (mm (35 + 16 * ca + lv))), (0, .ref M), (1, .ref r), (2, .int (nI ca)), (3, .int (nI lv)), (4, .int (nI lm))]) hx hb dX7_exchangeOn_65 hl (by decide) rfl (fun ls hl => ?_)
    refine lv_iload hx hb dX7_exchangeOn_67 (lv_at hl 0 rfl) ?_
    refine lv_iload_n hx hb dX7_exchangeOn_69 rfl (lv_at hl 5 rfl) ?_
    refine lv_iload hx hb dX7_exchangeOn_70 (lv_at hl 6 rfl) ?_
    refine bi_eq (tgt := 92) hx hb dX7_exchangeOn_72 (by decide) (nI_i (by omega)) (nI_i (by omega)) (fun c_72 => ?_) (fun c_72 => ?_)
    ·
      refine lv_iconst (v := nI 0) hx hb dX7_exchangeOn_92 (by decide) ?_
      refine lv_goto (tgt := 97) hx hb dX7_exchangeOn_93 (by decide) ?_
      refine nv_iadd hx hb dX7_exchangeOn_97 ?_
      exact W_i hx hb hr hlk dX7_exchangeOn_98 hP hS (by refine congrArg nI ?_; first | exact mxw_tt (sk := sk) (m := mm) (g := g) (ca := ca) (lv := lv) (lm := lm) (by assumption) (Or.inl (by omega)) | exact mxw_tt (sk := sk) (m := mm) (g := g) (ca := ca) (lv := lv) (lm := lm) (by assumption) (Or.inr (by assumption)) | exact mxw_ft (sk := sk) (m := mm) (g := g) (ca := ca) (lv := lv) (lm := lm) (by assumption) (Or.inl (by omega)) | exact mxw_ft (sk := sk) (m := mm) (g := g) (ca := ca) (lv := lv) (lm := lm) (by assumption) (Or.inr (by assumption)) | exact mxw_tf (sk := sk) (m := mm) (g := g) (ca := ca) (lv := lv) (lm := lm) (by assumption) (fun z_ => z_.elim (by omega) (by assumption)) | exact mxw_ff (sk := sk) (m := mm) (g := g) (ca := ca) (lv := lv) (lm := lm) (by assumption) (fun z_ => z_.elim (by omega) (by assumption))) (rfl)
    ·
      refine lv_aload_n hx hb dX7_exchangeOn_75 rfl (lv_at hl 3 rfl) ?_
      refine lv_iload_n hx hb dX7_exchangeOn_76 rfl (lv_at hl 4 rfl) ?_
      refine lv_iload hx hb dX7_exchangeOn_77 (lv_at hl 6 rfl) ?_
      refine cRS (As := [.ref r, .int (nI ca), .int (nI lm)]) (rest := [.int (nI 1)]) (v := .int ((mxc ca lv lm mm) (35 + 16 * ca + lm))) ⟨hx, hb, hml, hown, hts⟩ (c_X7_says l G r n g sk (mxc ca lv lm mm) ca lm (by first | omega | assumption) (by first | omega | assumption)) (va_cwS 3 hts gX7_exchangeOn_X7_says rfl rfl rfl (by decide +kernel) ⟨Nat.le_of_ble_eq_true rfl, Nat.le_of_ble_eq_true rfl⟩) (preS_of hK hP hD [1] (by decide) rfl) rfl hl.1 rfl (lv_room (Nat.le_of_ble_eq_true rfl)) dX7_exchangeOn_79 ⟨Nat.zero_le _, Nat.zero_le _⟩ ?_
      rw [show (((mxc ca lv lm mm) (35 + 16 * ca + lm))) = (mm (35 + 16 * ca + lv)) from mxc_m]
      refine lv_aload_n hx hb dX7_exchangeOn_82 rfl (lv_at hl 2 rfl) ?_
      refine va_get (D := G.1) (ci := 4) (v := .ref na) (C := RX7) (T := TX7) (N := 11) hx hb hts in_c_X7_exchangeOn_X7 hown hK.1 hP 0 rfl rfl 9 (by decide) (hts (.fieldLink RX7 29 "FloorPanelsModel" "names" "[I") (by decide +kernel)) (fun _ h9 => h9) rfl dX7_exchangeOn_83 ?_
      refine lv_iload hx hb dX7_exchangeOn_86 (lv_at hl 6 rfl) ?_
      refine nv_iald hx hb hK hP 2 rfl (by omega) (by decide) dX7_exchangeOn_88 ?_
      rw [show (nmA sk (kdm mm) g 0 n nf) lm = (nm sk (kdm mm) g lm) from nmA_at (Nat.zero_le _) h_lm]
      refine lv_icmp_ne (tgt := 96) hx hb dX7_exchangeOn_89 (by decide) (fun c_89 => ?_) (fun c_89 => ?_)
      ·
        refine lv_iconst (v := nI 1) hx hb dX7_exchangeOn_96 (by decide) ?_
        refine nv_iadd hx hb dX7_exchangeOn_97 ?_
        exact W_i hx hb hr hlk dX7_exchangeOn_98 hP hS (by refine congrArg nI ?_; first | exact mxw_tt (sk := sk) (m := mm) (g := g) (ca := ca) (lv := lv) (lm := lm) (by assumption) (Or.inl (by omega)) | exact mxw_tt (sk := sk) (m := mm) (g := g) (ca := ca) (lv := lv) (lm := lm) (by assumption) (Or.inr (by assumption)) | exact mxw_ft (sk := sk) (m := mm) (g := g) (ca := ca) (lv := lv) (lm := lm) (by assumption) (Or.inl (by omega)) | exact mxw_ft (sk := sk) (m := mm) (g := g) (ca := ca) (lv := lv) (lm := lm) (by assumption) (Or.inr (by assumption)) | exact mxw_tf (sk := sk) (m := mm) (g := g) (ca := ca) (lv := lv) (lm := lm) (by assumption) (fun z_ => z_.elim (by omega) (by assumption)) | exact mxw_ff (sk := sk) (m := mm) (g := g) (ca := ca) (lv := lv) (lm := lm) (by assumption) (fun z_ => z_.elim (by omega) (by assumption))) (rfl)
      ·
        refine lv_iconst (v := nI 0) hx hb dX7_exchangeOn_92 (by decide) ?_
        refine lv_goto (tgt := 97) hx hb dX7_exchangeOn_93 (by decide) ?_
        refine nv_iadd hx hb dX7_exchangeOn_97 ?_
        exact W_i hx hb hr hlk dX7_exchangeOn_98 hP hS (by refine congrArg nI ?_; first | exact mxw_tt (sk := sk) (m := mm) (g := g) (ca := ca) (lv := lv) (lm := lm) (by assumption) (Or.inl (by omega)) | exact mxw_tt (sk := sk) (m := mm) (g := g) (ca := ca) (lv := lv) (lm := lm) (by assumption) (Or.inr (by assumption)) | exact mxw_ft (sk := sk) (m := mm) (g := g) (ca := ca) (lv := lv) (lm := lm) (by assumption) (Or.inl (by omega)) | exact mxw_ft (sk := sk) (m := mm) (g := g) (ca := ca) (lv := lv) (lm := lm) (by assumption) (Or.inr (by assumption)) | exact mxw_tf (sk := sk) (m := mm) (g := g) (ca := ca) (lv := lv) (lm := lm) (by assumption) (fun z_ => z_.elim (by omega) (by assumption)) | exact mxw_ff (sk := sk) (m := mm) (g := g) (ca := ca) (lv := lv) (lm := lm) (by assumption) (fun z_ => z_.elim (by omega) (by assumption))) (rfl)
  ·
    refine lv_iconst (v := nI 0) hx hb dX7_exchangeOn_60 (by decide) ?_
    refine lv_goto (tgt := 65) hx hb dX7_exchangeOn_61 (by decide) ?_
    refine lv_istore (lv' := [(6, .int (nI 0)), (5, .int (mm (35 + 16 * ca + lv))), (0, .ref M), (1, .ref r), (2, .int (nI ca)), (3, .int (nI lv)), (4, .int (nI lm))]) hx hb dX7_exchangeOn_65 hl (by decide) rfl (fun ls hl => ?_)
    refine lv_iload hx hb dX7_exchangeOn_67 (lv_at hl 0 rfl) ?_
    refine lv_iload_n hx hb dX7_exchangeOn_69 rfl (lv_at hl 5 rfl) ?_
    refine lv_iload hx hb dX7_exchangeOn_70 (lv_at hl 6 rfl) ?_
    refine bi_eq (tgt := 92) hx hb dX7_exchangeOn_72 (by decide) (nI_i (by omega)) (nI_i (by omega)) (fun c_72 => ?_) (fun c_72 => ?_)
    ·
      refine lv_iconst (v := nI 0) hx hb dX7_exchangeOn_92 (by decide) ?_
      refine lv_goto (tgt := 97) hx hb dX7_exchangeOn_93 (by decide) ?_
      refine nv_iadd hx hb dX7_exchangeOn_97 ?_
      exact W_i hx hb hr hlk dX7_exchangeOn_98 hP hS (by refine congrArg nI ?_; first | exact mxw_tt (sk := sk) (m := mm) (g := g) (ca := ca) (lv := lv) (lm := lm) (by assumption) (Or.inl (by omega)) | exact mxw_tt (sk := sk) (m := mm) (g := g) (ca := ca) (lv := lv) (lm := lm) (by assumption) (Or.inr (by assumption)) | exact mxw_ft (sk := sk) (m := mm) (g := g) (ca := ca) (lv := lv) (lm := lm) (by assumption) (Or.inl (by omega)) | exact mxw_ft (sk := sk) (m := mm) (g := g) (ca := ca) (lv := lv) (lm := lm) (by assumption) (Or.inr (by assumption)) | exact mxw_tf (sk := sk) (m := mm) (g := g) (ca := ca) (lv := lv) (lm := lm) (by assumption) (fun z_ => z_.elim (by omega) (by assumption)) | exact mxw_ff (sk := sk) (m := mm) (g := g) (ca := ca) (lv := lv) (lm := lm) (by assumption) (fun z_ => z_.elim (by omega) (by assumption))) (rfl)
    ·
      refine lv_aload_n hx hb dX7_exchangeOn_75 rfl (lv_at hl 3 rfl) ?_
      refine lv_iload_n hx hb dX7_exchangeOn_76 rfl (lv_at hl 4 rfl) ?_
      refine lv_iload hx hb dX7_exchangeOn_77 (lv_at hl 6 rfl) ?_
      refine cRS (As := [.ref r, .int (nI ca), .int (nI lm)]) (rest := [.int (nI 0)]) (v := .int ((mxc ca lv lm mm) (35 + 16 * ca + lm))) ⟨hx, hb, hml, hown, hts⟩ (c_X7_says l G r n g sk (mxc ca lv lm mm) ca lm (by first | omega | assumption) (by first | omega | assumption)) (va_cwS 3 hts gX7_exchangeOn_X7_says rfl rfl rfl (by decide +kernel) ⟨Nat.le_of_ble_eq_true rfl, Nat.le_of_ble_eq_true rfl⟩) (preS_of hK hP hD [1] (by decide) rfl) rfl hl.1 rfl (lv_room (Nat.le_of_ble_eq_true rfl)) dX7_exchangeOn_79 ⟨Nat.zero_le _, Nat.zero_le _⟩ ?_
      rw [show (((mxc ca lv lm mm) (35 + 16 * ca + lm))) = (mm (35 + 16 * ca + lv)) from mxc_m]
      refine lv_aload_n hx hb dX7_exchangeOn_82 rfl (lv_at hl 2 rfl) ?_
      refine va_get (D := G.1) (ci := 4) (v := .ref na) (C := RX7) (T := TX7) (N := 11) hx hb hts in_c_X7_exchangeOn_X7 hown hK.1 hP 0 rfl rfl 9 (by decide) (hts (.fieldLink RX7 29 "FloorPanelsModel" "names" "[I") (by decide +kernel)) (fun _ h9 => h9) rfl dX7_exchangeOn_83 ?_
      refine lv_iload hx hb dX7_exchangeOn_86 (lv_at hl 6 rfl) ?_
      refine nv_iald hx hb hK hP 2 rfl (by omega) (by decide) dX7_exchangeOn_88 ?_
      rw [show (nmA sk (kdm mm) g 0 n nf) lm = (nm sk (kdm mm) g lm) from nmA_at (Nat.zero_le _) h_lm]
      refine lv_icmp_ne (tgt := 96) hx hb dX7_exchangeOn_89 (by decide) (fun c_89 => ?_) (fun c_89 => ?_)
      ·
        refine lv_iconst (v := nI 1) hx hb dX7_exchangeOn_96 (by decide) ?_
        refine nv_iadd hx hb dX7_exchangeOn_97 ?_
        exact W_i hx hb hr hlk dX7_exchangeOn_98 hP hS (by refine congrArg nI ?_; first | exact mxw_tt (sk := sk) (m := mm) (g := g) (ca := ca) (lv := lv) (lm := lm) (by assumption) (Or.inl (by omega)) | exact mxw_tt (sk := sk) (m := mm) (g := g) (ca := ca) (lv := lv) (lm := lm) (by assumption) (Or.inr (by assumption)) | exact mxw_ft (sk := sk) (m := mm) (g := g) (ca := ca) (lv := lv) (lm := lm) (by assumption) (Or.inl (by omega)) | exact mxw_ft (sk := sk) (m := mm) (g := g) (ca := ca) (lv := lv) (lm := lm) (by assumption) (Or.inr (by assumption)) | exact mxw_tf (sk := sk) (m := mm) (g := g) (ca := ca) (lv := lv) (lm := lm) (by assumption) (fun z_ => z_.elim (by omega) (by assumption)) | exact mxw_ff (sk := sk) (m := mm) (g := g) (ca := ca) (lv := lv) (lm := lm) (by assumption) (fun z_ => z_.elim (by omega) (by assumption))) (rfl)
      ·
        refine lv_iconst (v := nI 0) hx hb dX7_exchangeOn_92 (by decide) ?_
        refine lv_goto (tgt := 97) hx hb dX7_exchangeOn_93 (by decide) ?_
        refine nv_iadd hx hb dX7_exchangeOn_97 ?_
        exact W_i hx hb hr hlk dX7_exchangeOn_98 hP hS (by refine congrArg nI ?_; first | exact mxw_tt (sk := sk) (m := mm) (g := g) (ca := ca) (lv := lv) (lm := lm) (by assumption) (Or.inl (by omega)) | exact mxw_tt (sk := sk) (m := mm) (g := g) (ca := ca) (lv := lv) (lm := lm) (by assumption) (Or.inr (by assumption)) | exact mxw_ft (sk := sk) (m := mm) (g := g) (ca := ca) (lv := lv) (lm := lm) (by assumption) (Or.inl (by omega)) | exact mxw_ft (sk := sk) (m := mm) (g := g) (ca := ca) (lv := lv) (lm := lm) (by assumption) (Or.inr (by assumption)) | exact mxw_tf (sk := sk) (m := mm) (g := g) (ca := ca) (lv := lv) (lm := lm) (by assumption) (fun z_ => z_.elim (by omega) (by assumption)) | exact mxw_ff (sk := sk) (m := mm) (g := g) (ca := ca) (lv := lv) (lm := lm) (by assumption) (fun z_ => z_.elim (by omega) (by assumption))) (rfl)

set_option maxHeartbeats 4000000 in
set_option maxRecDepth 100000 in
theorem c_X7_copyState (l : Launch) (G : GG) (ax : Nat) (Lx : Nat) (fx : Nat → Int32) (ay : Nat) (Ly : Nat) (fy : Nat → Int32) (fa : Nat) (ta : Nat) (h_x : fa + 131 ≤ Lx) (h_y : ta + 131 ≤ Ly) (h_x2 : Lx ≤ 2000) (h_y2 : Ly ≤ 2000) : Met l yX7_copyState wsX7_copyState ({ frames := 0, cells := 0, slots := 0, locals := 0 } : Room) (va_Pc [.ref ax, .int (nI fa), .ref ay, .int (nI ta)] (PB G [(ax, .inl (G.2 0, Lx, .inl fx)), (ay, .inl (G.2 0, Ly, .inl fy))])) (QW G (none) [(ax, .inl (G.2 0, Lx, .inl fx)), (ay, .inl (G.2 0, Ly, .inl (pur fy ta (fun j_ => fx (fa + j_)) 131)))] (vA [(ax, .inl (G.2 0, Lx, .inl fx)), (ay, .inl (G.2 0, Ly, .inl fy))])) 0 0 (vA [(ax, .inl (G.2 0, Lx, .inl fx)), (ay, .inl (G.2 0, Ly, .inl fy))]) := by
  refine Met.go (cc := cX7_copyState) (maxL := 5) (ret := none) (by decide) rfl (Nat.le_of_ble_eq_true rfl) ?_
  intro p e s m below meth c ls hx hb hr hml hown hts hlk hP hK hD hS hl
  have hown : s.vm.findClass RX7 = some m.cls := hown
  have hl : lv_has ls 5 [(0, .ref ax), (1, .int (nI fa)), (2, .ref ay), (3, .int (nI ta))] := hl
  refine lv_iconst (v := nI 0) hx hb dX7_copyState_0 (by decide) ?_
  refine lv_istore (lv' := [(4, .int (nI 0)), (0, .ref ax), (1, .int (nI fa)), (2, .ref ay), (3, .int (nI ta))]) hx hb dX7_copyState_1 hl (by decide) rfl (fun ls hl => ?_)
  have loop_3 : ∀ (k_ : Nat) (i : Nat) (h_i : i ≤ 131) (_ : 131 - i < k_) (H : Heap) (locs : List Loc) (_ : VP G [(ax, .inl (G.2 0, Lx, .inl fx)), (ay, .inl (G.2 0, Ly, .inl (pur fy ta (fun j_ => fx (fa + j_)) i)))] H) (_ : va_D (vA [(ax, .inl (G.2 0, Lx, .inl fx)), (ay, .inl (G.2 0, Ly, .inl fy))]) [(ax, .inl (G.2 0, Lx, .inl fx)), (ay, .inl (G.2 0, Ly, .inl (pur fy ta (fun j_ => fx (fa + j_)) i)))]) (_ : va_S (vA [(ax, .inl (G.2 0, Lx, .inl fx)), (ay, .inl (G.2 0, Ly, .inl fy))]) s.heap H locs) (ls : Array Slot), lv_has ls 5 [(4, .int (nI i)), (0, .ref ax), (1, .int (nI fa)), (2, .ref ay), (3, .int (nI ta))] → W p l e ({ frames := 0, cells := 0, slots := 0, locals := 0 } : Room) s m ([.ref ax, .int (nI fa), .ref ay, .int (nI ta)] : List Value).toArray below meth c H locs 0 0 (MQ below (QW G (none) [(ax, .inl (G.2 0, Lx, .inl fx)), (ay, .inl (G.2 0, Ly, .inl (pur fy ta (fun j_ => fx (fa + j_)) 131)))] (vA [(ax, .inl (G.2 0, Lx, .inl fx)), (ay, .inl (G.2 0, Ly, .inl fy))])) ([.ref ax, .int (nI fa), .ref ay, .int (nI ta)] : List Value).toArray s 0 0 (vA [(ax, .inl (G.2 0, Lx, .inl fx)), (ay, .inl (G.2 0, Ly, .inl fy))])) (F0 m 3 ls []) := by
    intro k_
    induction k_ with
    | zero => intro i h_i hk_; exact absurd hk_ (Nat.not_lt_zero _)
    | succ k_ ih_3 =>
      intro i h_i hk_ H locs hP hD hS ls hl
      refine lv_iload hx hb dX7_copyState_3 (lv_at hl 0 rfl) ?_
      refine lv_sipush (v := nI 131) hx hb dX7_copyState_5 (by decide) ?_
      refine bi_ge (tgt := 29) hx hb dX7_copyState_8 (by decide) (nI_i (by omega)) (nI_i (by omega)) (fun c_8 => ?_) (fun c_8 => ?_)
      ·
        exact W_v hx hb hr hlk dX7_copyState_29 hP hS (by rw [show i = 131 by omega])
      ·
        refine lv_aload_n hx hb dX7_copyState_11 rfl (lv_at hl 3 rfl) ?_
        refine lv_iload_n hx hb dX7_copyState_12 rfl (lv_at hl 4 rfl) ?_
        refine lv_iload hx hb dX7_copyState_13 (lv_at hl 0 rfl) ?_
        refine nv_iadd hx hb dX7_copyState_15 ?_
        refine lv_aload_n hx hb dX7_copyState_16 rfl (lv_at hl 1 rfl) ?_
        refine lv_iload_n hx hb dX7_copyState_17 rfl (lv_at hl 2 rfl) ?_
        refine lv_iload hx hb dX7_copyState_18 (lv_at hl 0 rfl) ?_
        refine nv_iadd hx hb dX7_copyState_20 ?_
        refine nv_iald hx hb hK hP 0 rfl (by omega) (by omega) dX7_copyState_21 ?_
        refine nv_iast hx hb hK hP hD hS 1 rfl (v := (fx (fa + i))) rfl (by omega) (by omega) dX7_copyState_22 (w3 := [(ax, .inl (G.2 0, Lx, .inl fx)), (ay, .inl (G.2 0, Ly, .inl (pur fy ta (fun j_ => fx (fa + j_)) (i + 1))))]) (by rw [pur_s (by rfl)]; rfl) (fun H locs hP hD hS => ?_)
        refine lv_iinc (v := nI (i + 1)) (lv' := [(4, .int (nI (i + 1))), (0, .ref ax), (1, .int (nI fa)), (2, .ref ay), (3, .int (nI ta))]) hx hb dX7_copyState_23 hl (k := 0) rfl (inc_n _ 1) (by decide) rfl (fun ls hl => ?_)
        refine lv_goto (tgt := 3) hx hb dX7_copyState_26 (by decide) ?_
        exact ih_3 (i + 1) (by first | omega | assumption) (by omega) _ _ hP hD hS ls (lv_sub hl [0, 1, 2, 3, 4] (by rfl))
  exact loop_3 (131 - 0 + 1) 0 (by first | omega | assumption) (Nat.lt_succ_self _) _ _ (by rw [pur_0]; exact hP) (by rw [pur_0]; exact hD) hS ls (lv_sub hl [0, 1, 2, 3, 4] (by rfl))

set_option maxHeartbeats 4000000 in
set_option maxRecDepth 100000 in
theorem c_X7_begin (l : Launch) (G : GG) (r : Nat) (fr_ : Nat → Int32)  : Met l yX7_begin wsX7_begin ({ frames := 0, cells := 0, slots := 0, locals := 0 } : Room) (va_Pc [.ref r] (PB G [(r, .inl (G.2 0, 131, .inl fr_))])) (QW G (none) [(r, .inl (G.2 0, 131, .inl (mr 0 (nI 0) 0 (zr 131 fr_))))] (vA [(r, .inl (G.2 0, 131, .inl fr_))])) 0 0 (vA [(r, .inl (G.2 0, 131, .inl fr_))]) := by
  refine Met.go (cc := cX7_begin) (maxL := 2) (ret := none) (by decide) rfl (Nat.le_of_ble_eq_true rfl) ?_
  intro p e s m below meth c ls hx hb hr hml hown hts hlk hP hK hD hS hl
  have hown : s.vm.findClass RX7 = some m.cls := hown
  have hl : lv_has ls 2 [(0, .ref r)] := hl
  refine lv_iconst (v := nI 0) hx hb dX7_begin_0 (by decide) ?_
  refine lv_istore_n (lv' := [(1, .int (nI 0)), (0, .ref r)]) hx hb dX7_begin_1 rfl hl (by decide) rfl (fun ls hl => ?_)
  have loop_2 : ∀ (k_ : Nat) (i : Nat) (h_i : i ≤ 131) (_ : 131 - i < k_) (H : Heap) (locs : List Loc) (_ : VP G [(r, .inl (G.2 0, 131, .inl (zr i fr_)))] H) (_ : va_D (vA [(r, .inl (G.2 0, 131, .inl fr_))]) [(r, .inl (G.2 0, 131, .inl (zr i fr_)))]) (_ : va_S (vA [(r, .inl (G.2 0, 131, .inl fr_))]) s.heap H locs) (ls : Array Slot), lv_has ls 2 [(1, .int (nI i)), (0, .ref r)] → W p l e ({ frames := 0, cells := 0, slots := 0, locals := 0 } : Room) s m ([.ref r] : List Value).toArray below meth c H locs 0 0 (MQ below (QW G (none) [(r, .inl (G.2 0, 131, .inl (mr 0 (nI 0) 0 (zr 131 fr_))))] (vA [(r, .inl (G.2 0, 131, .inl fr_))])) ([.ref r] : List Value).toArray s 0 0 (vA [(r, .inl (G.2 0, 131, .inl fr_))])) (F0 m 2 ls []) := by
    intro k_
    induction k_ with
    | zero => intro i h_i hk_; exact absurd hk_ (Nat.not_lt_zero _)
    | succ k_ ih_2 =>
      intro i h_i hk_ H locs hP hD hS ls hl
      refine lv_iload_n hx hb dX7_begin_2 rfl (lv_at hl 0 rfl) ?_
      refine lv_sipush (v := nI 131) hx hb dX7_begin_3 (by decide) ?_
      refine bi_ge (tgt := 19) hx hb dX7_begin_6 (by decide) (nI_i (by omega)) (nI_i (by omega)) (fun c_6 => ?_) (fun c_6 => ?_)
      ·
        exact W_v hx hb hr hlk dX7_begin_19 hP hS (by rw [show i = 131 by omega, ← zr_mr])
      ·
        refine lv_aload_n hx hb dX7_begin_9 rfl (lv_at hl 1 rfl) ?_
        refine lv_iload_n hx hb dX7_begin_10 rfl (lv_at hl 0 rfl) ?_
        refine lv_iconst (v := nI 0) hx hb dX7_begin_11 (by decide) ?_
        refine nv_iast hx hb hK hP hD hS 0 rfl (v := nI 0) rfl (by omega) (by decide) dX7_begin_12 (w3 := [(r, .inl (G.2 0, 131, .inl (zr (i + 1) fr_)))]) (by rw [← zr_s]; rfl) (fun H locs hP hD hS => ?_)
        refine lv_iinc (v := nI (i + 1)) (lv' := [(1, .int (nI (i + 1))), (0, .ref r)]) hx hb dX7_begin_13 hl (k := 0) rfl (inc_n _ 1) (by decide) rfl (fun ls hl => ?_)
        refine lv_goto (tgt := 2) hx hb dX7_begin_16 (by decide) ?_
        exact ih_2 (i + 1) (by first | omega | assumption) (by omega) _ _ hP hD hS ls (lv_sub hl [0, 1] (by rfl))
  exact loop_2 (131 - 0 + 1) 0 (by first | omega | assumption) (Nat.lt_succ_self _) _ _ (by rw [zr_0]; exact hP) (by rw [zr_0]; exact hD) hS ls (lv_sub hl [0, 1] (by rfl))

