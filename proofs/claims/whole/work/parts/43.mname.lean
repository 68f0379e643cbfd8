theorem in_c_X7_near_up_X7 : ∀ w ∈ wsX70, w ∈ wsX7_near := by decide +kernel
set_option maxHeartbeats 4000000 in
set_option maxRecDepth 100000 in
theorem c_X7_near_up (l : Launch) (G : GG) (M : Nat) (rf : Nat) (mt : Nat) (sz : Nat) (mn : Nat) (mtr : Nat) (md : Nat) (ac : Nat) (mk : Nat) (mik : Nat) (na : Nat) (so : Nat) (r : Nat) (n : Nat) (g : Nat) (sk : Int32) (mm : Nat → Int32) (sf : Nat → Int32) (a : Nat) (jn : Prop) (h_n : n ≤ 16) (h_g : g < n) (h_k : mm (3 + g) = 0) (h_a : g ≤ a) (h_a2 : a < n) (h_s : ∀ j, g ≤ j → j ≤ a → sf j = zI (sto sk (kdm mm) g j)) : Met l yX7_near wsX7_near ({ frames := 0, cells := 0, slots := 0, locals := 0 } : Room) (va_Pc [.ref M, .ref r, .int (nI a), .int (-1), .int (zb jn)] (PB G [(M, .inr (4, [.int (nI rf), .ref mt, .int (nI sz), .ref mn, .ref mtr, .ref md, .int (nI ac), .ref mk, .ref mik, .ref na, .ref so])), (r, .inl (G.2 0, 131, .inl (mr n (nI g) sk mm))), (so, .inl (G.2 0, 16, .inl sf))])) (QR (some (.int (zI (sto sk (kdm mm) g a))))) 0 0 (fun _ => False) := by
  refine Met.go (cc := cX7_near) (maxL := 6) (ret := (some .int)) (by decide) rfl (Nat.le_of_ble_eq_true rfl) ?_
  intro p e s m below meth c ls hx hb hr hml hown hts hlk hP hK hD hS hl
  have hown : s.vm.findClass RX7 = some m.cls := hown
  have hl : lv_has ls 6 [(0, .ref M), (1, .ref r), (2, .int (nI a)), (3, .int (-1)), (4, .int (zb jn))] := hl
  refine lv_iload_n hx hb dX7_near_0 rfl (lv_at hl 2 rfl) ?_
  refine lv_istore (lv' := [(5, .int (nI a)), (0, .ref M), (1, .ref r), (2, .int (nI a)), (3, .int (-1)), (4, .int (zb jn))]) hx hb dX7_near_1 hl (by decide) rfl (fun ls hl => ?_)
  have loop_3 : ∀ (k_ : Nat) (cur : Nat) (h_c1 : g ≤ cur) (h_c2 : cur ≤ a) (h_e : sto sk (kdm mm) g cur = sto sk (kdm mm) g a) (_ : cur < k_) (ls : Array Slot), lv_has ls 6 [(5, .int (nI cur)), (0, .ref M), (1, .ref r), (2, .int (nI a)), (3, .int (-1)), (4, .int (zb jn))] → W p l e ({ frames := 0, cells := 0, slots := 0, locals := 0 } : Room) s m ([.ref M, .ref r, .int (nI a), .int (-1), .int (zb jn)] : List Value).toArray below meth c s.heap [] 0 0 (MQ below (QR (some (.int (zI (sto sk (kdm mm) g a))))) ([.ref M, .ref r, .int (nI a), .int (-1), .int (zb jn)] : List Value).toArray s 0 0 (fun _ => False)) (F0 m 3 ls []) := by
    intro k_
    induction k_ with
    | zero => intro cur h_c1 h_c2 h_e hk_; exact absurd hk_ (Nat.not_lt_zero _)
    | succ k_ ih_3 =>
      intro cur h_c1 h_c2 h_e hk_ ls hl
      refine lv_aload_n hx hb dX7_near_3 rfl (lv_at hl 2 rfl) ?_
      refine lv_iconst (v := nI 3) hx hb dX7_near_4 (by decide) ?_
      refine lv_iload hx hb dX7_near_5 (lv_at hl 0 rfl) ?_
      refine nv_iadd hx hb dX7_near_7 ?_
      refine nv_iald hx hb hK hP 1 rfl (by omega) (by decide) dX7_near_8 ?_
      rw [show (mr n (nI g) sk mm) (3 + cur) = (mm (3 + cur)) from (mr_j (by omega))]
      refine lv_iconst (v := nI 3) hx hb dX7_near_9 (by decide) ?_
      refine lv_icmp_eq (tgt := 28) hx hb dX7_near_10 (by decide) (fun c_10 => ?_) (fun c_10 => ?_)
      ·
        have h_c : ¬ mm (3 + cur) = 0 := fun z_ => absurd (c_10.symm.trans z_) (by decide)
        have h_cg : g < cur := Nat.lt_of_le_of_ne h_c1 (fun z_ => h_c (by rw [← z_]; exact h_k))
        refine lv_iload hx hb dX7_near_28 (lv_at hl 0 rfl) ?_
        refine lv_iload_n hx hb dX7_near_30 rfl (lv_at hl 4 rfl) ?_
        refine lv_iadd hx hb dX7_near_31 ?_
        rw [show (nI cur) + (-1) = nI (cur - 1) from addm1 (by omega)]
        refine lv_istore (lv' := [(5, .int (nI (cur - 1))), (0, .ref M), (1, .ref r), (2, .int (nI a)), (3, .int (-1)), (4, .int (zb jn))]) hx hb dX7_near_32 hl (by decide) rfl (fun ls hl => ?_)
        refine lv_goto (tgt := 3) hx hb dX7_near_34 (by decide) ?_
        exact ih_3 (cur - 1) (by first | omega | assumption) (by first | omega | assumption) ((sto_dec h_cg h_c).trans h_e) (by omega) ls (lv_sub hl [0, 1, 2, 3, 4, 5] (by rfl))
      ·
        refine lv_iload hx hb dX7_near_13 (lv_at hl 5 rfl) ?_
        refine bb_eq (tgt := 37) hx hb dX7_near_15 (by decide) (fun c_15 => ?_) (fun c_15 => ?_)
        ·
          refine lv_aload_n hx hb dX7_near_37 rfl (lv_at hl 1 rfl) ?_
          refine va_get (D := G.1) (ci := 4) (v := .ref so) (C := RX7) (T := TX7) (N := 11) hx hb hts in_c_X7_near_up_X7 hown hK.1 hP 0 rfl rfl 10 (by decide) (hts (.fieldLink RX7 32 "FloorPanelsModel" "storeys" "[I") (by decide +kernel)) (fun _ h9 => h9) rfl dX7_near_38 ?_
          refine lv_iload hx hb dX7_near_41 (lv_at hl 0 rfl) ?_
          refine nv_iald hx hb hK hP 2 rfl (by omega) (by decide) dX7_near_43 ?_
          rw [show sf cur = zI (sto sk (kdm mm) g cur) from h_s cur (by omega) (by omega)]
          exact R_i hx hb hr hlk dX7_near_44 (by rw [h_e])
        ·
          refine lv_aload_n hx hb dX7_near_18 rfl (lv_at hl 2 rfl) ?_
          refine lv_iconst (v := nI 3) hx hb dX7_near_19 (by decide) ?_
          refine lv_iload hx hb dX7_near_20 (lv_at hl 0 rfl) ?_
          refine nv_iadd hx hb dX7_near_22 ?_
          refine nv_iald hx hb hK hP 1 rfl (by omega) (by decide) dX7_near_23 ?_
          rw [show (mr n (nI g) sk mm) (3 + cur) = (mm (3 + cur)) from (mr_j (by omega))]
          refine lv_iconst (v := nI 1) hx hb dX7_near_24 (by decide) ?_
          refine lv_icmp_ne (tgt := 37) hx hb dX7_near_25 (by decide) (fun c_25 => ?_) (fun c_25 => ?_)
          ·
            refine lv_aload_n hx hb dX7_near_37 rfl (lv_at hl 1 rfl) ?_
            refine va_get (D := G.1) (ci := 4) (v := .ref so) (C := RX7) (T := TX7) (N := 11) hx hb hts in_c_X7_near_up_X7 hown hK.1 hP 0 rfl rfl 10 (by decide) (hts (.fieldLink RX7 32 "FloorPanelsModel" "storeys" "[I") (by decide +kernel)) (fun _ h9 => h9) rfl dX7_near_38 ?_
            refine lv_iload hx hb dX7_near_41 (lv_at hl 0 rfl) ?_
            refine nv_iald hx hb hK hP 2 rfl (by omega) (by decide) dX7_near_43 ?_
            rw [show sf cur = zI (sto sk (kdm mm) g cur) from h_s cur (by omega) (by omega)]
            exact R_i hx hb hr hlk dX7_near_44 (by rw [h_e])
          ·
            have h_c : ¬ mm (3 + cur) = 0 := fun z_ => absurd (c_25.symm.trans z_) (by decide)
            have h_cg : g < cur := Nat.lt_of_le_of_ne h_c1 (fun z_ => h_c (by rw [← z_]; exact h_k))
            refine lv_iload hx hb dX7_near_28 (lv_at hl 0 rfl) ?_
            refine lv_iload_n hx hb dX7_near_30 rfl (lv_at hl 4 rfl) ?_
            refine lv_iadd hx hb dX7_near_31 ?_
            rw [show (nI cur) + (-1) = nI (cur - 1) from addm1 (by omega)]
            refine lv_istore (lv' := [(5, .int (nI (cur - 1))), (0, .ref M), (1, .ref r), (2, .int (nI a)), (3, .int (-1)), (4, .int (zb jn))]) hx hb dX7_near_32 hl (by decide) rfl (fun ls hl => ?_)
            refine lv_goto (tgt := 3) hx hb dX7_near_34 (by decide) ?_
            exact ih_3 (cur - 1) (by first | omega | assumption) (by first | omega | assumption) ((sto_dec h_cg h_c).trans h_e) (by omega) ls (lv_sub hl [0, 1, 2, 3, 4, 5] (by rfl))
  exact loop_3 (a + 1) a (by first | omega | assumption) (by first | omega | assumption) rfl (Nat.lt_succ_self _)  ls (lv_sub hl [0, 1, 2, 3, 4, 5] (by rfl))

theorem in_c_X7_near_dn_X7 : ∀ w ∈ wsX70, w ∈ wsX7_near := by decide +kernel
set_option maxHeartbeats 4000000 in
set_option maxRecDepth 100000 in
theorem c_X7_near_dn (l : Launch) (G : GG) (M : Nat) (rf : Nat) (mt : Nat) (sz : Nat) (mn : Nat) (mtr : Nat) (md : Nat) (ac : Nat) (mk : Nat) (mik : Nat) (na : Nat) (so : Nat) (r : Nat) (n : Nat) (g : Nat) (sk : Int32) (mm : Nat → Int32) (sf : Nat → Int32) (a : Nat) (jn : Prop) (h_n : n ≤ 16) (h_g : g < n) (h_k : mm (3 + g) = 0) (h_a : a ≤ g) (h_s : ∀ j, a ≤ j → j ≤ g → sf j = zI (sto sk (kdm mm) g j)) : Met l yX7_near wsX7_near ({ frames := 0, cells := 0, slots := 0, locals := 0 } : Room) (va_Pc [.ref M, .ref r, .int (nI a), .int (nI 1), .int (zb jn)] (PB G [(M, .inr (4, [.int (nI rf), .ref mt, .int (nI sz), .ref mn, .ref mtr, .ref md, .int (nI ac), .ref mk, .ref mik, .ref na, .ref so])), (r, .inl (G.2 0, 131, .inl (mr n (nI g) sk mm))), (so, .inl (G.2 0, 16, .inl sf))])) (QR (some (.int (zI (sto sk (kdm mm) g a))))) 0 0 (fun _ => False) := by
  refine Met.go (cc := cX7_near) (maxL := 6) (ret := (some .int)) (by decide) rfl (Nat.le_of_ble_eq_true rfl) ?_
  intro p e s m below meth c ls hx hb hr hml hown hts hlk hP hK hD hS hl
  have hown : s.vm.findClass RX7 = some m.cls := hown
  have hl : lv_has ls 6 [(0, .ref M), (1, .ref r), (2, .int (nI a)), (3, .int (nI 1)), (4, .int (zb jn))] := hl
  refine lv_iload_n hx hb dX7_near_0 rfl (lv_at hl 2 rfl) ?_
  refine lv_istore (lv' := [(5, .int (nI a)), (0, .ref M), (1, .ref r), (2, .int (nI a)), (3, .int (nI 1)), (4, .int (zb jn))]) hx hb dX7_near_1 hl (by decide) rfl (fun ls hl => ?_)
  have loop_3 : ∀ (k_ : Nat) (cur : Nat) (h_c1 : a ≤ cur) (h_c2 : cur ≤ g) (h_e : sto sk (kdm mm) g cur = sto sk (kdm mm) g a) (_ : g - cur < k_) (ls : Array Slot), lv_has ls 6 [(5, .int (nI cur)), (0, .ref M), (1, .ref r), (2, .int (nI a)), (3, .int (nI 1)), (4, .int (zb jn))] → W p l e ({ frames := 0, cells := 0, slots := 0, locals := 0 } : Room) s m ([.ref M, .ref r, .int (nI a), .int (nI 1), .int (zb jn)] : List Value).toArray below meth c s.heap [] 0 0 (MQ below (QR (some (.int (zI (sto sk (kdm mm) g a))))) ([.ref M, .ref r, .int (nI a), .int (nI 1), .int (zb jn)] : List Value).toArray s 0 0 (fun _ => False)) (F0 m 3 ls []) := by
    intro k_
    induction k_ with
    | zero => intro cur h_c1 h_c2 h_e hk_; exact absurd hk_ (Nat.not_lt_zero _)
    | succ k_ ih_3 =>
      intro cur h_c1 h_c2 h_e hk_ ls hl
      refine lv_aload_n hx hb dX7_near_3 rfl (lv_at hl 2 rfl) ?_
      refine lv_iconst (v := nI 3) hx hb dX7_near_4 (by decide) ?_
      refine lv_iload hx hb dX7_near_5 (lv_at hl 0 rfl) ?_
      refine nv_iadd hx hb dX7_near_7 ?_
      refine nv_iald hx hb hK hP 1 rfl (by omega) (by decide) dX7_near_8 ?_
      rw [show (mr n (nI g) sk mm) (3 + cur) = (mm (3 + cur)) from (mr_j (by omega))]
      refine lv_iconst (v := nI 3) hx hb dX7_near_9 (by decide) ?_
      refine lv_icmp_eq (tgt := 28) hx hb dX7_near_10 (by decide) (fun c_10 => ?_) (fun c_10 => ?_)
      ·
        have h_c : ¬ mm (3 + cur) = 0 := fun z_ => absurd (c_10.symm.trans z_) (by decide)
        have h_cg : cur < g := Nat.lt_of_le_of_ne h_c2 (fun z_ => h_c (by rw [z_]; exact h_k))
        refine lv_iload hx hb dX7_near_28 (lv_at hl 0 rfl) ?_
        refine lv_iload_n hx hb dX7_near_30 rfl (lv_at hl 4 rfl) ?_
        refine nv_iadd hx hb dX7_near_31 ?_
        refine lv_istore (lv' := [(5, .int (nI (cur + 1))), (0, .ref M), (1, .ref r), (2, .int (nI a)), (3, .int (nI 1)), (4, .int (zb jn))]) hx hb dX7_near_32 hl (by decide) rfl (fun ls hl => ?_)
        refine lv_goto (tgt := 3) hx hb dX7_near_34 (by decide) ?_
        exact ih_3 (cur + 1) (by first | omega | assumption) (by first | omega | assumption) ((sto_inc h_cg h_c).trans h_e) (by omega) ls (lv_sub hl [0, 1, 2, 3, 4, 5] (by rfl))
      ·
        refine lv_iload hx hb dX7_near_13 (lv_at hl 5 rfl) ?_
        refine bb_eq (tgt := 37) hx hb dX7_near_15 (by decide) (fun c_15 => ?_) (fun c_15 => ?_)
        ·
          refine lv_aload_n hx hb dX7_near_37 rfl (lv_at hl 1 rfl) ?_
          refine va_get (D := G.1) (ci := 4) (v := .ref so) (C := RX7) (T := TX7) (N := 11) hx hb hts in_c_X7_near_dn_X7 hown hK.1 hP 0 rfl rfl 10 (by decide) (hts (.fieldLink RX7 32 "FloorPanelsModel" "storeys" "[I") (by decide +kernel)) (fun _ h9 => h9) rfl dX7_near_38 ?_
          refine lv_iload hx hb dX7_near_41 (lv_at hl 0 rfl) ?_
          refine nv_iald hx hb hK hP 2 rfl (by omega) (by decide) dX7_near_43 ?_
          rw [show sf cur = zI (sto sk (kdm mm) g cur) from h_s cur (by omega) (by omega)]
          exact R_i hx hb hr hlk dX7_near_44 (by rw [h_e])
        ·
          refine lv_aload_n hx hb dX7_near_18 rfl (lv_at hl 2 rfl) ?_
          refine lv_iconst (v := nI 3) hx hb dX7_near_19 (by decide) ?_
          refine lv_iload hx hb dX7_near_20 (lv_at hl 0 rfl) ?_
          refine nv_iadd hx hb dX7_near_22 ?_
          refine nv_iald hx hb hK hP 1 rfl (by omega) (by decide) dX7_near_23 ?_
          rw [show (mr n (nI g) sk mm) (3 + cur) = (mm (3 + cur)) from (mr_j (by omega))]
          refine lv_iconst (v := nI 1) hx hb dX7_near_24 (by decide) ?_
          refine lv_icmp_ne (tgt := 37) hx hb dX7_near_25 (by decide) (fun c_25 => ?_) (fun c_25 => ?_)
          ·
            refine lv_aload_n hx hb dX7_near_37 rfl (lv_at hl 1 rfl) ?_
            refine va_get (D := G.1) (ci := 4) (v := .ref so) (C := RX7) (T := TX7) (N := 11) hx hb hts in_c_X7_near_dn_X7 hown hK.1 hP 0 rfl rfl 10 (by decide) (hts (.fieldLink RX7 32 "FloorPanelsModel" "storeys" "[I") (by decide +kernel)) (fun _ h9 => h9) rfl dX7_near_38 ?_
            refine lv_iload hx hb dX7_near_41 (lv_at hl 0 rfl) ?_
            refine nv_iald hx hb hK hP 2 rfl (by omega) (by decide) dX7_near_43 ?_
            rw [show sf cur = zI (sto sk (kdm mm) g cur) from h_s cur (by omega) (by omega)]
            exact R_i hx hb hr hlk dX7_near_44 (by rw [h_e])
          ·
            have h_c : ¬ mm (3 + cur) = 0 := fun z_ => absurd (c_25.symm.trans z_) (by decide)
            have h_cg : cur < g := Nat.lt_of_le_of_ne h_c2 (fun z_ => h_c (by rw [z_]; exact h_k))
            refine lv_iload hx hb dX7_near_28 (lv_at hl 0 rfl) ?_
            refine lv_iload_n hx hb dX7_near_30 rfl (lv_at hl 4 rfl) ?_
            refine nv_iadd hx hb dX7_near_31 ?_
            refine lv_istore (lv' := [(5, .int (nI (cur + 1))), (0, .ref M), (1, .ref r), (2, .int (nI a)), (3, .int (nI 1)), (4, .int (zb jn))]) hx hb dX7_near_32 hl (by decide) rfl (fun ls hl => ?_)
            refine lv_goto (tgt := 3) hx hb dX7_near_34 (by decide) ?_
            exact ih_3 (cur + 1) (by first | omega | assumption) (by first | omega | assumption) ((sto_inc h_cg h_c).trans h_e) (by omega) ls (lv_sub hl [0, 1, 2, 3, 4, 5] (by rfl))
  exact loop_3 (g - a + 1) a (by first | omega | assumption) (by first | omega | assumption) rfl (Nat.lt_succ_self _)  ls (lv_sub hl [0, 1, 2, 3, 4, 5] (by rfl))

theorem in_c_X7_nameLevel_up_X7 : ∀ w ∈ wsX70, w ∈ wsX7_nameLevel := by decide +kernel
set_option maxHeartbeats 4000000 in
set_option maxRecDepth 100000 in
theorem c_X7_nameLevel_up (l : Launch) (G : GG) (M : Nat) (rf : Nat) (mt : Nat) (sz : Nat) (mn : Nat) (mtr : Nat) (md : Nat) (ac : Nat) (mk : Nat) (mik : Nat) (na : Nat) (so : Nat) (r : Nat) (n : Nat) (g : Nat) (sk : Int32) (mm : Nat → Int32) (nf : Nat → Int32) (sf : Nat → Int32) (lv : Nat) (t : Nat) (h_n : n ≤ 16) (h_g : g < n) (h_k : mm (3 + g) = 0) (h_lv : g < lv) (h_lv2 : lv < n) (h_s : ∀ j, g ≤ j → j ≤ lv - 1 → sf j = zI (sto sk (kdm mm) g j)) (h_t : mm (3 + lv) = 0 → (t : Int) = sto sk (kdm mm) g lv) : Met l yX7_nameLevel wsX7_nameLevel ({ frames := 1, cells := 0, slots := 0, locals := 25 } : Room) (va_Pc [.ref M, .ref r, .int (nI lv), .int (nI 1), .int (nI t)] (PB G [(M, .inr (4, [.int (nI rf), .ref mt, .int (nI sz), .ref mn, .ref mtr, .ref md, .int (nI ac), .ref mk, .ref mik, .ref na, .ref so])), (r, .inl (G.2 0, 131, .inl (mr n (nI g) sk mm))), (na, .inl (G.2 0, 16, .inl nf)), (so, .inl (G.2 0, 16, .inl sf))])) (QW G (none) [(M, .inr (4, [.int (nI rf), .ref mt, .int (nI sz), .ref mn, .ref mtr, .ref md, .int (nI ac), .ref mk, .ref mik, .ref na, .ref so])), (r, .inl (G.2 0, 131, .inl (mr n (nI g) sk mm))), (na, .inl (G.2 0, 16, .inl (upd nf lv (nm sk (kdm mm) g lv)))), (so, .inl (G.2 0, 16, .inl (upd sf lv (zI (sto sk (kdm mm) g lv)))))] (vA [(M, .inr (4, [.int (nI rf), .ref mt, .int (nI sz), .ref mn, .ref mtr, .ref md, .int (nI ac), .ref mk, .ref mik, .ref na, .ref so])), (r, .inl (G.2 0, 131, .inl (mr n (nI g) sk mm))), (na, .inl (G.2 0, 16, .inl nf)), (so, .inl (G.2 0, 16, .inl sf))])) 0 0 (vA [(M, .inr (4, [.int (nI rf), .ref mt, .int (nI sz), .ref mn, .ref mtr, .ref md, .int (nI ac), .ref mk, .ref mik, .ref na, .ref so])), (r, .inl (G.2 0, 131, .inl (mr n (nI g) sk mm))), (na, .inl (G.2 0, 16, .inl nf)), (so, .inl (G.2 0, 16, .inl sf))]) := by
  refine Met.go (cc := cX7_nameLevel) (maxL := 6) (ret := none) (by decide) rfl (Nat.le_of_ble_eq_true rfl) ?_
  intro p e s m below meth c ls hx hb hr hml hown hts hlk hP hK hD hS hl
  have hown : s.vm.findClass RX7 = some m.cls := hown
  have hl : lv_has ls 6 [(0, .ref M), (1, .ref r), (2, .int (nI lv)), (3, .int (nI 1)), (4, .int (nI t))] := hl
  refine lv_aload_n hx hb dX7_nameLevel_0 rfl (lv_at hl 1 rfl) ?_
  refine lv_iconst (v := nI 3) hx hb dX7_nameLevel_1 (by decide) ?_
  refine lv_iload_n hx hb dX7_nameLevel_2 rfl (lv_at hl 2 rfl) ?_
  refine nv_iadd hx hb dX7_nameLevel_3 ?_
  refine nv_iald hx hb hK hP 1 rfl (by omega) (by decide) dX7_nameLevel_4 ?_
  rw [show (mr n (nI g) sk mm) (3 + lv) = (mm (3 + lv)) from (mr_j (by omega))]
  refine lv_istore (lv' := [(5, .int (mm (3 + lv))), (0, .ref M), (1, .ref r), (2, .int (nI lv)), (3, .int (nI 1)), (4, .int (nI t))]) hx hb dX7_nameLevel_5 hl (by decide) rfl (fun ls hl => ?_)
  refine lv_aload_n hx hb dX7_nameLevel_7 rfl (lv_at hl 1 rfl) ?_
  refine va_get (D := G.1) (ci := 4) (v := .ref so) (C := RX7) (T := TX7) (N := 11) hx hb hts in_c_X7_nameLevel_up_X7 hown hK.1 hP 0 rfl rfl 10 (by decide) (hts (.fieldLink RX7 32 "FloorPanelsModel" "storeys" "[I") (by decide +kernel)) (fun _ h9 => h9) rfl dX7_nameLevel_8 ?_
  refine lv_iload_n hx hb dX7_nameLevel_11 rfl (lv_at hl 3 rfl) ?_
  refine lv_iload hx hb dX7_nameLevel_12 (lv_at hl 0 rfl) ?_
  refine lv_if_ne (tgt := 22) hx hb dX7_nameLevel_14 (by decide) (fun c_14 => ?_) (fun c_14 => ?_)
  ·
    refine lv_aload_n hx hb dX7_nameLevel_22 rfl (lv_at hl 1 rfl) ?_
    refine lv_aload_n hx hb dX7_nameLevel_23 rfl (lv_at hl 2 rfl) ?_
    refine lv_iload_n hx hb dX7_nameLevel_24 rfl (lv_at hl 3 rfl) ?_
    refine lv_iload_n hx hb dX7_nameLevel_25 rfl (lv_at hl 4 rfl) ?_
    refine nv_isub hx hb (by omega) dX7_nameLevel_26 ?_
    refine lv_iload_n hx hb dX7_nameLevel_27 rfl (lv_at hl 4 rfl) ?_
    refine lv_ineg hx hb dX7_nameLevel_28 ?_
    rw [show -(nI 1) = (-1) from neg1]
    refine lv_iload hx hb dX7_nameLevel_29 (lv_at hl 0 rfl) ?_
    refine lv_iconst (v := nI 2) hx hb dX7_nameLevel_31 (by decide) ?_
    refine lv_icmp_ne (tgt := 39) hx hb dX7_nameLevel_32 (by decide) (fun c_32 => ?_) (fun c_32 => ?_)
    ·
      refine lv_iconst (v := zb (mm (3 + lv) = nI 2)) hx hb dX7_nameLevel_39 (zb_f c_32).symm ?_
      refine cRV (As := [.ref r, .int (nI (lv - 1)), .int (-1), .int (zb (mm (3 + lv) = nI 2))]) (rest := [.int (nI lv), .ref so]) (v := .int (zI (sto sk (kdm mm) g (lv - 1)))) ⟨hx, hb, hml, hown, hts⟩ (c_X7_near_up l G M rf mt sz mn mtr md ac mk mik na so r n g sk mm sf (lv - 1) (mm (3 + lv) = nI 2) (by first | omega | assumption) (by first | omega | assumption) (by first | omega | assumption) (by first | omega | assumption) (by first | omega | assumption) (by first | omega | assumption)) (cwV 4 hts gX7_nameLevel_X7_near rfl rfl rfl (by decide +kernel) ⟨Nat.le_of_ble_eq_true rfl, Nat.le_of_ble_eq_true rfl⟩) (preV_of hK hP hD [0, 1, 3] (by decide) rfl (ci := 4) (q0 := 0) rfl rfl rfl) rfl hl.1 rfl (lv_room (Nat.le_of_ble_eq_true rfl)) dX7_nameLevel_40 ⟨Nat.zero_le _, Nat.zero_le _⟩ ?_
      refine nv_iast hx hb hK hP hD hS 3 rfl (v := zI (sto sk (kdm mm) g (lv - 1))) rfl (by omega) (by decide) dX7_nameLevel_43 (w3 := [(M, .inr (4, [.int (nI rf), .ref mt, .int (nI sz), .ref mn, .ref mtr, .ref md, .int (nI ac), .ref mk, .ref mik, .ref na, .ref so])), (r, .inl (G.2 0, 131, .inl (mr n (nI g) sk mm))), (na, .inl (G.2 0, 16, .inl nf)), (so, .inl (G.2 0, 16, .inl (upd sf lv (zI (sto sk (kdm mm) g lv)))))]) (by rw [sto_up1 h_lv c_14]; rfl) (fun H locs hP hD hS => ?_)
      refine lv_aload_n hx hb dX7_nameLevel_44 rfl (lv_at hl 1 rfl) ?_
      refine va_get (D := G.1) (ci := 4) (v := .ref na) (C := RX7) (T := TX7) (N := 11) hx hb hts in_c_X7_nameLevel_up_X7 hown hK.1 hP 0 rfl rfl 9 (by decide) (hts (.fieldLink RX7 29 "FloorPanelsModel" "names" "[I") (by decide +kernel)) (fun _ h9 => h9) rfl dX7_nameLevel_45 ?_
      refine lv_iload_n hx hb dX7_nameLevel_48 rfl (lv_at hl 3 rfl) ?_
      refine lv_iload hx hb dX7_nameLevel_49 (lv_at hl 0 rfl) ?_
      refine lv_iconst (v := nI 3) hx hb dX7_nameLevel_51 (by decide) ?_
      refine lv_icmp_ne (tgt := 59) hx hb dX7_nameLevel_52 (by decide) (fun c_52 => ?_) (fun c_52 => ?_)
      ·
        refine lv_iconst (v := nI 4) hx hb dX7_nameLevel_59 (by decide) ?_
        refine lv_aload_n hx hb dX7_nameLevel_60 rfl (lv_at hl 1 rfl) ?_
        refine va_get (D := G.1) (ci := 4) (v := .ref so) (C := RX7) (T := TX7) (N := 11) hx hb hts in_c_X7_nameLevel_up_X7 hown hK.1 hP 0 rfl rfl 10 (by decide) (hts (.fieldLink RX7 32 "FloorPanelsModel" "storeys" "[I") (by decide +kernel)) (fun _ h9 => h9) rfl dX7_nameLevel_61 ?_
        refine lv_iload_n hx hb dX7_nameLevel_64 rfl (lv_at hl 3 rfl) ?_
        refine nv_iald hx hb hK hP 3 rfl (by omega) (by decide) dX7_nameLevel_65 ?_
        rw [show (upd sf lv (zI (sto sk (kdm mm) g lv))) lv = zI (sto sk (kdm mm) g lv) from if_pos rfl]
        refine zv_imul (zI_n _) rfl hx hb dX7_nameLevel_66 ?_
        refine lv_iload hx hb dX7_nameLevel_67 (lv_at hl 0 rfl) ?_
        refine lv_iadd hx hb dX7_nameLevel_69 ?_
        refine nv_iast hx hb hK hP hD hS 2 rfl (v := ((zI ((4 : Nat) * (sto sk (kdm mm) g lv))) + (mm (3 + lv)))) rfl (by omega) (by decide) dX7_nameLevel_70 (w3 := [(M, .inr (4, [.int (nI rf), .ref mt, .int (nI sz), .ref mn, .ref mtr, .ref md, .int (nI ac), .ref mk, .ref mik, .ref na, .ref so])), (r, .inl (G.2 0, 131, .inl (mr n (nI g) sk mm))), (na, .inl (G.2 0, 16, .inl (upd nf lv (nm sk (kdm mm) g lv)))), (so, .inl (G.2 0, 16, .inl (upd sf lv (zI (sto sk (kdm mm) g lv)))))]) (by rw [show zI (((4 : Nat) : Int) * (sto sk (kdm mm) g lv)) + mm (3 + lv) = nm sk (kdm mm) g lv from (nmv_n (k := mm (3 + lv)) c_52).symm]; rfl) (fun H locs hP hD hS => ?_)
        exact W_v hx hb hr hlk dX7_nameLevel_71 hP hS (rfl)
      ·
        refine lv_iconst (v := (-1)) hx hb dX7_nameLevel_55 (by decide) ?_
        refine lv_goto (tgt := 70) hx hb dX7_nameLevel_56 (by decide) ?_
        refine nv_iast hx hb hK hP hD hS 2 rfl (v := (-1)) rfl (by omega) (by decide) dX7_nameLevel_70 (w3 := [(M, .inr (4, [.int (nI rf), .ref mt, .int (nI sz), .ref mn, .ref mtr, .ref md, .int (nI ac), .ref mk, .ref mik, .ref na, .ref so])), (r, .inl (G.2 0, 131, .inl (mr n (nI g) sk mm))), (na, .inl (G.2 0, 16, .inl (upd nf lv (nm sk (kdm mm) g lv)))), (so, .inl (G.2 0, 16, .inl (upd sf lv (zI (sto sk (kdm mm) g lv)))))]) (by rw [show (-1 : Int32) = nm sk (kdm mm) g lv from (nmv_3 (k := mm (3 + lv)) c_52).symm]; rfl) (fun H locs hP hD hS => ?_)
        exact W_v hx hb hr hlk dX7_nameLevel_71 hP hS (rfl)
    ·
      refine lv_iconst (v := zb (mm (3 + lv) = nI 2)) hx hb dX7_nameLevel_35 (zb_t c_32).symm ?_
      refine lv_goto (tgt := 40) hx hb dX7_nameLevel_36 (by decide) ?_
      refine cRV (As := [.ref r, .int (nI (lv - 1)), .int (-1), .int (zb (mm (3 + lv) = nI 2))]) (rest := [.int (nI lv), .ref so]) (v := .int (zI (sto sk (kdm mm) g (lv - 1)))) ⟨hx, hb, hml, hown, hts⟩ (c_X7_near_up l G M rf mt sz mn mtr md ac mk mik na so r n g sk mm sf (lv - 1) (mm (3 + lv) = nI 2) (by first | omega | assumption) (by first | omega | assumption) (by first | omega | assumption) (by first | omega | assumption) (by first | omega | assumption) (by first | omega | assumption)) (cwV 4 hts gX7_nameLevel_X7_near rfl rfl rfl (by decide +kernel) ⟨Nat.le_of_ble_eq_true rfl, Nat.le_of_ble_eq_true rfl⟩) (preV_of hK hP hD [0, 1, 3] (by decide) rfl (ci := 4) (q0 := 0) rfl rfl rfl) rfl hl.1 rfl (lv_room (Nat.le_of_ble_eq_true rfl)) dX7_nameLevel_40 ⟨Nat.zero_le _, Nat.zero_le _⟩ ?_
      refine nv_iast hx hb hK hP hD hS 3 rfl (v := zI (sto sk (kdm mm) g (lv - 1))) rfl (by omega) (by decide) dX7_nameLevel_43 (w3 := [(M, .inr (4, [.int (nI rf), .ref mt, .int (nI sz), .ref mn, .ref mtr, .ref md, .int (nI ac), .ref mk, .ref mik, .ref na, .ref so])), (r, .inl (G.2 0, 131, .inl (mr n (nI g) sk mm))), (na, .inl (G.2 0, 16, .inl nf)), (so, .inl (G.2 0, 16, .inl (upd sf lv (zI (sto sk (kdm mm) g lv)))))]) (by rw [sto_up1 h_lv c_14]; rfl) (fun H locs hP hD hS => ?_)
      refine lv_aload_n hx hb dX7_nameLevel_44 rfl (lv_at hl 1 rfl) ?_
      refine va_get (D := G.1) (ci := 4) (v := .ref na) (C := RX7) (T := TX7) (N := 11) hx hb hts in_c_X7_nameLevel_up_X7 hown hK.1 hP 0 rfl rfl 9 (by decide) (hts (.fieldLink RX7 29 "FloorPanelsModel" "names" "[I") (by decide +kernel)) (fun _ h9 => h9) rfl dX7_nameLevel_45 ?_
      refine lv_iload_n hx hb dX7_nameLevel_48 rfl (lv_at hl 3 rfl) ?_
      refine lv_iload hx hb dX7_nameLevel_49 (lv_at hl 0 rfl) ?_
      refine lv_iconst (v := nI 3) hx hb dX7_nameLevel_51 (by decide) ?_
      refine lv_icmp_ne (tgt := 59) hx hb dX7_nameLevel_52 (by decide) (fun c_52 => ?_) (fun c_52 => ?_)
      ·
        refine lv_iconst (v := nI 4) hx hb dX7_nameLevel_59 (by decide) ?_
        refine lv_aload_n hx hb dX7_nameLevel_60 rfl (lv_at hl 1 rfl) ?_
        refine va_get (D := G.1) (ci := 4) (v := .ref so) (C := RX7) (T := TX7) (N := 11) hx hb hts in_c_X7_nameLevel_up_X7 hown hK.1 hP 0 rfl rfl 10 (by decide) (hts (.fieldLink RX7 32 "FloorPanelsModel" "storeys" "[I") (by decide +kernel)) (fun _ h9 => h9) rfl dX7_nameLevel_61 ?_
        refine lv_iload_n hx hb dX7_nameLevel_64 rfl (lv_at hl 3 rfl) ?_
        refine nv_iald hx hb hK hP 3 rfl (by omega) (by decide) dX7_nameLevel_65 ?_
        rw [show (upd sf lv (zI (sto sk (kdm mm) g lv))) lv = zI (sto sk (kdm mm) g lv) from if_pos rfl]
        refine zv_imul (zI_n _) rfl hx hb dX7_nameLevel_66 ?_
        refine lv_iload hx hb dX7_nameLevel_67 (lv_at hl 0 rfl) ?_
        refine lv_iadd hx hb dX7_nameLevel_69 ?_
        refine nv_iast hx hb hK hP hD hS 2 rfl (v := ((zI ((4 : Nat) * (sto sk (kdm mm) g lv))) + (mm (3 + lv)))) rfl (by omega) (by decide) dX7_nameLevel_70 (w3 := [(M, .inr (4, [.int (nI rf), .ref mt, .int (nI sz), .ref mn, .ref mtr, .ref md, .int (nI ac), .ref mk, .ref mik, .ref na, .ref so])), (r, .inl (G.2 0, 131, .inl (mr n (nI g) sk mm))), (na, .inl (G.2 0, 16, .inl (upd nf lv (nm sk (kdm mm) g lv)))), (so, .inl (G.2 0, 16, .inl (upd sf lv (zI (sto sk (kdm mm) g lv)))))]) (by rw [show zI (((4 : Nat) : Int) * (sto sk (kdm mm) g lv)) + mm (3 + lv) = nm sk (kdm mm) g lv from (nmv_n (k := mm (3 + lv)) c_52).symm]; rfl) (fun H locs hP hD hS => ?_)
        exact W_v hx hb hr hlk dX7_nameLevel_71 hP hS (rfl)
      ·
        refine lv_iconst (v := (-1)) hx hb dX7_nameLevel_55 (by decide) ?_
        refine lv_goto (tgt := 70) hx hb dX7_nameLevel_56 (by decide) ?_
        refine nv_iast hx hb hK hP hD hS 2 rfl (v := (-1)) rfl (by omega) (by decide) dX7_nameLevel_70 (w3 := [(M, .inr (4, [.int (nI rf), .ref mt, .int (nI sz), .ref mn, .ref mtr, .ref md, .int (nI ac), .ref mk, .ref mik, .ref na, .ref so])), (r, .inl (G.2 0, 131, .inl (mr n (nI g) sk mm))), (na, .inl (G.2 0, 16, .inl (upd nf lv (nm sk (kdm mm) g lv)))), (so, .inl (G.2 0, 16, .inl (upd sf lv (zI (sto sk (kdm mm) g lv)))))]) (by rw [show (-1 : Int32) = nm sk (kdm mm) g lv from (nmv_3 (k := mm (3 + lv)) c_52).symm]; rfl) (fun H locs hP hD hS => ?_)
        exact W_v hx hb hr hlk dX7_nameLevel_71 hP hS (rfl)
  ·
    refine lv_iload hx hb dX7_nameLevel_17 (lv_at hl 5 rfl) ?_
    refine lv_goto (tgt := 43) hx hb dX7_nameLevel_19 (by decide) ?_
    refine nv_iast hx hb hK hP hD hS 3 rfl (v := nI t) rfl (by omega) (by decide) dX7_nameLevel_43 (w3 := [(M, .inr (4, [.int (nI rf), .ref mt, .int (nI sz), .ref mn, .ref mtr, .ref md, .int (nI ac), .ref mk, .ref mik, .ref na, .ref so])), (r, .inl (G.2 0, 131, .inl (mr n (nI g) sk mm))), (na, .inl (G.2 0, 16, .inl nf)), (so, .inl (G.2 0, 16, .inl (upd sf lv (zI (sto sk (kdm mm) g lv)))))]) (by rw [show nI t = zI (sto sk (kdm mm) g lv) from by rw [← h_t c_14]; exact (zI_n t).symm]; rfl) (fun H locs hP hD hS => ?_)
    refine lv_aload_n hx hb dX7_nameLevel_44 rfl (lv_at hl 1 rfl) ?_
    refine va_get (D := G.1) (ci := 4) (v := .ref na) (C := RX7) (T := TX7) (N := 11) hx hb hts in_c_X7_nameLevel_up_X7 hown hK.1 hP 0 rfl rfl 9 (by decide) (hts (.fieldLink RX7 29 "FloorPanelsModel" "names" "[I") (by decide +kernel)) (fun _ h9 => h9) rfl dX7_nameLevel_45 ?_
    refine lv_iload_n hx hb dX7_nameLevel_48 rfl (lv_at hl 3 rfl) ?_
    refine lv_iload hx hb dX7_nameLevel_49 (lv_at hl 0 rfl) ?_
    refine lv_iconst (v := nI 3) hx hb dX7_nameLevel_51 (by decide) ?_
    refine lv_icmp_ne (tgt := 59) hx hb dX7_nameLevel_52 (by decide) (fun c_52 => ?_) (fun c_52 => ?_)
    ·
      refine lv_iconst (v := nI 4) hx hb dX7_nameLevel_59 (by decide) ?_
      refine lv_aload_n hx hb dX7_nameLevel_60 rfl (lv_at hl 1 rfl) ?_
      refine va_get (D := G.1) (ci := 4) (v := .ref so) (C := RX7) (T := TX7) (N := 11) hx hb hts in_c_X7_nameLevel_up_X7 hown hK.1 hP 0 rfl rfl 10 (by decide) (hts (.fieldLink RX7 32 "FloorPanelsModel" "storeys" "[I") (by decide +kernel)) (fun _ h9 => h9) rfl dX7_nameLevel_61 ?_
      refine lv_iload_n hx hb dX7_nameLevel_64 rfl (lv_at hl 3 rfl) ?_
      refine nv_iald hx hb hK hP 3 rfl (by omega) (by decide) dX7_nameLevel_65 ?_
      rw [show (upd sf lv (zI (sto sk (kdm mm) g lv))) lv = zI (sto sk (kdm mm) g lv) from if_pos rfl]
      refine zv_imul (zI_n _) rfl hx hb dX7_nameLevel_66 ?_
      refine lv_iload hx hb dX7_nameLevel_67 (lv_at hl 0 rfl) ?_
      refine lv_iadd hx hb dX7_nameLevel_69 ?_
      refine nv_iast hx hb hK hP hD hS 2 rfl (v := ((zI ((4 : Nat) * (sto sk (kdm mm) g lv))) + (mm (3 + lv)))) rfl (by omega) (by decide) dX7_nameLevel_70 (w3 := [(M, .inr (4, [.int (nI rf), .ref mt, .int (nI sz), .ref mn, .ref mtr, .ref md, .int (nI ac), .ref mk, .ref mik, .ref na, .ref so])), (r, .inl (G.2 0, 131, .inl (mr n (nI g) sk mm))), (na, .inl (G.2 0, 16, .inl (upd nf lv (nm sk (kdm mm) g lv)))), (so, .inl (G.2 0, 16, .inl (upd sf lv (zI (sto sk (kdm mm) g lv)))))]) (by rw [show zI (((4 : Nat) : Int) * (sto sk (kdm mm) g lv)) + mm (3 + lv) = nm sk (kdm mm) g lv from (nmv_n (k := mm (3 + lv)) c_52).symm]; rfl) (fun H locs hP hD hS => ?_)
      exact W_v hx hb hr hlk dX7_nameLevel_71 hP hS (rfl)
    ·
      refine lv_iconst (v := (-1)) hx hb dX7_nameLevel_55 (by decide) ?_
      refine lv_goto (tgt := 70) hx hb dX7_nameLevel_56 (by decide) ?_
      refine nv_iast hx hb hK hP hD hS 2 rfl (v := (-1)) rfl (by omega) (by decide) dX7_nameLevel_70 (w3 := [(M, .inr (4, [.int (nI rf), .ref mt, .int (nI sz), .ref mn, .ref mtr, .ref md, .int (nI ac), .ref mk, .ref mik, .ref na, .ref so])), (r, .inl (G.2 0, 131, .inl (mr n (nI g) sk mm))), (na, .inl (G.2 0, 16, .inl (upd nf lv (nm sk (kdm mm) g lv)))), (so, .inl (G.2 0, 16, .inl (upd sf lv (zI (sto sk (kdm mm) g lv)))))]) (by rw [show (-1 : Int32) = nm sk (kdm mm) g lv from (nmv_3 (k := mm (3 + lv)) c_52).symm]; rfl) (fun H locs hP hD hS => ?_)
      exact W_v hx hb hr hlk dX7_nameLevel_71 hP hS (rfl)

theorem in_c_X7_nameLevel_dn_X7 : ∀ w ∈ wsX70, w ∈ wsX7_nameLevel := by decide +kernel
set_option maxHeartbeats 4000000 in
set_option maxRecDepth 100000 in
theorem c_X7_nameLevel_dn (l : Launch) (G : GG) (M : Nat) (rf : Nat) (mt : Nat) (sz : Nat) (mn : Nat) (mtr : Nat) (md : Nat) (ac : Nat) (mk : Nat) (mik : Nat) (na : Nat) (so : Nat) (r : Nat) (n : Nat) (g : Nat) (sk : Int32) (mm : Nat → Int32) (nf : Nat → Int32) (sf : Nat → Int32) (lv : Nat) (t : Int) (h_n : n ≤ 16) (h_g : g < n) (h_k : mm (3 + g) = 0) (h_lv : lv < g) (h_s : ∀ j, lv + 1 ≤ j → j ≤ g → sf j = zI (sto sk (kdm mm) g j)) (h_t : mm (3 + lv) = 0 → t = sto sk (kdm mm) g lv) : Met l yX7_nameLevel wsX7_nameLevel ({ frames := 1, cells := 0, slots := 0, locals := 25 } : Room) (va_Pc [.ref M, .ref r, .int (nI lv), .int (-1), .int (zI t)] (PB G [(M, .inr (4, [.int (nI rf), .ref mt, .int (nI sz), .ref mn, .ref mtr, .ref md, .int (nI ac), .ref mk, .ref mik, .ref na, .ref so])), (r, .inl (G.2 0, 131, .inl (mr n (nI g) sk mm))), (na, .inl (G.2 0, 16, .inl nf)), (so, .inl (G.2 0, 16, .inl sf))])) (QW G (none) [(M, .inr (4, [.int (nI rf), .ref mt, .int (nI sz), .ref mn, .ref mtr, .ref md, .int (nI ac), .ref mk, .ref mik, .ref na, .ref so])), (r, .inl (G.2 0, 131, .inl (mr n (nI g) sk mm))), (na, .inl (G.2 0, 16, .inl (upd nf lv (nm sk (kdm mm) g lv)))), (so, .inl (G.2 0, 16, .inl (upd sf lv (zI (sto sk (kdm mm) g lv)))))] (vA [(M, .inr (4, [.int (nI rf), .ref mt, .int (nI sz), .ref mn, .ref mtr, .ref md, .int (nI ac), .ref mk, .ref mik, .ref na, .ref so])), (r, .inl (G.2 0, 131, .inl (mr n (nI g) sk mm))), (na, .inl (G.2 0, 16, .inl nf)), (so, .inl (G.2 0, 16, .inl sf))])) 0 0 (vA [(M, .inr (4, [.int (nI rf), .ref mt, .int (nI sz), .ref mn, .ref mtr, .ref md, .int (nI ac), .ref mk, .ref mik, .ref na, .ref so])), (r, .inl (G.2 0, 131, .inl (mr n (nI g) sk mm))), (na, .inl (G.2 0, 16, .inl nf)), (so, .inl (G.2 0, 16, .inl sf))]) := by
  refine Met.go (cc := cX7_nameLevel) (maxL := 6) (ret := none) (by decide) rfl (Nat.le_of_ble_eq_true rfl) ?_
  intro p e s m below meth c ls hx hb hr hml hown hts hlk hP hK hD hS hl
  have hown : s.vm.findClass RX7 = some m.cls := hown
  have hl : lv_has ls 6 [(0, .ref M), (1, .ref r), (2, .int (nI lv)), (3, .int (-1)), (4, .int (zI t))] := hl
  refine lv_aload_n hx hb dX7_nameLevel_0 rfl (lv_at hl 1 rfl) ?_
  refine lv_iconst (v := nI 3) hx hb dX7_nameLevel_1 (by decide) ?_
  refine lv_iload_n hx hb dX7_nameLevel_2 rfl (lv_at hl 2 rfl) ?_
  refine nv_iadd hx hb dX7_nameLevel_3 ?_
  refine nv_iald hx hb hK hP 1 rfl (by omega) (by decide) dX7_nameLevel_4 ?_
  rw [show (mr n (nI g) sk mm) (3 + lv) = (mm (3 + lv)) from (mr_j (by omega))]
  refine lv_istore (lv' := [(5, .int (mm (3 + lv))), (0, .ref M), (1, .ref r), (2, .int (nI lv)), (3, .int (-1)), (4, .int (zI t))]) hx hb dX7_nameLevel_5 hl (by decide) rfl (fun ls hl => ?_)
  refine lv_aload_n hx hb dX7_nameLevel_7 rfl (lv_at hl 1 rfl) ?_
  refine va_get (D := G.1) (ci := 4) (v := .ref so) (C := RX7) (T := TX7) (N := 11) hx hb hts in_c_X7_nameLevel_dn_X7 hown hK.1 hP 0 rfl rfl 10 (by decide) (hts (.fieldLink RX7 32 "FloorPanelsModel" "storeys" "[I") (by decide +kernel)) (fun _ h9 => h9) rfl dX7_nameLevel_8 ?_
  refine lv_iload_n hx hb dX7_nameLevel_11 rfl (lv_at hl 3 rfl) ?_
  refine lv_iload hx hb dX7_nameLevel_12 (lv_at hl 0 rfl) ?_
  refine lv_if_ne (tgt := 22) hx hb dX7_nameLevel_14 (by decide) (fun c_14 => ?_) (fun c_14 => ?_)
  ·
    refine lv_aload_n hx hb dX7_nameLevel_22 rfl (lv_at hl 1 rfl) ?_
    refine lv_aload_n hx hb dX7_nameLevel_23 rfl (lv_at hl 2 rfl) ?_
    refine lv_iload_n hx hb dX7_nameLevel_24 rfl (lv_at hl 3 rfl) ?_
    refine lv_iload_n hx hb dX7_nameLevel_25 rfl (lv_at hl 4 rfl) ?_
    refine lv_isub hx hb dX7_nameLevel_26 ?_
    rw [show (nI lv) - (-1) = nI (lv + 1) from subm1 _]
    refine lv_iload_n hx hb dX7_nameLevel_27 rfl (lv_at hl 4 rfl) ?_
    refine lv_ineg hx hb dX7_nameLevel_28 ?_
    rw [show -(-1) = nI 1 from negm1]
    refine lv_iload hx hb dX7_nameLevel_29 (lv_at hl 0 rfl) ?_
    refine lv_iconst (v := nI 2) hx hb dX7_nameLevel_31 (by decide) ?_
    refine lv_icmp_ne (tgt := 39) hx hb dX7_nameLevel_32 (by decide) (fun c_32 => ?_) (fun c_32 => ?_)
    ·
      refine lv_iconst (v := zb (mm (3 + lv) = nI 2)) hx hb dX7_nameLevel_39 (zb_f c_32).symm ?_
      refine cRV (As := [.ref r, .int (nI (lv + 1)), .int (nI 1), .int (zb (mm (3 + lv) = nI 2))]) (rest := [.int (nI lv), .ref so]) (v := .int (zI (sto sk (kdm mm) g (lv + 1)))) ⟨hx, hb, hml, hown, hts⟩ (c_X7_near_dn l G M rf mt sz mn mtr md ac mk mik na so r n g sk mm sf (lv + 1) (mm (3 + lv) = nI 2) (by first | omega | assumption) (by first | omega | assumption) (by first | omega | assumption) (by first | omega | assumption) (by first | omega | assumption)) (cwV 4 hts gX7_nameLevel_X7_near rfl rfl rfl (by decide +kernel) ⟨Nat.le_of_ble_eq_true rfl, Nat.le_of_ble_eq_true rfl⟩) (preV_of hK hP hD [0, 1, 3] (by decide) rfl (ci := 4) (q0 := 0) rfl rfl rfl) rfl hl.1 rfl (lv_room (Nat.le_of_ble_eq_true rfl)) dX7_nameLevel_40 ⟨Nat.zero_le _, Nat.zero_le _⟩ ?_
      refine nv_iast hx hb hK hP hD hS 3 rfl (v := zI (sto sk (kdm mm) g (lv + 1))) rfl (by omega) (by decide) dX7_nameLevel_43 (w3 := [(M, .inr (4, [.int (nI rf), .ref mt, .int (nI sz), .ref mn, .ref mtr, .ref md, .int (nI ac), .ref mk, .ref mik, .ref na, .ref so])), (r, .inl (G.2 0, 131, .inl (mr n (nI g) sk mm))), (na, .inl (G.2 0, 16, .inl nf)), (so, .inl (G.2 0, 16, .inl (upd sf lv (zI (sto sk (kdm mm) g lv)))))]) (by rw [sto_dn1 h_lv c_14]; rfl) (fun H locs hP hD hS => ?_)
      refine lv_aload_n hx hb dX7_nameLevel_44 rfl (lv_at hl 1 rfl) ?_
      refine va_get (D := G.1) (ci := 4) (v := .ref na) (C := RX7) (T := TX7) (N := 11) hx hb hts in_c_X7_nameLevel_dn_X7 hown hK.1 hP 0 rfl rfl 9 (by decide) (hts (.fieldLink RX7 29 "FloorPanelsModel" "names" "[I") (by decide +kernel)) (fun _ h9 => h9) rfl dX7_nameLevel_45 ?_
      refine lv_iload_n hx hb dX7_nameLevel_48 rfl (lv_at hl 3 rfl) ?_
      refine lv_iload hx hb dX7_nameLevel_49 (lv_at hl 0 rfl) ?_
      refine lv_iconst (v := nI 3) hx hb dX7_nameLevel_51 (by decide) ?_
      refine lv_icmp_ne (tgt := 59) hx hb dX7_nameLevel_52 (by decide) (fun c_52 => ?_) (fun c_52 => ?_)
      ·
        refine lv_iconst (v := nI 4) hx hb dX7_nameLevel_59 (by decide) ?_
        refine lv_aload_n hx hb dX7_nameLevel_60 rfl (lv_at hl 1 rfl) ?_
        refine va_get (D := G.1) (ci := 4) (v := .ref so) (C := RX7) (T := TX7) (N := 11) hx hb hts in_c_X7_nameLevel_dn_X7 hown hK.1 hP 0 rfl rfl 10 (by decide) (hts (.fieldLink RX7 32 "FloorPanelsModel" "storeys" "[I") (by decide +kernel)) (fun _ h9 => h9) rfl dX7_nameLevel_61 ?_
        refine lv_iload_n hx hb dX7_nameLevel_64 rfl (lv_at hl 3 rfl) ?_
        refine nv_iald hx hb hK hP 3 rfl (by omega) (by decide) dX7_nameLevel_65 ?_
        rw [show (upd sf lv (zI (sto sk (kdm mm) g lv))) lv = zI (sto sk (kdm mm) g lv) from if_pos rfl]
        refine zv_imul (zI_n _) rfl hx hb dX7_nameLevel_66 ?_
        refine lv_iload hx hb dX7_nameLevel_67 (lv_at hl 0 rfl) ?_
        refine lv_iadd hx hb dX7_nameLevel_69 ?_
        refine nv_iast hx hb hK hP hD hS 2 rfl (v := ((zI ((4 : Nat) * (sto sk (kdm mm) g lv))) + (mm (3 + lv)))) rfl (by omega) (by decide) dX7_nameLevel_70 (w3 := [(M, .inr (4, [.int (nI rf), .ref mt, .int (nI sz), .ref mn, .ref mtr, .ref md, .int (nI ac), .ref mk, .ref mik, .ref na, .ref so])), (r, .inl (G.2 0, 131, .inl (mr n (nI g) sk mm))), (na, .inl (G.2 0, 16, .inl (upd nf lv (nm sk (kdm mm) g lv)))), (so, .inl (G.2 0, 16, .inl (upd sf lv (zI (sto sk (kdm mm) g lv)))))]) (by rw [show zI (((4 : Nat) : Int) * (sto sk (kdm mm) g lv)) + mm (3 + lv) = nm sk (kdm mm) g lv from (nmv_n (k := mm (3 + lv)) c_52).symm]; rfl) (fun H locs hP hD hS => ?_)
        exact W_v hx hb hr hlk dX7_nameLevel_71 hP hS (rfl)
      ·
        refine lv_iconst (v := (-1)) hx hb dX7_nameLevel_55 (by decide) ?_
        refine lv_goto (tgt := 70) hx hb dX7_nameLevel_56 (by decide) ?_
        refine nv_iast hx hb hK hP hD hS 2 rfl (v := (-1)) rfl (by omega) (by decide) dX7_nameLevel_70 (w3 := [(M, .inr (4, [.int (nI rf), .ref mt, .int (nI sz), .ref mn, .ref mtr, .ref md, .int (nI ac), .ref mk, .ref mik, .ref na, .ref so])), (r, .inl (G.2 0, 131, .inl (mr n (nI g) sk mm))), (na, .inl (G.2 0, 16, .inl (upd nf lv (nm sk (kdm mm) g lv)))), (so, .inl (G.2 0, 16, .inl (upd sf lv (zI (sto sk (kdm mm) g lv)))))]) (by rw [show (-1 : Int32) = nm sk (kdm mm) g lv from (nmv_3 (k := mm (3 + lv)) c_52).symm]; rfl) (fun H locs hP hD hS => ?_)
        exact W_v hx hb hr hlk dX7_nameLevel_71 hP hS (rfl)
    ·
      refine lv_iconst (v := zb (mm (3 + lv) = nI 2)) hx hb dX7_nameLevel_35 (zb_t c_32).symm ?_
      refine lv_goto (tgt := 40) hx hb dX7_nameLevel_36 (by decide) ?_
      refine cRV (As := [.ref r, .int (nI (lv + 1)), .int (nI 1), .int (zb (mm (3 + lv) = nI 2))]) (rest := [.int (nI lv), .ref so]) (v := .int (zI (sto sk (kdm mm) g (lv + 1)))) ⟨hx, hb, hml, hown, hts⟩ (c_X7_near_dn l G M rf mt sz mn mtr md ac mk mik na so r n g sk mm sf (lv + 1) (mm (3 + lv) = nI 2) (by first | omega | assumption) (by first | omega | assumption) (by first | omega | assumption) (by first | omega | assumption) (by first | omega | assumption)) (cwV 4 hts gX7_nameLevel_X7_near rfl rfl rfl (by decide +kernel) ⟨Nat.le_of_ble_eq_true rfl, Nat.le_of_ble_eq_true rfl⟩) (preV_of hK hP hD [0, 1, 3] (by decide) rfl (ci := 4) (q0 := 0) rfl rfl rfl) rfl hl.1 rfl (lv_room (Nat.le_of_ble_eq_true rfl)) dX7_nameLevel_40 ⟨Nat.zero_le _, Nat.zero_le _⟩ ?_
      refine nv_iast hx hb hK hP hD hS 3 rfl (v := zI (sto sk (kdm mm) g (lv + 1))) rfl (by omega) (by decide) dX7_nameLevel_43 (w3 := [(M, .inr (4, [.int (nI rf), .ref mt, .int (nI sz), .ref mn, .ref mtr, .ref md, .int (nI ac), .ref mk, .ref mik, .ref na, .ref so])), (r, .inl (G.2 0, 131, .inl (mr n (nI g) sk mm))), (na, .inl (G.2 0, 16, .inl nf)), (so, .inl (G.2 0, 16, .inl (upd sf lv (zI (sto sk (kdm mm) g lv)))))]) (by rw [sto_dn1 h_lv c_14]; rfl) (fun H locs hP hD hS => ?_)
      refine lv_aload_n hx hb dX7_nameLevel_44 rfl (lv_at hl 1 rfl) ?_
      refine va_get (D := G.1) (ci := 4) (v := .ref na) (C := RX7) (T := TX7) (N := 11) hx hb hts in_c_X7_nameLevel_dn_X7 hown hK.1 hP 0 rfl rfl 9 (by decide) (hts (.fieldLink RX7 29 "FloorPanelsModel" "names" "[I") (by decide +kernel)) (fun _ h9 => h9) rfl dX7_nameLevel_45 ?_
      refine lv_iload_n hx hb dX7_nameLevel_48 rfl (lv_at hl 3 rfl) ?_
      refine lv_iload hx hb dX7_nameLevel_49 (lv_at hl 0 rfl) ?_
      refine lv_iconst (v := nI 3) hx hb dX7_nameLevel_51 (by decide) ?_
      refine lv_icmp_ne (tgt := 59) hx hb dX7_nameLevel_52 (by decide) (fun c_52 => ?_) (fun c_52 => ?_)
      ·
        refine lv_iconst (v := nI 4) hx hb dX7_nameLevel_59 (by decide) ?_
        refine lv_aload_n hx hb dX7_nameLevel_60 rfl (lv_at hl 1 rfl) ?_
        refine va_get (D := G.1) (ci := 4) (v := .ref so) (C := RX7) (T := TX7) (N := 11) hx hb hts in_c_X7_nameLevel_dn_X7 hown hK.1 hP 0 rfl rfl 10 (by decide) (hts (.fieldLink RX7 32 "FloorPanelsModel" "storeys" "[I") (by decide +kernel)) (fun _ h9 => h9) rfl dX7_nameLevel_61 ?_
        refine lv_iload_n hx hb dX7_nameLevel_64 rfl (lv_at hl 3 rfl) ?_
        refine nv_iald hx hb hK hP 3 rfl (by omega) (by decide) dX7_nameLevel_65 ?_
        rw [show (upd sf lv (zI (sto sk (kdm mm) g lv))) lv = zI (sto sk (kdm mm) g lv) from if_pos rfl]
        refine zv_imul (zI_n _) rfl hx hb dX7_nameLevel_66 ?_
        refine lv_iload hx hb dX7_nameLevel_67 (lv_at hl 0 rfl) ?_
        refine lv_iadd hx hb dX7_nameLevel_69 ?_
        refine nv_iast hx hb hK hP hD hS 2 rfl (v := ((zI ((4 : Nat) * (sto sk (kdm mm) g lv))) + (mm (3 + lv)))) rfl (by omega) (by decide) dX7_nameLevel_70 (w3 := [(M, .inr (4, [.int (nI rf), .ref mt, .int (nI sz), .ref mn, .ref mtr, .ref md, .int (nI ac), .ref mk, .ref mik, .ref na, .ref so])), (r, .inl (G.2 0, 131, .inl (mr n (nI g) sk mm))), (na, .inl (G.2 0, 16, .inl (upd nf lv (nm sk (kdm mm) g lv)))), (so, .inl (G.2 0, 16, .inl (upd sf lv (zI (sto sk (kdm mm) g lv)))))]) (by rw [show zI (((4 : Nat) : Int) * (sto sk (kdm mm) g lv)) + mm (3 + lv) = nm sk (kdm mm) g lv from (nmv_n (k := mm (3 + lv)) c_52).symm]; rfl) (fun H locs hP hD hS => ?_)
        exact W_v hx hb hr hlk dX7_nameLevel_71 hP hS (rfl)
      ·
        refine lv_iconst (v := (-1)) hx hb dX7_nameLevel_55 (by decide) ?_
        refine lv_goto (tgt := 70) hx hb dX7_nameLevel_56 (by decide) ?_
        refine nv_iast hx hb hK hP hD hS 2 rfl (v := (-1)) rfl (by omega) (by decide) dX7_nameLevel_70 (w3 := [(M, .inr (4, [.int (nI rf), .ref mt, .int (nI sz), .ref mn, .ref mtr, .ref md, .int (nI ac), .ref mk, .ref mik, .ref na, .ref so])), (r, .inl (G.2 0, 131, .inl (mr n (nI g) sk mm))), (na, .inl (G.2 0, 16, .inl (upd nf lv (nm sk (kdm mm) g lv)))), (so, .inl (G.2 0, 16, .inl (upd sf lv (zI (sto sk (kdm mm) g lv)))))]) (by rw [show (-1 : Int32) = nm sk (kdm mm) g lv from (nmv_3 (k := mm (3 + lv)) c_52).symm]; rfl) (fun H locs hP hD hS => ?_)
        exact W_v hx hb hr hlk dX7_nameLevel_71 hP hS (rfl)
  ·
    refine lv_iload hx hb dX7_nameLevel_17 (lv_at hl 5 rfl) ?_
    refine lv_goto (tgt := 43) hx hb dX7_nameLevel_19 (by decide) ?_
    refine nv_iast hx hb hK hP hD hS 3 rfl (v := zI t) rfl (by omega) (by decide) dX7_nameLevel_43 (w3 := [(M, .inr (4, [.int (nI rf), .ref mt, .int (nI sz), .ref mn, .ref mtr, .ref md, .int (nI ac), .ref mk, .ref mik, .ref na, .ref so])), (r, .inl (G.2 0, 131, .inl (mr n (nI g) sk mm))), (na, .inl (G.2 0, 16, .inl nf)), (so, .inl (G.2 0, 16, .inl (upd sf lv (zI (sto sk (kdm mm) g lv)))))]) (by rw [show zI t = zI (sto sk (kdm mm) g lv) from by rw [← h_t c_14]]; rfl) (fun H locs hP hD hS => ?_)
    refine lv_aload_n hx hb dX7_nameLevel_44 rfl (lv_at hl 1 rfl) ?_
    refine va_get (D := G.1) (ci := 4) (v := .ref na) (C := RX7) (T := TX7) (N := 11) hx hb hts in_c_X7_nameLevel_dn_X7 hown hK.1 hP 0 rfl rfl 9 (by decide) (hts (.fieldLink RX7 29 "FloorPanelsModel" "names" "[I") (by decide +kernel)) (fun _ h9 => h9) rfl dX7_nameLevel_45 ?_
    refine lv_iload_n hx hb dX7_nameLevel_48 rfl (lv_at hl 3 rfl) ?_
    refine lv_iload hx hb dX7_nameLevel_49 (lv_at hl 0 rfl) ?_
    refine lv_iconst (v := nI 3) hx hb dX7_nameLevel_51 (by decide) ?_
    refine lv_icmp_ne (tgt := 59) hx hb dX7_nameLevel_52 (by decide) (fun c_52 => ?_) (fun c_52 => ?_)
    ·
      refine lv_iconst (v := nI 4) hx hb dX7_nameLevel_59 (by decide) ?_
      refine lv_aload_n hx hb dX7_nameLevel_60 rfl (lv_at hl 1 rfl) ?_
      refine va_get (D := G.1) (ci := 4) (v := .ref so) (C := RX7) (T := TX7) (N := 11) hx hb hts in_c_X7_nameLevel_dn_X7 hown hK.1 hP 0 rfl rfl 10 (by decide) (hts (.fieldLink RX7 32 "FloorPanelsModel" "storeys" "[I") (by decide +kernel)) (fun _ h9 => h9) rfl dX7_nameLevel_61 ?_
      refine lv_iload_n hx hb dX7_nameLevel_64 rfl (lv_at hl 3 rfl) ?_
      refine nv_iald hx hb hK hP 3 rfl (by omega) (by decide) dX7_nameLevel_65 ?_
      rw [show (upd sf lv (zI (sto sk (kdm mm) g lv))) lv = zI (sto sk (kdm mm) g lv) from if_pos rfl]
      refine zv_imul (zI_n _) rfl hx hb dX7_nameLevel_66 ?_
      refine lv_iload hx hb dX7_nameLevel_67 (lv_at hl 0 rfl) ?_
      refine lv_iadd hx hb dX7_nameLevel_69 ?_
      refine nv_iast hx hb hK hP hD hS 2 rfl (v := ((zI ((4 : Nat) * (sto sk (kdm mm) g lv))) + (mm (3 + lv)))) rfl (by omega) (by decide) dX7_nameLevel_70 (w3 := [(M, .inr (4, [.int (nI rf), .ref mt, .int (nI sz), .ref mn, .ref mtr, .ref md, .int (nI ac), .ref mk, .ref mik, .ref na, .ref so])), (r, .inl (G.2 0, 131, .inl (mr n (nI g) sk mm))), (na, .inl (G.2 0, 16, .inl (upd nf lv (nm sk (kdm mm) g lv)))), (so, .inl (G.2 0, 16, .inl (upd sf lv (zI (sto sk (kdm mm) g lv)))))]) (by rw [show zI (((4 : Nat) : Int) * (sto sk (kdm mm) g lv)) + mm (3 + lv) = nm sk (kdm mm) g lv from (nmv_n (k := mm (3 + lv)) c_52).symm]; rfl) (fun H locs hP hD hS => ?_)
      exact W_v hx hb hr hlk dX7_nameLevel_71 hP hS (rfl)
    ·
      refine lv_iconst (v := (-1)) hx hb dX7_nameLevel_55 (by decide) ?_
      refine lv_goto (tgt := 70) hx hb dX7_nameLevel_56 (by decide) ?_
      refine nv_iast hx hb hK hP hD hS 2 rfl (v := (-1)) rfl (by omega) (by decide) dX7_nameLevel_70 (w3 := [(M, .inr (4, [.int (nI rf), .ref mt, .int (nI sz), .ref mn, .ref mtr, .ref md, .int (nI ac), .ref mk, .ref mik, .ref na, .ref so])), (r, .inl (G.2 0, 131, .inl (mr n (nI g) sk mm))), (na, .inl (G.2 0, 16, .inl (upd nf lv (nm sk (kdm mm) g lv)))), (so, .inl (G.2 0, 16, .inl (upd sf lv (zI (sto sk (kdm mm) g lv)))))]) (by rw [show (-1 : Int32) = nm sk (kdm mm) g lv from (nmv_3 (k := mm (3 + lv)) c_52).symm]; rfl) (fun H locs hP hD hS => ?_)
      exact W_v hx hb hr hlk dX7_nameLevel_71 hP hS (rfl)

theorem in_c_X7_name_X7 : ∀ w ∈ wsX70, w ∈ wsX7_name := by decide +kernel
set_option maxHeartbeats 4000000 in
set_option maxRecDepth 100000 in
theorem c_X7_name (l : Launch) (G : GG) (M : Nat) (rf : Nat) (mt : Nat) (sz : Nat) (mn : Nat) (mtr : Nat) (md : Nat) (ac : Nat) (mk : Nat) (mik : Nat) (na : Nat) (so : Nat) (r : Nat) (n : Nat) (g : Nat) (sk : Int32) (mm : Nat → Int32) (nf : Nat → Int32) (sf : Nat → Int32) (h_n : n ≤ 16) (h_g : g < n) (h_k : mm (3 + g) = 0) : Met l yX7_name wsX7_name ({ frames := 2, cells := 0, slots := 0, locals := 50 } : Room) (va_Pc [.ref M, .ref r] (PB G [(M, .inr (4, [.int (nI rf), .ref mt, .int (nI sz), .ref mn, .ref mtr, .ref md, .int (nI ac), .ref mk, .ref mik, .ref na, .ref so])), (r, .inl (G.2 0, 131, .inl (mr n (nI g) sk mm))), (na, .inl (G.2 0, 16, .inl nf)), (so, .inl (G.2 0, 16, .inl sf))])) (QW G (none) [(M, .inr (4, [.int (nI rf), .ref mt, .int (nI sz), .ref mn, .ref mtr, .ref md, .int (nI ac), .ref mk, .ref mik, .ref na, .ref so])), (r, .inl (G.2 0, 131, .inl (mr n (nI g) sk mm))), (na, .inl (G.2 0, 16, .inl (nmA sk (kdm mm) g 0 n nf))), (so, .inl (G.2 0, 16, .inl (soA sk (kdm mm) g 0 n sf)))] (vA [(M, .inr (4, [.int (nI rf), .ref mt, .int (nI sz), .ref mn, .ref mtr, .ref md, .int (nI ac), .ref mk, .ref mik, .ref na, .ref so])), (r, .inl (G.2 0, 131, .inl (mr n (nI g) sk mm))), (na, .inl (G.2 0, 16, .inl nf)), (so, .inl (G.2 0, 16, .inl sf))])) 0 0 (vA [(M, .inr (4, [.int (nI rf), .ref mt, .int (nI sz), .ref mn, .ref mtr, .ref md, .int (nI ac), .ref mk, .ref mik, .ref na, .ref so])), (r, .inl (G.2 0, 131, .inl (mr n (nI g) sk mm))), (na, .inl (G.2 0, 16, .inl nf)), (so, .inl (G.2 0, 16, .inl sf))]) := by
  refine Met.go (cc := cX7_name) (maxL := 5) (ret := none) (by decide) rfl (Nat.le_of_ble_eq_true rfl) ?_
  intro p e s m below meth c ls hx hb hr hml hown hts hlk hP hK hD hS hl
  have hown : s.vm.findClass RX7 = some m.cls := hown
  have hl : lv_has ls 5 [(0, .ref M), (1, .ref r)] := hl
  refine lv_aload_n hx hb dX7_name_0 rfl (lv_at hl 1 rfl) ?_
  refine lv_iconst (v := nI 1) hx hb dX7_name_1 (by decide) ?_
  refine nv_iald hx hb hK hP 1 rfl (by omega) (by decide) dX7_name_2 ?_
  rw [show (mr n (nI g) sk mm) 1 = nI g from mr_1]
  refine lv_istore_n (lv' := [(2, .int (nI g)), (0, .ref M), (1, .ref r)]) hx hb dX7_name_3 rfl hl (by decide) rfl (fun ls hl => ?_)
  refine lv_aload_n hx hb dX7_name_4 rfl (lv_at hl 1 rfl) ?_
  refine va_get (D := G.1) (ci := 4) (v := .ref so) (C := RX7) (T := TX7) (N := 11) hx hb hts in_c_X7_name_X7 hown hK.1 hP 0 rfl rfl 10 (by decide) (hts (.fieldLink RX7 32 "FloorPanelsModel" "storeys" "[I") (by decide +kernel)) (fun _ h9 => h9) rfl dX7_name_5 ?_
  refine lv_iload_n hx hb dX7_name_8 rfl (lv_at hl 0 rfl) ?_
  refine lv_iconst (v := nI 0) hx hb dX7_name_9 (by decide) ?_
  refine nv_iast hx hb hK hP hD hS 3 rfl (v := nI 0) rfl (by omega) (by decide) dX7_name_10 (w3 := [(M, .inr (4, [.int (nI rf), .ref mt, .int (nI sz), .ref mn, .ref mtr, .ref md, .int (nI ac), .ref mk, .ref mik, .ref na, .ref so])), (r, .inl (G.2 0, 131, .inl (mr n (nI g) sk mm))), (na, .inl (G.2 0, 16, .inl nf)), (so, .inl (G.2 0, 16, .inl (soA sk (kdm mm) g g (g + 1) sf)))]) (by rw [← soA_first]; rfl) (fun H locs hP hD hS => ?_)
  refine lv_aload_n hx hb dX7_name_11 rfl (lv_at hl 1 rfl) ?_
  refine va_get (D := G.1) (ci := 4) (v := .ref na) (C := RX7) (T := TX7) (N := 11) hx hb hts in_c_X7_name_X7 hown hK.1 hP 0 rfl rfl 9 (by decide) (hts (.fieldLink RX7 29 "FloorPanelsModel" "names" "[I") (by decide +kernel)) (fun _ h9 => h9) rfl dX7_name_12 ?_
  refine lv_iload_n hx hb dX7_name_15 rfl (lv_at hl 0 rfl) ?_
  refine lv_iconst (v := nI 0) hx hb dX7_name_16 (by decide) ?_
  refine nv_iast hx hb hK hP hD hS 2 rfl (v := nI 0) rfl (by omega) (by decide) dX7_name_17 (w3 := [(M, .inr (4, [.int (nI rf), .ref mt, .int (nI sz), .ref mn, .ref mtr, .ref md, .int (nI ac), .ref mk, .ref mik, .ref na, .ref so])), (r, .inl (G.2 0, 131, .inl (mr n (nI g) sk mm))), (na, .inl (G.2 0, 16, .inl (nmA sk (kdm mm) g g (g + 1) nf))), (so, .inl (G.2 0, 16, .inl (soA sk (kdm mm) g g (g + 1) sf)))]) (by rw [← nmA_first h_k]; rfl) (fun H locs hP hD hS => ?_)
  refine lv_iconst (v := nI 0) hx hb dX7_name_18 (by decide) ?_
  refine lv_istore_n (lv' := [(3, .int (nI 0)), (2, .int (nI g)), (0, .ref M), (1, .ref r)]) hx hb dX7_name_19 rfl hl (by decide) rfl (fun ls hl => ?_)
  refine lv_iload_n hx hb dX7_name_20 rfl (lv_at hl 1 rfl) ?_
  refine lv_iconst (v := nI 1) hx hb dX7_name_21 (by decide) ?_
  refine nv_iadd hx hb dX7_name_22 ?_
  refine lv_istore (lv' := [(4, .int (nI (g + 1))), (3, .int (nI 0)), (2, .int (nI g)), (0, .ref M), (1, .ref r)]) hx hb dX7_name_23 hl (by decide) rfl (fun ls hl => ?_)
  have loop_25 : ∀ (k_ : Nat) (i : Nat) (h_i : g < i) (h_i2 : i ≤ n) (_ : n - i < k_) (H : Heap) (locs : List Loc) (_ : VP G [(M, .inr (4, [.int (nI rf), .ref mt, .int (nI sz), .ref mn, .ref mtr, .ref md, .int (nI ac), .ref mk, .ref mik, .ref na, .ref so])), (r, .inl (G.2 0, 131, .inl (mr n (nI g) sk mm))), (na, .inl (G.2 0, 16, .inl (nmA sk (kdm mm) g g i nf))), (so, .inl (G.2 0, 16, .inl (soA sk (kdm mm) g g i sf)))] H) (_ : va_D (vA [(M, .inr (4, [.int (nI rf), .ref mt, .int (nI sz), .ref mn, .ref mtr, .ref md, .int (nI ac), .ref mk, .ref mik, .ref na, .ref so])), (r, .inl (G.2 0, 131, .inl (mr n (nI g) sk mm))), (na, .inl (G.2 0, 16, .inl nf)), (so, .inl (G.2 0, 16, .inl sf))]) [(M, .inr (4, [.int (nI rf), .ref mt, .int (nI sz), .ref mn, .ref mtr, .ref md, .int (nI ac), .ref mk, .ref mik, .ref na, .ref so])), (r, .inl (G.2 0, 131, .inl (mr n (nI g) sk mm))), (na, .inl (G.2 0, 16, .inl (nmA sk (kdm mm) g g i nf))), (so, .inl (G.2 0, 16, .inl (soA sk (kdm mm) g g i sf)))]) (_ : va_S (vA [(M, .inr (4, [.int (nI rf), .ref mt, .int (nI sz), .ref mn, .ref mtr, .ref md, .int (nI ac), .ref mk, .ref mik, .ref na, .ref so])), (r, .inl (G.2 0, 131, .inl (mr n (nI g) sk mm))), (na, .inl (G.2 0, 16, .inl nf)), (so, .inl (G.2 0, 16, .inl sf))]) s.heap H locs) (ls : Array Slot), lv_has ls 5 [(4, .int (nI i)), (3, .int (nI (up sk (kdm mm) g (i - 1 - g)))), (2, .int (nI g)), (0, .ref M), (1, .ref r)] → W p l e ({ frames := 2, cells := 0, slots := 0, locals := 50 } : Room) s m ([.ref M, .ref r] : List Value).toArray below meth c H locs 0 0 (MQ below (QW G (none) [(M, .inr (4, [.int (nI rf), .ref mt, .int (nI sz), .ref mn, .ref mtr, .ref md, .int (nI ac), .ref mk, .ref mik, .ref na, .ref so])), (r, .inl (G.2 0, 131, .inl (mr n (nI g) sk mm))), (na, .inl (G.2 0, 16, .inl (nmA sk (kdm mm) g 0 n nf))), (so, .inl (G.2 0, 16, .inl (soA sk (kdm mm) g 0 n sf)))] (vA [(M, .inr (4, [.int (nI rf), .ref mt, .int (nI sz), .ref mn, .ref mtr, .ref md, .int (nI ac), .ref mk, .ref mik, .ref na, .ref so])), (r, .inl (G.2 0, 131, .inl (mr n (nI g) sk mm))), (na, .inl (G.2 0, 16, .inl nf)), (so, .inl (G.2 0, 16, .inl sf))])) ([.ref M, .ref r] : List Value).toArray s 0 0 (vA [(M, .inr (4, [.int (nI rf), .ref mt, .int (nI sz), .ref mn, .ref mtr, .ref md, .int (nI ac), .ref mk, .ref mik, .ref na, .ref so])), (r, .inl (G.2 0, 131, .inl (mr n (nI g) sk mm))), (na, .inl (G.2 0, 16, .inl nf)), (so, .inl (G.2 0, 16, .inl sf))])) (F0 m 25 ls []) := by
    intro k_
    induction k_ with
    | zero => intro i h_i h_i2 hk_; exact absurd hk_ (Nat.not_lt_zero _)
    | succ k_ ih_25 =>
      intro i h_i h_i2 hk_ H locs hP hD hS ls hl
      refine lv_iload hx hb dX7_name_25 (lv_at hl 0 rfl) ?_
      refine lv_aload_n hx hb dX7_name_27 rfl (lv_at hl 4 rfl) ?_
      refine lv_iconst (v := nI 0) hx hb dX7_name_28 (by decide) ?_
      refine nv_iald hx hb hK hP 1 rfl (by omega) (by decide) dX7_name_29 ?_
      rw [show (mr n (nI g) sk mm) 0 = nI n from mr_0]
      refine bi_ge (tgt := 74) hx hb dX7_name_30 (by decide) (nI_i (by omega)) (nI_i (by omega)) (fun c_30 => ?_) (fun c_30 => ?_)
      ·
        rw [show i = n by omega] at hP hD
        have hP : VP G [(M, .inr (4, [.int (nI rf), .ref mt, .int (nI sz), .ref mn, .ref mtr, .ref md, .int (nI ac), .ref mk, .ref mik, .ref na, .ref so])), (r, .inl (G.2 0, 131, .inl (mr n (nI g) sk mm))), (na, .inl (G.2 0, 16, .inl (nmA sk (kdm mm) g g n nf))), (so, .inl (G.2 0, 16, .inl (soA sk (kdm mm) g g n sf)))] H := hP
        have hD : va_D _ [(M, .inr (4, [.int (nI rf), .ref mt, .int (nI sz), .ref mn, .ref mtr, .ref md, .int (nI ac), .ref mk, .ref mik, .ref na, .ref so])), (r, .inl (G.2 0, 131, .inl (mr n (nI g) sk mm))), (na, .inl (G.2 0, 16, .inl (nmA sk (kdm mm) g g n nf))), (so, .inl (G.2 0, 16, .inl (soA sk (kdm mm) g g n sf)))] := hD
        refine lv_iconst (v := nI 0) hx hb dX7_name_74 (by decide) ?_
        refine lv_istore_n (lv' := [(3, .int (nI 0)), (4, .int (nI i)), (2, .int (nI g)), (0, .ref M), (1, .ref r)]) hx hb dX7_name_75 rfl hl (by decide) rfl (fun ls hl => ?_)
        refine lv_iload_n hx hb dX7_name_76 rfl (lv_at hl 2 rfl) ?_
        refine lv_iconst (v := nI 1) hx hb dX7_name_77 (by decide) ?_
        refine lv_isub hx hb dX7_name_78 ?_
        rw [show (nI g) - (nI 1) = zI (((g : Nat) : Int) - 1) from nI_subZ g 1]
        refine lv_istore (lv' := [(4, .int (zI (((g : Nat) : Int) - 1))), (3, .int (nI 0)), (2, .int (nI g)), (0, .ref M), (1, .ref r)]) hx hb dX7_name_79 hl (by decide) rfl (fun ls hl => ?_)
        have loop_81 : ∀ (k_ : Nat) (a : Nat) (h_a : a ≤ g) (_ : a < k_) (H : Heap) (locs : List Loc) (_ : VP G [(M, .inr (4, [.int (nI rf), .ref mt, .int (nI sz), .ref mn, .ref mtr, .ref md, .int (nI ac), .ref mk, .ref mik, .ref na, .ref so])), (r, .inl (G.2 0, 131, .inl (mr n (nI g) sk mm))), (na, .inl (G.2 0, 16, .inl (nmA sk (kdm mm) g a n nf))), (so, .inl (G.2 0, 16, .inl (soA sk (kdm mm) g a n sf)))] H) (_ : va_D (vA [(M, .inr (4, [.int (nI rf), .ref mt, .int (nI sz), .ref mn, .ref mtr, .ref md, .int (nI ac), .ref mk, .ref mik, .ref na, .ref so])), (r, .inl (G.2 0, 131, .inl (mr n (nI g) sk mm))), (na, .inl (G.2 0, 16, .inl nf)), (so, .inl (G.2 0, 16, .inl sf))]) [(M, .inr (4, [.int (nI rf), .ref mt, .int (nI sz), .ref mn, .ref mtr, .ref md, .int (nI ac), .ref mk, .ref mik, .ref na, .ref so])), (r, .inl (G.2 0, 131, .inl (mr n (nI g) sk mm))), (na, .inl (G.2 0, 16, .inl (nmA sk (kdm mm) g a n nf))), (so, .inl (G.2 0, 16, .inl (soA sk (kdm mm) g a n sf)))]) (_ : va_S (vA [(M, .inr (4, [.int (nI rf), .ref mt, .int (nI sz), .ref mn, .ref mtr, .ref md, .int (nI ac), .ref mk, .ref mik, .ref na, .ref so])), (r, .inl (G.2 0, 131, .inl (mr n (nI g) sk mm))), (na, .inl (G.2 0, 16, .inl nf)), (so, .inl (G.2 0, 16, .inl sf))]) s.heap H locs) (ls : Array Slot), lv_has ls 5 [(4, .int (zI (((a : Nat) : Int) - 1))), (3, .int (zI (-(dn (kdm mm) g (g - a) : Int)))), (2, .int (nI g)), (0, .ref M), (1, .ref r)] → W p l e ({ frames := 2, cells := 0, slots := 0, locals := 50 } : Room) s m ([.ref M, .ref r] : List Value).toArray below meth c H locs 0 0 (MQ below (QW G (none) [(M, .inr (4, [.int (nI rf), .ref mt, .int (nI sz), .ref mn, .ref mtr, .ref md, .int (nI ac), .ref mk, .ref mik, .ref na, .ref so])), (r, .inl (G.2 0, 131, .inl (mr n (nI g) sk mm))), (na, .inl (G.2 0, 16, .inl (nmA sk (kdm mm) g 0 n nf))), (so, .inl (G.2 0, 16, .inl (soA sk (kdm mm) g 0 n sf)))] (vA [(M, .inr (4, [.int (nI rf), .ref mt, .int (nI sz), .ref mn, .ref mtr, .ref md, .int (nI ac), .ref mk, .ref mik, .ref na, .ref so])), (r, .inl (G.2 0, 131, .inl (mr n (nI g) sk mm))), (na, .inl (G.2 0, 16, .inl nf)), (so, .inl (G.2 0, 16, .inl sf))])) ([.ref M, .ref r] : List Value).toArray s 0 0 (vA [(M, .inr (4, [.int (nI rf), .ref mt, .int (nI sz), .ref mn, .ref mtr, .ref md, .int (nI ac), .ref mk, .ref mik, .ref na, .ref so])), (r, .inl (G.2 0, 131, .inl (mr n (nI g) sk mm))), (na, .inl (G.2 0, 16, .inl nf)), (so, .inl (G.2 0, 16, .inl sf))])) (F0 m 81 ls []) := by
          intro k_
          induction k_ with
          | zero => intro a h_a hk_; exact absurd hk_ (Nat.not_lt_zero _)
          | succ k_ ih_81 =>
            intro a h_a hk_ H locs hP hD hS ls hl
            refine lv_iload hx hb dX7_name_81 (lv_at hl 0 rfl) ?_
            refine b0_lt (tgt := 118) hx hb dX7_name_83 (by decide) (zI_toInt (by omega)) (fun c_83 => ?_) (fun c_83 => ?_)
            ·
              exact W_v hx hb hr hlk dX7_name_118 hP hS (by rw [show a = 0 by omega])
            ·
              rw [show zI (((a : Nat) : Int) - 1) = nI (a - 1) from zI_nat (by omega)] at hl
              refine lv_iload_n hx hb dX7_name_86 rfl (lv_at hl 1 rfl) ?_
              refine lv_aload_n hx hb dX7_name_87 rfl (lv_at hl 4 rfl) ?_
              refine lv_iconst (v := nI 3) hx hb dX7_name_88 (by decide) ?_
              refine lv_iload hx hb dX7_name_89 (lv_at hl 0 rfl) ?_
              refine nv_iadd hx hb dX7_name_91 ?_
              refine nv_iald hx hb hK hP 1 rfl (by omega) (by decide) dX7_name_92 ?_
              rw [show (mr n (nI g) sk mm) (3 + (a - 1)) = (mm (3 + (a - 1))) from (mr_j (by omega))]
              refine lv_if_ne (tgt := 100) hx hb dX7_name_93 (by decide) (fun c_93 => ?_) (fun c_93 => ?_)
              ·
                refine lv_iconst (v := nI 0) hx hb dX7_name_100 (by decide) ?_
                refine lv_isub hx hb dX7_name_101 ?_
                rw [show (zI (-(dn (kdm mm) g (g - a) : Int))) - (nI 0) = zI (-(dn (kdm mm) g (g - a) : Int)) from Int32.sub_zero _]
                refine lv_istore_n (lv' := [(3, .int (zI (-(dn (kdm mm) g (g - a) : Int)))), (4, .int (nI (a - 1))), (2, .int (nI g)), (0, .ref M), (1, .ref r)]) hx hb dX7_name_102 rfl hl (by decide) rfl (fun ls hl => ?_)
                refine lv_aload_n hx hb dX7_name_103 rfl (lv_at hl 3 rfl) ?_
                refine lv_aload_n hx hb dX7_name_104 rfl (lv_at hl 4 rfl) ?_
                refine lv_iload hx hb dX7_name_105 (lv_at hl 1 rfl) ?_
                refine lv_iconst (v := (-1)) hx hb dX7_name_107 (by decide) ?_
                refine lv_iload_n hx hb dX7_name_108 rfl (lv_at hl 0 rfl) ?_
                refine cWV (As := [.ref r, .int (nI (a - 1)), .int (-1), .int (zI (-(dn (kdm mm) g (g - a) : Int)))]) (rest := []) (st1 := []) (w3 := [(M, .inr (4, [.int (nI rf), .ref mt, .int (nI sz), .ref mn, .ref mtr, .ref md, .int (nI ac), .ref mk, .ref mik, .ref na, .ref so])), (r, .inl (G.2 0, 131, .inl (mr n (nI g) sk mm))), (na, .inl (G.2 0, 16, .inl (nmA sk (kdm mm) g (a - 1) n nf))), (so, .inl (G.2 0, 16, .inl (soA sk (kdm mm) g (a - 1) n sf)))]) ⟨hx, hb, hml, hown, hts⟩ (c_X7_nameLevel_dn l G M rf mt sz mn mtr md ac mk mik na so r n g sk mm (nmA sk (kdm mm) g a n nf) (soA sk (kdm mm) g a n sf) (a - 1) (-(dn (kdm mm) g (g - a) : Int)) (by first | omega | assumption) (by first | omega | assumption) (by first | omega | assumption) (by omega) (fun j a_ b_ => if_pos ⟨by omega, by omega⟩) (fun z_ => absurd z_ c_93)) (cwV 4 hts gX7_name_X7_nameLevel rfl rfl rfl (by decide +kernel) ⟨Nat.le_of_ble_eq_true rfl, Nat.le_of_ble_eq_true rfl⟩) (preV_of hK hP hD [0, 1, 2, 3] (by decide) rfl (ci := 4) (q0 := 0) rfl rfl rfl) rfl hl.1 rfl (lv_room (Nat.le_of_ble_eq_true rfl)) dX7_name_109 ⟨Nat.zero_le _, Nat.zero_le _⟩ hP hD hS [0, 1, 2, 3] (by decide) rfl rfl (by rw [← nmA_dn (by omega) (by omega), ← soA_dn (by omega) (by omega)]; rfl) rfl (fun H locs hP hD hS => ?_)
                rw [show nI (a - 1) = zI ((a - 1 : Nat) : Int) from (zI_n _).symm] at hl
                refine lv_iinc (v := zI (((a - 1 : Nat) : Int) - 1)) (lv' := [(4, .int (zI (((a - 1 : Nat) : Int) - 1))), (3, .int (zI (-(dn (kdm mm) g (g - a) : Int)))), (2, .int (nI g)), (0, .ref M), (1, .ref r)]) hx hb dX7_name_112 hl (k := 1) rfl (decZ _ _ _ rfl) (by decide) rfl (fun ls hl => ?_)
                refine lv_goto (tgt := 81) hx hb dX7_name_115 (by decide) ?_
                exact ih_81 (a - 1) (by first | omega | assumption) (by omega) _ _ hP hD hS ls (lv_sub hl [0, 1, 2, 3, 4] (by first | (rw [dn_an (by omega) h_a (by assumption)]; rfl) | (rw [dn_a0 (by omega) h_a (by assumption), Int.natCast_add, Int.neg_add]; rfl)))
              ·
                refine lv_iconst (v := nI 1) hx hb dX7_name_96 (by decide) ?_
                refine lv_goto (tgt := 101) hx hb dX7_name_97 (by decide) ?_
                refine lv_isub hx hb dX7_name_101 ?_
                rw [show (zI (-(dn (kdm mm) g (g - a) : Int))) - (nI 1) = zI (-(dn (kdm mm) g (g - a) : Int) - 1) from zI_sub1 _]
                refine lv_istore_n (lv' := [(3, .int (zI (-(dn (kdm mm) g (g - a) : Int) - 1))), (4, .int (nI (a - 1))), (2, .int (nI g)), (0, .ref M), (1, .ref r)]) hx hb dX7_name_102 rfl hl (by decide) rfl (fun ls hl => ?_)
                refine lv_aload_n hx hb dX7_name_103 rfl (lv_at hl 3 rfl) ?_
                refine lv_aload_n hx hb dX7_name_104 rfl (lv_at hl 4 rfl) ?_
                refine lv_iload hx hb dX7_name_105 (lv_at hl 1 rfl) ?_
                refine lv_iconst (v := (-1)) hx hb dX7_name_107 (by decide) ?_
                refine lv_iload_n hx hb dX7_name_108 rfl (lv_at hl 0 rfl) ?_
                refine cWV (As := [.ref r, .int (nI (a - 1)), .int (-1), .int (zI (-(dn (kdm mm) g (g - a) : Int) - 1))]) (rest := []) (st1 := []) (w3 := [(M, .inr (4, [.int (nI rf), .ref mt, .int (nI sz), .ref mn, .ref mtr, .ref md, .int (nI ac), .ref mk, .ref mik, .ref na, .ref so])), (r, .inl (G.2 0, 131, .inl (mr n (nI g) sk mm))), (na, .inl (G.2 0, 16, .inl (nmA sk (kdm mm) g (a - 1) n nf))), (so, .inl (G.2 0, 16, .inl (soA sk (kdm mm) g (a - 1) n sf)))]) ⟨hx, hb, hml, hown, hts⟩ (c_X7_nameLevel_dn l G M rf mt sz mn mtr md ac mk mik na so r n g sk mm (nmA sk (kdm mm) g a n nf) (soA sk (kdm mm) g a n sf) (a - 1) (-(dn (kdm mm) g (g - a) : Int) - 1) (by first | omega | assumption) (by first | omega | assumption) (by first | omega | assumption) (by omega) (fun j a_ b_ => if_pos ⟨by omega, by omega⟩) (fun _ => by rw [sto_dn (by omega), dn_a0 (by omega) h_a c_93]; omega)) (cwV 4 hts gX7_name_X7_nameLevel rfl rfl rfl (by decide +kernel) ⟨Nat.le_of_ble_eq_true rfl, Nat.le_of_ble_eq_true rfl⟩) (preV_of hK hP hD [0, 1, 2, 3] (by decide) rfl (ci := 4) (q0 := 0) rfl rfl rfl) rfl hl.1 rfl (lv_room (Nat.le_of_ble_eq_true rfl)) dX7_name_109 ⟨Nat.zero_le _, Nat.zero_le _⟩ hP hD hS [0, 1, 2, 3] (by decide) rfl rfl (by rw [← nmA_dn (by omega) (by omega), ← soA_dn (by omega) (by omega)]; rfl) rfl (fun H locs hP hD hS => ?_)
                rw [show nI (a - 1) = zI ((a - 1 : Nat) : Int) from (zI_n _).symm] at hl
                refine lv_iinc (v := zI (((a - 1 : Nat) : Int) - 1)) (lv' := [(4, .int (zI (((a - 1 : Nat) : Int) - 1))), (3, .int (zI (-(dn (kdm mm) g (g - a) : Int) - 1))), (2, .int (nI g)), (0, .ref M), (1, .ref r)]) hx hb dX7_name_112 hl (k := 1) rfl (decZ _ _ _ rfl) (by decide) rfl (fun ls hl => ?_)
                refine lv_goto (tgt := 81) hx hb dX7_name_115 (by decide) ?_
                exact ih_81 (a - 1) (by first | omega | assumption) (by omega) _ _ hP hD hS ls (lv_sub hl [0, 1, 2, 3, 4] (by first | (rw [dn_an (by omega) h_a (by assumption)]; rfl) | (rw [dn_a0 (by omega) h_a (by assumption), Int.natCast_add, Int.neg_add]; rfl)))
        exact loop_81 (g + 1) g (by first | omega | assumption) (Nat.lt_succ_self _) _ _ hP hD hS ls (lv_sub hl [0, 1, 2, 3, 4] (by rw [Nat.sub_self]; rfl))
      ·
        refine lv_aload_n hx hb dX7_name_33 rfl (lv_at hl 4 rfl) ?_
        refine lv_iconst (v := nI 3) hx hb dX7_name_34 (by decide) ?_
        refine lv_iload hx hb dX7_name_35 (lv_at hl 0 rfl) ?_
        refine nv_iadd hx hb dX7_name_37 ?_
        refine nv_iald hx hb hK hP 1 rfl (by omega) (by decide) dX7_name_38 ?_
        rw [show (mr n (nI g) sk mm) (3 + i) = (mm (3 + i)) from (mr_j (by omega))]
        refine lv_if_ne (tgt := 59) hx hb dX7_name_39 (by decide) (fun c_39 => ?_) (fun c_39 => ?_)
        ·
          have h_tu : up sk (kdm mm) g (i + 1 - 1 - g) = up sk (kdm mm) g (i - 1 - g) := up_other h_i c_39
          refine lv_aload_n hx hb dX7_name_59 rfl (lv_at hl 3 rfl) ?_
          refine lv_aload_n hx hb dX7_name_60 rfl (lv_at hl 4 rfl) ?_
          refine lv_iload hx hb dX7_name_61 (lv_at hl 0 rfl) ?_
          refine lv_iconst (v := nI 1) hx hb dX7_name_63 (by decide) ?_
          refine lv_iload_n hx hb dX7_name_64 rfl (lv_at hl 1 rfl) ?_
          refine cWV (As := [.ref r, .int (nI i), .int (nI 1), .int (nI (up sk (kdm mm) g (i - 1 - g)))]) (rest := []) (st1 := []) (w3 := [(M, .inr (4, [.int (nI rf), .ref mt, .int (nI sz), .ref mn, .ref mtr, .ref md, .int (nI ac), .ref mk, .ref mik, .ref na, .ref so])), (r, .inl (G.2 0, 131, .inl (mr n (nI g) sk mm))), (na, .inl (G.2 0, 16, .inl (nmA sk (kdm mm) g g (i + 1) nf))), (so, .inl (G.2 0, 16, .inl (soA sk (kdm mm) g g (i + 1) sf)))]) ⟨hx, hb, hml, hown, hts⟩ (c_X7_nameLevel_up l G M rf mt sz mn mtr md ac mk mik na so r n g sk mm (nmA sk (kdm mm) g g i nf) (soA sk (kdm mm) g g i sf) i (up sk (kdm mm) g (i - 1 - g)) (by first | omega | assumption) (by first | omega | assumption) (by first | omega | assumption) (by first | omega | assumption) (by first | omega | assumption) (fun j a_ b_ => if_pos ⟨a_, by omega⟩) (fun z_ => absurd z_ c_39)) (cwV 4 hts gX7_name_X7_nameLevel rfl rfl rfl (by decide +kernel) ⟨Nat.le_of_ble_eq_true rfl, Nat.le_of_ble_eq_true rfl⟩) (preV_of hK hP hD [0, 1, 2, 3] (by decide) rfl (ci := 4) (q0 := 0) rfl rfl rfl) rfl hl.1 rfl (lv_room (Nat.le_of_ble_eq_true rfl)) dX7_name_65 ⟨Nat.zero_le _, Nat.zero_le _⟩ hP hD hS [0, 1, 2, 3] (by decide) rfl rfl (by rw [← nmA_up (by omega), ← soA_up (by omega)]; rfl) rfl (fun H locs hP hD hS => ?_)
          refine lv_iinc (v := nI (i + 1)) (lv' := [(4, .int (nI (i + 1))), (3, .int (nI (up sk (kdm mm) g (i - 1 - g)))), (2, .int (nI g)), (0, .ref M), (1, .ref r)]) hx hb dX7_name_68 hl (k := 0) rfl (inc_n _ 1) (by decide) rfl (fun ls hl => ?_)
          refine lv_goto (tgt := 25) hx hb dX7_name_71 (by decide) ?_
          exact ih_25 (i + 1) (by first | omega | assumption) (by first | omega | assumption) (by omega) _ _ hP hD hS ls (lv_sub hl [0, 1, 2, 3, 4] (by rw [h_tu]; rfl))
        ·
          refine lv_iinc (v := nI (up sk (kdm mm) g (i - 1 - g) + 1)) (lv' := [(3, .int (nI (up sk (kdm mm) g (i - 1 - g) + 1))), (4, .int (nI i)), (2, .int (nI g)), (0, .ref M), (1, .ref r)]) hx hb dX7_name_42 hl (k := 1) rfl (inc_n _ 1) (by decide) rfl (fun ls hl => ?_)
          have loop_45 : ∀ (k_ : Nat) (t : Nat) (h_t : t ≤ 60) (h_t2 : nx sk (up sk (kdm mm) g (i - 1 - g) + 1) = nx sk t) (_ : 61 - t < k_) (H : Heap) (locs : List Loc) (_ : VP G [(M, .inr (4, [.int (nI rf), .ref mt, .int (nI sz), .ref mn, .ref mtr, .ref md, .int (nI ac), .ref mk, .ref mik, .ref na, .ref so])), (r, .inl (G.2 0, 131, .inl (mr n (nI g) sk mm))), (na, .inl (G.2 0, 16, .inl (nmA sk (kdm mm) g g i nf))), (so, .inl (G.2 0, 16, .inl (soA sk (kdm mm) g g i sf)))] H) (_ : va_D (vA [(M, .inr (4, [.int (nI rf), .ref mt, .int (nI sz), .ref mn, .ref mtr, .ref md, .int (nI ac), .ref mk, .ref mik, .ref na, .ref so])), (r, .inl (G.2 0, 131, .inl (mr n (nI g) sk mm))), (na, .inl (G.2 0, 16, .inl nf)), (so, .inl (G.2 0, 16, .inl sf))]) [(M, .inr (4, [.int (nI rf), .ref mt, .int (nI sz), .ref mn, .ref mtr, .ref md, .int (nI ac), .ref mk, .ref mik, .ref na, .ref so])), (r, .inl (G.2 0, 131, .inl (mr n (nI g) sk mm))), (na, .inl (G.2 0, 16, .inl (nmA sk (kdm mm) g g i nf))), (so, .inl (G.2 0, 16, .inl (soA sk (kdm mm) g g i sf)))]) (_ : va_S (vA [(M, .inr (4, [.int (nI rf), .ref mt, .int (nI sz), .ref mn, .ref mtr, .ref md, .int (nI ac), .ref mk, .ref mik, .ref na, .ref so])), (r, .inl (G.2 0, 131, .inl (mr n (nI g) sk mm))), (na, .inl (G.2 0, 16, .inl nf)), (so, .inl (G.2 0, 16, .inl sf))]) s.heap H locs) (ls : Array Slot), lv_has ls 5 [(3, .int (nI t)), (4, .int (nI i)), (2, .int (nI g)), (0, .ref M), (1, .ref r)] → W p l e ({ frames := 2, cells := 0, slots := 0, locals := 50 } : Room) s m ([.ref M, .ref r] : List Value).toArray below meth c H locs 0 0 (MQ below (QW G (none) [(M, .inr (4, [.int (nI rf), .ref mt, .int (nI sz), .ref mn, .ref mtr, .ref md, .int (nI ac), .ref mk, .ref mik, .ref na, .ref so])), (r, .inl (G.2 0, 131, .inl (mr n (nI g) sk mm))), (na, .inl (G.2 0, 16, .inl (nmA sk (kdm mm) g 0 n nf))), (so, .inl (G.2 0, 16, .inl (soA sk (kdm mm) g 0 n sf)))] (vA [(M, .inr (4, [.int (nI rf), .ref mt, .int (nI sz), .ref mn, .ref mtr, .ref md, .int (nI ac), .ref mk, .ref mik, .ref na, .ref so])), (r, .inl (G.2 0, 131, .inl (mr n (nI g) sk mm))), (na, .inl (G.2 0, 16, .inl nf)), (so, .inl (G.2 0, 16, .inl sf))])) ([.ref M, .ref r] : List Value).toArray s 0 0 (vA [(M, .inr (4, [.int (nI rf), .ref mt, .int (nI sz), .ref mn, .ref mtr, .ref md, .int (nI ac), .ref mk, .ref mik, .ref na, .ref so])), (r, .inl (G.2 0, 131, .inl (mr n (nI g) sk mm))), (na, .inl (G.2 0, 16, .inl nf)), (so, .inl (G.2 0, 16, .inl sf))])) (F0 m 45 ls []) := by
            intro k_
            induction k_ with
            | zero => intro t h_t h_t2 hk_; exact absurd hk_ (Nat.not_lt_zero _)
            | succ k_ ih_45 =>
              intro t h_t h_t2 hk_ H locs hP hD hS ls hl
              refine lv_aload_n hx hb dX7_name_45 rfl (lv_at hl 4 rfl) ?_
              refine lv_iload_n hx hb dX7_name_46 rfl (lv_at hl 0 rfl) ?_
              refine cRS (As := [.ref r, .int (nI t)]) (rest := []) (v := .int (zb (t ≤ 30 ∧ bt sk t = true))) ⟨hx, hb, hml, hown, hts⟩ (c_X7_skips l G r n g sk mm t (by first | omega | assumption)) (va_cwS 2 hts gX7_name_X7_skips rfl rfl rfl (by decide +kernel) ⟨Nat.le_of_ble_eq_true rfl, Nat.le_of_ble_eq_true rfl⟩) (preS_of hK hP hD [1] (by decide) rfl) rfl hl.1 rfl (lv_room (Nat.le_of_ble_eq_true rfl)) dX7_name_47 ⟨Nat.zero_le _, Nat.zero_le _⟩ ?_
              refine bb_eq (tgt := 59) hx hb dX7_name_50 (by decide) (fun c_50 => ?_) (fun c_50 => ?_)
              ·
                have h_tu : up sk (kdm mm) g (i + 1 - 1 - g) = t := (up_whole h_i c_39).trans (h_t2.trans (nx_e c_50))
                refine lv_aload_n hx hb dX7_name_59 rfl (lv_at hl 3 rfl) ?_
                refine lv_aload_n hx hb dX7_name_60 rfl (lv_at hl 4 rfl) ?_
                refine lv_iload hx hb dX7_name_61 (lv_at hl 1 rfl) ?_
                refine lv_iconst (v := nI 1) hx hb dX7_name_63 (by decide) ?_
                refine lv_iload_n hx hb dX7_name_64 rfl (lv_at hl 0 rfl) ?_
                refine cWV (As := [.ref r, .int (nI i), .int (nI 1), .int (nI t)]) (rest := []) (st1 := []) (w3 := [(M, .inr (4, [.int (nI rf), .ref mt, .int (nI sz), .ref mn, .ref mtr, .ref md, .int (nI ac), .ref mk, .ref mik, .ref na, .ref so])), (r, .inl (G.2 0, 131, .inl (mr n (nI g) sk mm))), (na, .inl (G.2 0, 16, .inl (nmA sk (kdm mm) g g (i + 1) nf))), (so, .inl (G.2 0, 16, .inl (soA sk (kdm mm) g g (i + 1) sf)))]) ⟨hx, hb, hml, hown, hts⟩ (c_X7_nameLevel_up l G M rf mt sz mn mtr md ac mk mik na so r n g sk mm (nmA sk (kdm mm) g g i nf) (soA sk (kdm mm) g g i sf) i t (by first | omega | assumption) (by first | omega | assumption) (by first | omega | assumption) (by first | omega | assumption) (by first | omega | assumption) (fun j a_ b_ => if_pos ⟨a_, by omega⟩) (fun _ => by rw [sto_upi h_i, h_tu])) (cwV 4 hts gX7_name_X7_nameLevel rfl rfl rfl (by decide +kernel) ⟨Nat.le_of_ble_eq_true rfl, Nat.le_of_ble_eq_true rfl⟩) (preV_of hK hP hD [0, 1, 2, 3] (by decide) rfl (ci := 4) (q0 := 0) rfl rfl rfl) rfl hl.1 rfl (lv_room (Nat.le_of_ble_eq_true rfl)) dX7_name_65 ⟨Nat.zero_le _, Nat.zero_le _⟩ hP hD hS [0, 1, 2, 3] (by decide) rfl rfl (by rw [← nmA_up (by omega), ← soA_up (by omega)]; rfl) rfl (fun H locs hP hD hS => ?_)
                refine lv_iinc (v := nI (i + 1)) (lv' := [(4, .int (nI (i + 1))), (3, .int (nI t)), (2, .int (nI g)), (0, .ref M), (1, .ref r)]) hx hb dX7_name_68 hl (k := 1) rfl (inc_n _ 1) (by decide) rfl (fun ls hl => ?_)
                refine lv_goto (tgt := 25) hx hb dX7_name_71 (by decide) ?_
                exact ih_25 (i + 1) (by first | omega | assumption) (by first | omega | assumption) (by omega) _ _ hP hD hS ls (lv_sub hl [0, 1, 2, 3, 4] (by rw [h_tu]; rfl))
              ·
                refine lv_iinc (v := nI (t + 1)) (lv' := [(3, .int (nI (t + 1))), (4, .int (nI i)), (2, .int (nI g)), (0, .ref M), (1, .ref r)]) hx hb dX7_name_53 hl (k := 0) rfl (inc_n _ 1) (by decide) rfl (fun ls hl => ?_)
                refine lv_goto (tgt := 45) hx hb dX7_name_56 (by decide) ?_
                exact ih_45 (t + 1) (by first | omega | assumption) (h_t2.trans (nx_s c_50.1 c_50.2)) (by omega) _ _ hP hD hS ls (lv_sub hl [0, 1, 2, 3, 4] (by rfl))
          exact loop_45 (61 - (up sk (kdm mm) g (i - 1 - g) + 1) + 1) (up sk (kdm mm) g (i - 1 - g) + 1) (by have := up_le sk (kdm mm) g (i - 1 - g); omega) rfl (Nat.lt_succ_self _) _ _ hP hD hS ls (lv_sub hl [0, 1, 2, 3, 4] (by rfl))
  exact loop_25 (n - (g + 1) + 1) (g + 1) (by first | omega | assumption) (by first | omega | assumption) (Nat.lt_succ_self _) _ _ hP hD hS ls (lv_sub hl [0, 1, 2, 3, 4] (by rw [show g + 1 - 1 - g = 0 by omega]; rfl))

