set_option maxHeartbeats 4000000 in
set_option maxRecDepth 100000 in
theorem c_X7_skips_r (l : Launch) (G : GG) (r : Nat) (n : Nat) (gI : Int32) (sk : Int32) (mm : Nat → Int32) (q : Nat) (h_q : q ≤ 100) : Met l yX7_skips wsX7_skips ({ frames := 0, cells := 0, slots := 0, locals := 0 } : Room) (va_Pc [.ref r, .int (nI q)] (PB G [(r, .inl (G.2 0, 131, .inl (mr n gI sk mm)))])) (QR (some (.int (zb (q ≤ 30 ∧ bt sk q = true))))) 0 0 (fun _ => False) := by
  refine Met.go (cc := cX7_skips) (maxL := 2) (ret := (some .boolean)) (by decide) rfl (Nat.le_of_ble_eq_true rfl) ?_
  intro p e s m below meth c ls hx hb hr hml hown hts hlk hP hK hD hS hl
  have hown : s.vm.findClass RX7 = some m.cls := hown
  have hl : lv_has ls 2 [(0, .ref r), (1, .int (nI q))] := hl
  refine lv_iload_n hx hb dX7_skips_0 rfl (lv_at hl 1 rfl) ?_
  refine lv_bipush (v := nI 30) hx hb dX7_skips_1 (by decide) ?_
  refine bi_gt (tgt := 21) hx hb dX7_skips_3 (by decide) (nI_i (by omega)) (nI_i (by omega)) (fun c_3 => ?_) (fun c_3 => ?_)
  ·
    refine lv_iconst (v := nI 0) hx hb dX7_skips_21 (by decide) ?_
    exact R_z hx hb hr hlk dX7_skips_22 ((zb_f (fun z_ => by omega)).symm) zb_nar
  ·
    refine lv_aload_n hx hb dX7_skips_6 rfl (lv_at hl 0 rfl) ?_
    refine lv_iconst (v := nI 2) hx hb dX7_skips_7 (by decide) ?_
    refine nv_iald hx hb hK hP 0 rfl (by omega) (by decide) dX7_skips_8 ?_
    rw [show (mr n gI sk mm) 2 = sk from mr_2]
    refine lv_iload_n hx hb dX7_skips_9 rfl (lv_at hl 1 rfl) ?_
    refine lv_ishr hx hb dX7_skips_10 ?_
    refine lv_iconst (v := nI 1) hx hb dX7_skips_11 (by decide) ?_
    refine lv_iand hx hb dX7_skips_12 ?_
    refine lv_iconst (v := nI 1) hx hb dX7_skips_13 (by decide) ?_
    refine lv_icmp_ne (tgt := 21) hx hb dX7_skips_14 (by decide) (fun c_14 => ?_) (fun c_14 => ?_)
    ·
      have c_14 : ¬ bt sk q = true := fun z_ => c_14 ((sk_s sk (by omega)).mpr z_)
      refine lv_iconst (v := nI 0) hx hb dX7_skips_21 (by decide) ?_
      exact R_z hx hb hr hlk dX7_skips_22 ((zb_f (fun z_ => c_14 z_.2)).symm) zb_nar
    ·
      have c_14 : bt sk q = true := (sk_s sk (by omega)).mp c_14
      refine lv_iconst (v := nI 1) hx hb dX7_skips_17 (by decide) ?_
      refine lv_goto (tgt := 22) hx hb dX7_skips_18 (by decide) ?_
      exact R_z hx hb hr hlk dX7_skips_22 ((zb_t ⟨by omega, c_14⟩).symm) zb_nar

set_option maxHeartbeats 4000000 in
set_option maxRecDepth 100000 in
theorem c_X7_skippedMany_r (l : Launch) (G : GG) (r : Nat) (n : Nat) (gI : Int32) (sk : Int32) (mm : Nat → Int32)  : Met l yX7_skippedMany wsX7_skippedMany ({ frames := 1, cells := 0, slots := 0, locals := 21 } : Room) (va_Pc [.ref r] (PB G [(r, .inl (G.2 0, 131, .inl (mr n gI sk mm)))])) (QR (some (.int (nI (ct (fun x_ => 1 ≤ x_ ∧ bt sk x_ = true) 31))))) 0 0 (fun _ => False) := by
  refine Met.go (cc := cX7_skippedMany) (maxL := 3) (ret := (some .int)) (by decide) rfl (Nat.le_of_ble_eq_true rfl) ?_
  intro p e s m below meth c ls hx hb hr hml hown hts hlk hP hK hD hS hl
  have hown : s.vm.findClass RX7 = some m.cls := hown
  have hl : lv_has ls 3 [(0, .ref r)] := hl
  refine lv_iconst (v := nI 0) hx hb dX7_skippedMany_0 (by decide) ?_
  refine lv_istore_n (lv' := [(1, .int (nI 0)), (0, .ref r)]) hx hb dX7_skippedMany_1 rfl hl (by decide) rfl (fun ls hl => ?_)
  refine lv_iconst (v := nI 1) hx hb dX7_skippedMany_2 (by decide) ?_
  refine lv_istore_n (lv' := [(2, .int (nI 1)), (1, .int (nI 0)), (0, .ref r)]) hx hb dX7_skippedMany_3 rfl hl (by decide) rfl (fun ls hl => ?_)
  have loop_4 : ∀ (k_ : Nat) (i : Nat) (h_i1 : 1 ≤ i) (h_i : i ≤ 31) (_ : 31 - i < k_) (ls : Array Slot), lv_has ls 3 [(2, .int (nI i)), (1, .int (nI (ct (fun x_ => 1 ≤ x_ ∧ bt sk x_ = true) i))), (0, .ref r)] → W p l e ({ frames := 1, cells := 0, slots := 0, locals := 21 } : Room) s m ([.ref r] : List Value).toArray below meth c s.heap [] 0 0 (MQ below (QR (some (.int (nI (ct (fun x_ => 1 ≤ x_ ∧ bt sk x_ = true) 31))))) ([.ref r] : List Value).toArray s 0 0 (fun _ => False)) (F0 m 4 ls []) := by
    intro k_
    induction k_ with
    | zero => intro i h_i1 h_i hk_; exact absurd hk_ (Nat.not_lt_zero _)
    | succ k_ ih_4 =>
      intro i h_i1 h_i hk_ ls hl
      refine lv_iload_n hx hb dX7_skippedMany_4 rfl (lv_at hl 0 rfl) ?_
      refine lv_bipush (v := nI 30) hx hb dX7_skippedMany_5 (by decide) ?_
      refine bi_gt (tgt := 32) hx hb dX7_skippedMany_7 (by decide) (nI_i (by omega)) (nI_i (by omega)) (fun c_7 => ?_) (fun c_7 => ?_)
      ·
        refine lv_iload_n hx hb dX7_skippedMany_32 rfl (lv_at hl 1 rfl) ?_
        exact R_i hx hb hr hlk dX7_skippedMany_33 (by rw [show i = 31 by omega])
      ·
        refine lv_iload_n hx hb dX7_skippedMany_10 rfl (lv_at hl 1 rfl) ?_
        refine lv_aload_n hx hb dX7_skippedMany_11 rfl (lv_at hl 2 rfl) ?_
        refine lv_iload_n hx hb dX7_skippedMany_12 rfl (lv_at hl 0 rfl) ?_
        refine cRS (As := [.ref r, .int (nI i)]) (rest := [.int (nI (ct (fun x_ => 1 ≤ x_ ∧ bt sk x_ = true) i))]) (v := .int (zb (i ≤ 30 ∧ bt sk i = true))) ⟨hx, hb, hml, hown, hts⟩ (c_X7_skips_r l G r n gI sk mm i (by first | omega | assumption)) (va_cwS 2 hts gX7_skippedMany_X7_skips rfl rfl rfl (by decide +kernel) ⟨Nat.le_of_ble_eq_true rfl, Nat.le_of_ble_eq_true rfl⟩) (preS_of hK hP hD [0] (by decide) rfl) rfl hl.1 rfl (lv_room (Nat.le_of_ble_eq_true rfl)) dX7_skippedMany_13 ⟨Nat.zero_le _, Nat.zero_le _⟩ ?_
        refine bb_eq (tgt := 23) hx hb dX7_skippedMany_16 (by decide) (fun c_16 => ?_) (fun c_16 => ?_)
        ·
          refine lv_iconst (v := nI 0) hx hb dX7_skippedMany_23 (by decide) ?_
          refine nv_iadd hx hb dX7_skippedMany_24 ?_
          refine lv_istore_n (lv' := [(1, .int (nI ((ct (fun x_ => 1 ≤ x_ ∧ bt sk x_ = true) i) + 0))), (2, .int (nI i)), (0, .ref r)]) hx hb dX7_skippedMany_25 rfl hl (by decide) rfl (fun ls hl => ?_)
          refine lv_iinc (v := nI (i + 1)) (lv' := [(2, .int (nI (i + 1))), (1, .int (nI ((ct (fun x_ => 1 ≤ x_ ∧ bt sk x_ = true) i) + 0))), (0, .ref r)]) hx hb dX7_skippedMany_26 hl (k := 1) rfl (inc_n _ 1) (by decide) rfl (fun ls hl => ?_)
          refine lv_goto (tgt := 4) hx hb dX7_skippedMany_29 (by decide) ?_
          exact ih_4 (i + 1) (by first | omega | assumption) (by first | omega | assumption) (by omega) ls (lv_sub hl [0, 1, 2] (by first | (rw [ct_t ⟨h_i1, (show i ≤ 30 ∧ bt sk i = true from by assumption).2⟩]; rfl) | (rw [ct_f (fun z_ => (show ¬ (i ≤ 30 ∧ bt sk i = true) from by assumption) ⟨by omega, z_.2⟩)]; rfl)))
        ·
          refine lv_iconst (v := nI 1) hx hb dX7_skippedMany_19 (by decide) ?_
          refine lv_goto (tgt := 24) hx hb dX7_skippedMany_20 (by decide) ?_
          refine nv_iadd hx hb dX7_skippedMany_24 ?_
          refine lv_istore_n (lv' := [(1, .int (nI ((ct (fun x_ => 1 ≤ x_ ∧ bt sk x_ = true) i) + 1))), (2, .int (nI i)), (0, .ref r)]) hx hb dX7_skippedMany_25 rfl hl (by decide) rfl (fun ls hl => ?_)
          refine lv_iinc (v := nI (i + 1)) (lv' := [(2, .int (nI (i + 1))), (1, .int (nI ((ct (fun x_ => 1 ≤ x_ ∧ bt sk x_ = true) i) + 1))), (0, .ref r)]) hx hb dX7_skippedMany_26 hl (k := 1) rfl (inc_n _ 1) (by decide) rfl (fun ls hl => ?_)
          refine lv_goto (tgt := 4) hx hb dX7_skippedMany_29 (by decide) ?_
          exact ih_4 (i + 1) (by first | omega | assumption) (by first | omega | assumption) (by omega) ls (lv_sub hl [0, 1, 2] (by first | (rw [ct_t ⟨h_i1, (show i ≤ 30 ∧ bt sk i = true from by assumption).2⟩]; rfl) | (rw [ct_f (fun z_ => (show ¬ (i ≤ 30 ∧ bt sk i = true) from by assumption) ⟨by omega, z_.2⟩)]; rfl)))
  exact loop_4 (31 - 1 + 1) 1 (by first | omega | assumption) (by first | omega | assumption) (Nat.lt_succ_self _)  ls (lv_sub hl [0, 1, 2] (by (rw [ct_f (fun z_ => absurd z_.1 (by omega))]; rfl)))

set_option maxHeartbeats 4000000 in
set_option maxRecDepth 100000 in
theorem c_X7_skipOn_r (l : Launch) (G : GG) (r : Nat) (n : Nat) (gI : Int32) (sk : Int32) (mm : Nat → Int32) (q : Nat) (is_ : Prop) (h_q : 1 ≤ q ∧ q ≤ 30) : Met l yX7_skipOn wsX7_skipOn ({ frames := 2, cells := 0, slots := 0, locals := 43 } : Room) (va_Pc [.ref r, .int (nI q), .int (zb is_)] (PB G [(r, .inl (G.2 0, 131, .inl (mr n gI sk mm)))])) (QW G (some (.int (nI (ct (fun x_ => 1 ≤ x_ ∧ bt (skp sk q is_) x_ = true) 31)))) [(r, .inl (G.2 0, 131, .inl (mr n gI (skp sk q is_) mm)))] (vA [(r, .inl (G.2 0, 131, .inl (mr n gI sk mm)))])) 0 0 (vA [(r, .inl (G.2 0, 131, .inl (mr n gI sk mm)))]) := by
  refine Met.go (cc := cX7_skipOn) (maxL := 3) (ret := (some .int)) (by decide) rfl (Nat.le_of_ble_eq_true rfl) ?_
  intro p e s m below meth c ls hx hb hr hml hown hts hlk hP hK hD hS hl
  have hown : s.vm.findClass RX7 = some m.cls := hown
  have hl : lv_has ls 3 [(0, .ref r), (1, .int (nI q)), (2, .int (zb is_))] := hl
  refine lv_aload_n hx hb dX7_skipOn_0 rfl (lv_at hl 0 rfl) ?_
  refine lv_iconst (v := nI 2) hx hb dX7_skipOn_1 (by decide) ?_
  refine lv_iload_n hx hb dX7_skipOn_2 rfl (lv_at hl 2 rfl) ?_
  refine bb_eq (tgt := 16) hx hb dX7_skipOn_3 (by decide) (fun c_3 => ?_) (fun c_3 => ?_)
  ·
    refine lv_aload_n hx hb dX7_skipOn_16 rfl (lv_at hl 0 rfl) ?_
    refine lv_iconst (v := nI 2) hx hb dX7_skipOn_17 (by decide) ?_
    refine nv_iald hx hb hK hP 0 rfl (by omega) (by decide) dX7_skipOn_18 ?_
    rw [show (mr n gI sk mm) 2 = sk from mr_2]
    refine lv_iconst (v := nI 1) hx hb dX7_skipOn_19 (by decide) ?_
    refine lv_iload_n hx hb dX7_skipOn_20 rfl (lv_at hl 1 rfl) ?_
    refine lv_ishl hx hb dX7_skipOn_21 ?_
    rw [show (nI 1) <<< ((nI q) &&& 31) = (bitv q) from rfl]
    refine lv_iconst (v := (-1)) hx hb dX7_skipOn_22 (by decide) ?_
    refine lv_ixor hx hb dX7_skipOn_23 ?_
    refine lv_iand hx hb dX7_skipOn_24 ?_
    rw [show sk &&& ((bitv q) ^^^ (-1)) = (skp sk q is_) from (skp_f c_3).symm]
    refine nv_iast hx hb hK hP hD hS 0 rfl (v := (skp sk q is_)) rfl (by omega) (by decide) dX7_skipOn_25 (w3 := [(r, .inl (G.2 0, 131, .inl (mr n gI (skp sk q is_) mm)))]) (by rw [mr_u2]; rfl) (fun H locs hP hD hS => ?_)
    refine lv_aload_n hx hb dX7_skipOn_26 rfl (lv_at hl 0 rfl) ?_
    refine cRS (As := [.ref r]) (rest := []) (v := .int (nI (ct (fun x_ => 1 ≤ x_ ∧ bt (skp sk q is_) x_ = true) 31))) ⟨hx, hb, hml, hown, hts⟩ (c_X7_skippedMany_r l G r n gI (skp sk q is_) mm ) (va_cwS 1 hts gX7_skipOn_X7_skippedMany rfl rfl rfl (by decide +kernel) ⟨Nat.le_of_ble_eq_true rfl, Nat.le_of_ble_eq_true rfl⟩) (preS_of hK hP hD [0] (by decide) rfl) rfl hl.1 rfl (lv_room (Nat.le_of_ble_eq_true rfl)) dX7_skipOn_27 ⟨Nat.zero_le _, Nat.zero_le _⟩ ?_
    exact W_i hx hb hr hlk dX7_skipOn_30 hP hS (rfl) (rfl)
  ·
    refine lv_aload_n hx hb dX7_skipOn_6 rfl (lv_at hl 0 rfl) ?_
    refine lv_iconst (v := nI 2) hx hb dX7_skipOn_7 (by decide) ?_
    refine nv_iald hx hb hK hP 0 rfl (by omega) (by decide) dX7_skipOn_8 ?_
    rw [show (mr n gI sk mm) 2 = sk from mr_2]
    refine lv_iconst (v := nI 1) hx hb dX7_skipOn_9 (by decide) ?_
    refine lv_iload_n hx hb dX7_skipOn_10 rfl (lv_at hl 1 rfl) ?_
    refine lv_ishl hx hb dX7_skipOn_11 ?_
    rw [show (nI 1) <<< ((nI q) &&& 31) = (bitv q) from rfl]
    refine lv_ior hx hb dX7_skipOn_12 ?_
    rw [show sk ||| (bitv q) = (skp sk q is_) from (skp_t c_3).symm]
    refine lv_goto (tgt := 25) hx hb dX7_skipOn_13 (by decide) ?_
    refine nv_iast hx hb hK hP hD hS 0 rfl (v := (skp sk q is_)) rfl (by omega) (by decide) dX7_skipOn_25 (w3 := [(r, .inl (G.2 0, 131, .inl (mr n gI (skp sk q is_) mm)))]) (by rw [mr_u2]; rfl) (fun H locs hP hD hS => ?_)
    refine lv_aload_n hx hb dX7_skipOn_26 rfl (lv_at hl 0 rfl) ?_
    refine cRS (As := [.ref r]) (rest := []) (v := .int (nI (ct (fun x_ => 1 ≤ x_ ∧ bt (skp sk q is_) x_ = true) 31))) ⟨hx, hb, hml, hown, hts⟩ (c_X7_skippedMany_r l G r n gI (skp sk q is_) mm ) (va_cwS 1 hts gX7_skipOn_X7_skippedMany rfl rfl rfl (by decide +kernel) ⟨Nat.le_of_ble_eq_true rfl, Nat.le_of_ble_eq_true rfl⟩) (preS_of hK hP hD [0] (by decide) rfl) rfl hl.1 rfl (lv_room (Nat.le_of_ble_eq_true rfl)) dX7_skipOn_27 ⟨Nat.zero_le _, Nat.zero_le _⟩ ?_
    exact W_i hx hb hr hlk dX7_skipOn_30 hP hS (rfl) (rfl)

