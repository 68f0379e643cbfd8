theorem in_c_X7_readText_X7 : ∀ w ∈ wsX70, w ∈ wsX7_readText := by decide +kernel
set_option maxHeartbeats 4000000 in
set_option maxRecDepth 100000 in
theorem c_X7_readText (l : Launch) (G : GG) (M : Nat) (rf : Nat) (mt : Nat) (sz : Nat) (mn : Nat) (mtr : Nat) (md : Nat) (ac : Nat) (mk : Nat) (mik : Nat) (na : Nat) (so : Nat) (cd : Nat → Nat) (r : Nat) (fr_ : Nat → Int32) (h_sz : sz ≤ 60) (h_cd : ∀ j_, cd j_ < 256) : Met l yX7_readText wsX7_readText ({ frames := 3, cells := 0, slots := 0, locals := 65 } : Room) (va_Pc [.ref M, .ref r] (PB G [(M, .inr (4, [.int (nI rf), .ref mt, .int (nI sz), .ref mn, .ref mtr, .ref md, .int (nI ac), .ref mk, .ref mik, .ref na, .ref so])), (mt, .inl (G.2 0, 60, .inl (cdI cd))), (r, .inl (G.2 0, 131, .inl fr_))])) (QW G (some (.int (mer cd sz))) [(M, .inr (4, [.int (nI rf), .ref mt, .int (nI sz), .ref mn, .ref mtr, .ref md, .int (nI ac), .ref mk, .ref mik, .ref na, .ref so])), (mt, .inl (G.2 0, 60, .inl (cdI cd))), (r, .inl (G.2 0, 131, .inl (mr (ltr cd sz) (rlg cd sz (ltr cd sz)) (mbt cd sz) (lvf cd (zr 131 fr_) (ltr cd sz)))))] (vA [(M, .inr (4, [.int (nI rf), .ref mt, .int (nI sz), .ref mn, .ref mtr, .ref md, .int (nI ac), .ref mk, .ref mik, .ref na, .ref so])), (mt, .inl (G.2 0, 60, .inl (cdI cd))), (r, .inl (G.2 0, 131, .inl fr_))])) 0 0 (vA [(M, .inr (4, [.int (nI rf), .ref mt, .int (nI sz), .ref mn, .ref mtr, .ref md, .int (nI ac), .ref mk, .ref mik, .ref na, .ref so])), (mt, .inl (G.2 0, 60, .inl (cdI cd))), (r, .inl (G.2 0, 131, .inl fr_))]) := by
  refine Met.go (cc := cX7_readText) (maxL := 5) (ret := (some .int)) (by decide) rfl (Nat.le_of_ble_eq_true rfl) ?_
  intro p e s m below meth c ls hx hb hr hml hown hts hlk hP hK hD hS hl
  have hown : s.vm.findClass RX7 = some m.cls := hown
  have hl : lv_has ls 5 [(0, .ref M), (1, .ref r)] := hl
  refine lv_aload_n hx hb dX7_readText_0 rfl (lv_at hl 1 rfl) ?_
  refine cWS (As := [.ref r]) (rest := []) (st1 := []) (w3 := [(M, .inr (4, [.int (nI rf), .ref mt, .int (nI sz), .ref mn, .ref mtr, .ref md, .int (nI ac), .ref mk, .ref mik, .ref na, .ref so])), (mt, .inl (G.2 0, 60, .inl (cdI cd))), (r, .inl (G.2 0, 131, .inl (mr 0 (nI 0) 0 (zr 131 fr_))))]) ⟨hx, hb, hml, hown, hts⟩ (c_X7_begin l G r fr_ ) (va_cwS 1 hts gX7_readText_X7_begin rfl rfl rfl (by decide +kernel) ⟨Nat.le_of_ble_eq_true rfl, Nat.le_of_ble_eq_true rfl⟩) (preS_of hK hP hD [2] (by decide) rfl) rfl hl.1 rfl (lv_room (Nat.le_of_ble_eq_true rfl)) dX7_readText_1 ⟨Nat.zero_le _, Nat.zero_le _⟩ hP hD hS [2] (by decide) rfl rfl (rfl) rfl (fun H locs hP hD hS => ?_)
  refine lv_aload_n hx hb dX7_readText_4 rfl (lv_at hl 1 rfl) ?_
  refine lv_iconst (v := nI 1) hx hb dX7_readText_5 (by decide) ?_
  refine lv_iconst (v := (-1)) hx hb dX7_readText_6 (by decide) ?_
  refine nv_iast hx hb hK hP hD hS 2 rfl (v := (-1)) rfl (by omega) (by decide) dX7_readText_7 (w3 := [(M, .inr (4, [.int (nI rf), .ref mt, .int (nI sz), .ref mn, .ref mtr, .ref md, .int (nI ac), .ref mk, .ref mik, .ref na, .ref so])), (mt, .inl (G.2 0, 60, .inl (cdI cd))), (r, .inl (G.2 0, 131, .inl (mr 0 (-1) 0 (zr 131 fr_))))]) (by rw [mr_u1]; rfl) (fun H locs hP hD hS => ?_)
  refine lv_aload_n hx hb dX7_readText_8 rfl (lv_at hl 0 rfl) ?_
  refine lv_aload_n hx hb dX7_readText_9 rfl (lv_at hl 1 rfl) ?_
  refine cWV (As := [.ref r]) (rest := []) (st1 := [.int (nI (ltr cd sz))]) (w3 := [(M, .inr (4, [.int (nI rf), .ref mt, .int (nI sz), .ref mn, .ref mtr, .ref md, .int (nI ac), .ref mk, .ref mik, .ref na, .ref so])), (mt, .inl (G.2 0, 60, .inl (cdI cd))), (r, .inl (G.2 0, 131, .inl (mr (ltr cd sz) (rlg cd sz (ltr cd sz)) 0 (lvf cd (zr 131 fr_) (ltr cd sz)))))]) ⟨hx, hb, hml, hown, hts⟩ (c_X7_readLevels l G M rf mt sz mn mtr md ac mk mik na so cd r 0 (zr 131 fr_) (by first | omega | assumption) (by first | omega | assumption)) (cwV 1 hts gX7_readText_X7_readLevels rfl rfl rfl (by decide +kernel) ⟨Nat.le_of_ble_eq_true rfl, Nat.le_of_ble_eq_true rfl⟩) (preV_of hK hP hD [0, 1, 2] (by decide) rfl (ci := 4) (q0 := 0) rfl rfl rfl) rfl hl.1 rfl (lv_room (Nat.le_of_ble_eq_true rfl)) dX7_readText_10 ⟨Nat.zero_le _, Nat.zero_le _⟩ hP hD hS [0, 1, 2] (by decide) rfl rfl (rfl) rfl (fun H locs hP hD hS => ?_)
  refine lv_istore_n (lv' := [(2, .int (nI (ltr cd sz))), (0, .ref M), (1, .ref r)]) hx hb dX7_readText_13 rfl hl (by decide) rfl (fun ls hl => ?_)
  have h_lt := ltr_le cd sz
  refine lv_aload_n hx hb dX7_readText_14 rfl (lv_at hl 2 rfl) ?_
  refine lv_iconst (v := nI 1) hx hb dX7_readText_15 (by decide) ?_
  refine nv_iald hx hb hK hP 2 rfl (by omega) (by decide) dX7_readText_16 ?_
  rw [show (mr (ltr cd sz) (rlg cd sz (ltr cd sz)) 0 (lvf cd (zr 131 fr_) (ltr cd sz))) 1 = (rlg cd sz (ltr cd sz)) from mr_1]
  refine lv_iconst (v := (-1)) hx hb dX7_readText_17 (by decide) ?_
  refine lv_icmp_ne (tgt := 23) hx hb dX7_readText_18 (by decide) (fun c_18 => ?_) (fun c_18 => ?_)
  ·
    refine lv_aload_n hx hb dX7_readText_23 rfl (lv_at hl 1 rfl) ?_
    refine lv_iload_n hx hb dX7_readText_24 rfl (lv_at hl 0 rfl) ?_
    refine cRV (As := [.int (nI (ltr cd sz))]) (rest := []) (v := .int (atv cd sz (ltr cd sz))) ⟨hx, hb, hml, hown, hts⟩ (c_X7_at l G M rf mt sz mn mtr md ac mk mik na so cd (ltr cd sz) (by first | omega | assumption) (by first | omega | assumption)) (cwV 1 hts gX7_readText_X7_at rfl rfl rfl (by decide +kernel) ⟨Nat.le_of_ble_eq_true rfl, Nat.le_of_ble_eq_true rfl⟩) (preV_of hK hP hD [0, 1] (by decide) rfl (ci := 4) (q0 := 0) rfl rfl rfl) rfl hl.1 rfl (lv_room (Nat.le_of_ble_eq_true rfl)) dX7_readText_25 ⟨Nat.zero_le _, Nat.zero_le _⟩ ?_
    refine lv_bipush (v := nI 47) hx hb dX7_readText_28 (by decide) ?_
    refine lv_icmp_eq (tgt := 47) hx hb dX7_readText_30 (by decide) (fun c_30 => ?_) (fun c_30 => ?_)
    ·
      refine lv_iconst (v := nI 0) hx hb dX7_readText_47 (by decide) ?_
      refine lv_istore_n (lv' := [(3, .int (nI 0)), (2, .int (nI (ltr cd sz))), (0, .ref M), (1, .ref r)]) hx hb dX7_readText_48 rfl hl (by decide) rfl (fun ls hl => ?_)
      have loop_49 : ∀ (k_ : Nat) (i : Nat) (b : Nat) (B : Int32) (h_i : i ≤ sz) (h_b : b ≤ 30) (h_E : atv cd sz i = nI 47 ∨ atv cd sz i = nI 44 → mR0 cd sz = steF cd sz (sz - (i + 1)) (i + 1) b 0 ∧ mFS cd sz = stS cd (sz - (i + 1)) (i + 1) b 0 B) (h_X : ¬ (atv cd sz i = nI 47 ∨ atv cd sz i = nI 44) → mR0 cd sz = (if i < sz then nI i else -1) ∧ mFS cd sz = B) (_ : sz - i < k_) (H : Heap) (locs : List Loc) (_ : VP G [(M, .inr (4, [.int (nI rf), .ref mt, .int (nI sz), .ref mn, .ref mtr, .ref md, .int (nI ac), .ref mk, .ref mik, .ref na, .ref so])), (mt, .inl (G.2 0, 60, .inl (cdI cd))), (r, .inl (G.2 0, 131, .inl (mr (ltr cd sz) (rlg cd sz (ltr cd sz)) B (lvf cd (zr 131 fr_) (ltr cd sz)))))] H) (_ : va_D (vA [(M, .inr (4, [.int (nI rf), .ref mt, .int (nI sz), .ref mn, .ref mtr, .ref md, .int (nI ac), .ref mk, .ref mik, .ref na, .ref so])), (mt, .inl (G.2 0, 60, .inl (cdI cd))), (r, .inl (G.2 0, 131, .inl fr_))]) [(M, .inr (4, [.int (nI rf), .ref mt, .int (nI sz), .ref mn, .ref mtr, .ref md, .int (nI ac), .ref mk, .ref mik, .ref na, .ref so])), (mt, .inl (G.2 0, 60, .inl (cdI cd))), (r, .inl (G.2 0, 131, .inl (mr (ltr cd sz) (rlg cd sz (ltr cd sz)) B (lvf cd (zr 131 fr_) (ltr cd sz)))))]) (_ : va_S (vA [(M, .inr (4, [.int (nI rf), .ref mt, .int (nI sz), .ref mn, .ref mtr, .ref md, .int (nI ac), .ref mk, .ref mik, .ref na, .ref so])), (mt, .inl (G.2 0, 60, .inl (cdI cd))), (r, .inl (G.2 0, 131, .inl fr_))]) s.heap H locs) (ls : Array Slot), lv_has ls 5 [(3, .int (nI b)), (2, .int (nI i)), (0, .ref M), (1, .ref r)] → W p l e ({ frames := 3, cells := 0, slots := 0, locals := 65 } : Room) s m ([.ref M, .ref r] : List Value).toArray below meth c H locs 0 0 (MQ below (QW G (some (.int (mer cd sz))) [(M, .inr (4, [.int (nI rf), .ref mt, .int (nI sz), .ref mn, .ref mtr, .ref md, .int (nI ac), .ref mk, .ref mik, .ref na, .ref so])), (mt, .inl (G.2 0, 60, .inl (cdI cd))), (r, .inl (G.2 0, 131, .inl (mr (ltr cd sz) (rlg cd sz (ltr cd sz)) (mbt cd sz) (lvf cd (zr 131 fr_) (ltr cd sz)))))] (vA [(M, .inr (4, [.int (nI rf), .ref mt, .int (nI sz), .ref mn, .ref mtr, .ref md, .int (nI ac), .ref mk, .ref mik, .ref na, .ref so])), (mt, .inl (G.2 0, 60, .inl (cdI cd))), (r, .inl (G.2 0, 131, .inl fr_))])) ([.ref M, .ref r] : List Value).toArray s 0 0 (vA [(M, .inr (4, [.int (nI rf), .ref mt, .int (nI sz), .ref mn, .ref mtr, .ref md, .int (nI ac), .ref mk, .ref mik, .ref na, .ref so])), (mt, .inl (G.2 0, 60, .inl (cdI cd))), (r, .inl (G.2 0, 131, .inl fr_))])) (F0 m 49 ls []) := by
        intro k_
        induction k_ with
        | zero => intro i b B h_i h_b h_E h_X hk_; exact absurd hk_ (Nat.not_lt_zero _)
        | succ k_ ih_49 =>
          intro i b B h_i h_b h_E h_X hk_ H locs hP hD hS ls hl
          refine lv_aload_n hx hb dX7_readText_49 rfl (lv_at hl 2 rfl) ?_
          refine lv_iload_n hx hb dX7_readText_50 rfl (lv_at hl 1 rfl) ?_
          refine cRV (As := [.int (nI i)]) (rest := []) (v := .int (atv cd sz i)) ⟨hx, hb, hml, hown, hts⟩ (c_X7_at l G M rf mt sz mn mtr md ac mk mik na so cd i (by first | omega | assumption) (by first | omega | assumption)) (cwV 1 hts gX7_readText_X7_at rfl rfl rfl (by decide +kernel) ⟨Nat.le_of_ble_eq_true rfl, Nat.le_of_ble_eq_true rfl⟩) (preV_of hK hP hD [0, 1] (by decide) rfl (ci := 4) (q0 := 0) rfl rfl rfl) rfl hl.1 rfl (lv_room (Nat.le_of_ble_eq_true rfl)) dX7_readText_51 ⟨Nat.zero_le _, Nat.zero_le _⟩ ?_
          refine lv_bipush (v := nI 47) hx hb dX7_readText_54 (by decide) ?_
          refine lv_icmp_eq (tgt := 69) hx hb dX7_readText_56 (by decide) (fun c_56 => ?_) (fun c_56 => ?_)
          ·
            have h_o : atv cd sz i = nI 47 ∨ atv cd sz i = nI 44 := by first | exact Or.inl (by assumption) | exact Or.inr (by assumption)
            have h_is := h_o.elim (fun z_ => (atv_lt (by decide) z_).1) (fun z_ => (atv_lt (by decide) z_).1)
            refine lv_iinc (v := nI (i + 1)) (lv' := [(2, .int (nI (i + 1))), (3, .int (nI b)), (0, .ref M), (1, .ref r)]) hx hb dX7_readText_69 hl (k := 1) rfl (inc_n _ 1) (by decide) rfl (fun ls hl => ?_)
            refine lv_iconst (v := nI 0) hx hb dX7_readText_72 (by decide) ?_
            refine lv_istore (lv' := [(4, .int (nI 0)), (2, .int (nI (i + 1))), (3, .int (nI b)), (0, .ref M), (1, .ref r)]) hx hb dX7_readText_73 hl (by decide) rfl (fun ls hl => ?_)
            have loop_75 : ∀ (k_ : Nat) (j : Nat) (v : Nat) (h_j : i + 1 ≤ j) (h_j2 : j ≤ sz) (h_v : v ≤ 30) (h_I : mR0 cd sz = steF cd sz (sz - j) j b v ∧ mFS cd sz = stS cd (sz - j) j b v B) (_ : sz - j < k_) (H : Heap) (locs : List Loc) (_ : VP G [(M, .inr (4, [.int (nI rf), .ref mt, .int (nI sz), .ref mn, .ref mtr, .ref md, .int (nI ac), .ref mk, .ref mik, .ref na, .ref so])), (mt, .inl (G.2 0, 60, .inl (cdI cd))), (r, .inl (G.2 0, 131, .inl (mr (ltr cd sz) (rlg cd sz (ltr cd sz)) B (lvf cd (zr 131 fr_) (ltr cd sz)))))] H) (_ : va_D (vA [(M, .inr (4, [.int (nI rf), .ref mt, .int (nI sz), .ref mn, .ref mtr, .ref md, .int (nI ac), .ref mk, .ref mik, .ref na, .ref so])), (mt, .inl (G.2 0, 60, .inl (cdI cd))), (r, .inl (G.2 0, 131, .inl fr_))]) [(M, .inr (4, [.int (nI rf), .ref mt, .int (nI sz), .ref mn, .ref mtr, .ref md, .int (nI ac), .ref mk, .ref mik, .ref na, .ref so])), (mt, .inl (G.2 0, 60, .inl (cdI cd))), (r, .inl (G.2 0, 131, .inl (mr (ltr cd sz) (rlg cd sz (ltr cd sz)) B (lvf cd (zr 131 fr_) (ltr cd sz)))))]) (_ : va_S (vA [(M, .inr (4, [.int (nI rf), .ref mt, .int (nI sz), .ref mn, .ref mtr, .ref md, .int (nI ac), .ref mk, .ref mik, .ref na, .ref so])), (mt, .inl (G.2 0, 60, .inl (cdI cd))), (r, .inl (G.2 0, 131, .inl fr_))]) s.heap H locs) (ls : Array Slot), lv_has ls 5 [(4, .int (nI v)), (2, .int (nI j)), (3, .int (nI b)), (0, .ref M), (1, .ref r)] → W p l e ({ frames := 3, cells := 0, slots := 0, locals := 65 } : Room) s m ([.ref M, .ref r] : List Value).toArray below meth c H locs 0 0 (MQ below (QW G (some (.int (mer cd sz))) [(M, .inr (4, [.int (nI rf), .ref mt, .int (nI sz), .ref mn, .ref mtr, .ref md, .int (nI ac), .ref mk, .ref mik, .ref na, .ref so])), (mt, .inl (G.2 0, 60, .inl (cdI cd))), (r, .inl (G.2 0, 131, .inl (mr (ltr cd sz) (rlg cd sz (ltr cd sz)) (mbt cd sz) (lvf cd (zr 131 fr_) (ltr cd sz)))))] (vA [(M, .inr (4, [.int (nI rf), .ref mt, .int (nI sz), .ref mn, .ref mtr, .ref md, .int (nI ac), .ref mk, .ref mik, .ref na, .ref so])), (mt, .inl (G.2 0, 60, .inl (cdI cd))), (r, .inl (G.2 0, 131, .inl fr_))])) ([.ref M, .ref r] : List Value).toArray s 0 0 (vA [(M, .inr (4, [.int (nI rf), .ref mt, .int (nI sz), .ref mn, .ref mtr, .ref md, .int (nI ac), .ref mk, .ref mik, .ref na, .ref so])), (mt, .inl (G.2 0, 60, .inl (cdI cd))), (r, .inl (G.2 0, 131, .inl fr_))])) (F0 m 75 ls []) := by
              intro k_
              induction k_ with
              | zero => intro j v h_j h_j2 h_v h_I hk_; exact absurd hk_ (Nat.not_lt_zero _)
              | succ k_ ih_75 =>
                intro j v h_j h_j2 h_v h_I hk_ H locs hP hD hS ls hl
                refine lv_aload_n hx hb dX7_readText_75 rfl (lv_at hl 3 rfl) ?_
                refine lv_iload_n hx hb dX7_readText_76 rfl (lv_at hl 1 rfl) ?_
                refine cRV (As := [.int (nI j)]) (rest := []) (v := .int (atv cd sz j)) ⟨hx, hb, hml, hown, hts⟩ (c_X7_at l G M rf mt sz mn mtr md ac mk mik na so cd j (by first | omega | assumption) (by first | omega | assumption)) (cwV 1 hts gX7_readText_X7_at rfl rfl rfl (by decide +kernel) ⟨Nat.le_of_ble_eq_true rfl, Nat.le_of_ble_eq_true rfl⟩) (preV_of hK hP hD [0, 1] (by decide) rfl (ci := 4) (q0 := 0) rfl rfl rfl) rfl hl.1 rfl (lv_room (Nat.le_of_ble_eq_true rfl)) dX7_readText_77 ⟨Nat.zero_le _, Nat.zero_le _⟩ ?_
                refine lv_i2l (v := ((atv cd sz j)).toInt64) hx hb dX7_readText_80 rfl ?_
                refine lv_iload hx hb dX7_readText_81 (lv_at hl 0 rfl) ?_
                refine b0_ne (tgt := 92) hx hb dX7_readText_83 (by decide) (nI_i (by omega)) (fun c_83 => ?_) (fun c_83 => ?_)
                ·
                  refine lv_ldc2 (own := RX7) (v := 48) hx hb hown (hts (.constantLong RX7 121 (48)) (by decide +kernel)) dX7_readText_92 ?_
                  refine lv_ldc2 (own := RX7) (v := 57) hx hb hown (hts (.constantLong RX7 123 (57)) (by decide +kernel)) dX7_readText_95 ?_
                  refine cRS (As := [.long (((atv cd sz j)).toInt64), .long (48 : Int64), .long (57 : Int64)]) (rest := []) (v := .int (zb ((48 : Int64).toInt ≤ (((atv cd sz j)).toInt64).toInt ∧ (((atv cd sz j)).toInt64).toInt ≤ (57 : Int64).toInt))) ⟨hx, hb, hml, hown, hts⟩ (c_X7_in l G (((atv cd sz j)).toInt64) (48 : Int64) (57 : Int64) ) (va_cwS 3 hts gX7_readText_X7_in rfl rfl rfl (by decide +kernel) ⟨Nat.le_of_ble_eq_true rfl, Nat.le_of_ble_eq_true rfl⟩) (preS_of hK hP hD [] (by decide) rfl) rfl hl.1 rfl (lv_room (Nat.le_of_ble_eq_true rfl)) dX7_readText_98 ⟨Nat.zero_le _, Nat.zero_le _⟩ ?_
                  refine bb_eq (tgt := 145) hx hb dX7_readText_101 (by decide) (fun c_101 => ?_) (fun c_101 => ?_)
                  ·
                    have h_nd : j < sz → ¬ (48 ≤ cd j ∧ cd j ≤ 57 ∧ 1 ≤ 10 * v + cd j - 48 ∧ 10 * v + cd j - 48 ≤ 30) := by intro z_ w_; first | omega | exact dg_n (lo := (48 : Int64)) (h_cd j) c_101 z_ ⟨(by show (48 : Int) ≤ (cd j : Int); omega), w_.2.1⟩ | exact dg_n (lo := (49 : Int64)) (h_cd j) c_101 z_ ⟨(by show (49 : Int) ≤ (cd j : Int); omega), w_.2.1⟩
                    refine lv_iload hx hb dX7_readText_145 (lv_at hl 0 rfl) ?_
                    refine lv_iload_n hx hb dX7_readText_147 rfl (lv_at hl 2 rfl) ?_
                    refine bi_gt (tgt := 153) hx hb dX7_readText_148 (by decide) (nI_i (by omega)) (nI_i (by omega)) (fun c_148 => ?_) (fun c_148 => ?_)
                    ·
                      have h_2 := st_x2 h_j2 (h_cd j) h_I h_nd (by omega)
                      refine lv_aload_n hx hb dX7_readText_153 rfl (lv_at hl 4 rfl) ?_
                      refine lv_iload hx hb dX7_readText_154 (lv_at hl 0 rfl) ?_
                      refine lv_iconst (v := zb True) hx hb dX7_readText_156 (zb_t trivial).symm ?_
                      refine cWS (As := [.ref r, .int (nI v), .int (zb True)]) (rest := []) (st1 := [.int (nI (ct (fun x_ => 1 ≤ x_ ∧ bt (skp B v True) x_ = true) 31))]) (w3 := [(M, .inr (4, [.int (nI rf), .ref mt, .int (nI sz), .ref mn, .ref mtr, .ref md, .int (nI ac), .ref mk, .ref mik, .ref na, .ref so])), (mt, .inl (G.2 0, 60, .inl (cdI cd))), (r, .inl (G.2 0, 131, .inl (mr (ltr cd sz) (rlg cd sz (ltr cd sz)) (skp B v True) (lvf cd (zr 131 fr_) (ltr cd sz)))))]) ⟨hx, hb, hml, hown, hts⟩ (c_X7_skipOn_r l G r (ltr cd sz) (rlg cd sz (ltr cd sz)) B (lvf cd (zr 131 fr_) (ltr cd sz)) v True (by first | omega | assumption)) (va_cwS 3 hts gX7_readText_X7_skipOn rfl rfl rfl (by decide +kernel) ⟨Nat.le_of_ble_eq_true rfl, Nat.le_of_ble_eq_true rfl⟩) (preS_of hK hP hD [2] (by decide) rfl) rfl hl.1 rfl (lv_room (Nat.le_of_ble_eq_true rfl)) dX7_readText_157 ⟨Nat.zero_le _, Nat.zero_le _⟩ hP hD hS [2] (by decide) rfl rfl (rfl) rfl (fun H locs hP hD hS => ?_)
                      refine lv_pop hx hb dX7_readText_160 rfl ?_
                      refine lv_iload hx hb dX7_readText_161 (lv_at hl 0 rfl) ?_
                      refine lv_istore_n (lv' := [(3, .int (nI v)), (4, .int (nI v)), (2, .int (nI j)), (0, .ref M), (1, .ref r)]) hx hb dX7_readText_163 rfl hl (by decide) rfl (fun ls hl => ?_)
                      refine lv_aload_n hx hb dX7_readText_164 rfl (lv_at hl 3 rfl) ?_
                      refine lv_iload_n hx hb dX7_readText_165 rfl (lv_at hl 2 rfl) ?_
                      refine cRV (As := [.int (nI j)]) (rest := []) (v := .int (atv cd sz j)) ⟨hx, hb, hml, hown, hts⟩ (c_X7_at l G M rf mt sz mn mtr md ac mk mik na so cd j (by first | omega | assumption) (by first | omega | assumption)) (cwV 1 hts gX7_readText_X7_at rfl rfl rfl (by decide +kernel) ⟨Nat.le_of_ble_eq_true rfl, Nat.le_of_ble_eq_true rfl⟩) (preV_of hK hP hD [0, 1] (by decide) rfl (ci := 4) (q0 := 0) rfl rfl rfl) rfl hl.1 rfl (lv_room (Nat.le_of_ble_eq_true rfl)) dX7_readText_166 ⟨Nat.zero_le _, Nat.zero_le _⟩ ?_
                      refine lv_bipush (v := nI 47) hx hb dX7_readText_169 (by decide) ?_
                      refine lv_icmp_ne (tgt := 176) hx hb dX7_readText_171 (by decide) (fun c_171 => ?_) (fun c_171 => ?_)
                      ·
                        refine lv_goto (tgt := 49) hx hb dX7_readText_176 (by decide) ?_
                        exact ih_49 j v (skp B v True) (by first | omega | assumption) (by first | omega | assumption) (fun z_ => h_2.1 (z_.resolve_left c_171)) (fun z_ => h_2.2 (fun y_ => z_ (Or.inr y_))) (by omega) _ _ hP hD hS ls (lv_sub hl [0, 2, 3, 4] (by rfl))
                      ·
                        have h_3 := h_2.2 (fun y_ => absurd (c_171.symm.trans y_) (by decide))
                        have h_4 := (atv_lt (by decide) c_171).1
                        refine lv_iload_n hx hb dX7_readText_174 rfl (lv_at hl 2 rfl) ?_
                        exact W_i hx hb hr hlk dX7_readText_175 hP hS (by rw [(mer_3 c_18 c_30).1, h_3.1, if_pos h_4]) (by rw [(mer_3 c_18 c_30).2, h_3.2])
                    ·
                      have h_1 := st_x1 h_j2 h_I h_nd (by omega)
                      refine lv_iload_n hx hb dX7_readText_151 rfl (lv_at hl 1 rfl) ?_
                      exact W_i hx hb hr hlk dX7_readText_152 hP hS (by rw [(mer_3 c_18 c_30).1, h_1.1]) (by rw [(mer_3 c_18 c_30).2, h_1.2])
                  ·
                    have h_y := dg_y (h_cd j) (by decide) c_101
                    have h_q : ((48 : Int64)).toInt = 48 := rfl
                    have h_q9 : ((49 : Int64)).toInt = 49 := rfl
                    have h_c := h_cd j
                    refine lv_bipush (v := nI 10) hx hb dX7_readText_104 (by decide) ?_
                    refine lv_iload hx hb dX7_readText_106 (lv_at hl 0 rfl) ?_
                    refine nv_imul hx hb dX7_readText_108 ?_
                    refine lv_aload_n hx hb dX7_readText_109 rfl (lv_at hl 3 rfl) ?_
                    refine lv_iload_n hx hb dX7_readText_110 rfl (lv_at hl 1 rfl) ?_
                    refine cRV (As := [.int (nI j)]) (rest := [.int (nI (10 * v))]) (v := .int (atv cd sz j)) ⟨hx, hb, hml, hown, hts⟩ (c_X7_at l G M rf mt sz mn mtr md ac mk mik na so cd j (by first | omega | assumption) (by first | omega | assumption)) (cwV 1 hts gX7_readText_X7_at rfl rfl rfl (by decide +kernel) ⟨Nat.le_of_ble_eq_true rfl, Nat.le_of_ble_eq_true rfl⟩) (preV_of hK hP hD [0, 1] (by decide) rfl (ci := 4) (q0 := 0) rfl rfl rfl) rfl hl.1 rfl (lv_room (Nat.le_of_ble_eq_true rfl)) dX7_readText_111 ⟨Nat.zero_le _, Nat.zero_le _⟩ ?_
                    rw [show ((atv cd sz j)) = nI (cd j) from h_y.2.1]
                    refine nv_iadd hx hb dX7_readText_114 ?_
                    refine lv_bipush (v := nI 48) hx hb dX7_readText_115 (by decide) ?_
                    refine nv_isub hx hb (by omega) dX7_readText_117 ?_
                    refine lv_bipush (v := nI 30) hx hb dX7_readText_118 (by decide) ?_
                    refine bi_gt (tgt := 145) hx hb dX7_readText_120 (by decide) (nI_i (by omega)) (nI_i (by omega)) (fun c_120 => ?_) (fun c_120 => ?_)
                    ·
                      have h_nd : j < sz → ¬ (48 ≤ cd j ∧ cd j ≤ 57 ∧ 1 ≤ 10 * v + cd j - 48 ∧ 10 * v + cd j - 48 ≤ 30) := by intro z_ w_; first | omega | exact dg_n (lo := (48 : Int64)) (h_cd j) c_101 z_ ⟨(by show (48 : Int) ≤ (cd j : Int); omega), w_.2.1⟩ | exact dg_n (lo := (49 : Int64)) (h_cd j) c_101 z_ ⟨(by show (49 : Int) ≤ (cd j : Int); omega), w_.2.1⟩
                      refine lv_iload hx hb dX7_readText_145 (lv_at hl 0 rfl) ?_
                      refine lv_iload_n hx hb dX7_readText_147 rfl (lv_at hl 2 rfl) ?_
                      refine bi_gt (tgt := 153) hx hb dX7_readText_148 (by decide) (nI_i (by omega)) (nI_i (by omega)) (fun c_148 => ?_) (fun c_148 => ?_)
                      ·
                        have h_2 := st_x2 h_j2 (h_cd j) h_I h_nd (by omega)
                        refine lv_aload_n hx hb dX7_readText_153 rfl (lv_at hl 4 rfl) ?_
                        refine lv_iload hx hb dX7_readText_154 (lv_at hl 0 rfl) ?_
                        refine lv_iconst (v := zb True) hx hb dX7_readText_156 (zb_t trivial).symm ?_
                        refine cWS (As := [.ref r, .int (nI v), .int (zb True)]) (rest := []) (st1 := [.int (nI (ct (fun x_ => 1 ≤ x_ ∧ bt (skp B v True) x_ = true) 31))]) (w3 := [(M, .inr (4, [.int (nI rf), .ref mt, .int (nI sz), .ref mn, .ref mtr, .ref md, .int (nI ac), .ref mk, .ref mik, .ref na, .ref so])), (mt, .inl (G.2 0, 60, .inl (cdI cd))), (r, .inl (G.2 0, 131, .inl (mr (ltr cd sz) (rlg cd sz (ltr cd sz)) (skp B v True) (lvf cd (zr 131 fr_) (ltr cd sz)))))]) ⟨hx, hb, hml, hown, hts⟩ (c_X7_skipOn_r l G r (ltr cd sz) (rlg cd sz (ltr cd sz)) B (lvf cd (zr 131 fr_) (ltr cd sz)) v True (by first | omega | assumption)) (va_cwS 3 hts gX7_readText_X7_skipOn rfl rfl rfl (by decide +kernel) ⟨Nat.le_of_ble_eq_true rfl, Nat.le_of_ble_eq_true rfl⟩) (preS_of hK hP hD [2] (by decide) rfl) rfl hl.1 rfl (lv_room (Nat.le_of_ble_eq_true rfl)) dX7_readText_157 ⟨Nat.zero_le _, Nat.zero_le _⟩ hP hD hS [2] (by decide) rfl rfl (rfl) rfl (fun H locs hP hD hS => ?_)
                        refine lv_pop hx hb dX7_readText_160 rfl ?_
                        refine lv_iload hx hb dX7_readText_161 (lv_at hl 0 rfl) ?_
                        refine lv_istore_n (lv' := [(3, .int (nI v)), (4, .int (nI v)), (2, .int (nI j)), (0, .ref M), (1, .ref r)]) hx hb dX7_readText_163 rfl hl (by decide) rfl (fun ls hl => ?_)
                        refine lv_aload_n hx hb dX7_readText_164 rfl (lv_at hl 3 rfl) ?_
                        refine lv_iload_n hx hb dX7_readText_165 rfl (lv_at hl 2 rfl) ?_
                        refine cRV (As := [.int (nI j)]) (rest := []) (v := .int (atv cd sz j)) ⟨hx, hb, hml, hown, hts⟩ (c_X7_at l G M rf mt sz mn mtr md ac mk mik na so cd j (by first | omega | assumption) (by first | omega | assumption)) (cwV 1 hts gX7_readText_X7_at rfl rfl rfl (by decide +kernel) ⟨Nat.le_of_ble_eq_true rfl, Nat.le_of_ble_eq_true rfl⟩) (preV_of hK hP hD [0, 1] (by decide) rfl (ci := 4) (q0 := 0) rfl rfl rfl) rfl hl.1 rfl (lv_room (Nat.le_of_ble_eq_true rfl)) dX7_readText_166 ⟨Nat.zero_le _, Nat.zero_le _⟩ ?_
                        refine lv_bipush (v := nI 47) hx hb dX7_readText_169 (by decide) ?_
                        refine lv_icmp_ne (tgt := 176) hx hb dX7_readText_171 (by decide) (fun c_171 => ?_) (fun c_171 => ?_)
                        ·
                          refine lv_goto (tgt := 49) hx hb dX7_readText_176 (by decide) ?_
                          exact ih_49 j v (skp B v True) (by first | omega | assumption) (by first | omega | assumption) (fun z_ => h_2.1 (z_.resolve_left c_171)) (fun z_ => h_2.2 (fun y_ => z_ (Or.inr y_))) (by omega) _ _ hP hD hS ls (lv_sub hl [0, 2, 3, 4] (by rfl))
                        ·
                          have h_3 := h_2.2 (fun y_ => absurd (c_171.symm.trans y_) (by decide))
                          have h_4 := (atv_lt (by decide) c_171).1
                          refine lv_iload_n hx hb dX7_readText_174 rfl (lv_at hl 2 rfl) ?_
                          exact W_i hx hb hr hlk dX7_readText_175 hP hS (by rw [(mer_3 c_18 c_30).1, h_3.1, if_pos h_4]) (by rw [(mer_3 c_18 c_30).2, h_3.2])
                      ·
                        have h_1 := st_x1 h_j2 h_I h_nd (by omega)
                        refine lv_iload_n hx hb dX7_readText_151 rfl (lv_at hl 1 rfl) ?_
                        exact W_i hx hb hr hlk dX7_readText_152 hP hS (by rw [(mer_3 c_18 c_30).1, h_1.1]) (by rw [(mer_3 c_18 c_30).2, h_1.2])
                    ·
                      refine lv_bipush (v := nI 10) hx hb dX7_readText_123 (by decide) ?_
                      refine lv_iload hx hb dX7_readText_125 (lv_at hl 0 rfl) ?_
                      refine nv_imul hx hb dX7_readText_127 ?_
                      refine lv_aload_n hx hb dX7_readText_128 rfl (lv_at hl 3 rfl) ?_
                      refine lv_iload_n hx hb dX7_readText_129 rfl (lv_at hl 1 rfl) ?_
                      refine cRV (As := [.int (nI j)]) (rest := [.int (nI (10 * v))]) (v := .int (atv cd sz j)) ⟨hx, hb, hml, hown, hts⟩ (c_X7_at l G M rf mt sz mn mtr md ac mk mik na so cd j (by first | omega | assumption) (by first | omega | assumption)) (cwV 1 hts gX7_readText_X7_at rfl rfl rfl (by decide +kernel) ⟨Nat.le_of_ble_eq_true rfl, Nat.le_of_ble_eq_true rfl⟩) (preV_of hK hP hD [0, 1] (by decide) rfl (ci := 4) (q0 := 0) rfl rfl rfl) rfl hl.1 rfl (lv_room (Nat.le_of_ble_eq_true rfl)) dX7_readText_130 ⟨Nat.zero_le _, Nat.zero_le _⟩ ?_
                      rw [show ((atv cd sz j)) = nI (cd j) from h_y.2.1]
                      refine nv_iadd hx hb dX7_readText_133 ?_
                      refine lv_bipush (v := nI 48) hx hb dX7_readText_134 (by decide) ?_
                      refine nv_isub hx hb (by omega) dX7_readText_136 ?_
                      refine lv_istore (lv' := [(4, .int (nI (((10 * v) + (cd j)) - 48))), (2, .int (nI j)), (3, .int (nI b)), (0, .ref M), (1, .ref r)]) hx hb dX7_readText_137 hl (by decide) rfl (fun ls hl => ?_)
                      refine lv_iinc (v := nI (j + 1)) (lv' := [(2, .int (nI (j + 1))), (4, .int (nI (((10 * v) + (cd j)) - 48))), (3, .int (nI b)), (0, .ref M), (1, .ref r)]) hx hb dX7_readText_139 hl (k := 1) rfl (inc_n _ 1) (by decide) rfl (fun ls hl => ?_)
                      refine lv_goto (tgt := 75) hx hb dX7_readText_142 (by decide) ?_
                      exact ih_75 (j + 1) (((10 * v) + (cd j)) - 48) (by first | omega | assumption) (by first | omega | assumption) (by first | omega | assumption) (by obtain ⟨y1_, y2_⟩ := h_I; rw [show sz - j = sz - (j + 1) + 1 by omega] at y1_ y2_; exact ⟨y1_.trans (steF_d (by omega) ⟨by omega, by omega, by omega, by omega⟩), y2_.trans (stS_d (by omega) ⟨by omega, by omega, by omega, by omega⟩)⟩) (by omega) _ _ hP hD hS ls (lv_sub hl [1, 0, 2, 3, 4] (by rfl))
                ·
                  refine lv_ldc2 (own := RX7) (v := 49) hx hb hown (hts (.constantLong RX7 119 (49)) (by decide +kernel)) dX7_readText_86 ?_
                  refine lv_goto (tgt := 95) hx hb dX7_readText_89 (by decide) ?_
                  refine lv_ldc2 (own := RX7) (v := 57) hx hb hown (hts (.constantLong RX7 123 (57)) (by decide +kernel)) dX7_readText_95 ?_
                  refine cRS (As := [.long (((atv cd sz j)).toInt64), .long (49 : Int64), .long (57 : Int64)]) (rest := []) (v := .int (zb ((49 : Int64).toInt ≤ (((atv cd sz j)).toInt64).toInt ∧ (((atv cd sz j)).toInt64).toInt ≤ (57 : Int64).toInt))) ⟨hx, hb, hml, hown, hts⟩ (c_X7_in l G (((atv cd sz j)).toInt64) (49 : Int64) (57 : Int64) ) (va_cwS 3 hts gX7_readText_X7_in rfl rfl rfl (by decide +kernel) ⟨Nat.le_of_ble_eq_true rfl, Nat.le_of_ble_eq_true rfl⟩) (preS_of hK hP hD [] (by decide) rfl) rfl hl.1 rfl (lv_room (Nat.le_of_ble_eq_true rfl)) dX7_readText_98 ⟨Nat.zero_le _, Nat.zero_le _⟩ ?_
                  refine bb_eq (tgt := 145) hx hb dX7_readText_101 (by decide) (fun c_101 => ?_) (fun c_101 => ?_)
                  ·
                    have h_nd : j < sz → ¬ (48 ≤ cd j ∧ cd j ≤ 57 ∧ 1 ≤ 10 * v + cd j - 48 ∧ 10 * v + cd j - 48 ≤ 30) := by intro z_ w_; first | omega | exact dg_n (lo := (48 : Int64)) (h_cd j) c_101 z_ ⟨(by show (48 : Int) ≤ (cd j : Int); omega), w_.2.1⟩ | exact dg_n (lo := (49 : Int64)) (h_cd j) c_101 z_ ⟨(by show (49 : Int) ≤ (cd j : Int); omega), w_.2.1⟩
                    refine lv_iload hx hb dX7_readText_145 (lv_at hl 0 rfl) ?_
                    refine lv_iload_n hx hb dX7_readText_147 rfl (lv_at hl 2 rfl) ?_
                    refine bi_gt (tgt := 153) hx hb dX7_readText_148 (by decide) (nI_i (by omega)) (nI_i (by omega)) (fun c_148 => ?_) (fun c_148 => ?_)
                    ·
                      have h_2 := st_x2 h_j2 (h_cd j) h_I h_nd (by omega)
                      refine lv_aload_n hx hb dX7_readText_153 rfl (lv_at hl 4 rfl) ?_
                      refine lv_iload hx hb dX7_readText_154 (lv_at hl 0 rfl) ?_
                      refine lv_iconst (v := zb True) hx hb dX7_readText_156 (zb_t trivial).symm ?_
                      refine cWS (As := [.ref r, .int (nI v), .int (zb True)]) (rest := []) (st1 := [.int (nI (ct (fun x_ => 1 ≤ x_ ∧ bt (skp B v True) x_ = true) 31))]) (w3 := [(M, .inr (4, [.int (nI rf), .ref mt, .int (nI sz), .ref mn, .ref mtr, .ref md, .int (nI ac), .ref mk, .ref mik, .ref na, .ref so])), (mt, .inl (G.2 0, 60, .inl (cdI cd))), (r, .inl (G.2 0, 131, .inl (mr (ltr cd sz) (rlg cd sz (ltr cd sz)) (skp B v True) (lvf cd (zr 131 fr_) (ltr cd sz)))))]) ⟨hx, hb, hml, hown, hts⟩ (c_X7_skipOn_r l G r (ltr cd sz) (rlg cd sz (ltr cd sz)) B (lvf cd (zr 131 fr_) (ltr cd sz)) v True (by first | omega | assumption)) (va_cwS 3 hts gX7_readText_X7_skipOn rfl rfl rfl (by decide +kernel) ⟨Nat.le_of_ble_eq_true rfl, Nat.le_of_ble_eq_true rfl⟩) (preS_of hK hP hD [2] (by decide) rfl) rfl hl.1 rfl (lv_room (Nat.le_of_ble_eq_true rfl)) dX7_readText_157 ⟨Nat.zero_le _, Nat.zero_le _⟩ hP hD hS [2] (by decide) rfl rfl (rfl) rfl (fun H locs hP hD hS => ?_)
                      refine lv_pop hx hb dX7_readText_160 rfl ?_
                      refine lv_iload hx hb dX7_readText_161 (lv_at hl 0 rfl) ?_
                      refine lv_istore_n (lv' := [(3, .int (nI v)), (4, .int (nI v)), (2, .int (nI j)), (0, .ref M), (1, .ref r)]) hx hb dX7_readText_163 rfl hl (by decide) rfl (fun ls hl => ?_)
                      refine lv_aload_n hx hb dX7_readText_164 rfl (lv_at hl 3 rfl) ?_
                      refine lv_iload_n hx hb dX7_readText_165 rfl (lv_at hl 2 rfl) ?_
                      refine cRV (As := [.int (nI j)]) (rest := []) (v := .int (atv cd sz j)) ⟨hx, hb, hml, hown, hts⟩ (c_X7_at l G M rf mt sz mn mtr md ac mk mik na so cd j (by first | omega | assumption) (by first | omega | assumption)) (cwV 1 hts gX7_readText_X7_at rfl rfl rfl (by decide +kernel) ⟨Nat.le_of_ble_eq_true rfl, Nat.le_of_ble_eq_true rfl⟩) (preV_of hK hP hD [0, 1] (by decide) rfl (ci := 4) (q0 := 0) rfl rfl rfl) rfl hl.1 rfl (lv_room (Nat.le_of_ble_eq_true rfl)) dX7_readText_166 ⟨Nat.zero_le _, Nat.zero_le _⟩ ?_
                      refine lv_bipush (v := nI 47) hx hb dX7_readText_169 (by decide) ?_
                      refine lv_icmp_ne (tgt := 176) hx hb dX7_readText_171 (by decide) (fun c_171 => ?_) (fun c_171 => ?_)
                      ·
                        refine lv_goto (tgt := 49) hx hb dX7_readText_176 (by decide) ?_
                        exact ih_49 j v (skp B v True) (by first | omega | assumption) (by first | omega | assumption) (fun z_ => h_2.1 (z_.resolve_left c_171)) (fun z_ => h_2.2 (fun y_ => z_ (Or.inr y_))) (by omega) _ _ hP hD hS ls (lv_sub hl [0, 2, 3, 4] (by rfl))
                      ·
                        have h_3 := h_2.2 (fun y_ => absurd (c_171.symm.trans y_) (by decide))
                        have h_4 := (atv_lt (by decide) c_171).1
                        refine lv_iload_n hx hb dX7_readText_174 rfl (lv_at hl 2 rfl) ?_
                        exact W_i hx hb hr hlk dX7_readText_175 hP hS (by rw [(mer_3 c_18 c_30).1, h_3.1, if_pos h_4]) (by rw [(mer_3 c_18 c_30).2, h_3.2])
                    ·
                      have h_1 := st_x1 h_j2 h_I h_nd (by omega)
                      refine lv_iload_n hx hb dX7_readText_151 rfl (lv_at hl 1 rfl) ?_
                      exact W_i hx hb hr hlk dX7_readText_152 hP hS (by rw [(mer_3 c_18 c_30).1, h_1.1]) (by rw [(mer_3 c_18 c_30).2, h_1.2])
                  ·
                    have h_y := dg_y (h_cd j) (by decide) c_101
                    have h_q : ((48 : Int64)).toInt = 48 := rfl
                    have h_q9 : ((49 : Int64)).toInt = 49 := rfl
                    have h_c := h_cd j
                    refine lv_bipush (v := nI 10) hx hb dX7_readText_104 (by decide) ?_
                    refine lv_iload hx hb dX7_readText_106 (lv_at hl 0 rfl) ?_
                    refine nv_imul hx hb dX7_readText_108 ?_
                    refine lv_aload_n hx hb dX7_readText_109 rfl (lv_at hl 3 rfl) ?_
                    refine lv_iload_n hx hb dX7_readText_110 rfl (lv_at hl 1 rfl) ?_
                    refine cRV (As := [.int (nI j)]) (rest := [.int (nI (10 * v))]) (v := .int (atv cd sz j)) ⟨hx, hb, hml, hown, hts⟩ (c_X7_at l G M rf mt sz mn mtr md ac mk mik na so cd j (by first | omega | assumption) (by first | omega | assumption)) (cwV 1 hts gX7_readText_X7_at rfl rfl rfl (by decide +kernel) ⟨Nat.le_of_ble_eq_true rfl, Nat.le_of_ble_eq_true rfl⟩) (preV_of hK hP hD [0, 1] (by decide) rfl (ci := 4) (q0 := 0) rfl rfl rfl) rfl hl.1 rfl (lv_room (Nat.le_of_ble_eq_true rfl)) dX7_readText_111 ⟨Nat.zero_le _, Nat.zero_le _⟩ ?_
                    rw [show ((atv cd sz j)) = nI (cd j) from h_y.2.1]
                    refine nv_iadd hx hb dX7_readText_114 ?_
                    refine lv_bipush (v := nI 48) hx hb dX7_readText_115 (by decide) ?_
                    refine nv_isub hx hb (by omega) dX7_readText_117 ?_
                    refine lv_bipush (v := nI 30) hx hb dX7_readText_118 (by decide) ?_
                    refine bi_gt (tgt := 145) hx hb dX7_readText_120 (by decide) (nI_i (by omega)) (nI_i (by omega)) (fun c_120 => ?_) (fun c_120 => ?_)
                    ·
                      have h_nd : j < sz → ¬ (48 ≤ cd j ∧ cd j ≤ 57 ∧ 1 ≤ 10 * v + cd j - 48 ∧ 10 * v + cd j - 48 ≤ 30) := by intro z_ w_; first | omega | exact dg_n (lo := (48 : Int64)) (h_cd j) c_101 z_ ⟨(by show (48 : Int) ≤ (cd j : Int); omega), w_.2.1⟩ | exact dg_n (lo := (49 : Int64)) (h_cd j) c_101 z_ ⟨(by show (49 : Int) ≤ (cd j : Int); omega), w_.2.1⟩
                      refine lv_iload hx hb dX7_readText_145 (lv_at hl 0 rfl) ?_
                      refine lv_iload_n hx hb dX7_readText_147 rfl (lv_at hl 2 rfl) ?_
                      refine bi_gt (tgt := 153) hx hb dX7_readText_148 (by decide) (nI_i (by omega)) (nI_i (by omega)) (fun c_148 => ?_) (fun c_148 => ?_)
                      ·
                        have h_2 := st_x2 h_j2 (h_cd j) h_I h_nd (by omega)
                        refine lv_aload_n hx hb dX7_readText_153 rfl (lv_at hl 4 rfl) ?_
                        refine lv_iload hx hb dX7_readText_154 (lv_at hl 0 rfl) ?_
                        refine lv_iconst (v := zb True) hx hb dX7_readText_156 (zb_t trivial).symm ?_
                        refine cWS (As := [.ref r, .int (nI v), .int (zb True)]) (rest := []) (st1 := [.int (nI (ct (fun x_ => 1 ≤ x_ ∧ bt (skp B v True) x_ = true) 31))]) (w3 := [(M, .inr (4, [.int (nI rf), .ref mt, .int (nI sz), .ref mn, .ref mtr, .ref md, .int (nI ac), .ref mk, .ref mik, .ref na, .ref so])), (mt, .inl (G.2 0, 60, .inl (cdI cd))), (r, .inl (G.2 0, 131, .inl (mr (ltr cd sz) (rlg cd sz (ltr cd sz)) (skp B v True) (lvf cd (zr 131 fr_) (ltr cd sz)))))]) ⟨hx, hb, hml, hown, hts⟩ (c_X7_skipOn_r l G r (ltr cd sz) (rlg cd sz (ltr cd sz)) B (lvf cd (zr 131 fr_) (ltr cd sz)) v True (by first | omega | assumption)) (va_cwS 3 hts gX7_readText_X7_skipOn rfl rfl rfl (by decide +kernel) ⟨Nat.le_of_ble_eq_true rfl, Nat.le_of_ble_eq_true rfl⟩) (preS_of hK hP hD [2] (by decide) rfl) rfl hl.1 rfl (lv_room (Nat.le_of_ble_eq_true rfl)) dX7_readText_157 ⟨Nat.zero_le _, Nat.zero_le _⟩ hP hD hS [2] (by decide) rfl rfl (rfl) rfl (fun H locs hP hD hS => ?_)
                        refine lv_pop hx hb dX7_readText_160 rfl ?_
                        refine lv_iload hx hb dX7_readText_161 (lv_at hl 0 rfl) ?_
                        refine lv_istore_n (lv' := [(3, .int (nI v)), (4, .int (nI v)), (2, .int (nI j)), (0, .ref M), (1, .ref r)]) hx hb dX7_readText_163 rfl hl (by decide) rfl (fun ls hl => ?_)
                        refine lv_aload_n hx hb dX7_readText_164 rfl (lv_at hl 3 rfl) ?_
                        refine lv_iload_n hx hb dX7_readText_165 rfl (lv_at hl 2 rfl) ?_
                        refine cRV (As := [.int (nI j)]) (rest := []) (v := .int (atv cd sz j)) ⟨hx, hb, hml, hown, hts⟩ (c_X7_at l G M rf mt sz mn mtr md ac mk mik na so cd j (by first | omega | assumption) (by first | omega | assumption)) (cwV 1 hts gX7_readText_X7_at rfl rfl rfl (by decide +kernel) ⟨Nat.le_of_ble_eq_true rfl, Nat.le_of_ble_eq_true rfl⟩) (preV_of hK hP hD [0, 1] (by decide) rfl (ci := 4) (q0 := 0) rfl rfl rfl) rfl hl.1 rfl (lv_room (Nat.le_of_ble_eq_true rfl)) dX7_readText_166 ⟨Nat.zero_le _, Nat.zero_le _⟩ ?_
                        refine lv_bipush (v := nI 47) hx hb dX7_readText_169 (by decide) ?_
                        refine lv_icmp_ne (tgt := 176) hx hb dX7_readText_171 (by decide) (fun c_171 => ?_) (fun c_171 => ?_)
                        ·
                          refine lv_goto (tgt := 49) hx hb dX7_readText_176 (by decide) ?_
                          exact ih_49 j v (skp B v True) (by first | omega | assumption) (by first | omega | assumption) (fun z_ => h_2.1 (z_.resolve_left c_171)) (fun z_ => h_2.2 (fun y_ => z_ (Or.inr y_))) (by omega) _ _ hP hD hS ls (lv_sub hl [0, 2, 3, 4] (by rfl))
                        ·
                          have h_3 := h_2.2 (fun y_ => absurd (c_171.symm.trans y_) (by decide))
                          have h_4 := (atv_lt (by decide) c_171).1
                          refine lv_iload_n hx hb dX7_readText_174 rfl (lv_at hl 2 rfl) ?_
                          exact W_i hx hb hr hlk dX7_readText_175 hP hS (by rw [(mer_3 c_18 c_30).1, h_3.1, if_pos h_4]) (by rw [(mer_3 c_18 c_30).2, h_3.2])
                      ·
                        have h_1 := st_x1 h_j2 h_I h_nd (by omega)
                        refine lv_iload_n hx hb dX7_readText_151 rfl (lv_at hl 1 rfl) ?_
                        exact W_i hx hb hr hlk dX7_readText_152 hP hS (by rw [(mer_3 c_18 c_30).1, h_1.1]) (by rw [(mer_3 c_18 c_30).2, h_1.2])
                    ·
                      refine lv_bipush (v := nI 10) hx hb dX7_readText_123 (by decide) ?_
                      refine lv_iload hx hb dX7_readText_125 (lv_at hl 0 rfl) ?_
                      refine nv_imul hx hb dX7_readText_127 ?_
                      refine lv_aload_n hx hb dX7_readText_128 rfl (lv_at hl 3 rfl) ?_
                      refine lv_iload_n hx hb dX7_readText_129 rfl (lv_at hl 1 rfl) ?_
                      refine cRV (As := [.int (nI j)]) (rest := [.int (nI (10 * v))]) (v := .int (atv cd sz j)) ⟨hx, hb, hml, hown, hts⟩ (c_X7_at l G M rf mt sz mn mtr md ac mk mik na so cd j (by first | omega | assumption) (by first | omega | assumption)) (cwV 1 hts gX7_readText_X7_at rfl rfl rfl (by decide +kernel) ⟨Nat.le_of_ble_eq_true rfl, Nat.le_of_ble_eq_true rfl⟩) (preV_of hK hP hD [0, 1] (by decide) rfl (ci := 4) (q0 := 0) rfl rfl rfl) rfl hl.1 rfl (lv_room (Nat.le_of_ble_eq_true rfl)) dX7_readText_130 ⟨Nat.zero_le _, Nat.zero_le _⟩ ?_
                      rw [show ((atv cd sz j)) = nI (cd j) from h_y.2.1]
                      refine nv_iadd hx hb dX7_readText_133 ?_
                      refine lv_bipush (v := nI 48) hx hb dX7_readText_134 (by decide) ?_
                      refine nv_isub hx hb (by omega) dX7_readText_136 ?_
                      refine lv_istore (lv' := [(4, .int (nI (((10 * v) + (cd j)) - 48))), (2, .int (nI j)), (3, .int (nI b)), (0, .ref M), (1, .ref r)]) hx hb dX7_readText_137 hl (by decide) rfl (fun ls hl => ?_)
                      refine lv_iinc (v := nI (j + 1)) (lv' := [(2, .int (nI (j + 1))), (4, .int (nI (((10 * v) + (cd j)) - 48))), (3, .int (nI b)), (0, .ref M), (1, .ref r)]) hx hb dX7_readText_139 hl (k := 1) rfl (inc_n _ 1) (by decide) rfl (fun ls hl => ?_)
                      refine lv_goto (tgt := 75) hx hb dX7_readText_142 (by decide) ?_
                      exact ih_75 (j + 1) (((10 * v) + (cd j)) - 48) (by first | omega | assumption) (by first | omega | assumption) (by first | omega | assumption) (by obtain ⟨y1_, y2_⟩ := h_I; rw [show sz - j = sz - (j + 1) + 1 by omega] at y1_ y2_; exact ⟨y1_.trans (steF_d (by omega) ⟨by omega, by omega, by omega, by omega⟩), y2_.trans (stS_d (by omega) ⟨by omega, by omega, by omega, by omega⟩)⟩) (by omega) _ _ hP hD hS ls (lv_sub hl [1, 0, 2, 3, 4] (by rfl))
            exact loop_75 (sz - (i + 1) + 1) (i + 1) 0 (by first | omega | assumption) (by first | omega | assumption) (by first | omega | assumption) (h_E h_o) (Nat.lt_succ_self _) _ _ hP hD hS ls (lv_sub hl [0, 1, 2, 3, 4] (by rfl))
          ·
            refine lv_aload_n hx hb dX7_readText_59 rfl (lv_at hl 2 rfl) ?_
            refine lv_iload_n hx hb dX7_readText_60 rfl (lv_at hl 1 rfl) ?_
            refine cRV (As := [.int (nI i)]) (rest := []) (v := .int (atv cd sz i)) ⟨hx, hb, hml, hown, hts⟩ (c_X7_at l G M rf mt sz mn mtr md ac mk mik na so cd i (by first | omega | assumption) (by first | omega | assumption)) (cwV 1 hts gX7_readText_X7_at rfl rfl rfl (by decide +kernel) ⟨Nat.le_of_ble_eq_true rfl, Nat.le_of_ble_eq_true rfl⟩) (preV_of hK hP hD [0, 1] (by decide) rfl (ci := 4) (q0 := 0) rfl rfl rfl) rfl hl.1 rfl (lv_room (Nat.le_of_ble_eq_true rfl)) dX7_readText_61 ⟨Nat.zero_le _, Nat.zero_le _⟩ ?_
            refine lv_bipush (v := nI 44) hx hb dX7_readText_64 (by decide) ?_
            refine lv_icmp_ne (tgt := 179) hx hb dX7_readText_66 (by decide) (fun c_66 => ?_) (fun c_66 => ?_)
            ·
              have h_5 := h_X (fun z_ => z_.elim (by assumption) (by assumption))
              refine lv_iload_n hx hb dX7_readText_179 rfl (lv_at hl 1 rfl) ?_
              refine lv_aload_n hx hb dX7_readText_180 rfl (lv_at hl 2 rfl) ?_
              refine va_get (D := G.1) (ci := 4) (v := .int (nI sz)) (C := RX7) (T := TX7) (N := 11) hx hb hts in_c_X7_readText_X7 hown hK.1 hP 0 rfl rfl 2 (by decide) (hts (.fieldLink RX7 103 "FloorPanelsModel" "size" "I") (by decide +kernel)) (fun _ h9 => h9) rfl dX7_readText_181 ?_
              refine bi_ge (tgt := 191) hx hb dX7_readText_184 (by decide) (nI_i (by omega)) (nI_i (by omega)) (fun c_184 => ?_) (fun c_184 => ?_)
              ·
                refine lv_iconst (v := (-1)) hx hb dX7_readText_191 (by decide) ?_
                exact W_i hx hb hr hlk dX7_readText_192 hP hS (by rw [(mer_3 c_18 c_30).1, h_5.1]; first | exact (if_pos (by omega)).symm | exact (if_neg (by omega)).symm) (by rw [(mer_3 c_18 c_30).2, h_5.2])
              ·
                refine lv_iload_n hx hb dX7_readText_187 rfl (lv_at hl 1 rfl) ?_
                refine lv_goto (tgt := 192) hx hb dX7_readText_188 (by decide) ?_
                exact W_i hx hb hr hlk dX7_readText_192 hP hS (by rw [(mer_3 c_18 c_30).1, h_5.1]; first | exact (if_pos (by omega)).symm | exact (if_neg (by omega)).symm) (by rw [(mer_3 c_18 c_30).2, h_5.2])
            ·
              have h_o : atv cd sz i = nI 47 ∨ atv cd sz i = nI 44 := by first | exact Or.inl (by assumption) | exact Or.inr (by assumption)
              have h_is := h_o.elim (fun z_ => (atv_lt (by decide) z_).1) (fun z_ => (atv_lt (by decide) z_).1)
              refine lv_iinc (v := nI (i + 1)) (lv' := [(2, .int (nI (i + 1))), (3, .int (nI b)), (0, .ref M), (1, .ref r)]) hx hb dX7_readText_69 hl (k := 1) rfl (inc_n _ 1) (by decide) rfl (fun ls hl => ?_)
              refine lv_iconst (v := nI 0) hx hb dX7_readText_72 (by decide) ?_
              refine lv_istore (lv' := [(4, .int (nI 0)), (2, .int (nI (i + 1))), (3, .int (nI b)), (0, .ref M), (1, .ref r)]) hx hb dX7_readText_73 hl (by decide) rfl (fun ls hl => ?_)
              have loop_75 : ∀ (k_ : Nat) (j : Nat) (v : Nat) (h_j : i + 1 ≤ j) (h_j2 : j ≤ sz) (h_v : v ≤ 30) (h_I : mR0 cd sz = steF cd sz (sz - j) j b v ∧ mFS cd sz = stS cd (sz - j) j b v B) (_ : sz - j < k_) (H : Heap) (locs : List Loc) (_ : VP G [(M, .inr (4, [.int (nI rf), .ref mt, .int (nI sz), .ref mn, .ref mtr, .ref md, .int (nI ac), .ref mk, .ref mik, .ref na, .ref so])), (mt, .inl (G.2 0, 60, .inl (cdI cd))), (r, .inl (G.2 0, 131, .inl (mr (ltr cd sz) (rlg cd sz (ltr cd sz)) B (lvf cd (zr 131 fr_) (ltr cd sz)))))] H) (_ : va_D (vA [(M, .inr (4, [.int (nI rf), .ref mt, .int (nI sz), .ref mn, .ref mtr, .ref md, .int (nI ac), .ref mk, .ref mik, .ref na, .ref so])), (mt, .inl (G.2 0, 60, .inl (cdI cd))), (r, .inl (G.2 0, 131, .inl fr_))]) [(M, .inr (4, [.int (nI rf), .ref mt, .int (nI sz), .ref mn, .ref mtr, .ref md, .int (nI ac), .ref mk, .ref mik, .ref na, .ref so])), (mt, .inl (G.2 0, 60, .inl (cdI cd))), (r, .inl (G.2 0, 131, .inl (mr (ltr cd sz) (rlg cd sz (ltr cd sz)) B (lvf cd (zr 131 fr_) (ltr cd sz)))))]) (_ : va_S (vA [(M, .inr (4, [.int (nI rf), .ref mt, .int (nI sz), .ref mn, .ref mtr, .ref md, .int (nI ac), .ref mk, .ref mik, .ref na, .ref so])), (mt, .inl (G.2 0, 60, .inl (cdI cd))), (r, .inl (G.2 0, 131, .inl fr_))]) s.heap H locs) (ls : Array Slot), lv_has ls 5 [(4, .int (nI v)), (2, .int (nI j)), (3, .int (nI b)), (0, .ref M), (1, .ref r)] → W p l e ({ frames := 3, cells := 0, slots := 0, locals := 65 } : Room) s m ([.ref M, .ref r] : List Value).toArray below meth c H locs 0 0 (MQ below (QW G (some (.int (mer cd sz))) [(M, .inr (4, [.int (nI rf), .ref mt, .int (nI sz), .ref mn, .ref mtr, .ref md, .int (nI ac), .ref mk, .ref mik, .ref na, .ref so])), (mt, .inl (G.2 0, 60, .inl (cdI cd))), (r, .inl (G.2 0, 131, .inl (mr (ltr cd sz) (rlg cd sz (ltr cd sz)) (mbt cd sz) (lvf cd (zr 131 fr_) (ltr cd sz)))))] (vA [(M, .inr (4, [.int (nI rf), .ref mt, .int (nI sz), .ref mn, .ref mtr, .ref md, .int (nI ac), .ref mk, .ref mik, .ref na, .ref so])), (mt, .inl (G.2 0, 60, .inl (cdI cd))), (r, .inl (G.2 0, 131, .inl fr_))])) ([.ref M, .ref r] : List Value).toArray s 0 0 (vA [(M, .inr (4, [.int (nI rf), .ref mt, .int (nI sz), .ref mn, .ref mtr, .ref md, .int (nI ac), .ref mk, .ref mik, .ref na, .ref so])), (mt, .inl (G.2 0, 60, .inl (cdI cd))), (r, .inl (G.2 0, 131, .inl fr_))])) (F0 m 75 ls []) := by
                intro k_
                induction k_ with
                | zero => intro j v h_j h_j2 h_v h_I hk_; exact absurd hk_ (Nat.not_lt_zero _)
                | succ k_ ih_75 =>
                  intro j v h_j h_j2 h_v h_I hk_ H locs hP hD hS ls hl
                  refine lv_aload_n hx hb dX7_readText_75 rfl (lv_at hl 3 rfl) ?_
                  refine lv_iload_n hx hb dX7_readText_76 rfl (lv_at hl 1 rfl) ?_
                  refine cRV (As := [.int (nI j)]) (rest := []) (v := .int (atv cd sz j)) ⟨hx, hb, hml, hown, hts⟩ (c_X7_at l G M rf mt sz mn mtr md ac mk mik na so cd j (by first | omega | assumption) (by first | omega | assumption)) (cwV 1 hts gX7_readText_X7_at rfl rfl rfl (by decide +kernel) ⟨Nat.le_of_ble_eq_true rfl, Nat.le_of_ble_eq_true rfl⟩) (preV_of hK hP hD [0, 1] (by decide) rfl (ci := 4) (q0 := 0) rfl rfl rfl) rfl hl.1 rfl (lv_room (Nat.le_of_ble_eq_true rfl)) dX7_readText_77 ⟨Nat.zero_le _, Nat.zero_le _⟩ ?_
                  refine lv_i2l (v := ((atv cd sz j)).toInt64) hx hb dX7_readText_80 rfl ?_
                  refine lv_iload hx hb dX7_readText_81 (lv_at hl 0 rfl) ?_
                  refine b0_ne (tgt := 92) hx hb dX7_readText_83 (by decide) (nI_i (by omega)) (fun c_83 => ?_) (fun c_83 => ?_)
                  ·
                    refine lv_ldc2 (own := RX7) (v := 48) hx hb hown (hts (.constantLong RX7 121 (48)) (by decide +kernel)) dX7_readText_92 ?_
                    refine lv_ldc2 (own := RX7) (v := 57) hx hb hown (hts (.constantLong RX7 123 (57)) (by decide +kernel)) dX7_readText_95 ?_
                    refine cRS (As := [.long (((atv cd sz j)).toInt64), .long (48 : Int64), .long (57 : Int64)]) (rest := []) (v := .int (zb ((48 : Int64).toInt ≤ (((atv cd sz j)).toInt64).toInt ∧ (((atv cd sz j)).toInt64).toInt ≤ (57 : Int64).toInt))) ⟨hx, hb, hml, hown, hts⟩ (c_X7_in l G (((atv cd sz j)).toInt64) (48 : Int64) (57 : Int64) ) (va_cwS 3 hts gX7_readText_X7_in rfl rfl rfl (by decide +kernel) ⟨Nat.le_of_ble_eq_true rfl, Nat.le_of_ble_eq_true rfl⟩) (preS_of hK hP hD [] (by decide) rfl) rfl hl.1 rfl (lv_room (Nat.le_of_ble_eq_true rfl)) dX7_readText_98 ⟨Nat.zero_le _, Nat.zero_le _⟩ ?_
                    refine bb_eq (tgt := 145) hx hb dX7_readText_101 (by decide) (fun c_101 => ?_) (fun c_101 => ?_)
                    ·
                      have h_nd : j < sz → ¬ (48 ≤ cd j ∧ cd j ≤ 57 ∧ 1 ≤ 10 * v + cd j - 48 ∧ 10 * v + cd j - 48 ≤ 30) := by intro z_ w_; first | omega | exact dg_n (lo := (48 : Int64)) (h_cd j) c_101 z_ ⟨(by show (48 : Int) ≤ (cd j : Int); omega), w_.2.1⟩ | exact dg_n (lo := (49 : Int64)) (h_cd j) c_101 z_ ⟨(by show (49 : Int) ≤ (cd j : Int); omega), w_.2.1⟩
                      refine lv_iload hx hb dX7_readText_145 (lv_at hl 0 rfl) ?_
                      refine lv_iload_n hx hb dX7_readText_147 rfl (lv_at hl 2 rfl) ?_
                      refine bi_gt (tgt := 153) hx hb dX7_readText_148 (by decide) (nI_i (by omega)) (nI_i (by omega)) (fun c_148 => ?_) (fun c_148 => ?_)
                      ·
                        have h_2 := st_x2 h_j2 (h_cd j) h_I h_nd (by omega)
                        refine lv_aload_n hx hb dX7_readText_153 rfl (lv_at hl 4 rfl) ?_
                        refine lv_iload hx hb dX7_readText_154 (lv_at hl 0 rfl) ?_
                        refine lv_iconst (v := zb True) hx hb dX7_readText_156 (zb_t trivial).symm ?_
                        refine cWS (As := [.ref r, .int (nI v), .int (zb True)]) (rest := []) (st1 := [.int (nI (ct (fun x_ => 1 ≤ x_ ∧ bt (skp B v True) x_ = true) 31))]) (w3 := [(M, .inr (4, [.int (nI rf), .ref mt, .int (nI sz), .ref mn, .ref mtr, .ref md, .int (nI ac), .ref mk, .ref mik, .ref na, .ref so])), (mt, .inl (G.2 0, 60, .inl (cdI cd))), (r, .inl (G.2 0, 131, .inl (mr (ltr cd sz) (rlg cd sz (ltr cd sz)) (skp B v True) (lvf cd (zr 131 fr_) (ltr cd sz)))))]) ⟨hx, hb, hml, hown, hts⟩ (c_X7_skipOn_r l G r (ltr cd sz) (rlg cd sz (ltr cd sz)) B (lvf cd (zr 131 fr_) (ltr cd sz)) v True (by first | omega | assumption)) (va_cwS 3 hts gX7_readText_X7_skipOn rfl rfl rfl (by decide +kernel) ⟨Nat.le_of_ble_eq_true rfl, Nat.le_of_ble_eq_true rfl⟩) (preS_of hK hP hD [2] (by decide) rfl) rfl hl.1 rfl (lv_room (Nat.le_of_ble_eq_true rfl)) dX7_readText_157 ⟨Nat.zero_le _, Nat.zero_le _⟩ hP hD hS [2] (by decide) rfl rfl (rfl) rfl (fun H locs hP hD hS => ?_)
                        refine lv_pop hx hb dX7_readText_160 rfl ?_
                        refine lv_iload hx hb dX7_readText_161 (lv_at hl 0 rfl) ?_
                        refine lv_istore_n (lv' := [(3, .int (nI v)), (4, .int (nI v)), (2, .int (nI j)), (0, .ref M), (1, .ref r)]) hx hb dX7_readText_163 rfl hl (by decide) rfl (fun ls hl => ?_)
                        refine lv_aload_n hx hb dX7_readText_164 rfl (lv_at hl 3 rfl) ?_
                        refine lv_iload_n hx hb dX7_readText_165 rfl (lv_at hl 2 rfl) ?_
                        refine cRV (As := [.int (nI j)]) (rest := []) (v := .int (atv cd sz j)) ⟨hx, hb, hml, hown, hts⟩ (c_X7_at l G M rf mt sz mn mtr md ac mk mik na so cd j (by first | omega | assumption) (by first | omega | assumption)) (cwV 1 hts gX7_readText_X7_at rfl rfl rfl (by decide +kernel) ⟨Nat.le_of_ble_eq_true rfl, Nat.le_of_ble_eq_true rfl⟩) (preV_of hK hP hD [0, 1] (by decide) rfl (ci := 4) (q0 := 0) rfl rfl rfl) rfl hl.1 rfl (lv_room (Nat.le_of_ble_eq_true rfl)) dX7_readText_166 ⟨Nat.zero_le _, Nat.zero_le _⟩ ?_
                        refine lv_bipush (v := nI 47) hx hb dX7_readText_169 (by decide) ?_
                        refine lv_icmp_ne (tgt := 176) hx hb dX7_readText_171 (by decide) (fun c_171 => ?_) (fun c_171 => ?_)
                        ·
                          refine lv_goto (tgt := 49) hx hb dX7_readText_176 (by decide) ?_
                          exact ih_49 j v (skp B v True) (by first | omega | assumption) (by first | omega | assumption) (fun z_ => h_2.1 (z_.resolve_left c_171)) (fun z_ => h_2.2 (fun y_ => z_ (Or.inr y_))) (by omega) _ _ hP hD hS ls (lv_sub hl [0, 2, 3, 4] (by rfl))
                        ·
                          have h_3 := h_2.2 (fun y_ => absurd (c_171.symm.trans y_) (by decide))
                          have h_4 := (atv_lt (by decide) c_171).1
                          refine lv_iload_n hx hb dX7_readText_174 rfl (lv_at hl 2 rfl) ?_
                          exact W_i hx hb hr hlk dX7_readText_175 hP hS (by rw [(mer_3 c_18 c_30).1, h_3.1, if_pos h_4]) (by rw [(mer_3 c_18 c_30).2, h_3.2])
                      ·
                        have h_1 := st_x1 h_j2 h_I h_nd (by omega)
                        refine lv_iload_n hx hb dX7_readText_151 rfl (lv_at hl 1 rfl) ?_
                        exact W_i hx hb hr hlk dX7_readText_152 hP hS (by rw [(mer_3 c_18 c_30).1, h_1.1]) (by rw [(mer_3 c_18 c_30).2, h_1.2])
                    ·
                      have h_y := dg_y (h_cd j) (by decide) c_101
                      have h_q : ((48 : Int64)).toInt = 48 := rfl
                      have h_q9 : ((49 : Int64)).toInt = 49 := rfl
                      have h_c := h_cd j
                      refine lv_bipush (v := nI 10) hx hb dX7_readText_104 (by decide) ?_
                      refine lv_iload hx hb dX7_readText_106 (lv_at hl 0 rfl) ?_
                      refine nv_imul hx hb dX7_readText_108 ?_
                      refine lv_aload_n hx hb dX7_readText_109 rfl (lv_at hl 3 rfl) ?_
                      refine lv_iload_n hx hb dX7_readText_110 rfl (lv_at hl 1 rfl) ?_
                      refine cRV (As := [.int (nI j)]) (rest := [.int (nI (10 * v))]) (v := .int (atv cd sz j)) ⟨hx, hb, hml, hown, hts⟩ (c_X7_at l G M rf mt sz mn mtr md ac mk mik na so cd j (by first | omega | assumption) (by first | omega | assumption)) (cwV 1 hts gX7_readText_X7_at rfl rfl rfl (by decide +kernel) ⟨Nat.le_of_ble_eq_true rfl, Nat.le_of_ble_eq_true rfl⟩) (preV_of hK hP hD [0, 1] (by decide) rfl (ci := 4) (q0 := 0) rfl rfl rfl) rfl hl.1 rfl (lv_room (Nat.le_of_ble_eq_true rfl)) dX7_readText_111 ⟨Nat.zero_le _, Nat.zero_le _⟩ ?_
                      rw [show ((atv cd sz j)) = nI (cd j) from h_y.2.1]
                      refine nv_iadd hx hb dX7_readText_114 ?_
                      refine lv_bipush (v := nI 48) hx hb dX7_readText_115 (by decide) ?_
                      refine nv_isub hx hb (by omega) dX7_readText_117 ?_
                      refine lv_bipush (v := nI 30) hx hb dX7_readText_118 (by decide) ?_
                      refine bi_gt (tgt := 145) hx hb dX7_readText_120 (by decide) (nI_i (by omega)) (nI_i (by omega)) (fun c_120 => ?_) (fun c_120 => ?_)
                      ·
                        have h_nd : j < sz → ¬ (48 ≤ cd j ∧ cd j ≤ 57 ∧ 1 ≤ 10 * v + cd j - 48 ∧ 10 * v + cd j - 48 ≤ 30) := by intro z_ w_; first | omega | exact dg_n (lo := (48 : Int64)) (h_cd j) c_101 z_ ⟨(by show (48 : Int) ≤ (cd j : Int); omega), w_.2.1⟩ | exact dg_n (lo := (49 : Int64)) (h_cd j) c_101 z_ ⟨(by show (49 : Int) ≤ (cd j : Int); omega), w_.2.1⟩
                        refine lv_iload hx hb dX7_readText_145 (lv_at hl 0 rfl) ?_
                        refine lv_iload_n hx hb dX7_readText_147 rfl (lv_at hl 2 rfl) ?_
                        refine bi_gt (tgt := 153) hx hb dX7_readText_148 (by decide) (nI_i (by omega)) (nI_i (by omega)) (fun c_148 => ?_) (fun c_148 => ?_)
                        ·
                          have h_2 := st_x2 h_j2 (h_cd j) h_I h_nd (by omega)
                          refine lv_aload_n hx hb dX7_readText_153 rfl (lv_at hl 4 rfl) ?_
                          refine lv_iload hx hb dX7_readText_154 (lv_at hl 0 rfl) ?_
                          refine lv_iconst (v := zb True) hx hb dX7_readText_156 (zb_t trivial).symm ?_
                          refine cWS (As := [.ref r, .int (nI v), .int (zb True)]) (rest := []) (st1 := [.int (nI (ct (fun x_ => 1 ≤ x_ ∧ bt (skp B v True) x_ = true) 31))]) (w3 := [(M, .inr (4, [.int (nI rf), .ref mt, .int (nI sz), .ref mn, .ref mtr, .ref md, .int (nI ac), .ref mk, .ref mik, .ref na, .ref so])), (mt, .inl (G.2 0, 60, .inl (cdI cd))), (r, .inl (G.2 0, 131, .inl (mr (ltr cd sz) (rlg cd sz (ltr cd sz)) (skp B v True) (lvf cd (zr 131 fr_) (ltr cd sz)))))]) ⟨hx, hb, hml, hown, hts⟩ (c_X7_skipOn_r l G r (ltr cd sz) (rlg cd sz (ltr cd sz)) B (lvf cd (zr 131 fr_) (ltr cd sz)) v True (by first | omega | assumption)) (va_cwS 3 hts gX7_readText_X7_skipOn rfl rfl rfl (by decide +kernel) ⟨Nat.le_of_ble_eq_true rfl, Nat.le_of_ble_eq_true rfl⟩) (preS_of hK hP hD [2] (by decide) rfl) rfl hl.1 rfl (lv_room (Nat.le_of_ble_eq_true rfl)) dX7_readText_157 ⟨Nat.zero_le _, Nat.zero_le _⟩ hP hD hS [2] (by decide) rfl rfl (rfl) rfl (fun H locs hP hD hS => ?_)
                          refine lv_pop hx hb dX7_readText_160 rfl ?_
                          refine lv_iload hx hb dX7_readText_161 (lv_at hl 0 rfl) ?_
                          refine lv_istore_n (lv' := [(3, .int (nI v)), (4, .int (nI v)), (2, .int (nI j)), (0, .ref M), (1, .ref r)]) hx hb dX7_readText_163 rfl hl (by decide) rfl (fun ls hl => ?_)
                          refine lv_aload_n hx hb dX7_readText_164 rfl (lv_at hl 3 rfl) ?_
                          refine lv_iload_n hx hb dX7_readText_165 rfl (lv_at hl 2 rfl) ?_
                          refine cRV (As := [.int (nI j)]) (rest := []) (v := .int (atv cd sz j)) ⟨hx, hb, hml, hown, hts⟩ (c_X7_at l G M rf mt sz mn mtr md ac mk mik na so cd j (by first | omega | assumption) (by first | omega | assumption)) (cwV 1 hts gX7_readText_X7_at rfl rfl rfl (by decide +kernel) ⟨Nat.le_of_ble_eq_true rfl, Nat.le_of_ble_eq_true rfl⟩) (preV_of hK hP hD [0, 1] (by decide) rfl (ci := 4) (q0 := 0) rfl rfl rfl) rfl hl.1 rfl (lv_room (Nat.le_of_ble_eq_true rfl)) dX7_readText_166 ⟨Nat.zero_le _, Nat.zero_le _⟩ ?_
                          refine lv_bipush (v := nI 47) hx hb dX7_readText_169 (by decide) ?_
                          refine lv_icmp_ne (tgt := 176) hx hb dX7_readText_171 (by decide) (fun c_171 => ?_) (fun c_171 => ?_)
                          ·
                            refine lv_goto (tgt := 49) hx hb dX7_readText_176 (by decide) ?_
                            exact ih_49 j v (skp B v True) (by first | omega | assumption) (by first | omega | assumption) (fun z_ => h_2.1 (z_.resolve_left c_171)) (fun z_ => h_2.2 (fun y_ => z_ (Or.inr y_))) (by omega) _ _ hP hD hS ls (lv_sub hl [0, 2, 3, 4] (by rfl))
                          ·
                            have h_3 := h_2.2 (fun y_ => absurd (c_171.symm.trans y_) (by decide))
                            have h_4 := (atv_lt (by decide) c_171).1
                            refine lv_iload_n hx hb dX7_readText_174 rfl (lv_at hl 2 rfl) ?_
                            exact W_i hx hb hr hlk dX7_readText_175 hP hS (by rw [(mer_3 c_18 c_30).1, h_3.1, if_pos h_4]) (by rw [(mer_3 c_18 c_30).2, h_3.2])
                        ·
                          have h_1 := st_x1 h_j2 h_I h_nd (by omega)
                          refine lv_iload_n hx hb dX7_readText_151 rfl (lv_at hl 1 rfl) ?_
                          exact W_i hx hb hr hlk dX7_readText_152 hP hS (by rw [(mer_3 c_18 c_30).1, h_1.1]) (by rw [(mer_3 c_18 c_30).2, h_1.2])
                      ·
                        refine lv_bipush (v := nI 10) hx hb dX7_readText_123 (by decide) ?_
                        refine lv_iload hx hb dX7_readText_125 (lv_at hl 0 rfl) ?_
                        refine nv_imul hx hb dX7_readText_127 ?_
                        refine lv_aload_n hx hb dX7_readText_128 rfl (lv_at hl 3 rfl) ?_
                        refine lv_iload_n hx hb dX7_readText_129 rfl (lv_at hl 1 rfl) ?_
                        refine cRV (As := [.int (nI j)]) (rest := [.int (nI (10 * v))]) (v := .int (atv cd sz j)) ⟨hx, hb, hml, hown, hts⟩ (c_X7_at l G M rf mt sz mn mtr md ac mk mik na so cd j (by first | omega | assumption) (by first | omega | assumption)) (cwV 1 hts gX7_readText_X7_at rfl rfl rfl (by decide +kernel) ⟨Nat.le_of_ble_eq_true rfl, Nat.le_of_ble_eq_true rfl⟩) (preV_of hK hP hD [0, 1] (by decide) rfl (ci := 4) (q0 := 0) rfl rfl rfl) rfl hl.1 rfl (lv_room (Nat.le_of_ble_eq_true rfl)) dX7_readText_130 ⟨Nat.zero_le _, Nat.zero_le _⟩ ?_
                        rw [show ((atv cd sz j)) = nI (cd j) from h_y.2.1]
                        refine nv_iadd hx hb dX7_readText_133 ?_
                        refine lv_bipush (v := nI 48) hx hb dX7_readText_134 (by decide) ?_
                        refine nv_isub hx hb (by omega) dX7_readText_136 ?_
                        refine lv_istore (lv' := [(4, .int (nI (((10 * v) + (cd j)) - 48))), (2, .int (nI j)), (3, .int (nI b)), (0, .ref M), (1, .ref r)]) hx hb dX7_readText_137 hl (by decide) rfl (fun ls hl => ?_)
                        refine lv_iinc (v := nI (j + 1)) (lv' := [(2, .int (nI (j + 1))), (4, .int (nI (((10 * v) + (cd j)) - 48))), (3, .int (nI b)), (0, .ref M), (1, .ref r)]) hx hb dX7_readText_139 hl (k := 1) rfl (inc_n _ 1) (by decide) rfl (fun ls hl => ?_)
                        refine lv_goto (tgt := 75) hx hb dX7_readText_142 (by decide) ?_
                        exact ih_75 (j + 1) (((10 * v) + (cd j)) - 48) (by first | omega | assumption) (by first | omega | assumption) (by first | omega | assumption) (by obtain ⟨y1_, y2_⟩ := h_I; rw [show sz - j = sz - (j + 1) + 1 by omega] at y1_ y2_; exact ⟨y1_.trans (steF_d (by omega) ⟨by omega, by omega, by omega, by omega⟩), y2_.trans (stS_d (by omega) ⟨by omega, by omega, by omega, by omega⟩)⟩) (by omega) _ _ hP hD hS ls (lv_sub hl [1, 0, 2, 3, 4] (by rfl))
                  ·
                    refine lv_ldc2 (own := RX7) (v := 49) hx hb hown (hts (.constantLong RX7 119 (49)) (by decide +kernel)) dX7_readText_86 ?_
                    refine lv_goto (tgt := 95) hx hb dX7_readText_89 (by decide) ?_
                    refine lv_ldc2 (own := RX7) (v := 57) hx hb hown (hts (.constantLong RX7 123 (57)) (by decide +kernel)) dX7_readText_95 ?_
                    refine cRS (As := [.long (((atv cd sz j)).toInt64), .long (49 : Int64), .long (57 : Int64)]) (rest := []) (v := .int (zb ((49 : Int64).toInt ≤ (((atv cd sz j)).toInt64).toInt ∧ (((atv cd sz j)).toInt64).toInt ≤ (57 : Int64).toInt))) ⟨hx, hb, hml, hown, hts⟩ (c_X7_in l G (((atv cd sz j)).toInt64) (49 : Int64) (57 : Int64) ) (va_cwS 3 hts gX7_readText_X7_in rfl rfl rfl (by decide +kernel) ⟨Nat.le_of_ble_eq_true rfl, Nat.le_of_ble_eq_true rfl⟩) (preS_of hK hP hD [] (by decide) rfl) rfl hl.1 rfl (lv_room (Nat.le_of_ble_eq_true rfl)) dX7_readText_98 ⟨Nat.zero_le _, Nat.zero_le _⟩ ?_
                    refine bb_eq (tgt := 145) hx hb dX7_readText_101 (by decide) (fun c_101 => ?_) (fun c_101 => ?_)
                    ·
                      have h_nd : j < sz → ¬ (48 ≤ cd j ∧ cd j ≤ 57 ∧ 1 ≤ 10 * v + cd j - 48 ∧ 10 * v + cd j - 48 ≤ 30) := by intro z_ w_; first | omega | exact dg_n (lo := (48 : Int64)) (h_cd j) c_101 z_ ⟨(by show (48 : Int) ≤ (cd j : Int); omega), w_.2.1⟩ | exact dg_n (lo := (49 : Int64)) (h_cd j) c_101 z_ ⟨(by show (49 : Int) ≤ (cd j : Int); omega), w_.2.1⟩
                      refine lv_iload hx hb dX7_readText_145 (lv_at hl 0 rfl) ?_
                      refine lv_iload_n hx hb dX7_readText_147 rfl (lv_at hl 2 rfl) ?_
                      refine bi_gt (tgt := 153) hx hb dX7_readText_148 (by decide) (nI_i (by omega)) (nI_i (by omega)) (fun c_148 => ?_) (fun c_148 => ?_)
                      ·
                        have h_2 := st_x2 h_j2 (h_cd j) h_I h_nd (by omega)
                        refine lv_aload_n hx hb dX7_readText_153 rfl (lv_at hl 4 rfl) ?_
                        refine lv_iload hx hb dX7_readText_154 (lv_at hl 0 rfl) ?_
                        refine lv_iconst (v := zb True) hx hb dX7_readText_156 (zb_t trivial).symm ?_
                        refine cWS (As := [.ref r, .int (nI v), .int (zb True)]) (rest := []) (st1 := [.int (nI (ct (fun x_ => 1 ≤ x_ ∧ bt (skp B v True) x_ = true) 31))]) (w3 := [(M, .inr (4, [.int (nI rf), .ref mt, .int (nI sz), .ref mn, .ref mtr, .ref md, .int (nI ac), .ref mk, .ref mik, .ref na, .ref so])), (mt, .inl (G.2 0, 60, .inl (cdI cd))), (r, .inl (G.2 0, 131, .inl (mr (ltr cd sz) (rlg cd sz (ltr cd sz)) (skp B v True) (lvf cd (zr 131 fr_) (ltr cd sz)))))]) ⟨hx, hb, hml, hown, hts⟩ (c_X7_skipOn_r l G r (ltr cd sz) (rlg cd sz (ltr cd sz)) B (lvf cd (zr 131 fr_) (ltr cd sz)) v True (by first | omega | assumption)) (va_cwS 3 hts gX7_readText_X7_skipOn rfl rfl rfl (by decide +kernel) ⟨Nat.le_of_ble_eq_true rfl, Nat.le_of_ble_eq_true rfl⟩) (preS_of hK hP hD [2] (by decide) rfl) rfl hl.1 rfl (lv_room (Nat.le_of_ble_eq_true rfl)) dX7_readText_157 ⟨Nat.zero_le _, Nat.zero_le _⟩ hP hD hS [2] (by decide) rfl rfl (rfl) rfl (fun H locs hP hD hS => ?_)
                        refine lv_pop hx hb dX7_readText_160 rfl ?_
                        refine lv_iload hx hb dX7_readText_161 (lv_at hl 0 rfl) ?_
                        refine lv_istore_n (lv' := [(3, .int (nI v)), (4, .int (nI v)), (2, .int (nI j)), (0, .ref M), (1, .ref r)]) hx hb dX7_readText_163 rfl hl (by decide) rfl (fun ls hl => ?_)
                        refine lv_aload_n hx hb dX7_readText_164 rfl (lv_at hl 3 rfl) ?_
                        refine lv_iload_n hx hb dX7_readText_165 rfl (lv_at hl 2 rfl) ?_
                        refine cRV (As := [.int (nI j)]) (rest := []) (v := .int (atv cd sz j)) ⟨hx, hb, hml, hown, hts⟩ (c_X7_at l G M rf mt sz mn mtr md ac mk mik na so cd j (by first | omega | assumption) (by first | omega | assumption)) (cwV 1 hts gX7_readText_X7_at rfl rfl rfl (by decide +kernel) ⟨Nat.le_of_ble_eq_true rfl, Nat.le_of_ble_eq_true rfl⟩) (preV_of hK hP hD [0, 1] (by decide) rfl (ci := 4) (q0 := 0) rfl rfl rfl) rfl hl.1 rfl (lv_room (Nat.le_of_ble_eq_true rfl)) dX7_readText_166 ⟨Nat.zero_le _, Nat.zero_le _⟩ ?_
                        refine lv_bipush (v := nI 47) hx hb dX7_readText_169 (by decide) ?_
                        refine lv_icmp_ne (tgt := 176) hx hb dX7_readText_171 (by decide) (fun c_171 => ?_) (fun c_171 => ?_)
                        ·
                          refine lv_goto (tgt := 49) hx hb dX7_readText_176 (by decide) ?_
                          exact ih_49 j v (skp B v True) (by first | omega | assumption) (by first | omega | assumption) (fun z_ => h_2.1 (z_.resolve_left c_171)) (fun z_ => h_2.2 (fun y_ => z_ (Or.inr y_))) (by omega) _ _ hP hD hS ls (lv_sub hl [0, 2, 3, 4] (by rfl))
                        ·
                          have h_3 := h_2.2 (fun y_ => absurd (c_171.symm.trans y_) (by decide))
                          have h_4 := (atv_lt (by decide) c_171).1
                          refine lv_iload_n hx hb dX7_readText_174 rfl (lv_at hl 2 rfl) ?_
                          exact W_i hx hb hr hlk dX7_readText_175 hP hS (by rw [(mer_3 c_18 c_30).1, h_3.1, if_pos h_4]) (by rw [(mer_3 c_18 c_30).2, h_3.2])
                      ·
                        have h_1 := st_x1 h_j2 h_I h_nd (by omega)
                        refine lv_iload_n hx hb dX7_readText_151 rfl (lv_at hl 1 rfl) ?_
                        exact W_i hx hb hr hlk dX7_readText_152 hP hS (by rw [(mer_3 c_18 c_30).1, h_1.1]) (by rw [(mer_3 c_18 c_30).2, h_1.2])
                    ·
                      have h_y := dg_y (h_cd j) (by decide) c_101
                      have h_q : ((48 : Int64)).toInt = 48 := rfl
                      have h_q9 : ((49 : Int64)).toInt = 49 := rfl
                      have h_c := h_cd j
                      refine lv_bipush (v := nI 10) hx hb dX7_readText_104 (by decide) ?_
                      refine lv_iload hx hb dX7_readText_106 (lv_at hl 0 rfl) ?_
                      refine nv_imul hx hb dX7_readText_108 ?_
                      refine lv_aload_n hx hb dX7_readText_109 rfl (lv_at hl 3 rfl) ?_
                      refine lv_iload_n hx hb dX7_readText_110 rfl (lv_at hl 1 rfl) ?_
                      refine cRV (As := [.int (nI j)]) (rest := [.int (nI (10 * v))]) (v := .int (atv cd sz j)) ⟨hx, hb, hml, hown, hts⟩ (c_X7_at l G M rf mt sz mn mtr md ac mk mik na so cd j (by first | omega | assumption) (by first | omega | assumption)) (cwV 1 hts gX7_readText_X7_at rfl rfl rfl (by decide +kernel) ⟨Nat.le_of_ble_eq_true rfl, Nat.le_of_ble_eq_true rfl⟩) (preV_of hK hP hD [0, 1] (by decide) rfl (ci := 4) (q0 := 0) rfl rfl rfl) rfl hl.1 rfl (lv_room (Nat.le_of_ble_eq_true rfl)) dX7_readText_111 ⟨Nat.zero_le _, Nat.zero_le _⟩ ?_
                      rw [show ((atv cd sz j)) = nI (cd j) from h_y.2.1]
                      refine nv_iadd hx hb dX7_readText_114 ?_
                      refine lv_bipush (v := nI 48) hx hb dX7_readText_115 (by decide) ?_
                      refine nv_isub hx hb (by omega) dX7_readText_117 ?_
                      refine lv_bipush (v := nI 30) hx hb dX7_readText_118 (by decide) ?_
                      refine bi_gt (tgt := 145) hx hb dX7_readText_120 (by decide) (nI_i (by omega)) (nI_i (by omega)) (fun c_120 => ?_) (fun c_120 => ?_)
                      ·
                        have h_nd : j < sz → ¬ (48 ≤ cd j ∧ cd j ≤ 57 ∧ 1 ≤ 10 * v + cd j - 48 ∧ 10 * v + cd j - 48 ≤ 30) := by intro z_ w_; first | omega | exact dg_n (lo := (48 : Int64)) (h_cd j) c_101 z_ ⟨(by show (48 : Int) ≤ (cd j : Int); omega), w_.2.1⟩ | exact dg_n (lo := (49 : Int64)) (h_cd j) c_101 z_ ⟨(by show (49 : Int) ≤ (cd j : Int); omega), w_.2.1⟩
                        refine lv_iload hx hb dX7_readText_145 (lv_at hl 0 rfl) ?_
                        refine lv_iload_n hx hb dX7_readText_147 rfl (lv_at hl 2 rfl) ?_
                        refine bi_gt (tgt := 153) hx hb dX7_readText_148 (by decide) (nI_i (by omega)) (nI_i (by omega)) (fun c_148 => ?_) (fun c_148 => ?_)
                        ·
                          have h_2 := st_x2 h_j2 (h_cd j) h_I h_nd (by omega)
                          refine lv_aload_n hx hb dX7_readText_153 rfl (lv_at hl 4 rfl) ?_
                          refine lv_iload hx hb dX7_readText_154 (lv_at hl 0 rfl) ?_
                          refine lv_iconst (v := zb True) hx hb dX7_readText_156 (zb_t trivial).symm ?_
                          refine cWS (As := [.ref r, .int (nI v), .int (zb True)]) (rest := []) (st1 := [.int (nI (ct (fun x_ => 1 ≤ x_ ∧ bt (skp B v True) x_ = true) 31))]) (w3 := [(M, .inr (4, [.int (nI rf), .ref mt, .int (nI sz), .ref mn, .ref mtr, .ref md, .int (nI ac), .ref mk, .ref mik, .ref na, .ref so])), (mt, .inl (G.2 0, 60, .inl (cdI cd))), (r, .inl (G.2 0, 131, .inl (mr (ltr cd sz) (rlg cd sz (ltr cd sz)) (skp B v True) (lvf cd (zr 131 fr_) (ltr cd sz)))))]) ⟨hx, hb, hml, hown, hts⟩ (c_X7_skipOn_r l G r (ltr cd sz) (rlg cd sz (ltr cd sz)) B (lvf cd (zr 131 fr_) (ltr cd sz)) v True (by first | omega | assumption)) (va_cwS 3 hts gX7_readText_X7_skipOn rfl rfl rfl (by decide +kernel) ⟨Nat.le_of_ble_eq_true rfl, Nat.le_of_ble_eq_true rfl⟩) (preS_of hK hP hD [2] (by decide) rfl) rfl hl.1 rfl (lv_room (Nat.le_of_ble_eq_true rfl)) dX7_readText_157 ⟨Nat.zero_le _, Nat.zero_le _⟩ hP hD hS [2] (by decide) rfl rfl (rfl) rfl (fun H locs hP hD hS => ?_)
                          refine lv_pop hx hb dX7_readText_160 rfl ?_
                          refine lv_iload hx hb dX7_readText_161 (lv_at hl 0 rfl) ?_
                          refine lv_istore_n (lv' := [(3, .int (nI v)), (4, .int (nI v)), (2, .int (nI j)), (0, .ref M), (1, .ref r)]) hx hb dX7_readText_163 rfl hl (by decide) rfl (fun ls hl => ?_)
                          refine lv_aload_n hx hb dX7_readText_164 rfl (lv_at hl 3 rfl) ?_
                          refine lv_iload_n hx hb dX7_readText_165 rfl (lv_at hl 2 rfl) ?_
                          refine cRV (As := [.int (nI j)]) (rest := []) (v := .int (atv cd sz j)) ⟨hx, hb, hml, hown, hts⟩ (c_X7_at l G M rf mt sz mn mtr md ac mk mik na so cd j (by first | omega | assumption) (by first | omega | assumption)) (cwV 1 hts gX7_readText_X7_at rfl rfl rfl (by decide +kernel) ⟨Nat.le_of_ble_eq_true rfl, Nat.le_of_ble_eq_true rfl⟩) (preV_of hK hP hD [0, 1] (by decide) rfl (ci := 4) (q0 := 0) rfl rfl rfl) rfl hl.1 rfl (lv_room (Nat.le_of_ble_eq_true rfl)) dX7_readText_166 ⟨Nat.zero_le _, Nat.zero_le _⟩ ?_
                          refine lv_bipush (v := nI 47) hx hb dX7_readText_169 (by decide) ?_
                          refine lv_icmp_ne (tgt := 176) hx hb dX7_readText_171 (by decide) (fun c_171 => ?_) (fun c_171 => ?_)
                          ·
                            refine lv_goto (tgt := 49) hx hb dX7_readText_176 (by decide) ?_
                            exact ih_49 j v (skp B v True) (by first | omega | assumption) (by first | omega | assumption) (fun z_ => h_2.1 (z_.resolve_left c_171)) (fun z_ => h_2.2 (fun y_ => z_ (Or.inr y_))) (by omega) _ _ hP hD hS ls (lv_sub hl [0, 2, 3, 4] (by rfl))
                          ·
                            have h_3 := h_2.2 (fun y_ => absurd (c_171.symm.trans y_) (by decide))
                            have h_4 := (atv_lt (by decide) c_171).1
                            refine lv_iload_n hx hb dX7_readText_174 rfl (lv_at hl 2 rfl) ?_
                            exact W_i hx hb hr hlk dX7_readText_175 hP hS (by rw [(mer_3 c_18 c_30).1, h_3.1, if_pos h_4]) (by rw [(mer_3 c_18 c_30).2, h_3.2])
                        ·
                          have h_1 := st_x1 h_j2 h_I h_nd (by omega)
                          refine lv_iload_n hx hb dX7_readText_151 rfl (lv_at hl 1 rfl) ?_
                          exact W_i hx hb hr hlk dX7_readText_152 hP hS (by rw [(mer_3 c_18 c_30).1, h_1.1]) (by rw [(mer_3 c_18 c_30).2, h_1.2])
                      ·
                        refine lv_bipush (v := nI 10) hx hb dX7_readText_123 (by decide) ?_
                        refine lv_iload hx hb dX7_readText_125 (lv_at hl 0 rfl) ?_
                        refine nv_imul hx hb dX7_readText_127 ?_
                        refine lv_aload_n hx hb dX7_readText_128 rfl (lv_at hl 3 rfl) ?_
                        refine lv_iload_n hx hb dX7_readText_129 rfl (lv_at hl 1 rfl) ?_
                        refine cRV (As := [.int (nI j)]) (rest := [.int (nI (10 * v))]) (v := .int (atv cd sz j)) ⟨hx, hb, hml, hown, hts⟩ (c_X7_at l G M rf mt sz mn mtr md ac mk mik na so cd j (by first | omega | assumption) (by first | omega | assumption)) (cwV 1 hts gX7_readText_X7_at rfl rfl rfl (by decide +kernel) ⟨Nat.le_of_ble_eq_true rfl, Nat.le_of_ble_eq_true rfl⟩) (preV_of hK hP hD [0, 1] (by decide) rfl (ci := 4) (q0 := 0) rfl rfl rfl) rfl hl.1 rfl (lv_room (Nat.le_of_ble_eq_true rfl)) dX7_readText_130 ⟨Nat.zero_le _, Nat.zero_le _⟩ ?_
                        rw [show ((atv cd sz j)) = nI (cd j) from h_y.2.1]
                        refine nv_iadd hx hb dX7_readText_133 ?_
                        refine lv_bipush (v := nI 48) hx hb dX7_readText_134 (by decide) ?_
                        refine nv_isub hx hb (by omega) dX7_readText_136 ?_
                        refine lv_istore (lv' := [(4, .int (nI (((10 * v) + (cd j)) - 48))), (2, .int (nI j)), (3, .int (nI b)), (0, .ref M), (1, .ref r)]) hx hb dX7_readText_137 hl (by decide) rfl (fun ls hl => ?_)
                        refine lv_iinc (v := nI (j + 1)) (lv' := [(2, .int (nI (j + 1))), (4, .int (nI (((10 * v) + (cd j)) - 48))), (3, .int (nI b)), (0, .ref M), (1, .ref r)]) hx hb dX7_readText_139 hl (k := 1) rfl (inc_n _ 1) (by decide) rfl (fun ls hl => ?_)
                        refine lv_goto (tgt := 75) hx hb dX7_readText_142 (by decide) ?_
                        exact ih_75 (j + 1) (((10 * v) + (cd j)) - 48) (by first | omega | assumption) (by first | omega | assumption) (by first | omega | assumption) (by obtain ⟨y1_, y2_⟩ := h_I; rw [show sz - j = sz - (j + 1) + 1 by omega] at y1_ y2_; exact ⟨y1_.trans (steF_d (by omega) ⟨by omega, by omega, by omega, by omega⟩), y2_.trans (stS_d (by omega) ⟨by omega, by omega, by omega, by omega⟩)⟩) (by omega) _ _ hP hD hS ls (lv_sub hl [1, 0, 2, 3, 4] (by rfl))
              exact loop_75 (sz - (i + 1) + 1) (i + 1) 0 (by first | omega | assumption) (by first | omega | assumption) (by first | omega | assumption) (h_E h_o) (Nat.lt_succ_self _) _ _ hP hD hS ls (lv_sub hl [0, 1, 2, 3, 4] (by rfl))
      exact loop_49 (sz - (ltr cd sz) + 1) (ltr cd sz) 0 0 (by first | omega | assumption) (by first | omega | assumption) (fun _ => ⟨rfl, rfl⟩) (fun z_ => absurd (Or.inl c_30) z_) (Nat.lt_succ_self _) _ _ hP hD hS ls (lv_sub hl [0, 1, 2, 3] (by rfl))
    ·
      refine lv_iload_n hx hb dX7_readText_33 rfl (lv_at hl 0 rfl) ?_
      refine lv_aload_n hx hb dX7_readText_34 rfl (lv_at hl 1 rfl) ?_
      refine va_get (D := G.1) (ci := 4) (v := .int (nI sz)) (C := RX7) (T := TX7) (N := 11) hx hb hts in_c_X7_readText_X7 hown hK.1 hP 0 rfl rfl 2 (by decide) (hts (.fieldLink RX7 103 "FloorPanelsModel" "size" "I") (by decide +kernel)) (fun _ h9 => h9) rfl dX7_readText_35 ?_
      refine bi_ge (tgt := 45) hx hb dX7_readText_38 (by decide) (nI_i (by omega)) (nI_i (by omega)) (fun c_38 => ?_) (fun c_38 => ?_)
      ·
        refine lv_iconst (v := (-1)) hx hb dX7_readText_45 (by decide) ?_
        exact W_i hx hb hr hlk dX7_readText_46 hP hS (by rw [(mer_2 c_18 c_30).1]; first | exact (if_pos (by omega)).symm | exact (if_neg (by omega)).symm) (by rw [(mer_2 c_18 c_30).2])
      ·
        refine lv_iload_n hx hb dX7_readText_41 rfl (lv_at hl 0 rfl) ?_
        refine lv_goto (tgt := 46) hx hb dX7_readText_42 (by decide) ?_
        exact W_i hx hb hr hlk dX7_readText_46 hP hS (by rw [(mer_2 c_18 c_30).1]; first | exact (if_pos (by omega)).symm | exact (if_neg (by omega)).symm) (by rw [(mer_2 c_18 c_30).2])
  ·
    refine lv_iload_n hx hb dX7_readText_21 rfl (lv_at hl 0 rfl) ?_
    exact W_i hx hb hr hlk dX7_readText_22 hP hS ((mer_1 c_18).1.symm) (by rw [(mer_1 c_18).2])

