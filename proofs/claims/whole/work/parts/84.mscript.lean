theorem in_c_X7_command_X7 : ∀ w ∈ wsX70, w ∈ wsX7_command := by decide +kernel
set_option maxHeartbeats 4000000 in
set_option maxRecDepth 100000 in
theorem c_X7_command (l : Launch) (G : GG) (M : Nat) (rf : Nat) (mt : Nat) (sz : Nat) (mn : Nat) (mtr : Nat) (md : Nat) (ac : Nat) (mk : Nat) (mik : Nat) (na : Nat) (so : Nat) (u : HS) (tm : Nat → Int32) (nf : Nat → Int32) (sf : Nat → Int32) (how : Nat) (a : Nat) (b : Nat) (d : Nat) (fi : Nat) (la : Nat) (h_u : hOK u) (h_R : MRu u tm) (h_w : how < 10) (h_a : a < 10) (h_b : b < 10) (h_d : d < 10) (h_fi : fi = 10 * a + b) (h_la : la = 10 * b + d) : Met l yX7_command wsX7_command ({ frames := 4, cells := 0, slots := 0, locals := 98 } : Room) (va_Pc [.ref M, .int (nI how), .int (nI a), .int (nI b), .int (nI d)] (PB G [(M, .inr (4, [.int (nI rf), .ref mt, .int (nI sz), .ref mn, .ref mtr, .ref md, .int (nI ac), .ref mk, .ref mik, .ref na, .ref so])), (mtr, .inl (G.2 0, 131, .inl (mr u.1 (nI u.2.1) u.2.2.1 tm))), (na, .inl (G.2 0, 16, .inl nf)), (so, .inl (G.2 0, 16, .inl sf))])) (QX G (some (.int (zb (sok how a b d u)))) (fun x_ : (Nat → Int32) × (Nat → Int32) × (Nat → Int32) => [(M, .inr (4, [.int (nI rf), .ref mt, .int (nI sz), .ref mn, .ref mtr, .ref md, .int (nI ac), .ref mk, .ref mik, .ref na, .ref so])), (mtr, .inl (G.2 0, 131, .inl (mr ((scm how a b d u).1) (nI (scm how a b d u).2.1) ((scm how a b d u).2.2.1) x_.1))), (na, .inl (G.2 0, 16, .inl x_.2.1)), (so, .inl (G.2 0, 16, .inl x_.2.2))]) (fun x_ : (Nat → Int32) × (Nat → Int32) × (Nat → Int32) => MRu (scm how a b d u) x_.1) (vA [(M, .inr (4, [.int (nI rf), .ref mt, .int (nI sz), .ref mn, .ref mtr, .ref md, .int (nI ac), .ref mk, .ref mik, .ref na, .ref so])), (mtr, .inl (G.2 0, 131, .inl (mr u.1 (nI u.2.1) u.2.2.1 tm))), (na, .inl (G.2 0, 16, .inl nf)), (so, .inl (G.2 0, 16, .inl sf))])) 0 0 (vA [(M, .inr (4, [.int (nI rf), .ref mt, .int (nI sz), .ref mn, .ref mtr, .ref md, .int (nI ac), .ref mk, .ref mik, .ref na, .ref so])), (mtr, .inl (G.2 0, 131, .inl (mr u.1 (nI u.2.1) u.2.2.1 tm))), (na, .inl (G.2 0, 16, .inl nf)), (so, .inl (G.2 0, 16, .inl sf))]) := by
  have h_u2 := h_u
  obtain ⟨h_n1, h_n, h_g, h_f, h_nm, h_kd⟩ := h_u
  refine Met.go (cc := cX7_command) (maxL := 7) (ret := (some .boolean)) (by decide) rfl (Nat.le_of_ble_eq_true rfl) ?_
  intro p e s m below meth c ls hx hb hr hml hown hts hlk hP hK hD hS hl
  have hown : s.vm.findClass RX7 = some m.cls := hown
  have hl : lv_has ls 7 [(0, .ref M), (1, .int (nI how)), (2, .int (nI a)), (3, .int (nI b)), (4, .int (nI d))] := hl
  refine lv_bipush (v := nI 10) hx hb dX7_command_0 (by decide) ?_
  refine lv_iload_n hx hb dX7_command_2 rfl (lv_at hl 2 rfl) ?_
  refine nv_imul hx hb dX7_command_3 ?_
  refine lv_iload_n hx hb dX7_command_4 rfl (lv_at hl 3 rfl) ?_
  refine nv_iadd hx hb dX7_command_5 ?_
  refine lv_istore (lv' := [(5, .int (nI ((10 * a) + b))), (0, .ref M), (1, .int (nI how)), (2, .int (nI a)), (3, .int (nI b)), (4, .int (nI d))]) hx hb dX7_command_6 hl (by decide) rfl (fun ls hl => ?_)
  refine lv_bipush (v := nI 10) hx hb dX7_command_8 (by decide) ?_
  refine lv_iload_n hx hb dX7_command_10 rfl (lv_at hl 4 rfl) ?_
  refine nv_imul hx hb dX7_command_11 ?_
  refine lv_iload hx hb dX7_command_12 (lv_at hl 5 rfl) ?_
  refine nv_iadd hx hb dX7_command_14 ?_
  refine lv_istore (lv' := [(6, .int (nI ((10 * b) + d))), (5, .int (nI ((10 * a) + b))), (0, .ref M), (1, .int (nI how)), (2, .int (nI a)), (3, .int (nI b)), (4, .int (nI d))]) hx hb dX7_command_15 hl (by decide) rfl (fun ls hl => ?_)
  obtain ⟨hw_, h_hw⟩ : ∃ z_, z_ = how := ⟨_, rfl⟩
  rw [show nI how = nI hw_ from by rw [h_hw]] at hl
  rw [show nI ((10 * a) + b) = nI fi from by rw [h_fi]] at hl
  rw [show nI ((10 * b) + d) = nI la from by rw [h_la]] at hl
  refine lv_iload_n hx hb dX7_command_17 rfl (lv_at hl 3 rfl) ?_
  rcases (show hw_ = 1 ∨ hw_ = 2 ∨ hw_ = 3 ∨ hw_ = 4 ∨ hw_ = 5 ∨ hw_ = 6 ∨ hw_ = 7 ∨ hw_ = 8 ∨ hw_ = 9 ∨ hw_ = 0 by omega) with h_h | h_h | h_h | h_h | h_h | h_h | h_h | h_h | h_h | h_h
  ·
    rw [show nI (hw_) = nI 1 from congrArg nI h_h]
    have h_h : how = 1 := by omega
    refine lv_tableIn (off := 50) (tgt := 68) hx hb dX7_command_18 (by decide) (by decide) (by decide) (by decide) ?_
    refine lv_aload_n hx hb dX7_command_68 rfl (lv_at hl 2 rfl) ?_
    refine va_get (D := G.1) (ci := 4) (v := .ref mtr) (C := RX7) (T := TX7) (N := 11) hx hb hts in_c_X7_command_X7 hown hK.1 hP 0 rfl rfl 4 (by decide) (hts (.fieldLink RX7 16 "FloorPanelsModel" "trial" "[I") (by decide +kernel)) (fun _ h9 => h9) rfl dX7_command_69 ?_
    refine lv_iload hx hb dX7_command_72 (lv_at hl 1 rfl) ?_
    refine lv_iload hx hb dX7_command_74 (lv_at hl 6 rfl) ?_
    by_cases h_q : fi ≤ u.1 ∧ d < 4 ∧ u.1 < 16
    ·
      refine cRS (As := [.ref mtr, .int (nI fi), .int (nI d)]) (rest := []) (v := .int (nI (wna u.1 (fi : Int) (d : Int)))) ⟨hx, hb, hml, hown, hts⟩ (c_X7_whyNotAdd_n l G mtr u.1 u.2.1 u.2.2.1 tm fi d (by first | omega | assumption) (by omega) (by omega)) (va_cwS 3 hts gX7_command_X7_whyNotAdd rfl rfl rfl (by decide +kernel) ⟨Nat.le_of_ble_eq_true rfl, Nat.le_of_ble_eq_true rfl⟩) (preS_of hK hP hD [1] (by decide) rfl) rfl hl.1 rfl (lv_room (Nat.le_of_ble_eq_true rfl)) dX7_command_76 ⟨Nat.zero_le _, Nat.zero_le _⟩ ?_
      rw [show (nI (wna u.1 (fi : Int) (d : Int))) = nI 0 from congrArg nI (wna_ok h_q.1 h_q.2.1 h_q.2.2)]
      refine b0_ne (tgt := 100) hx hb dX7_command_79 (by decide) (nI_i (by omega)) (fun c_79 => False.elim (by omega)) (fun c_79 => ?_)
      refine lv_aload_n hx hb dX7_command_82 rfl (lv_at hl 2 rfl) ?_
      refine va_get (D := G.1) (ci := 4) (v := .ref mtr) (C := RX7) (T := TX7) (N := 11) hx hb hts in_c_X7_command_X7 hown hK.1 hP 0 rfl rfl 4 (by decide) (hts (.fieldLink RX7 16 "FloorPanelsModel" "trial" "[I") (by decide +kernel)) (fun _ h9 => h9) rfl dX7_command_83 ?_
      refine lv_iload hx hb dX7_command_86 (lv_at hl 1 rfl) ?_
      refine lv_iload hx hb dX7_command_88 (lv_at hl 6 rfl) ?_
      refine cWS (As := [.ref mtr, .int (nI fi), .int (nI d)]) (rest := []) (st1 := [.int (nI (u.1 + 1))]) (w3 := [(M, .inr (4, [.int (nI rf), .ref mt, .int (nI sz), .ref mn, .ref mtr, .ref md, .int (nI ac), .ref mk, .ref mik, .ref na, .ref so])), (mtr, .inl (G.2 0, 131, .inl (mr (u.1 + 1) (nI (insG fi u.2.1)) u.2.2.1 (fum fi (nI d) (sm fi u.1 fi tm))))), (na, .inl (G.2 0, 16, .inl nf)), (so, .inl (G.2 0, 16, .inl sf))]) ⟨hx, hb, hml, hown, hts⟩ (c_X7_insert l G mtr u.1 u.2.1 u.2.2.1 tm fi (nI d) (by first | omega | assumption) (by first | omega | assumption) (by first | omega | assumption) (by first | omega | assumption)) (va_cwS 3 hts gX7_command_X7_insert rfl rfl rfl (by decide +kernel) ⟨Nat.le_of_ble_eq_true rfl, Nat.le_of_ble_eq_true rfl⟩) (preS_of hK hP hD [1] (by decide) rfl) rfl hl.1 rfl (lv_room (Nat.le_of_ble_eq_true rfl)) dX7_command_90 ⟨Nat.zero_le _, Nat.zero_le _⟩ hP hD hS [1] (by decide) rfl (Eq.trans (b := [mtr]) rfl rfl) (rfl) rfl (fun H locs hP hD hS => ?_)
      refine b0_le (tgt := 100) hx hb dX7_command_93 (by decide) (nI_i (by omega)) (fun c_93 => False.elim (by omega)) (fun c_93 => ?_)
      refine lv_iconst (v := nI 1) hx hb dX7_command_96 (by decide) ?_
      refine lv_goto (tgt := 101) hx hb dX7_command_97 (by decide) ?_
      exact Y_z (x := (fum fi (nI d) (sm fi u.1 fi tm), nf, sf)) (by show MRu (scm how a b d u) _; first | (rw [scm_1f h_h (by omega)]; exact h_R) | (rw [scm_1t h_h (by omega), ← h_fi]; exact mu_Add h_R h_u2 (by omega) (by omega))) hx hb hr hlk dX7_command_101 hP hS ((zb_t (by first | exact (sok_1 h_h).mpr (by omega) | exact fun z_ => absurd ((sok_1 h_h).mp z_) (by omega))).symm) (by first | (rw [scm_1t h_h (by omega), ← h_fi]; rfl) | rw [scm_1f h_h (by omega)]) zb_nar
    ·
      refine cRS (As := [.ref mtr, .int (nI fi), .int (nI d)]) (rest := []) (v := .int (nI (wna u.1 (fi : Int) (d : Int)))) ⟨hx, hb, hml, hown, hts⟩ (c_X7_whyNotAdd_n l G mtr u.1 u.2.1 u.2.2.1 tm fi d (by first | omega | assumption) (by omega) (by omega)) (va_cwS 3 hts gX7_command_X7_whyNotAdd rfl rfl rfl (by decide +kernel) ⟨Nat.le_of_ble_eq_true rfl, Nat.le_of_ble_eq_true rfl⟩) (preS_of hK hP hD [1] (by decide) rfl) rfl hl.1 rfl (lv_room (Nat.le_of_ble_eq_true rfl)) dX7_command_76 ⟨Nat.zero_le _, Nat.zero_le _⟩ ?_
      have h_w1 := wna_no h_q h_n
      have h_w2 := wna_le u.1 (fi : Int) (d : Int)
      refine b0_ne (tgt := 100) hx hb dX7_command_79 (by decide) (nI_i (by omega)) (fun c_79 => ?_) (fun c_79 => False.elim (by omega))
      refine lv_iconst (v := nI 0) hx hb dX7_command_100 (by decide) ?_
      exact Y_z (x := (tm, nf, sf)) (by show MRu (scm how a b d u) _; first | (rw [scm_1f h_h (by omega)]; exact h_R) | (rw [scm_1t h_h (by omega), ← h_fi]; exact mu_Add h_R h_u2 (by omega) (by omega))) hx hb hr hlk dX7_command_101 hP hS ((zb_f (by first | exact (sok_1 h_h).mpr (by omega) | exact fun z_ => absurd ((sok_1 h_h).mp z_) (by omega))).symm) (by first | (rw [scm_1t h_h (by omega), ← h_fi]; rfl) | rw [scm_1f h_h (by omega)]) zb_nar
  ·
    rw [show nI (hw_) = nI 2 from congrArg nI h_h]
    have h_h : how = 2 := by omega
    refine lv_tableIn (off := 84) (tgt := 102) hx hb dX7_command_18 (by decide) (by decide) (by decide) (by decide) ?_
    refine lv_iload hx hb dX7_command_102 (lv_at hl 6 rfl) ?_
    refine b0_ne (tgt := 135) hx hb dX7_command_104 (by decide) (nI_i (by omega)) (fun c_104 => ?_) (fun c_104 => ?_)
    ·
      refine lv_iconst (v := nI 0) hx hb dX7_command_135 (by decide) ?_
      exact Y_z (x := (tm, nf, sf)) (by show MRu (scm how a b d u) _; first | (rw [scm_2f h_h (by omega)]; exact h_R) | (rw [scm_2t h_h (by omega), ← h_fi]; exact mu_Del h_R h_u2 (by omega) (by omega))) hx hb hr hlk dX7_command_136 hP hS ((zb_f (by first | exact (sok_2 h_h).mpr (by omega) | exact fun z_ => absurd ((sok_2 h_h).mp z_) (by omega))).symm) (by first | (rw [scm_2t h_h (by omega), ← h_fi]; rfl) | rw [scm_2f h_h (by omega)]) zb_nar
    ·
      refine lv_aload_n hx hb dX7_command_107 rfl (lv_at hl 2 rfl) ?_
      refine va_get (D := G.1) (ci := 4) (v := .ref mtr) (C := RX7) (T := TX7) (N := 11) hx hb hts in_c_X7_command_X7 hown hK.1 hP 0 rfl rfl 4 (by decide) (hts (.fieldLink RX7 16 "FloorPanelsModel" "trial" "[I") (by decide +kernel)) (fun _ h9 => h9) rfl dX7_command_108 ?_
      refine lv_iload hx hb dX7_command_111 (lv_at hl 1 rfl) ?_
      by_cases h_q : fi < u.1 ∧ fi ≠ u.2.1
      ·
        refine cRS (As := [.ref mtr, .int (nI fi)]) (rest := []) (v := .int (nI (wnr u.1 u.2.1 (fi : Int)))) ⟨hx, hb, hml, hown, hts⟩ (c_X7_whyNotRemove_n l G mtr u.1 u.2.1 u.2.2.1 tm fi (by first | omega | assumption) (by first | omega | assumption) (by first | omega | assumption) (by first | omega | assumption)) (va_cwS 2 hts gX7_command_X7_whyNotRemove rfl rfl rfl (by decide +kernel) ⟨Nat.le_of_ble_eq_true rfl, Nat.le_of_ble_eq_true rfl⟩) (preS_of hK hP hD [1] (by decide) rfl) rfl hl.1 rfl (lv_room (Nat.le_of_ble_eq_true rfl)) dX7_command_113 ⟨Nat.zero_le _, Nat.zero_le _⟩ ?_
        rw [show (nI (wnr u.1 u.2.1 (fi : Int))) = nI 0 from congrArg nI (wnr_ok h_q.1 h_q.2)]
        refine b0_ne (tgt := 135) hx hb dX7_command_116 (by decide) (nI_i (by omega)) (fun c_116 => False.elim (by omega)) (fun c_116 => ?_)
        refine lv_aload_n hx hb dX7_command_119 rfl (lv_at hl 2 rfl) ?_
        refine va_get (D := G.1) (ci := 4) (v := .ref mtr) (C := RX7) (T := TX7) (N := 11) hx hb hts in_c_X7_command_X7 hown hK.1 hP 0 rfl rfl 4 (by decide) (hts (.fieldLink RX7 16 "FloorPanelsModel" "trial" "[I") (by decide +kernel)) (fun _ h9 => h9) rfl dX7_command_120 ?_
        refine lv_iload hx hb dX7_command_123 (lv_at hl 1 rfl) ?_
        refine cWS (As := [.ref mtr, .int (nI fi)]) (rest := []) (st1 := [.int (nI (u.1 - 1))]) (w3 := [(M, .inr (4, [.int (nI rf), .ref mt, .int (nI sz), .ref mn, .ref mtr, .ref md, .int (nI ac), .ref mk, .ref mik, .ref na, .ref so])), (mtr, .inl (G.2 0, 131, .inl (mr (u.1 - 1) (nI (delG fi u.2.1)) u.2.2.1 (dm fi (u.1 - 1) (u.1 - 1) tm)))), (na, .inl (G.2 0, 16, .inl nf)), (so, .inl (G.2 0, 16, .inl sf))]) ⟨hx, hb, hml, hown, hts⟩ (c_X7_removeOn l G mtr u.1 u.2.1 u.2.2.1 tm fi (by first | omega | assumption) (by first | omega | assumption) (by first | omega | assumption) (by first | omega | assumption)) (va_cwS 2 hts gX7_command_X7_removeOn rfl rfl rfl (by decide +kernel) ⟨Nat.le_of_ble_eq_true rfl, Nat.le_of_ble_eq_true rfl⟩) (preS_of hK hP hD [1] (by decide) rfl) rfl hl.1 rfl (lv_room (Nat.le_of_ble_eq_true rfl)) dX7_command_125 ⟨Nat.zero_le _, Nat.zero_le _⟩ hP hD hS [1] (by decide) rfl (Eq.trans (b := [mtr]) rfl rfl) (rfl) rfl (fun H locs hP hD hS => ?_)
        refine b0_le (tgt := 135) hx hb dX7_command_128 (by decide) (nI_i (by omega)) (fun c_128 => False.elim (by omega)) (fun c_128 => ?_)
        refine lv_iconst (v := nI 1) hx hb dX7_command_131 (by decide) ?_
        refine lv_goto (tgt := 136) hx hb dX7_command_132 (by decide) ?_
        exact Y_z (x := (dm fi (u.1 - 1) (u.1 - 1) tm, nf, sf)) (by show MRu (scm how a b d u) _; first | (rw [scm_2f h_h (by omega)]; exact h_R) | (rw [scm_2t h_h (by omega), ← h_fi]; exact mu_Del h_R h_u2 (by omega) (by omega))) hx hb hr hlk dX7_command_136 hP hS ((zb_t (by first | exact (sok_2 h_h).mpr (by omega) | exact fun z_ => absurd ((sok_2 h_h).mp z_) (by omega))).symm) (by first | (rw [scm_2t h_h (by omega), ← h_fi]; rfl) | rw [scm_2f h_h (by omega)]) zb_nar
      ·
        refine cRS (As := [.ref mtr, .int (nI fi)]) (rest := []) (v := .int (nI (wnr u.1 u.2.1 (fi : Int)))) ⟨hx, hb, hml, hown, hts⟩ (c_X7_whyNotRemove_n l G mtr u.1 u.2.1 u.2.2.1 tm fi (by first | omega | assumption) (by first | omega | assumption) (by first | omega | assumption) (by first | omega | assumption)) (va_cwS 2 hts gX7_command_X7_whyNotRemove rfl rfl rfl (by decide +kernel) ⟨Nat.le_of_ble_eq_true rfl, Nat.le_of_ble_eq_true rfl⟩) (preS_of hK hP hD [1] (by decide) rfl) rfl hl.1 rfl (lv_room (Nat.le_of_ble_eq_true rfl)) dX7_command_113 ⟨Nat.zero_le _, Nat.zero_le _⟩ ?_
        have h_w1 := wnr_no h_q
        have h_w2 := wnr_le u.1 u.2.1 (fi : Int)
        refine b0_ne (tgt := 135) hx hb dX7_command_116 (by decide) (nI_i (by omega)) (fun c_116 => ?_) (fun c_116 => False.elim (by omega))
        refine lv_iconst (v := nI 0) hx hb dX7_command_135 (by decide) ?_
        exact Y_z (x := (tm, nf, sf)) (by show MRu (scm how a b d u) _; first | (rw [scm_2f h_h (by omega)]; exact h_R) | (rw [scm_2t h_h (by omega), ← h_fi]; exact mu_Del h_R h_u2 (by omega) (by omega))) hx hb hr hlk dX7_command_136 hP hS ((zb_f (by first | exact (sok_2 h_h).mpr (by omega) | exact fun z_ => absurd ((sok_2 h_h).mp z_) (by omega))).symm) (by first | (rw [scm_2t h_h (by omega), ← h_fi]; rfl) | rw [scm_2f h_h (by omega)]) zb_nar
  ·
    rw [show nI (hw_) = nI 3 from congrArg nI h_h]
    have h_h : how = 3 := by omega
    refine lv_tableIn (off := 119) (tgt := 137) hx hb dX7_command_18 (by decide) (by decide) (by decide) (by decide) ?_
    refine lv_aload_n hx hb dX7_command_137 rfl (lv_at hl 2 rfl) ?_
    refine va_get (D := G.1) (ci := 4) (v := .ref mtr) (C := RX7) (T := TX7) (N := 11) hx hb hts in_c_X7_command_X7 hown hK.1 hP 0 rfl rfl 4 (by decide) (hts (.fieldLink RX7 16 "FloorPanelsModel" "trial" "[I") (by decide +kernel)) (fun _ h9 => h9) rfl dX7_command_138 ?_
    refine lv_iload hx hb dX7_command_141 (lv_at hl 1 rfl) ?_
    refine lv_iload hx hb dX7_command_143 (lv_at hl 6 rfl) ?_
    by_cases h_q : fi < u.1 ∧ d < 4 ∧ ¬ (fi = u.2.1 ∧ d ≠ 0)
    ·
      refine cRS (As := [.ref mtr, .int (nI fi), .int (nI d)]) (rest := []) (v := .int (nI (wnk u.1 u.2.1 (fi : Int) (d : Int)))) ⟨hx, hb, hml, hown, hts⟩ (c_X7_whyNotKind_n l G mtr u.1 u.2.1 u.2.2.1 tm fi d (by first | omega | assumption) (by first | omega | assumption) (by first | omega | assumption) (by first | omega | assumption) (by omega)) (va_cwS 3 hts gX7_command_X7_whyNotKind rfl rfl rfl (by decide +kernel) ⟨Nat.le_of_ble_eq_true rfl, Nat.le_of_ble_eq_true rfl⟩) (preS_of hK hP hD [1] (by decide) rfl) rfl hl.1 rfl (lv_room (Nat.le_of_ble_eq_true rfl)) dX7_command_145 ⟨Nat.zero_le _, Nat.zero_le _⟩ ?_
      rw [show (nI (wnk u.1 u.2.1 (fi : Int) (d : Int))) = nI 0 from congrArg nI (wnk_ok h_q.1 h_q.2.1 h_q.2.2)]
      refine b0_ne (tgt := 171) hx hb dX7_command_148 (by decide) (nI_i (by omega)) (fun c_148 => False.elim (by omega)) (fun c_148 => ?_)
      refine lv_aload_n hx hb dX7_command_151 rfl (lv_at hl 2 rfl) ?_
      refine va_get (D := G.1) (ci := 4) (v := .ref mtr) (C := RX7) (T := TX7) (N := 11) hx hb hts in_c_X7_command_X7 hown hK.1 hP 0 rfl rfl 4 (by decide) (hts (.fieldLink RX7 16 "FloorPanelsModel" "trial" "[I") (by decide +kernel)) (fun _ h9 => h9) rfl dX7_command_152 ?_
      refine lv_iconst (v := nI 3) hx hb dX7_command_155 (by decide) ?_
      refine lv_iload hx hb dX7_command_156 (lv_at hl 1 rfl) ?_
      refine nv_iadd hx hb dX7_command_158 ?_
      refine lv_iload hx hb dX7_command_159 (lv_at hl 6 rfl) ?_
      refine cWS (As := [.ref mtr, .int (nI (3 + fi)), .int (nI d)]) (rest := []) (st1 := [.int (tm (3 + fi))]) (w3 := [(M, .inr (4, [.int (nI rf), .ref mt, .int (nI sz), .ref mn, .ref mtr, .ref md, .int (nI ac), .ref mk, .ref mik, .ref na, .ref so])), (mtr, .inl (G.2 0, 131, .inl (mr u.1 (nI u.2.1) u.2.2.1 (upd tm (3 + fi) (nI d))))), (na, .inl (G.2 0, 16, .inl nf)), (so, .inl (G.2 0, 16, .inl sf))]) ⟨hx, hb, hml, hown, hts⟩ (c_X7_lay l G mtr u.1 u.2.1 u.2.2.1 tm (3 + fi) (nI d) (by first | omega | assumption)) (va_cwS 3 hts gX7_command_X7_lay rfl rfl rfl (by decide +kernel) ⟨Nat.le_of_ble_eq_true rfl, Nat.le_of_ble_eq_true rfl⟩) (preS_of hK hP hD [1] (by decide) rfl) rfl hl.1 rfl (lv_room (Nat.le_of_ble_eq_true rfl)) dX7_command_161 ⟨Nat.zero_le _, Nat.zero_le _⟩ hP hD hS [1] (by decide) rfl (Eq.trans (b := [mtr]) rfl rfl) (rfl) rfl (fun H locs hP hD hS => ?_)
      refine b0_lt (tgt := 171) hx hb dX7_command_164 (by decide) (toI_r _) (fun c_164 => False.elim (by (have z_ := kd_0 h_R h_u2 (x := fi) (by omega); omega))) (fun c_164 => ?_)
      refine lv_iconst (v := nI 1) hx hb dX7_command_167 (by decide) ?_
      refine lv_goto (tgt := 172) hx hb dX7_command_168 (by decide) ?_
      exact Y_z (x := (upd tm (3 + fi) (nI d), nf, sf)) (by show MRu (scm how a b d u) _; first | (rw [scm_3f h_h (by omega)]; exact h_R) | (rw [scm_3t h_h (by omega), ← h_fi]; exact mu_Knd h_R h_u2 (by omega))) hx hb hr hlk dX7_command_172 hP hS ((zb_t (by first | exact (sok_3 h_h).mpr (by omega) | exact fun z_ => absurd ((sok_3 h_h).mp z_) (by omega))).symm) (by first | (rw [scm_3t h_h (by omega), ← h_fi]; rfl) | rw [scm_3f h_h (by omega)]) zb_nar
    ·
      refine cRS (As := [.ref mtr, .int (nI fi), .int (nI d)]) (rest := []) (v := .int (nI (wnk u.1 u.2.1 (fi : Int) (d : Int)))) ⟨hx, hb, hml, hown, hts⟩ (c_X7_whyNotKind_n l G mtr u.1 u.2.1 u.2.2.1 tm fi d (by first | omega | assumption) (by first | omega | assumption) (by first | omega | assumption) (by first | omega | assumption) (by omega)) (va_cwS 3 hts gX7_command_X7_whyNotKind rfl rfl rfl (by decide +kernel) ⟨Nat.le_of_ble_eq_true rfl, Nat.le_of_ble_eq_true rfl⟩) (preS_of hK hP hD [1] (by decide) rfl) rfl hl.1 rfl (lv_room (Nat.le_of_ble_eq_true rfl)) dX7_command_145 ⟨Nat.zero_le _, Nat.zero_le _⟩ ?_
      have h_w1 := wnk_no h_q
      have h_w2 := wnk_le u.1 u.2.1 (fi : Int) (d : Int)
      refine b0_ne (tgt := 171) hx hb dX7_command_148 (by decide) (nI_i (by omega)) (fun c_148 => ?_) (fun c_148 => False.elim (by omega))
      refine lv_iconst (v := nI 0) hx hb dX7_command_171 (by decide) ?_
      exact Y_z (x := (tm, nf, sf)) (by show MRu (scm how a b d u) _; first | (rw [scm_3f h_h (by omega)]; exact h_R) | (rw [scm_3t h_h (by omega), ← h_fi]; exact mu_Knd h_R h_u2 (by omega))) hx hb hr hlk dX7_command_172 hP hS ((zb_f (by first | exact (sok_3 h_h).mpr (by omega) | exact fun z_ => absurd ((sok_3 h_h).mp z_) (by omega))).symm) (by first | (rw [scm_3t h_h (by omega), ← h_fi]; rfl) | rw [scm_3f h_h (by omega)]) zb_nar
  ·
    rw [show nI (hw_) = nI 4 from congrArg nI h_h]
    have h_h : how = 4 := by omega
    refine lv_tableIn (off := 155) (tgt := 173) hx hb dX7_command_18 (by decide) (by decide) (by decide) (by decide) ?_
    refine lv_iload hx hb dX7_command_173 (lv_at hl 6 rfl) ?_
    refine lv_iconst (v := nI 2) hx hb dX7_command_175 (by decide) ?_
    refine bi_ge (tgt := 214) hx hb dX7_command_176 (by decide) (nI_i (by omega)) (nI_i (by omega)) (fun c_176 => ?_) (fun c_176 => ?_)
    ·
      refine lv_iconst (v := nI 0) hx hb dX7_command_214 (by decide) ?_
      exact Y_z (x := (tm, nf, sf)) (by show MRu (scm how a b d u) _; first | (rw [scm_4f h_h (by omega)]; exact h_R) | (rw [scm_4t h_h (by omega), ← h_fi]; exact mu_Skp h_R h_u2)) hx hb hr hlk dX7_command_215 hP hS ((zb_f (by first | exact (sok_4 h_h).mpr (by omega) | exact fun z_ => absurd ((sok_4 h_h).mp z_) (by omega))).symm) (by first | (rw [scm_4t h_h (by omega), ← h_fi]; rfl) | rw [scm_4f h_h (by omega)]) zb_nar
    ·
      refine lv_iload hx hb dX7_command_179 (lv_at hl 1 rfl) ?_
      refine cRS (As := [.int (nI fi)]) (rest := []) (v := .int (zb (1 ≤ fi ∧ fi ≤ 30))) ⟨hx, hb, hml, hown, hts⟩ (c_X7_isStorey_n l G fi (by first | omega | assumption)) (va_cwS 1 hts gX7_command_X7_isStorey rfl rfl rfl (by decide +kernel) ⟨Nat.le_of_ble_eq_true rfl, Nat.le_of_ble_eq_true rfl⟩) (preS_of hK hP hD [] (by decide) rfl) rfl hl.1 rfl (lv_room (Nat.le_of_ble_eq_true rfl)) dX7_command_181 ⟨Nat.zero_le _, Nat.zero_le _⟩ ?_
      refine bb_eq (tgt := 214) hx hb dX7_command_184 (by decide) (fun c_184 => ?_) (fun c_184 => ?_)
      ·
        refine lv_iconst (v := nI 0) hx hb dX7_command_214 (by decide) ?_
        exact Y_z (x := (tm, nf, sf)) (by show MRu (scm how a b d u) _; first | (rw [scm_4f h_h (by omega)]; exact h_R) | (rw [scm_4t h_h (by omega), ← h_fi]; exact mu_Skp h_R h_u2)) hx hb hr hlk dX7_command_215 hP hS ((zb_f (by first | exact (sok_4 h_h).mpr (by omega) | exact fun z_ => absurd ((sok_4 h_h).mp z_) (by omega))).symm) (by first | (rw [scm_4t h_h (by omega), ← h_fi]; rfl) | rw [scm_4f h_h (by omega)]) zb_nar
      ·
        refine lv_aload_n hx hb dX7_command_187 rfl (lv_at hl 2 rfl) ?_
        refine va_get (D := G.1) (ci := 4) (v := .ref mtr) (C := RX7) (T := TX7) (N := 11) hx hb hts in_c_X7_command_X7 hown hK.1 hP 0 rfl rfl 4 (by decide) (hts (.fieldLink RX7 16 "FloorPanelsModel" "trial" "[I") (by decide +kernel)) (fun _ h9 => h9) rfl dX7_command_188 ?_
        refine lv_iload hx hb dX7_command_191 (lv_at hl 1 rfl) ?_
        refine lv_iload hx hb dX7_command_193 (lv_at hl 6 rfl) ?_
        refine lv_iconst (v := nI 1) hx hb dX7_command_195 (by decide) ?_
        refine bi_ne (tgt := 203) hx hb dX7_command_196 (by decide) (nI_i (by omega)) (nI_i (by omega)) (fun c_196 => ?_) (fun c_196 => ?_)
        ·
          refine lv_iconst (v := zb (d = 1)) hx hb dX7_command_203 (zb_f (by omega)).symm ?_
          refine cWS (As := [.ref mtr, .int (nI fi), .int (zb (d = 1))]) (rest := []) (st1 := [.int (nI (ct (fun x_ => 1 ≤ x_ ∧ bt (skp u.2.2.1 fi (d = 1)) x_ = true) 31))]) (w3 := [(M, .inr (4, [.int (nI rf), .ref mt, .int (nI sz), .ref mn, .ref mtr, .ref md, .int (nI ac), .ref mk, .ref mik, .ref na, .ref so])), (mtr, .inl (G.2 0, 131, .inl (mr u.1 (nI u.2.1) (skp u.2.2.1 fi (d = 1)) tm))), (na, .inl (G.2 0, 16, .inl nf)), (so, .inl (G.2 0, 16, .inl sf))]) ⟨hx, hb, hml, hown, hts⟩ (c_X7_skipOn l G mtr u.1 u.2.1 u.2.2.1 tm fi (d = 1) (by first | omega | assumption)) (va_cwS 3 hts gX7_command_X7_skipOn rfl rfl rfl (by decide +kernel) ⟨Nat.le_of_ble_eq_true rfl, Nat.le_of_ble_eq_true rfl⟩) (preS_of hK hP hD [1] (by decide) rfl) rfl hl.1 rfl (lv_room (Nat.le_of_ble_eq_true rfl)) dX7_command_204 ⟨Nat.zero_le _, Nat.zero_le _⟩ hP hD hS [1] (by decide) rfl (Eq.trans (b := [mtr]) rfl rfl) (rfl) rfl (fun H locs hP hD hS => ?_)
          have h_ct := ct_le (fun x_ => 1 ≤ x_ ∧ bt (skp u.2.2.1 fi (d = 1)) x_ = true) 31
          refine b0_lt (tgt := 214) hx hb dX7_command_207 (by decide) (nI_i (by omega)) (fun c_207 => False.elim (by omega)) (fun c_207 => ?_)
          refine lv_iconst (v := nI 1) hx hb dX7_command_210 (by decide) ?_
          refine lv_goto (tgt := 215) hx hb dX7_command_211 (by decide) ?_
          exact Y_z (x := (tm, nf, sf)) (by show MRu (scm how a b d u) _; first | (rw [scm_4f h_h (by omega)]; exact h_R) | (rw [scm_4t h_h (by omega), ← h_fi]; exact mu_Skp h_R h_u2)) hx hb hr hlk dX7_command_215 hP hS ((zb_t (by first | exact (sok_4 h_h).mpr (by omega) | exact fun z_ => absurd ((sok_4 h_h).mp z_) (by omega))).symm) (by first | (rw [scm_4t h_h (by omega), ← h_fi]; rfl) | rw [scm_4f h_h (by omega)]) zb_nar
        ·
          refine lv_iconst (v := zb (d = 1)) hx hb dX7_command_199 (zb_t (by omega)).symm ?_
          refine lv_goto (tgt := 204) hx hb dX7_command_200 (by decide) ?_
          refine cWS (As := [.ref mtr, .int (nI fi), .int (zb (d = 1))]) (rest := []) (st1 := [.int (nI (ct (fun x_ => 1 ≤ x_ ∧ bt (skp u.2.2.1 fi (d = 1)) x_ = true) 31))]) (w3 := [(M, .inr (4, [.int (nI rf), .ref mt, .int (nI sz), .ref mn, .ref mtr, .ref md, .int (nI ac), .ref mk, .ref mik, .ref na, .ref so])), (mtr, .inl (G.2 0, 131, .inl (mr u.1 (nI u.2.1) (skp u.2.2.1 fi (d = 1)) tm))), (na, .inl (G.2 0, 16, .inl nf)), (so, .inl (G.2 0, 16, .inl sf))]) ⟨hx, hb, hml, hown, hts⟩ (c_X7_skipOn l G mtr u.1 u.2.1 u.2.2.1 tm fi (d = 1) (by first | omega | assumption)) (va_cwS 3 hts gX7_command_X7_skipOn rfl rfl rfl (by decide +kernel) ⟨Nat.le_of_ble_eq_true rfl, Nat.le_of_ble_eq_true rfl⟩) (preS_of hK hP hD [1] (by decide) rfl) rfl hl.1 rfl (lv_room (Nat.le_of_ble_eq_true rfl)) dX7_command_204 ⟨Nat.zero_le _, Nat.zero_le _⟩ hP hD hS [1] (by decide) rfl (Eq.trans (b := [mtr]) rfl rfl) (rfl) rfl (fun H locs hP hD hS => ?_)
          have h_ct := ct_le (fun x_ => 1 ≤ x_ ∧ bt (skp u.2.2.1 fi (d = 1)) x_ = true) 31
          refine b0_lt (tgt := 214) hx hb dX7_command_207 (by decide) (nI_i (by omega)) (fun c_207 => False.elim (by omega)) (fun c_207 => ?_)
          refine lv_iconst (v := nI 1) hx hb dX7_command_210 (by decide) ?_
          refine lv_goto (tgt := 215) hx hb dX7_command_211 (by decide) ?_
          exact Y_z (x := (tm, nf, sf)) (by show MRu (scm how a b d u) _; first | (rw [scm_4f h_h (by omega)]; exact h_R) | (rw [scm_4t h_h (by omega), ← h_fi]; exact mu_Skp h_R h_u2)) hx hb hr hlk dX7_command_215 hP hS ((zb_t (by first | exact (sok_4 h_h).mpr (by omega) | exact fun z_ => absurd ((sok_4 h_h).mp z_) (by omega))).symm) (by first | (rw [scm_4t h_h (by omega), ← h_fi]; rfl) | rw [scm_4f h_h (by omega)]) zb_nar
  ·
    rw [show nI (hw_) = nI 5 from congrArg nI h_h]
    have h_h : how = 5 := by omega
    refine lv_tableIn (off := 198) (tgt := 216) hx hb dX7_command_18 (by decide) (by decide) (by decide) (by decide) ?_
    refine lv_iload hx hb dX7_command_216 (lv_at hl 6 rfl) ?_
    refine b0_gt (tgt := 233) hx hb dX7_command_218 (by decide) (nI_i (by omega)) (fun c_218 => ?_) (fun c_218 => ?_)
    ·
      refine lv_iconst (v := nI 0) hx hb dX7_command_233 (by decide) ?_
      exact Y_z (x := (tm, nf, sf)) (by show MRu (scm how a b d u) _; first | (rw [scm_5f h_h (by omega)]; exact h_R) | (rw [scm_5t h_h (by omega), ← h_fi]; exact mu_Sgn h_R h_u2 (by omega))) hx hb hr hlk dX7_command_234 hP hS ((zb_f (by first | exact (sok_5 h_h).mpr (by omega) | exact fun z_ => absurd ((sok_5 h_h).mp z_) (by omega))).symm) (by first | (rw [scm_5t h_h (by omega), ← h_fi]; rfl) | rw [scm_5f h_h (by omega)]) zb_nar
    ·
      refine lv_aload_n hx hb dX7_command_221 rfl (lv_at hl 2 rfl) ?_
      refine va_get (D := G.1) (ci := 4) (v := .ref mtr) (C := RX7) (T := TX7) (N := 11) hx hb hts in_c_X7_command_X7 hown hK.1 hP 0 rfl rfl 4 (by decide) (hts (.fieldLink RX7 16 "FloorPanelsModel" "trial" "[I") (by decide +kernel)) (fun _ h9 => h9) rfl dX7_command_222 ?_
      refine lv_iload hx hb dX7_command_225 (lv_at hl 1 rfl) ?_
      refine cRS (As := [.ref mtr, .int (nI fi)]) (rest := []) (v := .int (zb (fi < u.1))) ⟨hx, hb, hml, hown, hts⟩ (c_X7_isLevel_n l G mtr u.1 u.2.1 u.2.2.1 tm fi (by first | omega | assumption) (by first | omega | assumption) (by first | omega | assumption)) (va_cwS 2 hts gX7_command_X7_isLevel rfl rfl rfl (by decide +kernel) ⟨Nat.le_of_ble_eq_true rfl, Nat.le_of_ble_eq_true rfl⟩) (preS_of hK hP hD [1] (by decide) rfl) rfl hl.1 rfl (lv_room (Nat.le_of_ble_eq_true rfl)) dX7_command_227 ⟨Nat.zero_le _, Nat.zero_le _⟩ ?_
      refine bb_ne (tgt := 235) hx hb dX7_command_230 (by decide) (fun c_230 => ?_) (fun c_230 => ?_)
      ·
        refine lv_aload_n hx hb dX7_command_235 rfl (lv_at hl 2 rfl) ?_
        refine lv_aload_n hx hb dX7_command_236 rfl (lv_at hl 2 rfl) ?_
        refine va_get (D := G.1) (ci := 4) (v := .ref mtr) (C := RX7) (T := TX7) (N := 11) hx hb hts in_c_X7_command_X7 hown hK.1 hP 0 rfl rfl 4 (by decide) (hts (.fieldLink RX7 16 "FloorPanelsModel" "trial" "[I") (by decide +kernel)) (fun _ h9 => h9) rfl dX7_command_237 ?_
        refine lv_iload hx hb dX7_command_240 (lv_at hl 1 rfl) ?_
        refine cWV (As := [.ref mtr, .int (nI fi)]) (rest := []) (st1 := [.int (tm (19 + fi))]) (w3 := [(M, .inr (4, [.int (nI rf), .ref mt, .int (nI sz), .ref mn, .ref mtr, .ref md, .int (nI ac), .ref mk, .ref mik, .ref na, .ref so])), (mtr, .inl (G.2 0, 131, .inl (mr u.1 (nI u.2.1) u.2.2.1 (upd tm (19 + fi) (nm u.2.2.1 (kdm tm) u.2.1 fi))))), (na, .inl (G.2 0, 16, .inl (nmA u.2.2.1 (kdm tm) u.2.1 0 u.1 nf))), (so, .inl (G.2 0, 16, .inl (soA u.2.2.1 (kdm tm) u.2.1 0 u.1 sf)))]) ⟨hx, hb, hml, hown, hts⟩ (c_X7_putSignOn l G M rf mt sz mn mtr md ac mk mik na so mtr u.1 u.2.1 u.2.2.1 tm nf sf fi (by first | omega | assumption) (by first | omega | assumption) (mu_k h_R h_u2) (by first | omega | assumption)) (cwV 2 hts gX7_command_X7_putSignOn rfl rfl rfl (by decide +kernel) ⟨Nat.le_of_ble_eq_true rfl, Nat.le_of_ble_eq_true rfl⟩) (preV_of hK hP hD [0, 1, 2, 3] (by decide) rfl (ci := 4) (q0 := 0) rfl rfl rfl) rfl hl.1 rfl (lv_room (Nat.le_of_ble_eq_true rfl)) dX7_command_242 ⟨Nat.zero_le _, Nat.zero_le _⟩ hP hD hS [0, 1, 2, 3] (by decide) rfl (Eq.trans (b := [M, mtr, na, so]) rfl rfl) (rfl) rfl (fun H locs hP hD hS => ?_)
        refine lv_pop hx hb dX7_command_245 rfl ?_
        refine lv_iconst (v := nI 1) hx hb dX7_command_246 (by decide) ?_
        exact Y_z (x := (upd tm (19 + fi) (nm u.2.2.1 (kdm tm) u.2.1 fi), nmA u.2.2.1 (kdm tm) u.2.1 0 u.1 nf, soA u.2.2.1 (kdm tm) u.2.1 0 u.1 sf)) (by show MRu (scm how a b d u) _; first | (rw [scm_5f h_h (by omega)]; exact h_R) | (rw [scm_5t h_h (by omega), ← h_fi]; exact mu_Sgn h_R h_u2 (by omega))) hx hb hr hlk dX7_command_247 hP hS ((zb_t (by first | exact (sok_5 h_h).mpr (by omega) | exact fun z_ => absurd ((sok_5 h_h).mp z_) (by omega))).symm) (by first | (rw [scm_5t h_h (by omega), ← h_fi]; rfl) | rw [scm_5f h_h (by omega)]) zb_nar
      ·
        refine lv_iconst (v := nI 0) hx hb dX7_command_233 (by decide) ?_
        exact Y_z (x := (tm, nf, sf)) (by show MRu (scm how a b d u) _; first | (rw [scm_5f h_h (by omega)]; exact h_R) | (rw [scm_5t h_h (by omega), ← h_fi]; exact mu_Sgn h_R h_u2 (by omega))) hx hb hr hlk dX7_command_234 hP hS ((zb_f (by first | exact (sok_5 h_h).mpr (by omega) | exact fun z_ => absurd ((sok_5 h_h).mp z_) (by omega))).symm) (by first | (rw [scm_5t h_h (by omega), ← h_fi]; rfl) | rw [scm_5f h_h (by omega)]) zb_nar
  ·
    rw [show nI (hw_) = nI 6 from congrArg nI h_h]
    have h_h : how = 6 := by omega
    refine lv_tableIn (off := 230) (tgt := 248) hx hb dX7_command_18 (by decide) (by decide) (by decide) (by decide) ?_
    refine lv_iload_n hx hb dX7_command_248 rfl (lv_at hl 4 rfl) ?_
    refine cRS (As := [.int (nI a)]) (rest := []) (v := .int (zb (a < 3))) ⟨hx, hb, hml, hown, hts⟩ (c_X7_isCar_n l G a (by first | omega | assumption)) (va_cwS 1 hts gX7_command_X7_isCar rfl rfl rfl (by decide +kernel) ⟨Nat.le_of_ble_eq_true rfl, Nat.le_of_ble_eq_true rfl⟩) (preS_of hK hP hD [] (by decide) rfl) rfl hl.1 rfl (lv_room (Nat.le_of_ble_eq_true rfl)) dX7_command_249 ⟨Nat.zero_le _, Nat.zero_le _⟩ ?_
    refine bb_eq (tgt := 267) hx hb dX7_command_252 (by decide) (fun c_252 => ?_) (fun c_252 => ?_)
    ·
      refine lv_iconst (v := nI 0) hx hb dX7_command_267 (by decide) ?_
      exact Y_z (x := (tm, nf, sf)) (by show MRu (scm how a b d u) _; first | (rw [scm_6f h_h (by omega)]; exact h_R) | (rw [scm_6t h_h (by omega), ← h_la]; exact mu_Btn h_R h_u2 (by omega) (by omega))) hx hb hr hlk dX7_command_268 hP hS ((zb_f (by first | exact (sok_6 h_h).mpr (by omega) | exact fun z_ => absurd ((sok_6 h_h).mp z_) (by omega))).symm) (by first | (rw [scm_6t h_h (by omega), ← h_la]; rfl) | rw [scm_6f h_h (by omega)]) zb_nar
    ·
      refine lv_aload_n hx hb dX7_command_255 rfl (lv_at hl 2 rfl) ?_
      refine va_get (D := G.1) (ci := 4) (v := .ref mtr) (C := RX7) (T := TX7) (N := 11) hx hb hts in_c_X7_command_X7 hown hK.1 hP 0 rfl rfl 4 (by decide) (hts (.fieldLink RX7 16 "FloorPanelsModel" "trial" "[I") (by decide +kernel)) (fun _ h9 => h9) rfl dX7_command_256 ?_
      refine lv_iload hx hb dX7_command_259 (lv_at hl 0 rfl) ?_
      refine cRS (As := [.ref mtr, .int (nI la)]) (rest := []) (v := .int (zb (la < u.1))) ⟨hx, hb, hml, hown, hts⟩ (c_X7_isLevel_n l G mtr u.1 u.2.1 u.2.2.1 tm la (by first | omega | assumption) (by first | omega | assumption) (by first | omega | assumption)) (va_cwS 2 hts gX7_command_X7_isLevel rfl rfl rfl (by decide +kernel) ⟨Nat.le_of_ble_eq_true rfl, Nat.le_of_ble_eq_true rfl⟩) (preS_of hK hP hD [1] (by decide) rfl) rfl hl.1 rfl (lv_room (Nat.le_of_ble_eq_true rfl)) dX7_command_261 ⟨Nat.zero_le _, Nat.zero_le _⟩ ?_
      refine bb_ne (tgt := 269) hx hb dX7_command_264 (by decide) (fun c_264 => ?_) (fun c_264 => ?_)
      ·
        refine lv_aload_n hx hb dX7_command_269 rfl (lv_at hl 2 rfl) ?_
        refine lv_aload_n hx hb dX7_command_270 rfl (lv_at hl 2 rfl) ?_
        refine va_get (D := G.1) (ci := 4) (v := .ref mtr) (C := RX7) (T := TX7) (N := 11) hx hb hts in_c_X7_command_X7 hown hK.1 hP 0 rfl rfl 4 (by decide) (hts (.fieldLink RX7 16 "FloorPanelsModel" "trial" "[I") (by decide +kernel)) (fun _ h9 => h9) rfl dX7_command_271 ?_
        refine lv_iload_n hx hb dX7_command_274 rfl (lv_at hl 4 rfl) ?_
        refine lv_iload hx hb dX7_command_275 (lv_at hl 0 rfl) ?_
        refine cWV (As := [.ref mtr, .int (nI a), .int (nI la)]) (rest := []) (st1 := [.int (tm (35 + 16 * a + la))]) (w3 := [(M, .inr (4, [.int (nI rf), .ref mt, .int (nI sz), .ref mn, .ref mtr, .ref md, .int (nI ac), .ref mk, .ref mik, .ref na, .ref so])), (mtr, .inl (G.2 0, 131, .inl (mr u.1 (nI u.2.1) u.2.2.1 (upd tm (35 + 16 * a + la) (nm u.2.2.1 (kdm tm) u.2.1 la))))), (na, .inl (G.2 0, 16, .inl (nmA u.2.2.1 (kdm tm) u.2.1 0 u.1 nf))), (so, .inl (G.2 0, 16, .inl (soA u.2.2.1 (kdm tm) u.2.1 0 u.1 sf)))]) ⟨hx, hb, hml, hown, hts⟩ (c_X7_putButtonOn l G M rf mt sz mn mtr md ac mk mik na so mtr u.1 u.2.1 u.2.2.1 tm nf sf a la (by first | omega | assumption) (by first | omega | assumption) (mu_k h_R h_u2) (by first | omega | assumption) (by first | omega | assumption)) (cwV 3 hts gX7_command_X7_putButtonOn rfl rfl rfl (by decide +kernel) ⟨Nat.le_of_ble_eq_true rfl, Nat.le_of_ble_eq_true rfl⟩) (preV_of hK hP hD [0, 1, 2, 3] (by decide) rfl (ci := 4) (q0 := 0) rfl rfl rfl) rfl hl.1 rfl (lv_room (Nat.le_of_ble_eq_true rfl)) dX7_command_277 ⟨Nat.zero_le _, Nat.zero_le _⟩ hP hD hS [0, 1, 2, 3] (by decide) rfl (Eq.trans (b := [M, mtr, na, so]) rfl rfl) (rfl) rfl (fun H locs hP hD hS => ?_)
        refine lv_pop hx hb dX7_command_280 rfl ?_
        refine lv_iconst (v := nI 1) hx hb dX7_command_281 (by decide) ?_
        exact Y_z (x := (upd tm (35 + 16 * a + la) (nm u.2.2.1 (kdm tm) u.2.1 la), nmA u.2.2.1 (kdm tm) u.2.1 0 u.1 nf, soA u.2.2.1 (kdm tm) u.2.1 0 u.1 sf)) (by show MRu (scm how a b d u) _; first | (rw [scm_6f h_h (by omega)]; exact h_R) | (rw [scm_6t h_h (by omega), ← h_la]; exact mu_Btn h_R h_u2 (by omega) (by omega))) hx hb hr hlk dX7_command_282 hP hS ((zb_t (by first | exact (sok_6 h_h).mpr (by omega) | exact fun z_ => absurd ((sok_6 h_h).mp z_) (by omega))).symm) (by first | (rw [scm_6t h_h (by omega), ← h_la]; rfl) | rw [scm_6f h_h (by omega)]) zb_nar
      ·
        refine lv_iconst (v := nI 0) hx hb dX7_command_267 (by decide) ?_
        exact Y_z (x := (tm, nf, sf)) (by show MRu (scm how a b d u) _; first | (rw [scm_6f h_h (by omega)]; exact h_R) | (rw [scm_6t h_h (by omega), ← h_la]; exact mu_Btn h_R h_u2 (by omega) (by omega))) hx hb hr hlk dX7_command_268 hP hS ((zb_f (by first | exact (sok_6 h_h).mpr (by omega) | exact fun z_ => absurd ((sok_6 h_h).mp z_) (by omega))).symm) (by first | (rw [scm_6t h_h (by omega), ← h_la]; rfl) | rw [scm_6f h_h (by omega)]) zb_nar
  ·
    rw [show nI (hw_) = nI 7 from congrArg nI h_h]
    have h_h : how = 7 := by omega
    refine lv_tableIn (off := 265) (tgt := 283) hx hb dX7_command_18 (by decide) (by decide) (by decide) (by decide) ?_
    refine lv_iload hx hb dX7_command_283 (lv_at hl 0 rfl) ?_
    refine b0_ne (tgt := 311) hx hb dX7_command_285 (by decide) (nI_i (by omega)) (fun c_285 => ?_) (fun c_285 => ?_)
    ·
      refine lv_iconst (v := nI 0) hx hb dX7_command_311 (by decide) ?_
      exact Y_z (x := (tm, nf, sf)) (by show MRu (scm how a b d u) _; first | (rw [scm_7f h_h (by omega)]; exact h_R) | (rw [scm_7t h_h (by omega)]; exact mu_Car h_R h_u2 (by omega))) hx hb hr hlk dX7_command_312 hP hS ((zb_f (by first | exact (sok_7 h_h).mpr (by omega) | exact fun z_ => absurd ((sok_7 h_h).mp z_) (by omega))).symm) (by first | (rw [scm_7t h_h (by omega)]; rfl) | rw [scm_7f h_h (by omega)]) zb_nar
    ·
      refine lv_iload_n hx hb dX7_command_288 rfl (lv_at hl 4 rfl) ?_
      refine cRS (As := [.int (nI a)]) (rest := []) (v := .int (zb (a < 3))) ⟨hx, hb, hml, hown, hts⟩ (c_X7_isCar_n l G a (by first | omega | assumption)) (va_cwS 1 hts gX7_command_X7_isCar rfl rfl rfl (by decide +kernel) ⟨Nat.le_of_ble_eq_true rfl, Nat.le_of_ble_eq_true rfl⟩) (preS_of hK hP hD [] (by decide) rfl) rfl hl.1 rfl (lv_room (Nat.le_of_ble_eq_true rfl)) dX7_command_289 ⟨Nat.zero_le _, Nat.zero_le _⟩ ?_
      refine bb_eq (tgt := 311) hx hb dX7_command_292 (by decide) (fun c_292 => ?_) (fun c_292 => ?_)
      ·
        refine lv_iconst (v := nI 0) hx hb dX7_command_311 (by decide) ?_
        exact Y_z (x := (tm, nf, sf)) (by show MRu (scm how a b d u) _; first | (rw [scm_7f h_h (by omega)]; exact h_R) | (rw [scm_7t h_h (by omega)]; exact mu_Car h_R h_u2 (by omega))) hx hb hr hlk dX7_command_312 hP hS ((zb_f (by first | exact (sok_7 h_h).mpr (by omega) | exact fun z_ => absurd ((sok_7 h_h).mp z_) (by omega))).symm) (by first | (rw [scm_7t h_h (by omega)]; rfl) | rw [scm_7f h_h (by omega)]) zb_nar
      ·
        refine lv_aload_n hx hb dX7_command_295 rfl (lv_at hl 2 rfl) ?_
        refine lv_aload_n hx hb dX7_command_296 rfl (lv_at hl 2 rfl) ?_
        refine va_get (D := G.1) (ci := 4) (v := .ref mtr) (C := RX7) (T := TX7) (N := 11) hx hb hts in_c_X7_command_X7 hown hK.1 hP 0 rfl rfl 4 (by decide) (hts (.fieldLink RX7 16 "FloorPanelsModel" "trial" "[I") (by decide +kernel)) (fun _ h9 => h9) rfl dX7_command_297 ?_
        refine lv_iload_n hx hb dX7_command_300 rfl (lv_at hl 4 rfl) ?_
        refine cWV (As := [.ref mtr, .int (nI a)]) (rest := []) (st1 := [.int (nI (mwr u.2.2.1 tm u.2.1 (35 + 16 * a) u.1))]) (w3 := [(M, .inr (4, [.int (nI rf), .ref mt, .int (nI sz), .ref mn, .ref mtr, .ref md, .int (nI ac), .ref mk, .ref mik, .ref na, .ref so])), (mtr, .inl (G.2 0, 131, .inl (mr u.1 (nI u.2.1) u.2.2.1 (pur tm (35 + 16 * a) (nm u.2.2.1 (kdm tm) u.2.1) u.1)))), (na, .inl (G.2 0, 16, .inl (nmA u.2.2.1 (kdm tm) u.2.1 0 u.1 nf))), (so, .inl (G.2 0, 16, .inl (soA u.2.2.1 (kdm tm) u.2.1 0 u.1 sf)))]) ⟨hx, hb, hml, hown, hts⟩ (c_X7_putCarOn l G M rf mt sz mn mtr md ac mk mik na so mtr u.1 u.2.1 u.2.2.1 tm nf sf a (by first | omega | assumption) (by first | omega | assumption) (mu_k h_R h_u2) (by first | omega | assumption)) (cwV 2 hts gX7_command_X7_putCarOn rfl rfl rfl (by decide +kernel) ⟨Nat.le_of_ble_eq_true rfl, Nat.le_of_ble_eq_true rfl⟩) (preV_of hK hP hD [0, 1, 2, 3] (by decide) rfl (ci := 4) (q0 := 0) rfl rfl rfl) rfl hl.1 rfl (lv_room (Nat.le_of_ble_eq_true rfl)) dX7_command_301 ⟨Nat.zero_le _, Nat.zero_le _⟩ hP hD hS [0, 1, 2, 3] (by decide) rfl (Eq.trans (b := [M, mtr, na, so]) rfl rfl) (rfl) rfl (fun H locs hP hD hS => ?_)
        have h_mw : mwr u.2.2.1 tm u.2.1 (35 + 16 * a) u.1 ≤ u.1 := ct_le _ _
        refine b0_lt (tgt := 311) hx hb dX7_command_304 (by decide) (nI_i (by omega)) (fun c_304 => False.elim (by omega)) (fun c_304 => ?_)
        refine lv_iconst (v := nI 1) hx hb dX7_command_307 (by decide) ?_
        refine lv_goto (tgt := 312) hx hb dX7_command_308 (by decide) ?_
        exact Y_z (x := (pur tm (35 + 16 * a) (nm u.2.2.1 (kdm tm) u.2.1) u.1, nmA u.2.2.1 (kdm tm) u.2.1 0 u.1 nf, soA u.2.2.1 (kdm tm) u.2.1 0 u.1 sf)) (by show MRu (scm how a b d u) _; first | (rw [scm_7f h_h (by omega)]; exact h_R) | (rw [scm_7t h_h (by omega)]; exact mu_Car h_R h_u2 (by omega))) hx hb hr hlk dX7_command_312 hP hS ((zb_t (by first | exact (sok_7 h_h).mpr (by omega) | exact fun z_ => absurd ((sok_7 h_h).mp z_) (by omega))).symm) (by first | (rw [scm_7t h_h (by omega)]; rfl) | rw [scm_7f h_h (by omega)]) zb_nar
  ·
    rw [show nI (hw_) = nI 8 from congrArg nI h_h]
    have h_h : how = 8 := by omega
    refine lv_tableIn (off := 295) (tgt := 313) hx hb dX7_command_18 (by decide) (by decide) (by decide) (by decide) ?_
    refine lv_aload_n hx hb dX7_command_313 rfl (lv_at hl 2 rfl) ?_
    refine lv_aload_n hx hb dX7_command_314 rfl (lv_at hl 2 rfl) ?_
    refine va_get (D := G.1) (ci := 4) (v := .ref mtr) (C := RX7) (T := TX7) (N := 11) hx hb hts in_c_X7_command_X7 hown hK.1 hP 0 rfl rfl 4 (by decide) (hts (.fieldLink RX7 16 "FloorPanelsModel" "trial" "[I") (by decide +kernel)) (fun _ h9 => h9) rfl dX7_command_315 ?_
    refine cWV (As := [.ref mtr]) (rest := []) (st1 := []) (w3 := [(M, .inr (4, [.int (nI rf), .ref mt, .int (nI sz), .ref mn, .ref mtr, .ref md, .int (nI ac), .ref mk, .ref mik, .ref na, .ref so])), (mtr, .inl (G.2 0, 131, .inl (mr u.1 (nI u.2.1) u.2.2.1 tm))), (na, .inl (G.2 0, 16, .inl (nmA u.2.2.1 (kdm tm) u.2.1 0 u.1 nf))), (so, .inl (G.2 0, 16, .inl (soA u.2.2.1 (kdm tm) u.2.1 0 u.1 sf)))]) ⟨hx, hb, hml, hown, hts⟩ (c_X7_name l G M rf mt sz mn mtr md ac mk mik na so mtr u.1 u.2.1 u.2.2.1 tm nf sf (by first | omega | assumption) (by first | omega | assumption) (mu_k h_R h_u2)) (cwV 1 hts gX7_command_X7_name rfl rfl rfl (by decide +kernel) ⟨Nat.le_of_ble_eq_true rfl, Nat.le_of_ble_eq_true rfl⟩) (preV_of hK hP hD [0, 1, 2, 3] (by decide) rfl (ci := 4) (q0 := 0) rfl rfl rfl) rfl hl.1 rfl (lv_room (Nat.le_of_ble_eq_true rfl)) dX7_command_318 ⟨Nat.zero_le _, Nat.zero_le _⟩ hP hD hS [0, 1, 2, 3] (by decide) rfl (Eq.trans (b := [M, mtr, na, so]) rfl rfl) (rfl) rfl (fun H locs hP hD hS => ?_)
    refine lv_iload_n hx hb dX7_command_321 rfl (lv_at hl 4 rfl) ?_
    refine cRS (As := [.int (nI a)]) (rest := []) (v := .int (zb (a < 3))) ⟨hx, hb, hml, hown, hts⟩ (c_X7_isCar_n l G a (by first | omega | assumption)) (va_cwS 1 hts gX7_command_X7_isCar rfl rfl rfl (by decide +kernel) ⟨Nat.le_of_ble_eq_true rfl, Nat.le_of_ble_eq_true rfl⟩) (preS_of hK hP hD [] (by decide) rfl) rfl hl.1 rfl (lv_room (Nat.le_of_ble_eq_true rfl)) dX7_command_322 ⟨Nat.zero_le _, Nat.zero_le _⟩ ?_
    refine bb_eq (tgt := 364) hx hb dX7_command_325 (by decide) (fun c_325 => ?_) (fun c_325 => ?_)
    ·
      refine lv_iconst (v := nI 0) hx hb dX7_command_364 (by decide) ?_
      exact Y_z (x := (tm, nmA u.2.2.1 (kdm tm) u.2.1 0 u.1 nf, soA u.2.2.1 (kdm tm) u.2.1 0 u.1 sf)) (by show MRu (scm how a b d u) _; rw [scm_n (by omega)]; exact h_R) hx hb hr hlk dX7_command_365 hP hS ((zb_f (by first | exact (sok_8 h_h).mpr ⟨by omega, by omega, by rw [← h_la]; assumption⟩ | exact fun z_ => absurd ((sok_8 h_h).mp z_) (fun y_ => by first | omega | (rw [← h_la] at y_; exact absurd y_.2.2 (by assumption))))).symm) (by rw [scm_n (by omega)]) zb_nar
    ·
      refine lv_aload_n hx hb dX7_command_328 rfl (lv_at hl 2 rfl) ?_
      refine va_get (D := G.1) (ci := 4) (v := .ref mtr) (C := RX7) (T := TX7) (N := 11) hx hb hts in_c_X7_command_X7 hown hK.1 hP 0 rfl rfl 4 (by decide) (hts (.fieldLink RX7 16 "FloorPanelsModel" "trial" "[I") (by decide +kernel)) (fun _ h9 => h9) rfl dX7_command_329 ?_
      refine lv_iload hx hb dX7_command_332 (lv_at hl 0 rfl) ?_
      refine cRS (As := [.ref mtr, .int (nI la)]) (rest := []) (v := .int (zb (la < u.1))) ⟨hx, hb, hml, hown, hts⟩ (c_X7_isLevel_n l G mtr u.1 u.2.1 u.2.2.1 tm la (by first | omega | assumption) (by first | omega | assumption) (by first | omega | assumption)) (va_cwS 2 hts gX7_command_X7_isLevel rfl rfl rfl (by decide +kernel) ⟨Nat.le_of_ble_eq_true rfl, Nat.le_of_ble_eq_true rfl⟩) (preS_of hK hP hD [1] (by decide) rfl) rfl hl.1 rfl (lv_room (Nat.le_of_ble_eq_true rfl)) dX7_command_334 ⟨Nat.zero_le _, Nat.zero_le _⟩ ?_
      refine bb_eq (tgt := 364) hx hb dX7_command_337 (by decide) (fun c_337 => ?_) (fun c_337 => ?_)
      ·
        refine lv_iconst (v := nI 0) hx hb dX7_command_364 (by decide) ?_
        exact Y_z (x := (tm, nmA u.2.2.1 (kdm tm) u.2.1 0 u.1 nf, soA u.2.2.1 (kdm tm) u.2.1 0 u.1 sf)) (by show MRu (scm how a b d u) _; rw [scm_n (by omega)]; exact h_R) hx hb hr hlk dX7_command_365 hP hS ((zb_f (by first | exact (sok_8 h_h).mpr ⟨by omega, by omega, by rw [← h_la]; assumption⟩ | exact fun z_ => absurd ((sok_8 h_h).mp z_) (fun y_ => by first | omega | (rw [← h_la] at y_; exact absurd y_.2.2 (by assumption))))).symm) (by rw [scm_n (by omega)]) zb_nar
      ·
        refine lv_aload_n hx hb dX7_command_340 rfl (lv_at hl 2 rfl) ?_
        refine va_get (D := G.1) (ci := 4) (v := .ref mtr) (C := RX7) (T := TX7) (N := 11) hx hb hts in_c_X7_command_X7 hown hK.1 hP 0 rfl rfl 4 (by decide) (hts (.fieldLink RX7 16 "FloorPanelsModel" "trial" "[I") (by decide +kernel)) (fun _ h9 => h9) rfl dX7_command_341 ?_
        refine lv_iload_n hx hb dX7_command_344 rfl (lv_at hl 4 rfl) ?_
        refine lv_iload hx hb dX7_command_345 (lv_at hl 0 rfl) ?_
        refine cRS (As := [.ref mtr, .int (nI a), .int (nI la)]) (rest := []) (v := .int (tm (35 + 16 * a + la))) ⟨hx, hb, hml, hown, hts⟩ (c_X7_says l G mtr u.1 u.2.1 u.2.2.1 tm a la (by first | omega | assumption) (by first | omega | assumption)) (va_cwS 3 hts gX7_command_X7_says rfl rfl rfl (by decide +kernel) ⟨Nat.le_of_ble_eq_true rfl, Nat.le_of_ble_eq_true rfl⟩) (preS_of hK hP hD [1] (by decide) rfl) rfl hl.1 rfl (lv_room (Nat.le_of_ble_eq_true rfl)) dX7_command_347 ⟨Nat.zero_le _, Nat.zero_le _⟩ ?_
        rw [show ((tm (35 + 16 * a + la))) = (u.2.2.2 ((3 + a) * 16 + la)) from h_R.2.2.2.1 _ (by omega) _ (by omega)]
        refine lv_aload_n hx hb dX7_command_350 rfl (lv_at hl 2 rfl) ?_
        refine va_get (D := G.1) (ci := 4) (v := .ref na) (C := RX7) (T := TX7) (N := 11) hx hb hts in_c_X7_command_X7 hown hK.1 hP 0 rfl rfl 9 (by decide) (hts (.fieldLink RX7 29 "FloorPanelsModel" "names" "[I") (by decide +kernel)) (fun _ h9 => h9) rfl dX7_command_351 ?_
        refine lv_iload hx hb dX7_command_354 (lv_at hl 0 rfl) ?_
        refine nv_iald hx hb hK hP 2 rfl (by omega) (by decide) dX7_command_356 ?_
        rw [show (nmA u.2.2.1 (kdm tm) u.2.1 0 u.1 nf) la = (u.2.2.2 (16 + la)) from MRel.nf h_R (by omega)]
        refine lv_icmp_ne (tgt := 364) hx hb dX7_command_357 (by decide) (fun c_357 => ?_) (fun c_357 => ?_)
        ·
          refine lv_iconst (v := nI 0) hx hb dX7_command_364 (by decide) ?_
          exact Y_z (x := (tm, nmA u.2.2.1 (kdm tm) u.2.1 0 u.1 nf, soA u.2.2.1 (kdm tm) u.2.1 0 u.1 sf)) (by show MRu (scm how a b d u) _; rw [scm_n (by omega)]; exact h_R) hx hb hr hlk dX7_command_365 hP hS ((zb_f (by first | exact (sok_8 h_h).mpr ⟨by omega, by omega, by rw [← h_la]; assumption⟩ | exact fun z_ => absurd ((sok_8 h_h).mp z_) (fun y_ => by first | omega | (rw [← h_la] at y_; exact absurd y_.2.2 (by assumption))))).symm) (by rw [scm_n (by omega)]) zb_nar
        ·
          refine lv_iconst (v := nI 1) hx hb dX7_command_360 (by decide) ?_
          refine lv_goto (tgt := 365) hx hb dX7_command_361 (by decide) ?_
          exact Y_z (x := (tm, nmA u.2.2.1 (kdm tm) u.2.1 0 u.1 nf, soA u.2.2.1 (kdm tm) u.2.1 0 u.1 sf)) (by show MRu (scm how a b d u) _; rw [scm_n (by omega)]; exact h_R) hx hb hr hlk dX7_command_365 hP hS ((zb_t (by first | exact (sok_8 h_h).mpr ⟨by omega, by omega, by rw [← h_la]; assumption⟩ | exact fun z_ => absurd ((sok_8 h_h).mp z_) (fun y_ => by first | omega | (rw [← h_la] at y_; exact absurd y_.2.2 (by assumption))))).symm) (by rw [scm_n (by omega)]) zb_nar
  ·
    rw [show nI (hw_) = nI 9 from congrArg nI h_h]
    have h_h : how = 9 := by omega
    refine lv_tableIn (off := 348) (tgt := 366) hx hb dX7_command_18 (by decide) (by decide) (by decide) (by decide) ?_
    refine lv_iload_n hx hb dX7_command_366 rfl (lv_at hl 4 rfl) ?_
    refine b0_ne (tgt := 387) hx hb dX7_command_367 (by decide) (nI_i (by omega)) (fun c_367 => ?_) (fun c_367 => ?_)
    ·
      refine lv_iconst (v := nI 0) hx hb dX7_command_387 (by decide) ?_
      exact Y_z (x := (tm, nf, sf)) (by show MRu (scm how a b d u) _; rw [scm_n (by omega)]; exact h_R) hx hb hr hlk dX7_command_388 hP hS ((zb_f (by first | exact (sok_9 h_h).mpr (by omega) | exact fun z_ => absurd ((sok_9 h_h).mp z_) (by omega))).symm) (by rw [scm_n (by omega)]) zb_nar
    ·
      have h_tw := tw_le u.2.2.2 h_n
      refine lv_aload_n hx hb dX7_command_370 rfl (lv_at hl 2 rfl) ?_
      refine lv_aload_n hx hb dX7_command_371 rfl (lv_at hl 2 rfl) ?_
      refine va_get (D := G.1) (ci := 4) (v := .ref mtr) (C := RX7) (T := TX7) (N := 11) hx hb hts in_c_X7_command_X7 hown hK.1 hP 0 rfl rfl 4 (by decide) (hts (.fieldLink RX7 16 "FloorPanelsModel" "trial" "[I") (by decide +kernel)) (fun _ h9 => h9) rfl dX7_command_372 ?_
      refine cWV (As := [.ref mtr]) (rest := []) (st1 := [.int (nI (mwr u.2.2.1 tm u.2.1 19 u.1 + mwr u.2.2.1 tm u.2.1 35 u.1 + mwr u.2.2.1 tm u.2.1 51 u.1 + mwr u.2.2.1 tm u.2.1 67 u.1))]) (w3 := [(M, .inr (4, [.int (nI rf), .ref mt, .int (nI sz), .ref mn, .ref mtr, .ref md, .int (nI ac), .ref mk, .ref mik, .ref na, .ref so])), (mtr, .inl (G.2 0, 131, .inl (mr u.1 (nI u.2.1) u.2.2.1 tm))), (na, .inl (G.2 0, 16, .inl (nmA u.2.2.1 (kdm tm) u.2.1 0 u.1 nf))), (so, .inl (G.2 0, 16, .inl (soA u.2.2.1 (kdm tm) u.2.1 0 u.1 sf)))]) ⟨hx, hb, hml, hown, hts⟩ (c_X7_wrong l G M rf mt sz mn mtr md ac mk mik na so mtr u.1 u.2.1 u.2.2.1 tm nf sf (by first | omega | assumption) (by first | omega | assumption) (mu_k h_R h_u2)) (cwV 1 hts gX7_command_X7_wrong rfl rfl rfl (by decide +kernel) ⟨Nat.le_of_ble_eq_true rfl, Nat.le_of_ble_eq_true rfl⟩) (preV_of hK hP hD [0, 1, 2, 3] (by decide) rfl (ci := 4) (q0 := 0) rfl rfl rfl) rfl hl.1 rfl (lv_room (Nat.le_of_ble_eq_true rfl)) dX7_command_375 ⟨Nat.zero_le _, Nat.zero_le _⟩ hP hD hS [0, 1, 2, 3] (by decide) rfl (Eq.trans (b := [M, mtr, na, so]) rfl rfl) (rfl) rfl (fun H locs hP hD hS => ?_)
      rw [show (nI (mwr u.2.2.1 tm u.2.1 19 u.1 + mwr u.2.2.1 tm u.2.1 35 u.1 + mwr u.2.2.1 tm u.2.1 51 u.1 + mwr u.2.2.1 tm u.2.1 67 u.1)) = nI (tw u.2.2.2 u.1) from congrArg nI (tw_R h_R)]
      refine lv_iload hx hb dX7_command_378 (lv_at hl 0 rfl) ?_
      refine bi_gt (tgt := 387) hx hb dX7_command_380 (by decide) (nI_i (by omega)) (nI_i (by omega)) (fun c_380 => ?_) (fun c_380 => ?_)
      ·
        refine lv_iconst (v := nI 0) hx hb dX7_command_387 (by decide) ?_
        exact Y_z (x := (tm, nmA u.2.2.1 (kdm tm) u.2.1 0 u.1 nf, soA u.2.2.1 (kdm tm) u.2.1 0 u.1 sf)) (by show MRu (scm how a b d u) _; rw [scm_n (by omega)]; exact h_R) hx hb hr hlk dX7_command_388 hP hS ((zb_f (by first | exact (sok_9 h_h).mpr (by omega) | exact fun z_ => absurd ((sok_9 h_h).mp z_) (by omega))).symm) (by rw [scm_n (by omega)]) zb_nar
      ·
        refine lv_iconst (v := nI 1) hx hb dX7_command_383 (by decide) ?_
        refine lv_goto (tgt := 388) hx hb dX7_command_384 (by decide) ?_
        exact Y_z (x := (tm, nmA u.2.2.1 (kdm tm) u.2.1 0 u.1 nf, soA u.2.2.1 (kdm tm) u.2.1 0 u.1 sf)) (by show MRu (scm how a b d u) _; rw [scm_n (by omega)]; exact h_R) hx hb hr hlk dX7_command_388 hP hS ((zb_t (by first | exact (sok_9 h_h).mpr (by omega) | exact fun z_ => absurd ((sok_9 h_h).mp z_) (by omega))).symm) (by rw [scm_n (by omega)]) zb_nar
  ·
    rw [show nI (hw_) = nI 0 from congrArg nI h_h]
    have h_h : how = 0 := by omega
    refine lv_tableOut (tgt := 389) hx hb dX7_command_18 (by decide) (by decide) ?_
    refine lv_iconst (v := nI 0) hx hb dX7_command_389 (by decide) ?_
    exact Y_z (x := (tm, nf, sf)) (by show MRu (scm how a b d u) _; rw [scm_n (by omega)]; exact h_R) hx hb hr hlk dX7_command_390 hP hS ((zb_f (sok_n (by omega))).symm) (by rw [scm_n (by omega)]) zb_nar

theorem in_c_X7_put_X7 : ∀ w ∈ wsX70, w ∈ wsX7_put := by decide +kernel
set_option maxHeartbeats 4000000 in
set_option maxRecDepth 100000 in
theorem c_X7_put (l : Launch) (G : GG) (M : Nat) (rf : Nat) (mt : Nat) (sz : Nat) (mn : Nat) (mtr : Nat) (md : Nat) (ac : Nat) (mk : Nat) (mik : Nat) (na : Nat) (so : Nat) (u : HS) (tm : Nat → Int32) (nf : Nat → Int32) (sf : Nat → Int32) (r : Nat) (lv : Nat) (h_u : hOK u) (h_R : MRu u tm) (h_r : r < 2147483648) (h_lr : lv = r / 16 % 16) (h_8 : 8 ≤ r % 16) : Met l yX7_put wsX7_put ({ frames := 4, cells := 0, slots := 0, locals := 100 } : Room) (va_Pc [.ref M, .int (nI r), .int (nI lv)] (PB G [(M, .inr (4, [.int (nI rf), .ref mt, .int (nI sz), .ref mn, .ref mtr, .ref md, .int (nI ac), .ref mk, .ref mik, .ref na, .ref so])), (mtr, .inl (G.2 0, 131, .inl (mr u.1 (nI u.2.1) u.2.2.1 tm))), (na, .inl (G.2 0, 16, .inl nf)), (so, .inl (G.2 0, 16, .inl sf))])) (QX G (none) (fun x_ : (Nat → Int32) × (Nat → Int32) × (Nat → Int32) => [(M, .inr (4, [.int (nI rf), .ref mt, .int (nI sz), .ref mn, .ref mtr, .ref md, .int (nI ac), .ref mk, .ref mik, .ref na, .ref so])), (mtr, .inl (G.2 0, 131, .inl (mr ((tur r u).1) (nI (tur r u).2.1) ((tur r u).2.2.1) x_.1))), (na, .inl (G.2 0, 16, .inl x_.2.1)), (so, .inl (G.2 0, 16, .inl x_.2.2))]) (fun x_ : (Nat → Int32) × (Nat → Int32) × (Nat → Int32) => MRu (tur r u) x_.1) (vA [(M, .inr (4, [.int (nI rf), .ref mt, .int (nI sz), .ref mn, .ref mtr, .ref md, .int (nI ac), .ref mk, .ref mik, .ref na, .ref so])), (mtr, .inl (G.2 0, 131, .inl (mr u.1 (nI u.2.1) u.2.2.1 tm))), (na, .inl (G.2 0, 16, .inl nf)), (so, .inl (G.2 0, 16, .inl sf))])) 0 0 (vA [(M, .inr (4, [.int (nI rf), .ref mt, .int (nI sz), .ref mn, .ref mtr, .ref md, .int (nI ac), .ref mk, .ref mik, .ref na, .ref so])), (mtr, .inl (G.2 0, 131, .inl (mr u.1 (nI u.2.1) u.2.2.1 tm))), (na, .inl (G.2 0, 16, .inl nf)), (so, .inl (G.2 0, 16, .inl sf))]) := by
  have h_u2 := h_u
  obtain ⟨h_n1, h_n, h_g, h_f, h_nm, h_kd⟩ := h_u
  refine Met.go (cc := cX7_put) (maxL := 5) (ret := none) (by decide) rfl (Nat.le_of_ble_eq_true rfl) ?_
  intro p e s m below meth c ls hx hb hr hml hown hts hlk hP hK hD hS hl
  have hown : s.vm.findClass RX7 = some m.cls := hown
  have hl : lv_has ls 5 [(0, .ref M), (1, .int (nI r)), (2, .int (nI lv))] := hl
  refine lv_iload_n hx hb dX7_put_0 rfl (lv_at hl 1 rfl) ?_
  refine lv_bipush (v := nI 16) hx hb dX7_put_1 (by decide) ?_
  refine nv_irem hx hb ⟨by omega, by omega, by omega⟩ dX7_put_3 ?_
  refine lv_istore_n (lv' := [(3, .int (nI (r % 16))), (0, .ref M), (1, .int (nI r)), (2, .int (nI lv))]) hx hb dX7_put_4 rfl hl (by decide) rfl (fun ls hl => ?_)
  refine lv_iload_n hx hb dX7_put_5 rfl (lv_at hl 2 rfl) ?_
  refine lv_sipush (v := nI 256) hx hb dX7_put_6 (by decide) ?_
  refine nv_idiv hx hb ⟨by omega, by omega, by omega⟩ dX7_put_9 ?_
  refine lv_iconst (v := nI 3) hx hb dX7_put_10 (by decide) ?_
  refine nv_irem hx hb ⟨by omega, by omega, by omega⟩ dX7_put_11 ?_
  refine lv_istore (lv' := [(4, .int (nI ((r / 256) % 3))), (3, .int (nI (r % 16))), (0, .ref M), (1, .int (nI r)), (2, .int (nI lv))]) hx hb dX7_put_12 hl (by decide) rfl (fun ls hl => ?_)
  refine lv_iload_n hx hb dX7_put_14 rfl (lv_at hl 1 rfl) ?_
  refine lv_bipush (v := nI 11) hx hb dX7_put_15 (by decide) ?_
  refine bi_ne (tgt := 34) hx hb dX7_put_17 (by decide) (nI_i (by omega)) (nI_i (by omega)) (fun c_17 => ?_) (fun c_17 => ?_)
  ·
    refine lv_aload_n hx hb dX7_put_34 rfl (lv_at hl 2 rfl) ?_
    refine va_get (D := G.1) (ci := 4) (v := .ref mtr) (C := RX7) (T := TX7) (N := 11) hx hb hts in_c_X7_put_X7 hown hK.1 hP 0 rfl rfl 4 (by decide) (hts (.fieldLink RX7 16 "FloorPanelsModel" "trial" "[I") (by decide +kernel)) (fun _ h9 => h9) rfl dX7_put_35 ?_
    refine lv_iload_n hx hb dX7_put_38 rfl (lv_at hl 4 rfl) ?_
    refine cRS (As := [.ref mtr, .int (nI lv)]) (rest := []) (v := .int (zb (lv < u.1))) ⟨hx, hb, hml, hown, hts⟩ (c_X7_isLevel_n l G mtr u.1 u.2.1 u.2.2.1 tm lv (by first | omega | assumption) (by first | omega | assumption) (by first | omega | assumption)) (va_cwS 2 hts gX7_put_X7_isLevel rfl rfl rfl (by decide +kernel) ⟨Nat.le_of_ble_eq_true rfl, Nat.le_of_ble_eq_true rfl⟩) (preS_of hK hP hD [1] (by decide) rfl) rfl hl.1 rfl (lv_room (Nat.le_of_ble_eq_true rfl)) dX7_put_39 ⟨Nat.zero_le _, Nat.zero_le _⟩ ?_
    refine bb_eq (tgt := 123) hx hb dX7_put_42 (by decide) (fun c_42 => ?_) (fun c_42 => ?_)
    ·
      exact Y_v (x := (tm, nf, sf)) (by show MRu (tur r u) _; rw [tur_nl (by omega) (by omega) (by omega)]; exact h_R) hx hb hr hlk dX7_put_123 hP hS (by rw [tur_nl (by omega) (by omega) (by omega)])
    ·
      refine lv_iload_n hx hb dX7_put_45 rfl (lv_at hl 1 rfl) ?_
      refine lv_bipush (v := nI 11) hx hb dX7_put_46 (by decide) ?_
      refine bi_ge (tgt := 64) hx hb dX7_put_48 (by decide) (nI_i (by omega)) (nI_i (by omega)) (fun c_48 => ?_) (fun c_48 => ?_)
      ·
        refine lv_iload_n hx hb dX7_put_64 rfl (lv_at hl 1 rfl) ?_
        refine lv_bipush (v := nI 12) hx hb dX7_put_65 (by decide) ?_
        refine bi_le (tgt := 85) hx hb dX7_put_67 (by decide) (nI_i (by omega)) (nI_i (by omega)) (fun c_67 => ?_) (fun c_67 => ?_)
        ·
          refine lv_aload_n hx hb dX7_put_85 rfl (lv_at hl 2 rfl) ?_
          refine va_get (D := G.1) (ci := 4) (v := .ref mtr) (C := RX7) (T := TX7) (N := 11) hx hb hts in_c_X7_put_X7 hown hK.1 hP 0 rfl rfl 4 (by decide) (hts (.fieldLink RX7 16 "FloorPanelsModel" "trial" "[I") (by decide +kernel)) (fun _ h9 => h9) rfl dX7_put_86 ?_
          refine lv_iload_n hx hb dX7_put_89 rfl (lv_at hl 3 rfl) ?_
          refine lv_sipush (v := nI 1024) hx hb dX7_put_90 (by decide) ?_
          refine nv_idiv hx hb ⟨by omega, by omega, by omega⟩ dX7_put_93 ?_
          refine lv_bipush (v := nI 16) hx hb dX7_put_94 (by decide) ?_
          refine nv_irem hx hb ⟨by omega, by omega, by omega⟩ dX7_put_96 ?_
          refine cRS (As := [.ref mtr, .int (nI ((r / 1024) % 16))]) (rest := []) (v := .int (zb (((r / 1024) % 16) < u.1))) ⟨hx, hb, hml, hown, hts⟩ (c_X7_isLevel_n l G mtr u.1 u.2.1 u.2.2.1 tm ((r / 1024) % 16) (by first | omega | assumption) (by first | omega | assumption) (by first | omega | assumption)) (va_cwS 2 hts gX7_put_X7_isLevel rfl rfl rfl (by decide +kernel) ⟨Nat.le_of_ble_eq_true rfl, Nat.le_of_ble_eq_true rfl⟩) (preS_of hK hP hD [1] (by decide) rfl) rfl hl.1 rfl (lv_room (Nat.le_of_ble_eq_true rfl)) dX7_put_97 ⟨Nat.zero_le _, Nat.zero_le _⟩ ?_
          refine bb_eq (tgt := 123) hx hb dX7_put_100 (by decide) (fun c_100 => ?_) (fun c_100 => ?_)
          ·
            exact Y_v (x := (tm, nf, sf)) (by show MRu (tur r u) _; unfold tur; rw [tst_8f (by omega) (by omega)]; exact h_R) hx hb hr hlk dX7_put_123 hP hS (by unfold tur; rw [tst_8f (by omega) (by omega)])
          ·
            refine lv_aload_n hx hb dX7_put_103 rfl (lv_at hl 2 rfl) ?_
            refine lv_aload_n hx hb dX7_put_104 rfl (lv_at hl 2 rfl) ?_
            refine va_get (D := G.1) (ci := 4) (v := .ref mtr) (C := RX7) (T := TX7) (N := 11) hx hb hts in_c_X7_put_X7 hown hK.1 hP 0 rfl rfl 4 (by decide) (hts (.fieldLink RX7 16 "FloorPanelsModel" "trial" "[I") (by decide +kernel)) (fun _ h9 => h9) rfl dX7_put_105 ?_
            refine lv_iload hx hb dX7_put_108 (lv_at hl 0 rfl) ?_
            refine lv_iload_n hx hb dX7_put_110 rfl (lv_at hl 4 rfl) ?_
            refine lv_iload_n hx hb dX7_put_111 rfl (lv_at hl 3 rfl) ?_
            refine lv_sipush (v := nI 1024) hx hb dX7_put_112 (by decide) ?_
            refine nv_idiv hx hb ⟨by omega, by omega, by omega⟩ dX7_put_115 ?_
            refine lv_bipush (v := nI 16) hx hb dX7_put_116 (by decide) ?_
            refine nv_irem hx hb ⟨by omega, by omega, by omega⟩ dX7_put_118 ?_
            refine cWV (As := [.ref mtr, .int (nI ((r / 256) % 3)), .int (nI lv), .int (nI ((r / 1024) % 16))]) (rest := []) (st1 := [.int (nI (mxw u.2.2.1 tm u.2.1 ((r / 256) % 3) lv ((r / 1024) % 16)))]) (w3 := [(M, .inr (4, [.int (nI rf), .ref mt, .int (nI sz), .ref mn, .ref mtr, .ref md, .int (nI ac), .ref mk, .ref mik, .ref na, .ref so])), (mtr, .inl (G.2 0, 131, .inl (mr u.1 (nI u.2.1) u.2.2.1 (mxc ((r / 256) % 3) lv ((r / 1024) % 16) tm)))), (na, .inl (G.2 0, 16, .inl (nmA u.2.2.1 (kdm tm) u.2.1 0 u.1 nf))), (so, .inl (G.2 0, 16, .inl (soA u.2.2.1 (kdm tm) u.2.1 0 u.1 sf)))]) ⟨hx, hb, hml, hown, hts⟩ (c_X7_exchangeOn l G M rf mt sz mn mtr md ac mk mik na so mtr u.1 u.2.1 u.2.2.1 tm nf sf ((r / 256) % 3) lv ((r / 1024) % 16) (by first | omega | assumption) (by first | omega | assumption) (mu_k h_R h_u2) (by first | omega | assumption) (by first | omega | assumption) (by first | omega | assumption)) (cwV 4 hts gX7_put_X7_exchangeOn rfl rfl rfl (by decide +kernel) ⟨Nat.le_of_ble_eq_true rfl, Nat.le_of_ble_eq_true rfl⟩) (preV_of hK hP hD [0, 1, 2, 3] (by decide) rfl (ci := 4) (q0 := 0) rfl rfl rfl) rfl hl.1 rfl (lv_room (Nat.le_of_ble_eq_true rfl)) dX7_put_119 ⟨Nat.zero_le _, Nat.zero_le _⟩ hP hD hS [0, 1, 2, 3] (by decide) rfl (Eq.trans (b := [M, mtr, na, so]) rfl rfl) (rfl) rfl (fun H locs hP hD hS => ?_)
            refine lv_pop hx hb dX7_put_122 rfl ?_
            exact Y_v (x := (mxc ((r / 256) % 3) lv ((r / 1024) % 16) tm, nmA u.2.2.1 (kdm tm) u.2.1 0 u.1 nf, soA u.2.2.1 (kdm tm) u.2.1 0 u.1 sf)) (by show MRu (tur r u) _; unfold tur; rw [tst_8t (by omega) (by omega), ← h_lr]; exact mu_Swp h_R h_u2 (by omega) (by omega) (by omega)) hx hb hr hlk dX7_put_123 hP hS (by unfold tur; rw [tst_8t (by omega) (by omega), ← h_lr]; rfl)
        ·
          refine lv_aload_n hx hb dX7_put_70 rfl (lv_at hl 2 rfl) ?_
          refine lv_aload_n hx hb dX7_put_71 rfl (lv_at hl 2 rfl) ?_
          refine va_get (D := G.1) (ci := 4) (v := .ref mtr) (C := RX7) (T := TX7) (N := 11) hx hb hts in_c_X7_put_X7 hown hK.1 hP 0 rfl rfl 4 (by decide) (hts (.fieldLink RX7 16 "FloorPanelsModel" "trial" "[I") (by decide +kernel)) (fun _ h9 => h9) rfl dX7_put_72 ?_
          refine lv_iload hx hb dX7_put_75 (lv_at hl 0 rfl) ?_
          refine lv_iload_n hx hb dX7_put_77 rfl (lv_at hl 4 rfl) ?_
          refine cWV (As := [.ref mtr, .int (nI ((r / 256) % 3)), .int (nI lv)]) (rest := []) (st1 := [.int (tm (35 + 16 * ((r / 256) % 3) + lv))]) (w3 := [(M, .inr (4, [.int (nI rf), .ref mt, .int (nI sz), .ref mn, .ref mtr, .ref md, .int (nI ac), .ref mk, .ref mik, .ref na, .ref so])), (mtr, .inl (G.2 0, 131, .inl (mr u.1 (nI u.2.1) u.2.2.1 (upd tm (35 + 16 * ((r / 256) % 3) + lv) (nm u.2.2.1 (kdm tm) u.2.1 lv))))), (na, .inl (G.2 0, 16, .inl (nmA u.2.2.1 (kdm tm) u.2.1 0 u.1 nf))), (so, .inl (G.2 0, 16, .inl (soA u.2.2.1 (kdm tm) u.2.1 0 u.1 sf)))]) ⟨hx, hb, hml, hown, hts⟩ (c_X7_putButtonOn l G M rf mt sz mn mtr md ac mk mik na so mtr u.1 u.2.1 u.2.2.1 tm nf sf ((r / 256) % 3) lv (by first | omega | assumption) (by first | omega | assumption) (mu_k h_R h_u2) (by first | omega | assumption) (by first | omega | assumption)) (cwV 3 hts gX7_put_X7_putButtonOn rfl rfl rfl (by decide +kernel) ⟨Nat.le_of_ble_eq_true rfl, Nat.le_of_ble_eq_true rfl⟩) (preV_of hK hP hD [0, 1, 2, 3] (by decide) rfl (ci := 4) (q0 := 0) rfl rfl rfl) rfl hl.1 rfl (lv_room (Nat.le_of_ble_eq_true rfl)) dX7_put_78 ⟨Nat.zero_le _, Nat.zero_le _⟩ hP hD hS [0, 1, 2, 3] (by decide) rfl (Eq.trans (b := [M, mtr, na, so]) rfl rfl) (rfl) rfl (fun H locs hP hD hS => ?_)
          refine lv_pop hx hb dX7_put_81 rfl ?_
          refine lv_goto (tgt := 123) hx hb dX7_put_82 (by decide) ?_
          exact Y_v (x := (upd tm (35 + 16 * ((r / 256) % 3) + lv) (nm u.2.2.1 (kdm tm) u.2.1 lv), nmA u.2.2.1 (kdm tm) u.2.1 0 u.1 nf, soA u.2.2.1 (kdm tm) u.2.1 0 u.1 sf)) (by show MRu (tur r u) _; unfold tur; rw [tst_9t (by omega) (by omega), ← h_lr]; exact mu_Btn h_R h_u2 (by omega) (by omega)) hx hb hr hlk dX7_put_123 hP hS (by unfold tur; rw [tst_9t (by omega) (by omega), ← h_lr]; rfl)
      ·
        refine lv_aload_n hx hb dX7_put_51 rfl (lv_at hl 2 rfl) ?_
        refine lv_aload_n hx hb dX7_put_52 rfl (lv_at hl 2 rfl) ?_
        refine va_get (D := G.1) (ci := 4) (v := .ref mtr) (C := RX7) (T := TX7) (N := 11) hx hb hts in_c_X7_put_X7 hown hK.1 hP 0 rfl rfl 4 (by decide) (hts (.fieldLink RX7 16 "FloorPanelsModel" "trial" "[I") (by decide +kernel)) (fun _ h9 => h9) rfl dX7_put_53 ?_
        refine lv_iload_n hx hb dX7_put_56 rfl (lv_at hl 4 rfl) ?_
        refine cWV (As := [.ref mtr, .int (nI lv)]) (rest := []) (st1 := [.int (tm (19 + lv))]) (w3 := [(M, .inr (4, [.int (nI rf), .ref mt, .int (nI sz), .ref mn, .ref mtr, .ref md, .int (nI ac), .ref mk, .ref mik, .ref na, .ref so])), (mtr, .inl (G.2 0, 131, .inl (mr u.1 (nI u.2.1) u.2.2.1 (upd tm (19 + lv) (nm u.2.2.1 (kdm tm) u.2.1 lv))))), (na, .inl (G.2 0, 16, .inl (nmA u.2.2.1 (kdm tm) u.2.1 0 u.1 nf))), (so, .inl (G.2 0, 16, .inl (soA u.2.2.1 (kdm tm) u.2.1 0 u.1 sf)))]) ⟨hx, hb, hml, hown, hts⟩ (c_X7_putSignOn l G M rf mt sz mn mtr md ac mk mik na so mtr u.1 u.2.1 u.2.2.1 tm nf sf lv (by first | omega | assumption) (by first | omega | assumption) (mu_k h_R h_u2) (by first | omega | assumption)) (cwV 2 hts gX7_put_X7_putSignOn rfl rfl rfl (by decide +kernel) ⟨Nat.le_of_ble_eq_true rfl, Nat.le_of_ble_eq_true rfl⟩) (preV_of hK hP hD [0, 1, 2, 3] (by decide) rfl (ci := 4) (q0 := 0) rfl rfl rfl) rfl hl.1 rfl (lv_room (Nat.le_of_ble_eq_true rfl)) dX7_put_57 ⟨Nat.zero_le _, Nat.zero_le _⟩ hP hD hS [0, 1, 2, 3] (by decide) rfl (Eq.trans (b := [M, mtr, na, so]) rfl rfl) (rfl) rfl (fun H locs hP hD hS => ?_)
        refine lv_pop hx hb dX7_put_60 rfl ?_
        refine lv_goto (tgt := 123) hx hb dX7_put_61 (by decide) ?_
        exact Y_v (x := (upd tm (19 + lv) (nm u.2.2.1 (kdm tm) u.2.1 lv), nmA u.2.2.1 (kdm tm) u.2.1 0 u.1 nf, soA u.2.2.1 (kdm tm) u.2.1 0 u.1 sf)) (by show MRu (tur r u) _; unfold tur; rw [tst_6t (by omega) (by omega), ← h_lr]; exact mu_Sgn h_R h_u2 (by omega)) hx hb hr hlk dX7_put_123 hP hS (by unfold tur; rw [tst_6t (by omega) (by omega), ← h_lr]; rfl)
  ·
    refine lv_aload_n hx hb dX7_put_20 rfl (lv_at hl 2 rfl) ?_
    refine lv_aload_n hx hb dX7_put_21 rfl (lv_at hl 2 rfl) ?_
    refine va_get (D := G.1) (ci := 4) (v := .ref mtr) (C := RX7) (T := TX7) (N := 11) hx hb hts in_c_X7_put_X7 hown hK.1 hP 0 rfl rfl 4 (by decide) (hts (.fieldLink RX7 16 "FloorPanelsModel" "trial" "[I") (by decide +kernel)) (fun _ h9 => h9) rfl dX7_put_22 ?_
    refine lv_iload hx hb dX7_put_25 (lv_at hl 0 rfl) ?_
    refine cWV (As := [.ref mtr, .int (nI ((r / 256) % 3))]) (rest := []) (st1 := [.int (nI (mwr u.2.2.1 tm u.2.1 (35 + 16 * ((r / 256) % 3)) u.1))]) (w3 := [(M, .inr (4, [.int (nI rf), .ref mt, .int (nI sz), .ref mn, .ref mtr, .ref md, .int (nI ac), .ref mk, .ref mik, .ref na, .ref so])), (mtr, .inl (G.2 0, 131, .inl (mr u.1 (nI u.2.1) u.2.2.1 (pur tm (35 + 16 * ((r / 256) % 3)) (nm u.2.2.1 (kdm tm) u.2.1) u.1)))), (na, .inl (G.2 0, 16, .inl (nmA u.2.2.1 (kdm tm) u.2.1 0 u.1 nf))), (so, .inl (G.2 0, 16, .inl (soA u.2.2.1 (kdm tm) u.2.1 0 u.1 sf)))]) ⟨hx, hb, hml, hown, hts⟩ (c_X7_putCarOn l G M rf mt sz mn mtr md ac mk mik na so mtr u.1 u.2.1 u.2.2.1 tm nf sf ((r / 256) % 3) (by first | omega | assumption) (by first | omega | assumption) (mu_k h_R h_u2) (by first | omega | assumption)) (cwV 2 hts gX7_put_X7_putCarOn rfl rfl rfl (by decide +kernel) ⟨Nat.le_of_ble_eq_true rfl, Nat.le_of_ble_eq_true rfl⟩) (preV_of hK hP hD [0, 1, 2, 3] (by decide) rfl (ci := 4) (q0 := 0) rfl rfl rfl) rfl hl.1 rfl (lv_room (Nat.le_of_ble_eq_true rfl)) dX7_put_27 ⟨Nat.zero_le _, Nat.zero_le _⟩ hP hD hS [0, 1, 2, 3] (by decide) rfl (Eq.trans (b := [M, mtr, na, so]) rfl rfl) (rfl) rfl (fun H locs hP hD hS => ?_)
    refine lv_pop hx hb dX7_put_30 rfl ?_
    refine lv_goto (tgt := 123) hx hb dX7_put_31 (by decide) ?_
    exact Y_v (x := (pur tm (35 + 16 * ((r / 256) % 3)) (nm u.2.2.1 (kdm tm) u.2.1) u.1, nmA u.2.2.1 (kdm tm) u.2.1 0 u.1 nf, soA u.2.2.1 (kdm tm) u.2.1 0 u.1 sf)) (by show MRu (tur r u) _; unfold tur; rw [tst_7 (by omega)]; exact mu_Car h_R h_u2 (by omega)) hx hb hr hlk dX7_put_123 hP hS (by unfold tur; rw [tst_7 (by omega)]; rfl)

theorem in_c_X7_turn_X7 : ∀ w ∈ wsX70, w ∈ wsX7_turn := by decide +kernel
set_option maxHeartbeats 4000000 in
set_option maxRecDepth 100000 in
theorem c_X7_turn (l : Launch) (G : GG) (M : Nat) (rf : Nat) (mt : Nat) (sz : Nat) (mn : Nat) (mtr : Nat) (md : Nat) (ac : Nat) (mk : Nat) (mik : Nat) (na : Nat) (so : Nat) (u : HS) (tm : Nat → Int32) (nf : Nat → Int32) (sf : Nat → Int32) (r : Nat) (lv : Nat) (k : Nat) (h_u : hOK u) (h_R : MRu u tm) (h_r : r < 2147483648) (h_lr : lv = r / 16 % 16) (h_kr : k = r / 256 % 4) : Met l yX7_turn wsX7_turn ({ frames := 5, cells := 0, slots := 0, locals := 124 } : Room) (va_Pc [.ref M, .int (nI r)] (PB G [(M, .inr (4, [.int (nI rf), .ref mt, .int (nI sz), .ref mn, .ref mtr, .ref md, .int (nI ac), .ref mk, .ref mik, .ref na, .ref so])), (mtr, .inl (G.2 0, 131, .inl (mr u.1 (nI u.2.1) u.2.2.1 tm))), (na, .inl (G.2 0, 16, .inl nf)), (so, .inl (G.2 0, 16, .inl sf))])) (QX G (none) (fun x_ : (Nat → Int32) × (Nat → Int32) × (Nat → Int32) => [(M, .inr (4, [.int (nI rf), .ref mt, .int (nI sz), .ref mn, .ref mtr, .ref md, .int (nI ac), .ref mk, .ref mik, .ref na, .ref so])), (mtr, .inl (G.2 0, 131, .inl (mr ((tur r u).1) (nI (tur r u).2.1) ((tur r u).2.2.1) x_.1))), (na, .inl (G.2 0, 16, .inl x_.2.1)), (so, .inl (G.2 0, 16, .inl x_.2.2))]) (fun x_ : (Nat → Int32) × (Nat → Int32) × (Nat → Int32) => MRu (tur r u) x_.1) (vA [(M, .inr (4, [.int (nI rf), .ref mt, .int (nI sz), .ref mn, .ref mtr, .ref md, .int (nI ac), .ref mk, .ref mik, .ref na, .ref so])), (mtr, .inl (G.2 0, 131, .inl (mr u.1 (nI u.2.1) u.2.2.1 tm))), (na, .inl (G.2 0, 16, .inl nf)), (so, .inl (G.2 0, 16, .inl sf))])) 0 0 (vA [(M, .inr (4, [.int (nI rf), .ref mt, .int (nI sz), .ref mn, .ref mtr, .ref md, .int (nI ac), .ref mk, .ref mik, .ref na, .ref so])), (mtr, .inl (G.2 0, 131, .inl (mr u.1 (nI u.2.1) u.2.2.1 tm))), (na, .inl (G.2 0, 16, .inl nf)), (so, .inl (G.2 0, 16, .inl sf))]) := by
  have h_u2 := h_u
  obtain ⟨h_n1, h_n, h_g, h_f, h_nm, h_kd⟩ := h_u
  refine Met.go (cc := cX7_turn) (maxL := 5) (ret := none) (by decide) rfl (Nat.le_of_ble_eq_true rfl) ?_
  intro p e s m below meth c ls hx hb hr hml hown hts hlk hP hK hD hS hl
  have hown : s.vm.findClass RX7 = some m.cls := hown
  have hl : lv_has ls 5 [(0, .ref M), (1, .int (nI r))] := hl
  refine lv_iload_n hx hb dX7_turn_0 rfl (lv_at hl 1 rfl) ?_
  refine lv_bipush (v := nI 16) hx hb dX7_turn_1 (by decide) ?_
  refine nv_idiv hx hb ⟨by omega, by omega, by omega⟩ dX7_turn_3 ?_
  refine lv_bipush (v := nI 16) hx hb dX7_turn_4 (by decide) ?_
  refine nv_irem hx hb ⟨by omega, by omega, by omega⟩ dX7_turn_6 ?_
  refine lv_istore_n (lv' := [(2, .int (nI ((r / 16) % 16))), (0, .ref M), (1, .int (nI r))]) hx hb dX7_turn_7 rfl hl (by decide) rfl (fun ls hl => ?_)
  refine lv_iload_n hx hb dX7_turn_8 rfl (lv_at hl 2 rfl) ?_
  refine lv_bipush (v := nI 16) hx hb dX7_turn_9 (by decide) ?_
  refine nv_irem hx hb ⟨by omega, by omega, by omega⟩ dX7_turn_11 ?_
  refine lv_istore_n (lv' := [(3, .int (nI (r % 16))), (2, .int (nI ((r / 16) % 16))), (0, .ref M), (1, .int (nI r))]) hx hb dX7_turn_12 rfl hl (by decide) rfl (fun ls hl => ?_)
  refine lv_iload_n hx hb dX7_turn_13 rfl (lv_at hl 3 rfl) ?_
  refine lv_sipush (v := nI 256) hx hb dX7_turn_14 (by decide) ?_
  refine nv_idiv hx hb ⟨by omega, by omega, by omega⟩ dX7_turn_17 ?_
  refine lv_iconst (v := nI 4) hx hb dX7_turn_18 (by decide) ?_
  refine nv_irem hx hb ⟨by omega, by omega, by omega⟩ dX7_turn_19 ?_
  refine lv_istore (lv' := [(4, .int (nI ((r / 256) % 4))), (3, .int (nI (r % 16))), (2, .int (nI ((r / 16) % 16))), (0, .ref M), (1, .int (nI r))]) hx hb dX7_turn_20 hl (by decide) rfl (fun ls hl => ?_)
  rw [show nI ((r / 16) % 16) = nI lv from by rw [h_lr]] at hl
  rw [show nI ((r / 256) % 4) = nI k from by rw [h_kr]] at hl
  refine lv_iload_n hx hb dX7_turn_22 rfl (lv_at hl 1 rfl) ?_
  refine lv_iconst (v := nI 2) hx hb dX7_turn_23 (by decide) ?_
  refine bi_ge (tgt := 54) hx hb dX7_turn_24 (by decide) (nI_i (by omega)) (nI_i (by omega)) (fun c_24 => ?_) (fun c_24 => ?_)
  ·
    refine lv_iload_n hx hb dX7_turn_54 rfl (lv_at hl 1 rfl) ?_
    refine lv_iconst (v := nI 2) hx hb dX7_turn_55 (by decide) ?_
    refine bi_ne (tgt := 82) hx hb dX7_turn_56 (by decide) (nI_i (by omega)) (nI_i (by omega)) (fun c_56 => ?_) (fun c_56 => ?_)
    ·
      refine lv_iload_n hx hb dX7_turn_82 rfl (lv_at hl 1 rfl) ?_
      refine lv_iconst (v := nI 3) hx hb dX7_turn_83 (by decide) ?_
      refine bi_ne (tgt := 113) hx hb dX7_turn_84 (by decide) (nI_i (by omega)) (nI_i (by omega)) (fun c_84 => ?_) (fun c_84 => ?_)
      ·
        refine lv_iload_n hx hb dX7_turn_113 rfl (lv_at hl 1 rfl) ?_
        refine lv_iconst (v := nI 4) hx hb dX7_turn_114 (by decide) ?_
        refine bi_ne (tgt := 139) hx hb dX7_turn_115 (by decide) (nI_i (by omega)) (nI_i (by omega)) (fun c_115 => ?_) (fun c_115 => ?_)
        ·
          refine lv_iload_n hx hb dX7_turn_139 rfl (lv_at hl 1 rfl) ?_
          refine lv_bipush (v := nI 7) hx hb dX7_turn_140 (by decide) ?_
          refine bi_ge (tgt := 180) hx hb dX7_turn_142 (by decide) (nI_i (by omega)) (nI_i (by omega)) (fun c_142 => ?_) (fun c_142 => ?_)
          ·
            refine lv_iload_n hx hb dX7_turn_180 rfl (lv_at hl 1 rfl) ?_
            refine lv_bipush (v := nI 7) hx hb dX7_turn_181 (by decide) ?_
            refine bi_ne (tgt := 231) hx hb dX7_turn_183 (by decide) (nI_i (by omega)) (nI_i (by omega)) (fun c_183 => ?_) (fun c_183 => ?_)
            ·
              refine lv_aload_n hx hb dX7_turn_231 rfl (lv_at hl 3 rfl) ?_
              refine lv_iload_n hx hb dX7_turn_232 rfl (lv_at hl 4 rfl) ?_
              refine lv_iload_n hx hb dX7_turn_233 rfl (lv_at hl 2 rfl) ?_
              refine cYV (As := [.int (nI r), .int (nI lv)]) (rest := []) (st1 := []) (w3 := fun x_ : (Nat → Int32) × (Nat → Int32) × (Nat → Int32) => [(M, .inr (4, [.int (nI rf), .ref mt, .int (nI sz), .ref mn, .ref mtr, .ref md, .int (nI ac), .ref mk, .ref mik, .ref na, .ref so])), (mtr, .inl (G.2 0, 131, .inl (mr ((tur r u).1) (nI (tur r u).2.1) ((tur r u).2.2.1) x_.1))), (na, .inl (G.2 0, 16, .inl x_.2.1)), (so, .inl (G.2 0, 16, .inl x_.2.2))]) ⟨hx, hb, hml, hown, hts⟩ (c_X7_put l G M rf mt sz mn mtr md ac mk mik na so u tm nf sf r lv (by first | omega | assumption) (by first | omega | assumption) (by first | omega | assumption) (by first | omega | assumption) (by first | omega | assumption)) (cwV 2 hts gX7_turn_X7_put rfl rfl rfl (by decide +kernel) ⟨Nat.le_of_ble_eq_true rfl, Nat.le_of_ble_eq_true rfl⟩) (preV_of hK hP hD [0, 1, 2, 3] (by decide) rfl (ci := 4) (q0 := 0) rfl rfl rfl) rfl hl.1 rfl (lv_room (Nat.le_of_ble_eq_true rfl)) dX7_turn_234 ⟨Nat.zero_le _, Nat.zero_le _⟩ hP hD hS [0, 1, 2, 3] (by decide) rfl (fun _ => (Eq.trans (b := [M, mtr, na, so]) rfl rfl)) (fun x_ => rfl) rfl (fun q_e_234 H locs h_e_234 hP hD hS => ?_)
              have hP : VP G [(M, .inr (4, [.int (nI rf), .ref mt, .int (nI sz), .ref mn, .ref mtr, .ref md, .int (nI ac), .ref mk, .ref mik, .ref na, .ref so])), (mtr, .inl (G.2 0, 131, .inl (mr ((tur r u).1) (nI (tur r u).2.1) ((tur r u).2.2.1) q_e_234.1))), (na, .inl (G.2 0, 16, .inl q_e_234.2.1)), (so, .inl (G.2 0, 16, .inl q_e_234.2.2))] H := hP
              have hD : va_D _ [(M, .inr (4, [.int (nI rf), .ref mt, .int (nI sz), .ref mn, .ref mtr, .ref md, .int (nI ac), .ref mk, .ref mik, .ref na, .ref so])), (mtr, .inl (G.2 0, 131, .inl (mr ((tur r u).1) (nI (tur r u).2.1) ((tur r u).2.2.1) q_e_234.1))), (na, .inl (G.2 0, 16, .inl q_e_234.2.1)), (so, .inl (G.2 0, 16, .inl q_e_234.2.2))] := hD
              exact Y_v (x := (q_e_234.1, q_e_234.2.1, q_e_234.2.2)) (h_e_234) hx hb hr hlk dX7_turn_237 hP hS (rfl)
            ·
              refine lv_aload_n hx hb dX7_turn_186 rfl (lv_at hl 3 rfl) ?_
              refine va_get (D := G.1) (ci := 4) (v := .ref mtr) (C := RX7) (T := TX7) (N := 11) hx hb hts in_c_X7_turn_X7 hown hK.1 hP 0 rfl rfl 4 (by decide) (hts (.fieldLink RX7 16 "FloorPanelsModel" "trial" "[I") (by decide +kernel)) (fun _ h9 => h9) rfl dX7_turn_187 ?_
              refine lv_iload_n hx hb dX7_turn_190 rfl (lv_at hl 2 rfl) ?_
              refine cRS (As := [.ref mtr, .int (nI lv)]) (rest := []) (v := .int (zb (lv < u.1))) ⟨hx, hb, hml, hown, hts⟩ (c_X7_isLevel_n l G mtr u.1 u.2.1 u.2.2.1 tm lv (by first | omega | assumption) (by first | omega | assumption) (by first | omega | assumption)) (va_cwS 2 hts gX7_turn_X7_isLevel rfl rfl rfl (by decide +kernel) ⟨Nat.le_of_ble_eq_true rfl, Nat.le_of_ble_eq_true rfl⟩) (preS_of hK hP hD [1] (by decide) rfl) rfl hl.1 rfl (lv_room (Nat.le_of_ble_eq_true rfl)) dX7_turn_191 ⟨Nat.zero_le _, Nat.zero_le _⟩ ?_
              refine bb_eq (tgt := 237) hx hb dX7_turn_194 (by decide) (fun c_194 => ?_) (fun c_194 => ?_)
              ·
                exact Y_v (x := (tm, nf, sf)) (by show MRu (tur r u) _; unfold tur; rw [tst_5f (by omega) (by omega)]; exact h_R) hx hb hr hlk dX7_turn_237 hP hS (by unfold tur; rw [tst_5f (by omega) (by omega)])
              ·
                refine lv_aload_n hx hb dX7_turn_197 rfl (lv_at hl 3 rfl) ?_
                refine va_get (D := G.1) (ci := 4) (v := .ref mtr) (C := RX7) (T := TX7) (N := 11) hx hb hts in_c_X7_turn_X7 hown hK.1 hP 0 rfl rfl 4 (by decide) (hts (.fieldLink RX7 16 "FloorPanelsModel" "trial" "[I") (by decide +kernel)) (fun _ h9 => h9) rfl dX7_turn_198 ?_
                refine lv_iload_n hx hb dX7_turn_201 rfl (lv_at hl 4 rfl) ?_
                refine lv_sipush (v := nI 256) hx hb dX7_turn_202 (by decide) ?_
                refine nv_idiv hx hb ⟨by omega, by omega, by omega⟩ dX7_turn_205 ?_
                refine lv_iconst (v := nI 3) hx hb dX7_turn_206 (by decide) ?_
                refine nv_irem hx hb ⟨by omega, by omega, by omega⟩ dX7_turn_207 ?_
                refine lv_iload_n hx hb dX7_turn_208 rfl (lv_at hl 2 rfl) ?_
                refine lv_iload_n hx hb dX7_turn_209 rfl (lv_at hl 4 rfl) ?_
                refine lv_sipush (v := nI 1024) hx hb dX7_turn_210 (by decide) ?_
                refine nv_idiv hx hb ⟨by omega, by omega, by omega⟩ dX7_turn_213 ?_
                refine lv_iconst (v := nI 2) hx hb dX7_turn_214 (by decide) ?_
                refine nv_irem hx hb ⟨by omega, by omega, by omega⟩ dX7_turn_215 ?_
                refine b0_ne (tgt := 223) hx hb dX7_turn_216 (by decide) (nI_i (by omega)) (fun c_216 => ?_) (fun c_216 => ?_)
                ·
                  refine lv_iconst (v := zb (r / 1024 % 2 = 0)) hx hb dX7_turn_223 (zb_f (by omega)).symm ?_
                  refine cWS (As := [.ref mtr, .int (nI ((r / 256) % 3)), .int (nI lv), .int (zb (r / 1024 % 2 = 0))]) (rest := []) (st1 := [.int (nI (ct (fun x_ => (upd tm (83 + 16 * ((r / 256) % 3) + lv) (zb (r / 1024 % 2 = 0))) (83 + 16 * ((r / 256) % 3) + x_) = 1) u.1))]) (w3 := [(M, .inr (4, [.int (nI rf), .ref mt, .int (nI sz), .ref mn, .ref mtr, .ref md, .int (nI ac), .ref mk, .ref mik, .ref na, .ref so])), (mtr, .inl (G.2 0, 131, .inl (mr u.1 (nI u.2.1) u.2.2.1 (upd tm (83 + 16 * ((r / 256) % 3) + lv) (zb (r / 1024 % 2 = 0)))))), (na, .inl (G.2 0, 16, .inl nf)), (so, .inl (G.2 0, 16, .inl sf))]) ⟨hx, hb, hml, hown, hts⟩ (c_X7_serveOn l G mtr u.1 u.2.1 u.2.2.1 tm ((r / 256) % 3) lv (r / 1024 % 2 = 0) (by first | omega | assumption) (by first | omega | assumption) (by first | omega | assumption)) (va_cwS 4 hts gX7_turn_X7_serveOn rfl rfl rfl (by decide +kernel) ⟨Nat.le_of_ble_eq_true rfl, Nat.le_of_ble_eq_true rfl⟩) (preS_of hK hP hD [1] (by decide) rfl) rfl hl.1 rfl (lv_room (Nat.le_of_ble_eq_true rfl)) dX7_turn_224 ⟨Nat.zero_le _, Nat.zero_le _⟩ hP hD hS [1] (by decide) rfl (Eq.trans (b := [mtr]) rfl rfl) (rfl) rfl (fun H locs hP hD hS => ?_)
                  refine lv_pop hx hb dX7_turn_227 rfl ?_
                  refine lv_goto (tgt := 237) hx hb dX7_turn_228 (by decide) ?_
                  exact Y_v (x := (upd tm (83 + 16 * ((r / 256) % 3) + lv) (zb (r / 1024 % 2 = 0)), nf, sf)) (by show MRu (tur r u) _; unfold tur; rw [tst_5t (by omega) (by omega), ← h_lr]; exact mu_Srv h_R h_u2 (by omega) (by omega)) hx hb hr hlk dX7_turn_237 hP hS (by unfold tur; rw [tst_5t (by omega) (by omega), ← h_lr]; rfl)
                ·
                  refine lv_iconst (v := zb (r / 1024 % 2 = 0)) hx hb dX7_turn_219 (zb_t (by omega)).symm ?_
                  refine lv_goto (tgt := 224) hx hb dX7_turn_220 (by decide) ?_
                  refine cWS (As := [.ref mtr, .int (nI ((r / 256) % 3)), .int (nI lv), .int (zb (r / 1024 % 2 = 0))]) (rest := []) (st1 := [.int (nI (ct (fun x_ => (upd tm (83 + 16 * ((r / 256) % 3) + lv) (zb (r / 1024 % 2 = 0))) (83 + 16 * ((r / 256) % 3) + x_) = 1) u.1))]) (w3 := [(M, .inr (4, [.int (nI rf), .ref mt, .int (nI sz), .ref mn, .ref mtr, .ref md, .int (nI ac), .ref mk, .ref mik, .ref na, .ref so])), (mtr, .inl (G.2 0, 131, .inl (mr u.1 (nI u.2.1) u.2.2.1 (upd tm (83 + 16 * ((r / 256) % 3) + lv) (zb (r / 1024 % 2 = 0)))))), (na, .inl (G.2 0, 16, .inl nf)), (so, .inl (G.2 0, 16, .inl sf))]) ⟨hx, hb, hml, hown, hts⟩ (c_X7_serveOn l G mtr u.1 u.2.1 u.2.2.1 tm ((r / 256) % 3) lv (r / 1024 % 2 = 0) (by first | omega | assumption) (by first | omega | assumption) (by first | omega | assumption)) (va_cwS 4 hts gX7_turn_X7_serveOn rfl rfl rfl (by decide +kernel) ⟨Nat.le_of_ble_eq_true rfl, Nat.le_of_ble_eq_true rfl⟩) (preS_of hK hP hD [1] (by decide) rfl) rfl hl.1 rfl (lv_room (Nat.le_of_ble_eq_true rfl)) dX7_turn_224 ⟨Nat.zero_le _, Nat.zero_le _⟩ hP hD hS [1] (by decide) rfl (Eq.trans (b := [mtr]) rfl rfl) (rfl) rfl (fun H locs hP hD hS => ?_)
                  refine lv_pop hx hb dX7_turn_227 rfl ?_
                  refine lv_goto (tgt := 237) hx hb dX7_turn_228 (by decide) ?_
                  exact Y_v (x := (upd tm (83 + 16 * ((r / 256) % 3) + lv) (zb (r / 1024 % 2 = 0)), nf, sf)) (by show MRu (tur r u) _; unfold tur; rw [tst_5t (by omega) (by omega), ← h_lr]; exact mu_Srv h_R h_u2 (by omega) (by omega)) hx hb hr hlk dX7_turn_237 hP hS (by unfold tur; rw [tst_5t (by omega) (by omega), ← h_lr]; rfl)
          ·
            refine lv_aload_n hx hb dX7_turn_145 rfl (lv_at hl 3 rfl) ?_
            refine va_get (D := G.1) (ci := 4) (v := .ref mtr) (C := RX7) (T := TX7) (N := 11) hx hb hts in_c_X7_turn_X7 hown hK.1 hP 0 rfl rfl 4 (by decide) (hts (.fieldLink RX7 16 "FloorPanelsModel" "trial" "[I") (by decide +kernel)) (fun _ h9 => h9) rfl dX7_turn_146 ?_
            refine lv_iconst (v := nI 1) hx hb dX7_turn_149 (by decide) ?_
            refine lv_iload_n hx hb dX7_turn_150 rfl (lv_at hl 4 rfl) ?_
            refine lv_bipush (v := nI 16) hx hb dX7_turn_151 (by decide) ?_
            refine nv_idiv hx hb ⟨by omega, by omega, by omega⟩ dX7_turn_153 ?_
            refine lv_bipush (v := nI 30) hx hb dX7_turn_154 (by decide) ?_
            refine nv_irem hx hb ⟨by omega, by omega, by omega⟩ dX7_turn_156 ?_
            refine nv_iadd hx hb dX7_turn_157 ?_
            refine lv_iload_n hx hb dX7_turn_158 rfl (lv_at hl 4 rfl) ?_
            refine lv_sipush (v := nI 512) hx hb dX7_turn_159 (by decide) ?_
            refine nv_idiv hx hb ⟨by omega, by omega, by omega⟩ dX7_turn_162 ?_
            refine lv_iconst (v := nI 2) hx hb dX7_turn_163 (by decide) ?_
            refine nv_irem hx hb ⟨by omega, by omega, by omega⟩ dX7_turn_164 ?_
            refine b0_ne (tgt := 172) hx hb dX7_turn_165 (by decide) (nI_i (by omega)) (fun c_165 => ?_) (fun c_165 => ?_)
            ·
              refine lv_iconst (v := zb (r / 512 % 2 = 0)) hx hb dX7_turn_172 (zb_f (by omega)).symm ?_
              refine cWS (As := [.ref mtr, .int (nI (1 + ((r / 16) % 30))), .int (zb (r / 512 % 2 = 0))]) (rest := []) (st1 := [.int (nI (ct (fun x_ => 1 ≤ x_ ∧ bt (skp u.2.2.1 (1 + ((r / 16) % 30)) (r / 512 % 2 = 0)) x_ = true) 31))]) (w3 := [(M, .inr (4, [.int (nI rf), .ref mt, .int (nI sz), .ref mn, .ref mtr, .ref md, .int (nI ac), .ref mk, .ref mik, .ref na, .ref so])), (mtr, .inl (G.2 0, 131, .inl (mr u.1 (nI u.2.1) (skp u.2.2.1 (1 + ((r / 16) % 30)) (r / 512 % 2 = 0)) tm))), (na, .inl (G.2 0, 16, .inl nf)), (so, .inl (G.2 0, 16, .inl sf))]) ⟨hx, hb, hml, hown, hts⟩ (c_X7_skipOn l G mtr u.1 u.2.1 u.2.2.1 tm (1 + ((r / 16) % 30)) (r / 512 % 2 = 0) (by first | omega | assumption)) (va_cwS 3 hts gX7_turn_X7_skipOn rfl rfl rfl (by decide +kernel) ⟨Nat.le_of_ble_eq_true rfl, Nat.le_of_ble_eq_true rfl⟩) (preS_of hK hP hD [1] (by decide) rfl) rfl hl.1 rfl (lv_room (Nat.le_of_ble_eq_true rfl)) dX7_turn_173 ⟨Nat.zero_le _, Nat.zero_le _⟩ hP hD hS [1] (by decide) rfl (Eq.trans (b := [mtr]) rfl rfl) (rfl) rfl (fun H locs hP hD hS => ?_)
              refine lv_pop hx hb dX7_turn_176 rfl ?_
              refine lv_goto (tgt := 237) hx hb dX7_turn_177 (by decide) ?_
              exact Y_v (x := (tm, nf, sf)) (by show MRu (tur r u) _; unfold tur; rw [tst_4 (by omega)]; exact mu_Skp h_R h_u2) hx hb hr hlk dX7_turn_237 hP hS (by unfold tur; rw [tst_4 (by omega)]; rfl)
            ·
              refine lv_iconst (v := zb (r / 512 % 2 = 0)) hx hb dX7_turn_168 (zb_t (by omega)).symm ?_
              refine lv_goto (tgt := 173) hx hb dX7_turn_169 (by decide) ?_
              refine cWS (As := [.ref mtr, .int (nI (1 + ((r / 16) % 30))), .int (zb (r / 512 % 2 = 0))]) (rest := []) (st1 := [.int (nI (ct (fun x_ => 1 ≤ x_ ∧ bt (skp u.2.2.1 (1 + ((r / 16) % 30)) (r / 512 % 2 = 0)) x_ = true) 31))]) (w3 := [(M, .inr (4, [.int (nI rf), .ref mt, .int (nI sz), .ref mn, .ref mtr, .ref md, .int (nI ac), .ref mk, .ref mik, .ref na, .ref so])), (mtr, .inl (G.2 0, 131, .inl (mr u.1 (nI u.2.1) (skp u.2.2.1 (1 + ((r / 16) % 30)) (r / 512 % 2 = 0)) tm))), (na, .inl (G.2 0, 16, .inl nf)), (so, .inl (G.2 0, 16, .inl sf))]) ⟨hx, hb, hml, hown, hts⟩ (c_X7_skipOn l G mtr u.1 u.2.1 u.2.2.1 tm (1 + ((r / 16) % 30)) (r / 512 % 2 = 0) (by first | omega | assumption)) (va_cwS 3 hts gX7_turn_X7_skipOn rfl rfl rfl (by decide +kernel) ⟨Nat.le_of_ble_eq_true rfl, Nat.le_of_ble_eq_true rfl⟩) (preS_of hK hP hD [1] (by decide) rfl) rfl hl.1 rfl (lv_room (Nat.le_of_ble_eq_true rfl)) dX7_turn_173 ⟨Nat.zero_le _, Nat.zero_le _⟩ hP hD hS [1] (by decide) rfl (Eq.trans (b := [mtr]) rfl rfl) (rfl) rfl (fun H locs hP hD hS => ?_)
              refine lv_pop hx hb dX7_turn_176 rfl ?_
              refine lv_goto (tgt := 237) hx hb dX7_turn_177 (by decide) ?_
              exact Y_v (x := (tm, nf, sf)) (by show MRu (tur r u) _; unfold tur; rw [tst_4 (by omega)]; exact mu_Skp h_R h_u2) hx hb hr hlk dX7_turn_237 hP hS (by unfold tur; rw [tst_4 (by omega)]; rfl)
        ·
          refine lv_aload_n hx hb dX7_turn_118 rfl (lv_at hl 3 rfl) ?_
          refine va_get (D := G.1) (ci := 4) (v := .ref mtr) (C := RX7) (T := TX7) (N := 11) hx hb hts in_c_X7_turn_X7 hown hK.1 hP 0 rfl rfl 4 (by decide) (hts (.fieldLink RX7 16 "FloorPanelsModel" "trial" "[I") (by decide +kernel)) (fun _ h9 => h9) rfl dX7_turn_119 ?_
          refine lv_iload_n hx hb dX7_turn_122 rfl (lv_at hl 2 rfl) ?_
          by_cases h_q : lv < u.1 ∧ u.2.2.2 lv = 0
          ·
            refine cRS (As := [.ref mtr, .int (nI lv)]) (rest := []) (v := .int (nI (wng u.1 tm lv))) ⟨hx, hb, hml, hown, hts⟩ (c_X7_whyNotGround_n l G mtr u.1 u.2.1 u.2.2.1 tm lv (by first | omega | assumption) (by first | omega | assumption) (by first | omega | assumption)) (va_cwS 2 hts gX7_turn_X7_whyNotGround rfl rfl rfl (by decide +kernel) ⟨Nat.le_of_ble_eq_true rfl, Nat.le_of_ble_eq_true rfl⟩) (preS_of hK hP hD [1] (by decide) rfl) rfl hl.1 rfl (lv_room (Nat.le_of_ble_eq_true rfl)) dX7_turn_123 ⟨Nat.zero_le _, Nat.zero_le _⟩ ?_
            rw [show (nI (wng u.1 tm lv)) = nI 0 from congrArg nI (wng_ok h_q.1 ((h_R.1 _ h_q.1).trans h_q.2))]
            refine b0_ne (tgt := 237) hx hb dX7_turn_126 (by decide) (nI_i (by omega)) (fun c_126 => False.elim (by omega)) (fun c_126 => ?_)
            refine lv_aload_n hx hb dX7_turn_129 rfl (lv_at hl 3 rfl) ?_
            refine va_get (D := G.1) (ci := 4) (v := .ref mtr) (C := RX7) (T := TX7) (N := 11) hx hb hts in_c_X7_turn_X7 hown hK.1 hP 0 rfl rfl 4 (by decide) (hts (.fieldLink RX7 16 "FloorPanelsModel" "trial" "[I") (by decide +kernel)) (fun _ h9 => h9) rfl dX7_turn_130 ?_
            refine lv_iconst (v := nI 1) hx hb dX7_turn_133 (by decide) ?_
            refine lv_iload_n hx hb dX7_turn_134 rfl (lv_at hl 2 rfl) ?_
            refine nv_iast hx hb hK hP hD hS 1 rfl (v := nI lv) rfl (by omega) (by decide) dX7_turn_135 (w3 := [(M, .inr (4, [.int (nI rf), .ref mt, .int (nI sz), .ref mn, .ref mtr, .ref md, .int (nI ac), .ref mk, .ref mik, .ref na, .ref so])), (mtr, .inl (G.2 0, 131, .inl (mr u.1 (nI lv) u.2.2.1 tm))), (na, .inl (G.2 0, 16, .inl nf)), (so, .inl (G.2 0, 16, .inl sf))]) (by rw [mr_u1]; rfl) (fun H locs hP hD hS => ?_)
            refine lv_goto (tgt := 237) hx hb dX7_turn_136 (by decide) ?_
            exact Y_v (x := (tm, nf, sf)) (by show MRu (tur r u) _; unfold tur; rw [tst_3t (by omega) ⟨by omega, by rw [← h_lr]; exact h_q.2⟩, ← h_lr]; exact mu_Gnd h_R h_u2 (by omega)) hx hb hr hlk dX7_turn_237 hP hS (by unfold tur; rw [tst_3t (by omega) ⟨by omega, by rw [← h_lr]; exact h_q.2⟩, ← h_lr]; rfl)
          ·
            refine cRS (As := [.ref mtr, .int (nI lv)]) (rest := []) (v := .int (nI (wng u.1 tm lv))) ⟨hx, hb, hml, hown, hts⟩ (c_X7_whyNotGround_n l G mtr u.1 u.2.1 u.2.2.1 tm lv (by first | omega | assumption) (by first | omega | assumption) (by first | omega | assumption)) (va_cwS 2 hts gX7_turn_X7_whyNotGround rfl rfl rfl (by decide +kernel) ⟨Nat.le_of_ble_eq_true rfl, Nat.le_of_ble_eq_true rfl⟩) (preS_of hK hP hD [1] (by decide) rfl) rfl hl.1 rfl (lv_room (Nat.le_of_ble_eq_true rfl)) dX7_turn_123 ⟨Nat.zero_le _, Nat.zero_le _⟩ ?_
            have h_w1 := wng_no (m := tm) (fun z_ => h_q ⟨z_.1, (h_R.1 _ z_.1).symm.trans z_.2⟩)
            have h_w2 := wng_le u.1 lv tm
            refine b0_ne (tgt := 237) hx hb dX7_turn_126 (by decide) (nI_i (by omega)) (fun c_126 => ?_) (fun c_126 => False.elim (by omega))
            exact Y_v (x := (tm, nf, sf)) (by show MRu (tur r u) _; unfold tur; rw [tst_3f (by omega) (fun z_ => h_q (by rw [← h_lr] at z_; exact z_))]; exact h_R) hx hb hr hlk dX7_turn_237 hP hS (by unfold tur; rw [tst_3f (by omega) (fun z_ => h_q (by rw [← h_lr] at z_; exact z_))])
      ·
        refine lv_aload_n hx hb dX7_turn_87 rfl (lv_at hl 3 rfl) ?_
        refine va_get (D := G.1) (ci := 4) (v := .ref mtr) (C := RX7) (T := TX7) (N := 11) hx hb hts in_c_X7_turn_X7 hown hK.1 hP 0 rfl rfl 4 (by decide) (hts (.fieldLink RX7 16 "FloorPanelsModel" "trial" "[I") (by decide +kernel)) (fun _ h9 => h9) rfl dX7_turn_88 ?_
        refine lv_iload_n hx hb dX7_turn_91 rfl (lv_at hl 2 rfl) ?_
        refine lv_iload hx hb dX7_turn_92 (lv_at hl 0 rfl) ?_
        by_cases h_q : lv < u.1 ∧ k < 4 ∧ ¬ (lv = u.2.1 ∧ k ≠ 0)
        ·
          refine cRS (As := [.ref mtr, .int (nI lv), .int (nI k)]) (rest := []) (v := .int (nI (wnk u.1 u.2.1 (lv : Int) (k : Int)))) ⟨hx, hb, hml, hown, hts⟩ (c_X7_whyNotKind_n l G mtr u.1 u.2.1 u.2.2.1 tm lv k (by first | omega | assumption) (by first | omega | assumption) (by first | omega | assumption) (by first | omega | assumption) (by omega)) (va_cwS 3 hts gX7_turn_X7_whyNotKind rfl rfl rfl (by decide +kernel) ⟨Nat.le_of_ble_eq_true rfl, Nat.le_of_ble_eq_true rfl⟩) (preS_of hK hP hD [1] (by decide) rfl) rfl hl.1 rfl (lv_room (Nat.le_of_ble_eq_true rfl)) dX7_turn_94 ⟨Nat.zero_le _, Nat.zero_le _⟩ ?_
          rw [show (nI (wnk u.1 u.2.1 (lv : Int) (k : Int))) = nI 0 from congrArg nI (wnk_ok h_q.1 h_q.2.1 h_q.2.2)]
          refine b0_ne (tgt := 237) hx hb dX7_turn_97 (by decide) (nI_i (by omega)) (fun c_97 => False.elim (by omega)) (fun c_97 => ?_)
          refine lv_aload_n hx hb dX7_turn_100 rfl (lv_at hl 3 rfl) ?_
          refine va_get (D := G.1) (ci := 4) (v := .ref mtr) (C := RX7) (T := TX7) (N := 11) hx hb hts in_c_X7_turn_X7 hown hK.1 hP 0 rfl rfl 4 (by decide) (hts (.fieldLink RX7 16 "FloorPanelsModel" "trial" "[I") (by decide +kernel)) (fun _ h9 => h9) rfl dX7_turn_101 ?_
          refine lv_iconst (v := nI 3) hx hb dX7_turn_104 (by decide) ?_
          refine lv_iload_n hx hb dX7_turn_105 rfl (lv_at hl 2 rfl) ?_
          refine nv_iadd hx hb dX7_turn_106 ?_
          refine lv_iload hx hb dX7_turn_107 (lv_at hl 0 rfl) ?_
          refine nv_iast hx hb hK hP hD hS 1 rfl (v := nI k) rfl (by omega) (by decide) dX7_turn_109 (w3 := [(M, .inr (4, [.int (nI rf), .ref mt, .int (nI sz), .ref mn, .ref mtr, .ref md, .int (nI ac), .ref mk, .ref mik, .ref na, .ref so])), (mtr, .inl (G.2 0, 131, .inl (mr u.1 (nI u.2.1) u.2.2.1 (upd tm (3 + lv) (nI k))))), (na, .inl (G.2 0, 16, .inl nf)), (so, .inl (G.2 0, 16, .inl sf))]) (by rw [mr_uj (by omega)]; rfl) (fun H locs hP hD hS => ?_)
          refine lv_goto (tgt := 237) hx hb dX7_turn_110 (by decide) ?_
          exact Y_v (x := (upd tm (3 + lv) (nI k), nf, sf)) (by show MRu (tur r u) _; unfold tur; rw [tst_2t (by omega) (by omega), ← h_lr, ← h_kr]; exact mu_Knd h_R h_u2 (by omega)) hx hb hr hlk dX7_turn_237 hP hS (by unfold tur; rw [tst_2t (by omega) (by omega), ← h_lr, ← h_kr]; rfl)
        ·
          refine cRS (As := [.ref mtr, .int (nI lv), .int (nI k)]) (rest := []) (v := .int (nI (wnk u.1 u.2.1 (lv : Int) (k : Int)))) ⟨hx, hb, hml, hown, hts⟩ (c_X7_whyNotKind_n l G mtr u.1 u.2.1 u.2.2.1 tm lv k (by first | omega | assumption) (by first | omega | assumption) (by first | omega | assumption) (by first | omega | assumption) (by omega)) (va_cwS 3 hts gX7_turn_X7_whyNotKind rfl rfl rfl (by decide +kernel) ⟨Nat.le_of_ble_eq_true rfl, Nat.le_of_ble_eq_true rfl⟩) (preS_of hK hP hD [1] (by decide) rfl) rfl hl.1 rfl (lv_room (Nat.le_of_ble_eq_true rfl)) dX7_turn_94 ⟨Nat.zero_le _, Nat.zero_le _⟩ ?_
          have h_w1 := wnk_no h_q
          have h_w2 := wnk_le u.1 u.2.1 (lv : Int) (k : Int)
          refine b0_ne (tgt := 237) hx hb dX7_turn_97 (by decide) (nI_i (by omega)) (fun c_97 => ?_) (fun c_97 => False.elim (by omega))
          exact Y_v (x := (tm, nf, sf)) (by show MRu (tur r u) _; unfold tur; rw [tst_2f (by omega) (by omega)]; exact h_R) hx hb hr hlk dX7_turn_237 hP hS (by unfold tur; rw [tst_2f (by omega) (by omega)])
    ·
      refine lv_aload_n hx hb dX7_turn_59 rfl (lv_at hl 3 rfl) ?_
      refine va_get (D := G.1) (ci := 4) (v := .ref mtr) (C := RX7) (T := TX7) (N := 11) hx hb hts in_c_X7_turn_X7 hown hK.1 hP 0 rfl rfl 4 (by decide) (hts (.fieldLink RX7 16 "FloorPanelsModel" "trial" "[I") (by decide +kernel)) (fun _ h9 => h9) rfl dX7_turn_60 ?_
      refine lv_iload_n hx hb dX7_turn_63 rfl (lv_at hl 2 rfl) ?_
      by_cases h_q : lv < u.1 ∧ lv ≠ u.2.1
      ·
        refine cRS (As := [.ref mtr, .int (nI lv)]) (rest := []) (v := .int (nI (wnr u.1 u.2.1 (lv : Int)))) ⟨hx, hb, hml, hown, hts⟩ (c_X7_whyNotRemove_n l G mtr u.1 u.2.1 u.2.2.1 tm lv (by first | omega | assumption) (by first | omega | assumption) (by first | omega | assumption) (by first | omega | assumption)) (va_cwS 2 hts gX7_turn_X7_whyNotRemove rfl rfl rfl (by decide +kernel) ⟨Nat.le_of_ble_eq_true rfl, Nat.le_of_ble_eq_true rfl⟩) (preS_of hK hP hD [1] (by decide) rfl) rfl hl.1 rfl (lv_room (Nat.le_of_ble_eq_true rfl)) dX7_turn_64 ⟨Nat.zero_le _, Nat.zero_le _⟩ ?_
        rw [show (nI (wnr u.1 u.2.1 (lv : Int))) = nI 0 from congrArg nI (wnr_ok h_q.1 h_q.2)]
        refine b0_ne (tgt := 237) hx hb dX7_turn_67 (by decide) (nI_i (by omega)) (fun c_67 => False.elim (by omega)) (fun c_67 => ?_)
        refine lv_aload_n hx hb dX7_turn_70 rfl (lv_at hl 3 rfl) ?_
        refine va_get (D := G.1) (ci := 4) (v := .ref mtr) (C := RX7) (T := TX7) (N := 11) hx hb hts in_c_X7_turn_X7 hown hK.1 hP 0 rfl rfl 4 (by decide) (hts (.fieldLink RX7 16 "FloorPanelsModel" "trial" "[I") (by decide +kernel)) (fun _ h9 => h9) rfl dX7_turn_71 ?_
        refine lv_iload_n hx hb dX7_turn_74 rfl (lv_at hl 2 rfl) ?_
        refine cWS (As := [.ref mtr, .int (nI lv)]) (rest := []) (st1 := [.int (nI (u.1 - 1))]) (w3 := [(M, .inr (4, [.int (nI rf), .ref mt, .int (nI sz), .ref mn, .ref mtr, .ref md, .int (nI ac), .ref mk, .ref mik, .ref na, .ref so])), (mtr, .inl (G.2 0, 131, .inl (mr (u.1 - 1) (nI (delG lv u.2.1)) u.2.2.1 (dm lv (u.1 - 1) (u.1 - 1) tm)))), (na, .inl (G.2 0, 16, .inl nf)), (so, .inl (G.2 0, 16, .inl sf))]) ⟨hx, hb, hml, hown, hts⟩ (c_X7_removeOn l G mtr u.1 u.2.1 u.2.2.1 tm lv (by first | omega | assumption) (by first | omega | assumption) (by first | omega | assumption) (by first | omega | assumption)) (va_cwS 2 hts gX7_turn_X7_removeOn rfl rfl rfl (by decide +kernel) ⟨Nat.le_of_ble_eq_true rfl, Nat.le_of_ble_eq_true rfl⟩) (preS_of hK hP hD [1] (by decide) rfl) rfl hl.1 rfl (lv_room (Nat.le_of_ble_eq_true rfl)) dX7_turn_75 ⟨Nat.zero_le _, Nat.zero_le _⟩ hP hD hS [1] (by decide) rfl (Eq.trans (b := [mtr]) rfl rfl) (rfl) rfl (fun H locs hP hD hS => ?_)
        refine lv_pop hx hb dX7_turn_78 rfl ?_
        refine lv_goto (tgt := 237) hx hb dX7_turn_79 (by decide) ?_
        exact Y_v (x := (dm lv (u.1 - 1) (u.1 - 1) tm, nf, sf)) (by show MRu (tur r u) _; unfold tur; rw [tst_1t (by omega) (by omega), ← h_lr]; exact mu_Del h_R h_u2 (by omega) (by omega)) hx hb hr hlk dX7_turn_237 hP hS (by unfold tur; rw [tst_1t (by omega) (by omega), ← h_lr]; rfl)
      ·
        refine cRS (As := [.ref mtr, .int (nI lv)]) (rest := []) (v := .int (nI (wnr u.1 u.2.1 (lv : Int)))) ⟨hx, hb, hml, hown, hts⟩ (c_X7_whyNotRemove_n l G mtr u.1 u.2.1 u.2.2.1 tm lv (by first | omega | assumption) (by first | omega | assumption) (by first | omega | assumption) (by first | omega | assumption)) (va_cwS 2 hts gX7_turn_X7_whyNotRemove rfl rfl rfl (by decide +kernel) ⟨Nat.le_of_ble_eq_true rfl, Nat.le_of_ble_eq_true rfl⟩) (preS_of hK hP hD [1] (by decide) rfl) rfl hl.1 rfl (lv_room (Nat.le_of_ble_eq_true rfl)) dX7_turn_64 ⟨Nat.zero_le _, Nat.zero_le _⟩ ?_
        have h_w1 := wnr_no h_q
        have h_w2 := wnr_le u.1 u.2.1 (lv : Int)
        refine b0_ne (tgt := 237) hx hb dX7_turn_67 (by decide) (nI_i (by omega)) (fun c_67 => ?_) (fun c_67 => False.elim (by omega))
        exact Y_v (x := (tm, nf, sf)) (by show MRu (tur r u) _; unfold tur; rw [tst_1f (by omega) (by omega)]; exact h_R) hx hb hr hlk dX7_turn_237 hP hS (by unfold tur; rw [tst_1f (by omega) (by omega)])
  ·
    refine lv_aload_n hx hb dX7_turn_27 rfl (lv_at hl 3 rfl) ?_
    refine va_get (D := G.1) (ci := 4) (v := .ref mtr) (C := RX7) (T := TX7) (N := 11) hx hb hts in_c_X7_turn_X7 hown hK.1 hP 0 rfl rfl 4 (by decide) (hts (.fieldLink RX7 16 "FloorPanelsModel" "trial" "[I") (by decide +kernel)) (fun _ h9 => h9) rfl dX7_turn_28 ?_
    refine lv_iload_n hx hb dX7_turn_31 rfl (lv_at hl 2 rfl) ?_
    refine lv_iload hx hb dX7_turn_32 (lv_at hl 0 rfl) ?_
    by_cases h_q : lv ≤ u.1 ∧ k < 4 ∧ u.1 < 16
    ·
      refine cRS (As := [.ref mtr, .int (nI lv), .int (nI k)]) (rest := []) (v := .int (nI (wna u.1 (lv : Int) (k : Int)))) ⟨hx, hb, hml, hown, hts⟩ (c_X7_whyNotAdd_n l G mtr u.1 u.2.1 u.2.2.1 tm lv k (by first | omega | assumption) (by first | omega | assumption) (by omega)) (va_cwS 3 hts gX7_turn_X7_whyNotAdd rfl rfl rfl (by decide +kernel) ⟨Nat.le_of_ble_eq_true rfl, Nat.le_of_ble_eq_true rfl⟩) (preS_of hK hP hD [1] (by decide) rfl) rfl hl.1 rfl (lv_room (Nat.le_of_ble_eq_true rfl)) dX7_turn_34 ⟨Nat.zero_le _, Nat.zero_le _⟩ ?_
      rw [show (nI (wna u.1 (lv : Int) (k : Int))) = nI 0 from congrArg nI (wna_ok h_q.1 h_q.2.1 h_q.2.2)]
      refine b0_ne (tgt := 237) hx hb dX7_turn_37 (by decide) (nI_i (by omega)) (fun c_37 => False.elim (by omega)) (fun c_37 => ?_)
      refine lv_aload_n hx hb dX7_turn_40 rfl (lv_at hl 3 rfl) ?_
      refine va_get (D := G.1) (ci := 4) (v := .ref mtr) (C := RX7) (T := TX7) (N := 11) hx hb hts in_c_X7_turn_X7 hown hK.1 hP 0 rfl rfl 4 (by decide) (hts (.fieldLink RX7 16 "FloorPanelsModel" "trial" "[I") (by decide +kernel)) (fun _ h9 => h9) rfl dX7_turn_41 ?_
      refine lv_iload_n hx hb dX7_turn_44 rfl (lv_at hl 2 rfl) ?_
      refine lv_iload hx hb dX7_turn_45 (lv_at hl 0 rfl) ?_
      refine cWS (As := [.ref mtr, .int (nI lv), .int (nI k)]) (rest := []) (st1 := [.int (nI (u.1 + 1))]) (w3 := [(M, .inr (4, [.int (nI rf), .ref mt, .int (nI sz), .ref mn, .ref mtr, .ref md, .int (nI ac), .ref mk, .ref mik, .ref na, .ref so])), (mtr, .inl (G.2 0, 131, .inl (mr (u.1 + 1) (nI (insG lv u.2.1)) u.2.2.1 (fum lv (nI k) (sm lv u.1 lv tm))))), (na, .inl (G.2 0, 16, .inl nf)), (so, .inl (G.2 0, 16, .inl sf))]) ⟨hx, hb, hml, hown, hts⟩ (c_X7_insert l G mtr u.1 u.2.1 u.2.2.1 tm lv (nI k) (by first | omega | assumption) (by first | omega | assumption) (by first | omega | assumption) (by first | omega | assumption)) (va_cwS 3 hts gX7_turn_X7_insert rfl rfl rfl (by decide +kernel) ⟨Nat.le_of_ble_eq_true rfl, Nat.le_of_ble_eq_true rfl⟩) (preS_of hK hP hD [1] (by decide) rfl) rfl hl.1 rfl (lv_room (Nat.le_of_ble_eq_true rfl)) dX7_turn_47 ⟨Nat.zero_le _, Nat.zero_le _⟩ hP hD hS [1] (by decide) rfl (Eq.trans (b := [mtr]) rfl rfl) (rfl) rfl (fun H locs hP hD hS => ?_)
      refine lv_pop hx hb dX7_turn_50 rfl ?_
      refine lv_goto (tgt := 237) hx hb dX7_turn_51 (by decide) ?_
      exact Y_v (x := (fum lv (nI k) (sm lv u.1 lv tm), nf, sf)) (by show MRu (tur r u) _; unfold tur; rw [tst_0t (by omega) (by omega), ← h_lr, ← h_kr]; exact mu_Add h_R h_u2 (by omega) (by omega)) hx hb hr hlk dX7_turn_237 hP hS (by unfold tur; rw [tst_0t (by omega) (by omega), ← h_lr, ← h_kr]; rfl)
    ·
      refine cRS (As := [.ref mtr, .int (nI lv), .int (nI k)]) (rest := []) (v := .int (nI (wna u.1 (lv : Int) (k : Int)))) ⟨hx, hb, hml, hown, hts⟩ (c_X7_whyNotAdd_n l G mtr u.1 u.2.1 u.2.2.1 tm lv k (by first | omega | assumption) (by first | omega | assumption) (by omega)) (va_cwS 3 hts gX7_turn_X7_whyNotAdd rfl rfl rfl (by decide +kernel) ⟨Nat.le_of_ble_eq_true rfl, Nat.le_of_ble_eq_true rfl⟩) (preS_of hK hP hD [1] (by decide) rfl) rfl hl.1 rfl (lv_room (Nat.le_of_ble_eq_true rfl)) dX7_turn_34 ⟨Nat.zero_le _, Nat.zero_le _⟩ ?_
      have h_w1 := wna_no h_q h_n
      have h_w2 := wna_le u.1 (lv : Int) (k : Int)
      refine b0_ne (tgt := 237) hx hb dX7_turn_37 (by decide) (nI_i (by omega)) (fun c_37 => ?_) (fun c_37 => False.elim (by omega))
      exact Y_v (x := (tm, nf, sf)) (by show MRu (tur r u) _; unfold tur; rw [tst_0f (by omega) (by omega)]; exact h_R) hx hb hr hlk dX7_turn_237 hP hS (by unfold tur; rw [tst_0f (by omega) (by omega)])

theorem in_c_X7_runScript_X7 : ∀ w ∈ wsX70, w ∈ wsX7_runScript := by decide +kernel
set_option maxHeartbeats 4000000 in
set_option maxRecDepth 100000 in
theorem c_X7_runScript (l : Launch) (G : GG) (M : Nat) (rf : Nat) (mt : Nat) (sz : Nat) (mn : Nat) (mtr : Nat) (md : Nat) (ac : Nat) (mk : Nat) (mik : Nat) (na : Nat) (so : Nat) (n : Nat) (g : Nat) (sk : Int32) (mm : Nat → Int32) (tf : Nat → Int32) (nf : Nat → Int32) (sf : Nat → Int32) (f : Nat → Int32) (k : Nat) (S : Nat) (h_u : hOK (n, g, sk, f)) (h_R : MRu (n, g, sk, f) mm) (h_k : 1 ≤ k ∧ k ≤ 3) (h_S : S < 10000 ^ k) : Met l yX7_runScript wsX7_runScript ({ frames := 5, cells := 0, slots := 0, locals := 124 } : Room) (va_Pc [.ref M, .int (nI k), .long (lN S)] (PB G [(M, .inr (4, [.int (nI rf), .ref mt, .int (nI sz), .ref mn, .ref mtr, .ref md, .int (nI ac), .ref mk, .ref mik, .ref na, .ref so])), (mn, .inl (G.2 0, 131, .inl (mr n (nI g) sk mm))), (mtr, .inl (G.2 0, 131, .inl tf)), (na, .inl (G.2 0, 16, .inl nf)), (so, .inl (G.2 0, 16, .inl sf))])) (QX G (some (.int (srr S k (n, g, sk, f) k 0))) (fun x_ : (Nat → Int32) × (Nat → Int32) × (Nat → Int32) => [(M, .inr (4, [.int (nI 0), .ref mt, .int (nI sz), .ref mn, .ref mtr, .ref md, .int (nI ac), .ref mk, .ref mik, .ref na, .ref so])), (mn, .inl (G.2 0, 131, .inl (mr n (nI g) sk mm))), (mtr, .inl (G.2 0, 131, .inl (mr ((sru S k (n, g, sk, f) (src S k (n, g, sk, f) k 0)).1) (nI (sru S k (n, g, sk, f) (src S k (n, g, sk, f) k 0)).2.1) ((sru S k (n, g, sk, f) (src S k (n, g, sk, f) k 0)).2.2.1) x_.1))), (na, .inl (G.2 0, 16, .inl x_.2.1)), (so, .inl (G.2 0, 16, .inl x_.2.2))]) (fun x_ : (Nat → Int32) × (Nat → Int32) × (Nat → Int32) => MRu (sru S k (n, g, sk, f) (src S k (n, g, sk, f) k 0)) x_.1) (vA [(M, .inr (4, [.int (nI rf), .ref mt, .int (nI sz), .ref mn, .ref mtr, .ref md, .int (nI ac), .ref mk, .ref mik, .ref na, .ref so])), (mn, .inl (G.2 0, 131, .inl (mr n (nI g) sk mm))), (mtr, .inl (G.2 0, 131, .inl tf)), (na, .inl (G.2 0, 16, .inl nf)), (so, .inl (G.2 0, 16, .inl sf))])) 0 0 (vA [(M, .inr (4, [.int (nI rf), .ref mt, .int (nI sz), .ref mn, .ref mtr, .ref md, .int (nI ac), .ref mk, .ref mik, .ref na, .ref so])), (mn, .inl (G.2 0, 131, .inl (mr n (nI g) sk mm))), (mtr, .inl (G.2 0, 131, .inl tf)), (na, .inl (G.2 0, 16, .inl nf)), (so, .inl (G.2 0, 16, .inl sf))]) := by
  refine Met.go (cc := cX7_runScript) (maxL := 8) (ret := (some .int)) (by decide) rfl (Nat.le_of_ble_eq_true rfl) ?_
  intro p e s m below meth c ls hx hb hr hml hown hts hlk hP hK hD hS hl
  have hown : s.vm.findClass RX7 = some m.cls := hown
  have hl : lv_has ls 8 [(0, .ref M), (1, .int (nI k)), (2, .long (lN S))] := hl
  have h_pw := pw_le h_k.2
  have h_pp : 0 < 10000 ^ k := Nat.pow_pos (by decide)
  refine lv_lconst (v := lN 1) hx hb dX7_runScript_0 rfl ?_
  refine lv_lstore (lv' := [(4, .long (lN 1)), (0, .ref M), (1, .int (nI k)), (2, .long (lN S))]) hx hb dX7_runScript_1 hl (by decide) rfl (fun ls hl => ?_)
  refine lv_iconst (v := nI 0) hx hb dX7_runScript_3 (by decide) ?_
  refine lv_istore (lv' := [(6, .int (nI 0)), (4, .long (lN 1)), (0, .ref M), (1, .int (nI k)), (2, .long (lN S))]) hx hb dX7_runScript_4 hl (by decide) rfl (fun ls hl => ?_)
  have loop_6 : ∀ (k_ : Nat) (i : Nat) (h_i : i ≤ k) (_ : k - i < k_) (H : Heap) (locs : List Loc) (_ : VP G [(M, .inr (4, [.int (nI rf), .ref mt, .int (nI sz), .ref mn, .ref mtr, .ref md, .int (nI ac), .ref mk, .ref mik, .ref na, .ref so])), (mn, .inl (G.2 0, 131, .inl (mr n (nI g) sk mm))), (mtr, .inl (G.2 0, 131, .inl tf)), (na, .inl (G.2 0, 16, .inl nf)), (so, .inl (G.2 0, 16, .inl sf))] H) (_ : va_D (vA [(M, .inr (4, [.int (nI rf), .ref mt, .int (nI sz), .ref mn, .ref mtr, .ref md, .int (nI ac), .ref mk, .ref mik, .ref na, .ref so])), (mn, .inl (G.2 0, 131, .inl (mr n (nI g) sk mm))), (mtr, .inl (G.2 0, 131, .inl tf)), (na, .inl (G.2 0, 16, .inl nf)), (so, .inl (G.2 0, 16, .inl sf))]) [(M, .inr (4, [.int (nI rf), .ref mt, .int (nI sz), .ref mn, .ref mtr, .ref md, .int (nI ac), .ref mk, .ref mik, .ref na, .ref so])), (mn, .inl (G.2 0, 131, .inl (mr n (nI g) sk mm))), (mtr, .inl (G.2 0, 131, .inl tf)), (na, .inl (G.2 0, 16, .inl nf)), (so, .inl (G.2 0, 16, .inl sf))]) (_ : va_S (vA [(M, .inr (4, [.int (nI rf), .ref mt, .int (nI sz), .ref mn, .ref mtr, .ref md, .int (nI ac), .ref mk, .ref mik, .ref na, .ref so])), (mn, .inl (G.2 0, 131, .inl (mr n (nI g) sk mm))), (mtr, .inl (G.2 0, 131, .inl tf)), (na, .inl (G.2 0, 16, .inl nf)), (so, .inl (G.2 0, 16, .inl sf))]) s.heap H locs) (ls : Array Slot), lv_has ls 8 [(6, .int (nI i)), (4, .long (lN (10000 ^ i))), (0, .ref M), (1, .int (nI k)), (2, .long (lN S))] → W p l e ({ frames := 5, cells := 0, slots := 0, locals := 124 } : Room) s m ([.ref M, .int (nI k), .long (lN S)] : List Value).toArray below meth c H locs 0 0 (MQ below (QX G (some (.int (srr S k (n, g, sk, f) k 0))) (fun x_ : (Nat → Int32) × (Nat → Int32) × (Nat → Int32) => [(M, .inr (4, [.int (nI 0), .ref mt, .int (nI sz), .ref mn, .ref mtr, .ref md, .int (nI ac), .ref mk, .ref mik, .ref na, .ref so])), (mn, .inl (G.2 0, 131, .inl (mr n (nI g) sk mm))), (mtr, .inl (G.2 0, 131, .inl (mr ((sru S k (n, g, sk, f) (src S k (n, g, sk, f) k 0)).1) (nI (sru S k (n, g, sk, f) (src S k (n, g, sk, f) k 0)).2.1) ((sru S k (n, g, sk, f) (src S k (n, g, sk, f) k 0)).2.2.1) x_.1))), (na, .inl (G.2 0, 16, .inl x_.2.1)), (so, .inl (G.2 0, 16, .inl x_.2.2))]) (fun x_ : (Nat → Int32) × (Nat → Int32) × (Nat → Int32) => MRu (sru S k (n, g, sk, f) (src S k (n, g, sk, f) k 0)) x_.1) (vA [(M, .inr (4, [.int (nI rf), .ref mt, .int (nI sz), .ref mn, .ref mtr, .ref md, .int (nI ac), .ref mk, .ref mik, .ref na, .ref so])), (mn, .inl (G.2 0, 131, .inl (mr n (nI g) sk mm))), (mtr, .inl (G.2 0, 131, .inl tf)), (na, .inl (G.2 0, 16, .inl nf)), (so, .inl (G.2 0, 16, .inl sf))])) ([.ref M, .int (nI k), .long (lN S)] : List Value).toArray s 0 0 (vA [(M, .inr (4, [.int (nI rf), .ref mt, .int (nI sz), .ref mn, .ref mtr, .ref md, .int (nI ac), .ref mk, .ref mik, .ref na, .ref so])), (mn, .inl (G.2 0, 131, .inl (mr n (nI g) sk mm))), (mtr, .inl (G.2 0, 131, .inl tf)), (na, .inl (G.2 0, 16, .inl nf)), (so, .inl (G.2 0, 16, .inl sf))])) (F0 m 6 ls []) := by
    intro k_
    induction k_ with
    | zero => intro i h_i hk_; exact absurd hk_ (Nat.not_lt_zero _)
    | succ k_ ih_6 =>
      intro i h_i hk_ H locs hP hD hS ls hl
      refine lv_iload hx hb dX7_runScript_6 (lv_at hl 0 rfl) ?_
      refine lv_iload_n hx hb dX7_runScript_8 rfl (lv_at hl 3 rfl) ?_
      refine bi_ge (tgt := 32) hx hb dX7_runScript_9 (by decide) (nI_i (by omega)) (nI_i (by omega)) (fun c_9 => ?_) (fun c_9 => ?_)
      ·
        rw [show i = k by omega] at hl
        refine lv_aload_n hx hb dX7_runScript_32 rfl (lv_at hl 2 rfl) ?_
        refine lv_iload_n hx hb dX7_runScript_33 rfl (lv_at hl 3 rfl) ?_
        refine lv_i2l (v := lN k) hx hb dX7_runScript_34 (nI_l (by omega)) ?_
        refine lv_lconst (v := lN 1) hx hb dX7_runScript_35 rfl ?_
        refine lv_ldc2 (own := RX7) (v := lN 3) hx hb hown (hts (.constantLong RX7 53 (3)) (by decide +kernel)) dX7_runScript_36 ?_
        refine cRS (As := [.long (lN k), .long (lN 1), .long (lN 3)]) (rest := [.ref M]) (v := .int (zb ((lN 1).toInt ≤ (lN k).toInt ∧ (lN k).toInt ≤ (lN 3).toInt))) ⟨hx, hb, hml, hown, hts⟩ (c_X7_in l G (lN k) (lN 1) (lN 3) ) (va_cwS 3 hts gX7_runScript_X7_in rfl rfl rfl (by decide +kernel) ⟨Nat.le_of_ble_eq_true rfl, Nat.le_of_ble_eq_true rfl⟩) (preS_of hK hP hD [] (by decide) rfl) rfl hl.1 rfl (lv_room (Nat.le_of_ble_eq_true rfl)) dX7_runScript_39 ⟨Nat.zero_le _, Nat.zero_le _⟩ ?_
        refine bb_eq (tgt := 61) hx hb dX7_runScript_42 (by decide) (fun c_42 => False.elim (by (rw [pk_lT (by omega), pk_lT (by omega), pk_lT (by omega)] at c_42; omega))) (fun c_42 => ?_)
        refine lv_lload_n hx hb dX7_runScript_45 rfl (lv_at hl 4 rfl) ?_
        refine lv_lconst (v := lN 0) hx hb dX7_runScript_46 rfl ?_
        refine lv_lload hx hb dX7_runScript_47 (lv_at hl 1 rfl) ?_
        refine lv_lconst (v := lN 1) hx hb dX7_runScript_49 rfl ?_
        refine lv_lsub hx hb dX7_runScript_50 ?_
        rw [show lN (10000 ^ k) - lN 1 = lN ((10000 ^ k) - 1) from lN_sub (by omega)]
        refine cRS (As := [.long (lN S), .long (lN 0), .long (lN ((10000 ^ k) - 1))]) (rest := [.ref M]) (v := .int (zb ((lN 0).toInt ≤ (lN S).toInt ∧ (lN S).toInt ≤ (lN ((10000 ^ k) - 1)).toInt))) ⟨hx, hb, hml, hown, hts⟩ (c_X7_in l G (lN S) (lN 0) (lN ((10000 ^ k) - 1)) ) (va_cwS 3 hts gX7_runScript_X7_in rfl rfl rfl (by decide +kernel) ⟨Nat.le_of_ble_eq_true rfl, Nat.le_of_ble_eq_true rfl⟩) (preS_of hK hP hD [] (by decide) rfl) rfl hl.1 rfl (lv_room (Nat.le_of_ble_eq_true rfl)) dX7_runScript_51 ⟨Nat.zero_le _, Nat.zero_le _⟩ ?_
        refine bb_eq (tgt := 61) hx hb dX7_runScript_54 (by decide) (fun c_54 => False.elim (by (rw [pk_lT (by omega), pk_lT (by omega), pk_lT (by omega)] at c_54; omega))) (fun c_54 => ?_)
        refine lv_iconst (v := nI 0) hx hb dX7_runScript_57 (by decide) ?_
        refine lv_goto (tgt := 62) hx hb dX7_runScript_58 (by decide) ?_
        refine cWV (As := [.int (nI 0)]) (rest := []) (st1 := [.int (zb (0 < 0))]) (w3 := [(M, .inr (4, [.int (nI 0), .ref mt, .int (nI sz), .ref mn, .ref mtr, .ref md, .int (nI ac), .ref mk, .ref mik, .ref na, .ref so])), (mn, .inl (G.2 0, 131, .inl (mr n (nI g) sk mm))), (mtr, .inl (G.2 0, 131, .inl tf)), (na, .inl (G.2 0, 16, .inl nf)), (so, .inl (G.2 0, 16, .inl sf))]) ⟨hx, hb, hml, hown, hts⟩ (c_X7_refused l G M rf mt sz mn mtr md ac mk mik na so 0 (by first | omega | assumption)) (cwV 1 hts gX7_runScript_X7_refused rfl rfl rfl (by decide +kernel) ⟨Nat.le_of_ble_eq_true rfl, Nat.le_of_ble_eq_true rfl⟩) (preV_of hK hP hD [0] (by decide) rfl (ci := 4) (q0 := 0) rfl rfl rfl) rfl hl.1 rfl (lv_room (Nat.le_of_ble_eq_true rfl)) dX7_runScript_62 ⟨Nat.zero_le _, Nat.zero_le _⟩ hP hD hS [0] (by decide) rfl (Eq.trans (b := [M]) rfl rfl) (rfl) rfl (fun H locs hP hD hS => ?_)
        refine bb_eq (tgt := 70) hx hb dX7_runScript_65 (by decide) (fun c_65 => ?_) (fun c_65 => False.elim (by omega))
        refine lv_aload_n hx hb dX7_runScript_70 rfl (lv_at hl 2 rfl) ?_
        refine va_get (D := G.1) (ci := 4) (v := .ref mn) (C := RX7) (T := TX7) (N := 11) hx hb hts in_c_X7_runScript_X7 hown hK.1 hP 0 rfl rfl 3 (by decide) (hts (.fieldLink RX7 13 "FloorPanelsModel" "now" "[I") (by decide +kernel)) (fun _ h9 => h9) rfl dX7_runScript_71 ?_
        refine lv_iconst (v := nI 0) hx hb dX7_runScript_74 (by decide) ?_
        refine lv_aload_n hx hb dX7_runScript_75 rfl (lv_at hl 2 rfl) ?_
        refine va_get (D := G.1) (ci := 4) (v := .ref mtr) (C := RX7) (T := TX7) (N := 11) hx hb hts in_c_X7_runScript_X7 hown hK.1 hP 0 rfl rfl 4 (by decide) (hts (.fieldLink RX7 16 "FloorPanelsModel" "trial" "[I") (by decide +kernel)) (fun _ h9 => h9) rfl dX7_runScript_76 ?_
        refine lv_iconst (v := nI 0) hx hb dX7_runScript_79 (by decide) ?_
        refine cWS (As := [.ref mn, .int (nI 0), .ref mtr, .int (nI 0)]) (rest := []) (st1 := []) (w3 := [(M, .inr (4, [.int (nI 0), .ref mt, .int (nI sz), .ref mn, .ref mtr, .ref md, .int (nI ac), .ref mk, .ref mik, .ref na, .ref so])), (mn, .inl (G.2 0, 131, .inl (mr n (nI g) sk mm))), (mtr, .inl (G.2 0, 131, .inl (mr n (nI g) sk (pur tf 0 mm 131)))), (na, .inl (G.2 0, 16, .inl nf)), (so, .inl (G.2 0, 16, .inl sf))]) ⟨hx, hb, hml, hown, hts⟩ (c_X7_copyState l G mn 131 (mr n (nI g) sk mm) mtr 131 tf 0 0 (by first | omega | assumption) (by first | omega | assumption) (by first | omega | assumption) (by first | omega | assumption)) (va_cwS 4 hts gX7_runScript_X7_copyState rfl rfl rfl (by decide +kernel) ⟨Nat.le_of_ble_eq_true rfl, Nat.le_of_ble_eq_true rfl⟩) (preS_of hK hP hD [1, 2] (by decide) rfl) rfl hl.1 rfl (lv_room (Nat.le_of_ble_eq_true rfl)) dX7_runScript_80 ⟨Nat.zero_le _, Nat.zero_le _⟩ hP hD hS [1, 2] (by decide) rfl (Eq.trans (b := [mn, mtr]) rfl rfl) (by rw [fz, pur_mr]; rfl) rfl (fun H locs hP hD hS => ?_)
        refine lv_iconst (v := nI 0) hx hb dX7_runScript_83 (by decide) ?_
        refine lv_istore (lv' := [(6, .int (nI 0)), (4, .long (lN (10000 ^ k))), (0, .ref M), (1, .int (nI k)), (2, .long (lN S))]) hx hb dX7_runScript_84 hl (by decide) rfl (fun ls hl => ?_)
        have loop_86 : ∀ (k_ : Nat) (i : Nat) (t : Nat → Int32) (a_ : Nat → Int32) (b_ : Nat → Int32) (h_i : i ≤ k) (h_e : srr S k (n, g, sk, f) k 0 = srr S k (n, g, sk, f) (k - i) i) (h_e2 : src S k (n, g, sk, f) k 0 = src S k (n, g, sk, f) (k - i) i) (h_Rt : MRu (sru S k (n, g, sk, f) i) t) (_ : k - i < k_) (H : Heap) (locs : List Loc) (_ : VP G [(M, .inr (4, [.int (nI 0), .ref mt, .int (nI sz), .ref mn, .ref mtr, .ref md, .int (nI ac), .ref mk, .ref mik, .ref na, .ref so])), (mn, .inl (G.2 0, 131, .inl (mr n (nI g) sk mm))), (mtr, .inl (G.2 0, 131, .inl (mr ((sru S k (n, g, sk, f) i).1) (nI (sru S k (n, g, sk, f) i).2.1) ((sru S k (n, g, sk, f) i).2.2.1) t))), (na, .inl (G.2 0, 16, .inl a_)), (so, .inl (G.2 0, 16, .inl b_))] H) (_ : va_D (vA [(M, .inr (4, [.int (nI rf), .ref mt, .int (nI sz), .ref mn, .ref mtr, .ref md, .int (nI ac), .ref mk, .ref mik, .ref na, .ref so])), (mn, .inl (G.2 0, 131, .inl (mr n (nI g) sk mm))), (mtr, .inl (G.2 0, 131, .inl tf)), (na, .inl (G.2 0, 16, .inl nf)), (so, .inl (G.2 0, 16, .inl sf))]) [(M, .inr (4, [.int (nI 0), .ref mt, .int (nI sz), .ref mn, .ref mtr, .ref md, .int (nI ac), .ref mk, .ref mik, .ref na, .ref so])), (mn, .inl (G.2 0, 131, .inl (mr n (nI g) sk mm))), (mtr, .inl (G.2 0, 131, .inl (mr ((sru S k (n, g, sk, f) i).1) (nI (sru S k (n, g, sk, f) i).2.1) ((sru S k (n, g, sk, f) i).2.2.1) t))), (na, .inl (G.2 0, 16, .inl a_)), (so, .inl (G.2 0, 16, .inl b_))]) (_ : va_S (vA [(M, .inr (4, [.int (nI rf), .ref mt, .int (nI sz), .ref mn, .ref mtr, .ref md, .int (nI ac), .ref mk, .ref mik, .ref na, .ref so])), (mn, .inl (G.2 0, 131, .inl (mr n (nI g) sk mm))), (mtr, .inl (G.2 0, 131, .inl tf)), (na, .inl (G.2 0, 16, .inl nf)), (so, .inl (G.2 0, 16, .inl sf))]) s.heap H locs) (ls : Array Slot), lv_has ls 8 [(6, .int (nI i)), (4, .long (lN (10000 ^ (k - i)))), (0, .ref M), (1, .int (nI k)), (2, .long (lN S))] → W p l e ({ frames := 5, cells := 0, slots := 0, locals := 124 } : Room) s m ([.ref M, .int (nI k), .long (lN S)] : List Value).toArray below meth c H locs 0 0 (MQ below (QX G (some (.int (srr S k (n, g, sk, f) k 0))) (fun x_ : (Nat → Int32) × (Nat → Int32) × (Nat → Int32) => [(M, .inr (4, [.int (nI 0), .ref mt, .int (nI sz), .ref mn, .ref mtr, .ref md, .int (nI ac), .ref mk, .ref mik, .ref na, .ref so])), (mn, .inl (G.2 0, 131, .inl (mr n (nI g) sk mm))), (mtr, .inl (G.2 0, 131, .inl (mr ((sru S k (n, g, sk, f) (src S k (n, g, sk, f) k 0)).1) (nI (sru S k (n, g, sk, f) (src S k (n, g, sk, f) k 0)).2.1) ((sru S k (n, g, sk, f) (src S k (n, g, sk, f) k 0)).2.2.1) x_.1))), (na, .inl (G.2 0, 16, .inl x_.2.1)), (so, .inl (G.2 0, 16, .inl x_.2.2))]) (fun x_ : (Nat → Int32) × (Nat → Int32) × (Nat → Int32) => MRu (sru S k (n, g, sk, f) (src S k (n, g, sk, f) k 0)) x_.1) (vA [(M, .inr (4, [.int (nI rf), .ref mt, .int (nI sz), .ref mn, .ref mtr, .ref md, .int (nI ac), .ref mk, .ref mik, .ref na, .ref so])), (mn, .inl (G.2 0, 131, .inl (mr n (nI g) sk mm))), (mtr, .inl (G.2 0, 131, .inl tf)), (na, .inl (G.2 0, 16, .inl nf)), (so, .inl (G.2 0, 16, .inl sf))])) ([.ref M, .int (nI k), .long (lN S)] : List Value).toArray s 0 0 (vA [(M, .inr (4, [.int (nI rf), .ref mt, .int (nI sz), .ref mn, .ref mtr, .ref md, .int (nI ac), .ref mk, .ref mik, .ref na, .ref so])), (mn, .inl (G.2 0, 131, .inl (mr n (nI g) sk mm))), (mtr, .inl (G.2 0, 131, .inl tf)), (na, .inl (G.2 0, 16, .inl nf)), (so, .inl (G.2 0, 16, .inl sf))])) (F0 m 86 ls []) := by
          intro k_
          induction k_ with
          | zero => intro i t a_ b_ h_i h_e h_e2 h_Rt hk_; exact absurd hk_ (Nat.not_lt_zero _)
          | succ k_ ih_86 =>
            intro i t a_ b_ h_i h_e h_e2 h_Rt hk_ H locs hP hD hS ls hl
            refine lv_iload hx hb dX7_runScript_86 (lv_at hl 0 rfl) ?_
            refine lv_iload_n hx hb dX7_runScript_88 rfl (lv_at hl 3 rfl) ?_
            refine bi_ge (tgt := 154) hx hb dX7_runScript_89 (by decide) (nI_i (by omega)) (nI_i (by omega)) (fun c_89 => ?_) (fun c_89 => ?_)
            ·
              refine lv_iconst (v := (-1)) hx hb dX7_runScript_154 (by decide) ?_
              exact Y_i (x := (t, a_, b_)) (by show MRu (sru S k (n, g, sk, f) (src S k (n, g, sk, f) k 0)) _; rw [h_e2, show k - i = 0 by omega]; exact h_Rt) hx hb hr hlk dX7_runScript_155 hP hS (by rw [h_e, show k - i = 0 by omega]; rfl) (by rw [h_e2, show k - i = 0 by omega]; rfl)
            ·
              have h_p0 : 0 < 10000 ^ (k - 1 - i) := Nat.pow_pos (by decide)
              have h_p1 := pw_le (k := k - 1 - i) (by omega)
              have h_p2 := pw_le (k := k - i) (by omega)
              have h_p3 : S / 10000 ^ (k - 1 - i) ≤ S := Nat.div_le_self _ _
              have h_cl := cmd_lt S (k - 1 - i)
              refine lv_lload hx hb dX7_runScript_92 (lv_at hl 1 rfl) ?_
              refine lv_ldc2 (own := RX7) (v := lN 10000) hx hb hown (hts (.constantLong RX7 213 (10000)) (by decide +kernel)) dX7_runScript_94 ?_
              refine lv_ldiv hx hb dX7_runScript_97 (by decide) ?_
              rw [show lN (10000 ^ (k - i)) / lN 10000 = lN (10000 ^ (k - 1 - i)) from (pk_lDiv (by omega) (by omega) (by omega)).trans (congrArg lN (pw_div (by omega)))]
              refine lv_lstore (lv' := [(4, .long (lN (10000 ^ (k - 1 - i)))), (6, .int (nI i)), (0, .ref M), (1, .int (nI k)), (2, .long (lN S))]) hx hb dX7_runScript_98 hl (by decide) rfl (fun ls hl => ?_)
              refine lv_lload_n hx hb dX7_runScript_100 rfl (lv_at hl 4 rfl) ?_
              refine lv_lload hx hb dX7_runScript_101 (lv_at hl 0 rfl) ?_
              refine lv_ldiv hx hb dX7_runScript_103 (lN_ne h_p0 (by omega)) ?_
              rw [show lN S / lN (10000 ^ (k - 1 - i)) = lN (S / (10000 ^ (k - 1 - i))) from pk_lDiv (by omega) (by omega) (by omega)]
              refine lv_ldc2 (own := RX7) (v := lN 10000) hx hb hown (hts (.constantLong RX7 213 (10000)) (by decide +kernel)) dX7_runScript_104 ?_
              refine lv_lrem hx hb dX7_runScript_107 (by decide) ?_
              rw [show lN (S / (10000 ^ (k - 1 - i))) - lN (S / (10000 ^ (k - 1 - i))) / lN 10000 * lN 10000 = lN ((S / (10000 ^ (k - 1 - i))) % 10000) from pk_lRem (by omega) (by omega) (by omega)]
              refine lv_l2i (v := nI ((S / (10000 ^ (k - 1 - i))) % 10000)) hx hb dX7_runScript_108 (lN_i _) ?_
              rw [show nI ((S / (10000 ^ (k - 1 - i))) % 10000) = nI (cmd S (k - 1 - i)) from congrArg nI (cmd_pw S (k - 1 - i))]
              refine lv_istore (lv' := [(7, .int (nI (cmd S (k - 1 - i)))), (4, .long (lN (10000 ^ (k - 1 - i)))), (6, .int (nI i)), (0, .ref M), (1, .int (nI k)), (2, .long (lN S))]) hx hb dX7_runScript_109 hl (by decide) rfl (fun ls hl => ?_)
              refine lv_aload_n hx hb dX7_runScript_111 rfl (lv_at hl 3 rfl) ?_
              refine lv_iload hx hb dX7_runScript_112 (lv_at hl 0 rfl) ?_
              refine lv_sipush (v := nI 1000) hx hb dX7_runScript_114 (by decide) ?_
              refine nv_idiv hx hb ⟨by omega, by omega, by omega⟩ dX7_runScript_117 ?_
              refine lv_iload hx hb dX7_runScript_118 (lv_at hl 0 rfl) ?_
              refine lv_bipush (v := nI 100) hx hb dX7_runScript_120 (by decide) ?_
              refine nv_idiv hx hb ⟨by omega, by omega, by omega⟩ dX7_runScript_122 ?_
              refine lv_bipush (v := nI 10) hx hb dX7_runScript_123 (by decide) ?_
              refine nv_irem hx hb ⟨by omega, by omega, by omega⟩ dX7_runScript_125 ?_
              refine lv_iload hx hb dX7_runScript_126 (lv_at hl 0 rfl) ?_
              refine lv_bipush (v := nI 10) hx hb dX7_runScript_128 (by decide) ?_
              refine nv_idiv hx hb ⟨by omega, by omega, by omega⟩ dX7_runScript_130 ?_
              refine lv_bipush (v := nI 10) hx hb dX7_runScript_131 (by decide) ?_
              refine nv_irem hx hb ⟨by omega, by omega, by omega⟩ dX7_runScript_133 ?_
              refine lv_iload hx hb dX7_runScript_134 (lv_at hl 0 rfl) ?_
              refine lv_bipush (v := nI 10) hx hb dX7_runScript_136 (by decide) ?_
              refine nv_irem hx hb ⟨by omega, by omega, by omega⟩ dX7_runScript_138 ?_
              refine cYV (As := [.int (nI ((cmd S (k - 1 - i)) / 1000)), .int (nI (((cmd S (k - 1 - i)) / 100) % 10)), .int (nI (((cmd S (k - 1 - i)) / 10) % 10)), .int (nI ((cmd S (k - 1 - i)) % 10))]) (rest := []) (st1 := [.int (zb (sok ((cmd S (k - 1 - i)) / 1000) (((cmd S (k - 1 - i)) / 100) % 10) (((cmd S (k - 1 - i)) / 10) % 10) ((cmd S (k - 1 - i)) % 10) (sru S k (n, g, sk, f) i)))]) (w3 := fun x_ : (Nat → Int32) × (Nat → Int32) × (Nat → Int32) => [(M, .inr (4, [.int (nI 0), .ref mt, .int (nI sz), .ref mn, .ref mtr, .ref md, .int (nI ac), .ref mk, .ref mik, .ref na, .ref so])), (mn, .inl (G.2 0, 131, .inl (mr n (nI g) sk mm))), (mtr, .inl (G.2 0, 131, .inl (mr ((scm ((cmd S (k - 1 - i)) / 1000) (((cmd S (k - 1 - i)) / 100) % 10) (((cmd S (k - 1 - i)) / 10) % 10) ((cmd S (k - 1 - i)) % 10) (sru S k (n, g, sk, f) i)).1) (nI (scm ((cmd S (k - 1 - i)) / 1000) (((cmd S (k - 1 - i)) / 100) % 10) (((cmd S (k - 1 - i)) / 10) % 10) ((cmd S (k - 1 - i)) % 10) (sru S k (n, g, sk, f) i)).2.1) ((scm ((cmd S (k - 1 - i)) / 1000) (((cmd S (k - 1 - i)) / 100) % 10) (((cmd S (k - 1 - i)) / 10) % 10) ((cmd S (k - 1 - i)) % 10) (sru S k (n, g, sk, f) i)).2.2.1) x_.1))), (na, .inl (G.2 0, 16, .inl x_.2.1)), (so, .inl (G.2 0, 16, .inl x_.2.2))]) ⟨hx, hb, hml, hown, hts⟩ (c_X7_command l G M 0 mt sz mn mtr md ac mk mik na so (sru S k (n, g, sk, f) i) t a_ b_ ((cmd S (k - 1 - i)) / 1000) (((cmd S (k - 1 - i)) / 100) % 10) (((cmd S (k - 1 - i)) / 10) % 10) ((cmd S (k - 1 - i)) % 10) (10 * (cmd S (k - 1 - i) / 100 % 10) + cmd S (k - 1 - i) / 10 % 10) (10 * (cmd S (k - 1 - i) / 10 % 10) + cmd S (k - 1 - i) % 10) (ok_sru h_u i) h_Rt (by first | omega | assumption) (by first | omega | assumption) (by first | omega | assumption) (by first | omega | assumption) (by first | omega | assumption) (by first | omega | assumption)) (cwV 4 hts gX7_runScript_X7_command rfl rfl rfl (by decide +kernel) ⟨Nat.le_of_ble_eq_true rfl, Nat.le_of_ble_eq_true rfl⟩) (preV_of hK hP hD [0, 2, 3, 4] (by decide) rfl (ci := 4) (q0 := 0) rfl rfl rfl) rfl hl.1 rfl (lv_room (Nat.le_of_ble_eq_true rfl)) dX7_runScript_139 ⟨Nat.zero_le _, Nat.zero_le _⟩ hP hD hS [0, 2, 3, 4] (by decide) rfl (fun _ => (Eq.trans (b := [M, mtr, na, so]) rfl rfl)) (fun x_ => rfl) rfl (fun q_e_139 H locs h_e_139 hP hD hS => ?_)
              have hP : VP G [(M, .inr (4, [.int (nI 0), .ref mt, .int (nI sz), .ref mn, .ref mtr, .ref md, .int (nI ac), .ref mk, .ref mik, .ref na, .ref so])), (mn, .inl (G.2 0, 131, .inl (mr n (nI g) sk mm))), (mtr, .inl (G.2 0, 131, .inl (mr ((scm ((cmd S (k - 1 - i)) / 1000) (((cmd S (k - 1 - i)) / 100) % 10) (((cmd S (k - 1 - i)) / 10) % 10) ((cmd S (k - 1 - i)) % 10) (sru S k (n, g, sk, f) i)).1) (nI (scm ((cmd S (k - 1 - i)) / 1000) (((cmd S (k - 1 - i)) / 100) % 10) (((cmd S (k - 1 - i)) / 10) % 10) ((cmd S (k - 1 - i)) % 10) (sru S k (n, g, sk, f) i)).2.1) ((scm ((cmd S (k - 1 - i)) / 1000) (((cmd S (k - 1 - i)) / 100) % 10) (((cmd S (k - 1 - i)) / 10) % 10) ((cmd S (k - 1 - i)) % 10) (sru S k (n, g, sk, f) i)).2.2.1) q_e_139.1))), (na, .inl (G.2 0, 16, .inl q_e_139.2.1)), (so, .inl (G.2 0, 16, .inl q_e_139.2.2))] H := hP
              have hD : va_D _ [(M, .inr (4, [.int (nI 0), .ref mt, .int (nI sz), .ref mn, .ref mtr, .ref md, .int (nI ac), .ref mk, .ref mik, .ref na, .ref so])), (mn, .inl (G.2 0, 131, .inl (mr n (nI g) sk mm))), (mtr, .inl (G.2 0, 131, .inl (mr ((scm ((cmd S (k - 1 - i)) / 1000) (((cmd S (k - 1 - i)) / 100) % 10) (((cmd S (k - 1 - i)) / 10) % 10) ((cmd S (k - 1 - i)) % 10) (sru S k (n, g, sk, f) i)).1) (nI (scm ((cmd S (k - 1 - i)) / 1000) (((cmd S (k - 1 - i)) / 100) % 10) (((cmd S (k - 1 - i)) / 10) % 10) ((cmd S (k - 1 - i)) % 10) (sru S k (n, g, sk, f) i)).2.1) ((scm ((cmd S (k - 1 - i)) / 1000) (((cmd S (k - 1 - i)) / 100) % 10) (((cmd S (k - 1 - i)) / 10) % 10) ((cmd S (k - 1 - i)) % 10) (sru S k (n, g, sk, f) i)).2.2.1) q_e_139.1))), (na, .inl (G.2 0, 16, .inl q_e_139.2.1)), (so, .inl (G.2 0, 16, .inl q_e_139.2.2))] := hD
              refine bb_ne (tgt := 148) hx hb dX7_runScript_142 (by decide) (fun c_142 => ?_) (fun c_142 => ?_)
              ·
                refine lv_iinc (v := nI (i + 1)) (lv' := [(6, .int (nI (i + 1))), (7, .int (nI (cmd S (k - 1 - i)))), (4, .long (lN (10000 ^ (k - 1 - i)))), (0, .ref M), (1, .int (nI k)), (2, .long (lN S))]) hx hb dX7_runScript_148 hl (k := 2) rfl (inc_n _ 1) (by decide) rfl (fun ls hl => ?_)
                refine lv_goto (tgt := 86) hx hb dX7_runScript_151 (by decide) ?_
                exact ih_86 (i + 1) q_e_139.1 q_e_139.2.1 q_e_139.2.2 (by first | omega | assumption) (by rw [h_e, show k - i = k - (i + 1) + 1 by omega]; exact srr_t c_142) (by rw [h_e2, show k - i = k - (i + 1) + 1 by omega]; exact src_t c_142) h_e_139 (by omega) _ _ hP hD hS ls (lv_sub hl [0, 2, 3, 4, 5] (by (rw [show k - 1 - i = k - (i + 1) by omega]; rfl)))
              ·
                refine lv_iload hx hb dX7_runScript_145 (lv_at hl 2 rfl) ?_
                exact Y_i (x := (q_e_139.1, q_e_139.2.1, q_e_139.2.2)) (by show MRu (sru S k (n, g, sk, f) (src S k (n, g, sk, f) k 0)) _; rw [h_e2, show k - i = k - (i + 1) + 1 by omega, src_f c_142]; exact h_e_139) hx hb hr hlk dX7_runScript_147 hP hS (by rw [h_e, show k - i = k - (i + 1) + 1 by omega]; exact (srr_f c_142).symm) (by rw [h_e2, show k - i = k - (i + 1) + 1 by omega, src_f c_142]; rfl)
        exact loop_86 (k - 0 + 1) 0 (pur tf 0 mm 131) nf sf (by first | omega | assumption) rfl rfl (mu_cp h_R h_u) (Nat.lt_succ_self _) _ _ hP hD hS ls (lv_sub hl [0, 1, 2, 3, 4] (by rfl))
      ·
        refine lv_iload hx hb dX7_runScript_12 (lv_at hl 0 rfl) ?_
        refine lv_iconst (v := nI 3) hx hb dX7_runScript_14 (by decide) ?_
        refine bi_ge (tgt := 32) hx hb dX7_runScript_15 (by decide) (nI_i (by omega)) (nI_i (by omega)) (fun c_15 => False.elim (by omega)) (fun c_15 => ?_)
        refine lv_lload hx hb dX7_runScript_18 (lv_at hl 1 rfl) ?_
        refine lv_ldc2 (own := RX7) (v := lN 10000) hx hb hown (hts (.constantLong RX7 213 (10000)) (by decide +kernel)) dX7_runScript_20 ?_
        refine lv_lmul hx hb dX7_runScript_23 ?_
        rw [show lN (10000 ^ i) * lN 10000 = lN ((10000 ^ i) * 10000) from lN_mul _ _]
        refine lv_lstore (lv' := [(4, .long (lN ((10000 ^ i) * 10000))), (6, .int (nI i)), (0, .ref M), (1, .int (nI k)), (2, .long (lN S))]) hx hb dX7_runScript_24 hl (by decide) rfl (fun ls hl => ?_)
        refine lv_iinc (v := nI (i + 1)) (lv' := [(6, .int (nI (i + 1))), (4, .long (lN ((10000 ^ i) * 10000))), (0, .ref M), (1, .int (nI k)), (2, .long (lN S))]) hx hb dX7_runScript_26 hl (k := 1) rfl (inc_n _ 1) (by decide) rfl (fun ls hl => ?_)
        refine lv_goto (tgt := 6) hx hb dX7_runScript_29 (by decide) ?_
        exact ih_6 (i + 1) (by first | omega | assumption) (by omega) _ _ hP hD hS ls (lv_sub hl [0, 1, 2, 3, 4] (by rfl))
  exact loop_6 (k - 0 + 1) 0 (by first | omega | assumption) (Nat.lt_succ_self _) _ _ hP hD hS ls (lv_sub hl [0, 1, 2, 3, 4] (by rfl))

theorem in_c_X7_simulate_X7 : ∀ w ∈ wsX70, w ∈ wsX7_simulate := by decide +kernel
set_option maxHeartbeats 4000000 in
set_option maxRecDepth 100000 in
theorem c_X7_simulate (l : Launch) (G : GG) (M : Nat) (rf : Nat) (mt : Nat) (sz : Nat) (mn : Nat) (mtr : Nat) (md : Nat) (ac : Nat) (mk : Nat) (mik : Nat) (na : Nat) (so : Nat) (n : Nat) (g : Nat) (sk : Int32) (mm : Nat → Int32) (tf : Nat → Int32) (nf : Nat → Int32) (sf : Nat → Int32) (f : Nat → Int32) (sx : Int64) (tn : Nat) (h_u : hOK (n, g, sk, f)) (h_R : MRu (n, g, sk, f) mm) (h_m : 1 ≤ tn ∧ tn ≤ 80) : Met l yX7_simulate wsX7_simulate ({ frames := 6, cells := 0, slots := 0, locals := 148 } : Room) (va_Pc [.ref M, .long sx, .int (nI tn)] (PB G [(M, .inr (4, [.int (nI rf), .ref mt, .int (nI sz), .ref mn, .ref mtr, .ref md, .int (nI ac), .ref mk, .ref mik, .ref na, .ref so])), (mn, .inl (G.2 0, 131, .inl (mr n (nI g) sk mm))), (mtr, .inl (G.2 0, 131, .inl tf)), (na, .inl (G.2 0, 16, .inl nf)), (so, .inl (G.2 0, 16, .inl sf))])) (QX G (some (.int (nI (1000 * tw (smu sx (n, g, sk, f) tn).2.2.2 (smu sx (n, g, sk, f) tn).1 + (smu sx (n, g, sk, f) tn).1)))) (fun x_ : (Nat → Int32) × (Nat → Int32) × (Nat → Int32) => [(M, .inr (4, [.int (nI 0), .ref mt, .int (nI sz), .ref mn, .ref mtr, .ref md, .int (nI ac), .ref mk, .ref mik, .ref na, .ref so])), (mn, .inl (G.2 0, 131, .inl (mr n (nI g) sk mm))), (mtr, .inl (G.2 0, 131, .inl (mr ((smu sx (n, g, sk, f) tn).1) (nI (smu sx (n, g, sk, f) tn).2.1) ((smu sx (n, g, sk, f) tn).2.2.1) x_.1))), (na, .inl (G.2 0, 16, .inl x_.2.1)), (so, .inl (G.2 0, 16, .inl x_.2.2))]) (fun x_ : (Nat → Int32) × (Nat → Int32) × (Nat → Int32) => MRu (smu sx (n, g, sk, f) tn) x_.1) (vA [(M, .inr (4, [.int (nI rf), .ref mt, .int (nI sz), .ref mn, .ref mtr, .ref md, .int (nI ac), .ref mk, .ref mik, .ref na, .ref so])), (mn, .inl (G.2 0, 131, .inl (mr n (nI g) sk mm))), (mtr, .inl (G.2 0, 131, .inl tf)), (na, .inl (G.2 0, 16, .inl nf)), (so, .inl (G.2 0, 16, .inl sf))])) 0 0 (vA [(M, .inr (4, [.int (nI rf), .ref mt, .int (nI sz), .ref mn, .ref mtr, .ref md, .int (nI ac), .ref mk, .ref mik, .ref na, .ref so])), (mn, .inl (G.2 0, 131, .inl (mr n (nI g) sk mm))), (mtr, .inl (G.2 0, 131, .inl tf)), (na, .inl (G.2 0, 16, .inl nf)), (so, .inl (G.2 0, 16, .inl sf))]) := by
  refine Met.go (cc := cX7_simulate) (maxL := 7) (ret := (some .int)) (by decide) rfl (Nat.le_of_ble_eq_true rfl) ?_
  intro p e s m below meth c ls hx hb hr hml hown hts hlk hP hK hD hS hl
  have hown : s.vm.findClass RX7 = some m.cls := hown
  have hl : lv_has ls 7 [(0, .ref M), (1, .long sx), (3, .int (nI tn))] := hl
  refine lv_aload_n hx hb dX7_simulate_0 rfl (lv_at hl 0 rfl) ?_
  refine lv_iload_n hx hb dX7_simulate_1 rfl (lv_at hl 2 rfl) ?_
  refine lv_i2l (v := lN tn) hx hb dX7_simulate_2 (nI_l (by omega)) ?_
  refine lv_lconst (v := lN 1) hx hb dX7_simulate_3 rfl ?_
  refine lv_ldc2 (own := RX7) (v := lN 80) hx hb hown (hts (.constantLong RX7 223 (80)) (by decide +kernel)) dX7_simulate_4 ?_
  refine cRS (As := [.long (lN tn), .long (lN 1), .long (lN 80)]) (rest := [.ref M]) (v := .int (zb ((lN 1).toInt ≤ (lN tn).toInt ∧ (lN tn).toInt ≤ (lN 80).toInt))) ⟨hx, hb, hml, hown, hts⟩ (c_X7_in l G (lN tn) (lN 1) (lN 80) ) (va_cwS 3 hts gX7_simulate_X7_in rfl rfl rfl (by decide +kernel) ⟨Nat.le_of_ble_eq_true rfl, Nat.le_of_ble_eq_true rfl⟩) (preS_of hK hP hD [] (by decide) rfl) rfl hl.1 rfl (lv_room (Nat.le_of_ble_eq_true rfl)) dX7_simulate_7 ⟨Nat.zero_le _, Nat.zero_le _⟩ ?_
  refine bb_eq (tgt := 17) hx hb dX7_simulate_10 (by decide) (fun c_10 => False.elim (by (rw [pk_lT (by omega), pk_lT (by omega), pk_lT (by omega)] at c_10; omega))) (fun c_10 => ?_)
  refine lv_iconst (v := nI 0) hx hb dX7_simulate_13 (by decide) ?_
  refine lv_goto (tgt := 18) hx hb dX7_simulate_14 (by decide) ?_
  refine cWV (As := [.int (nI 0)]) (rest := []) (st1 := [.int (zb (0 < 0))]) (w3 := [(M, .inr (4, [.int (nI 0), .ref mt, .int (nI sz), .ref mn, .ref mtr, .ref md, .int (nI ac), .ref mk, .ref mik, .ref na, .ref so])), (mn, .inl (G.2 0, 131, .inl (mr n (nI g) sk mm))), (mtr, .inl (G.2 0, 131, .inl tf)), (na, .inl (G.2 0, 16, .inl nf)), (so, .inl (G.2 0, 16, .inl sf))]) ⟨hx, hb, hml, hown, hts⟩ (c_X7_refused l G M rf mt sz mn mtr md ac mk mik na so 0 (by first | omega | assumption)) (cwV 1 hts gX7_simulate_X7_refused rfl rfl rfl (by decide +kernel) ⟨Nat.le_of_ble_eq_true rfl, Nat.le_of_ble_eq_true rfl⟩) (preV_of hK hP hD [0] (by decide) rfl (ci := 4) (q0 := 0) rfl rfl rfl) rfl hl.1 rfl (lv_room (Nat.le_of_ble_eq_true rfl)) dX7_simulate_18 ⟨Nat.zero_le _, Nat.zero_le _⟩ hP hD hS [0] (by decide) rfl (Eq.trans (b := [M]) rfl rfl) (rfl) rfl (fun H locs hP hD hS => ?_)
  refine bb_eq (tgt := 26) hx hb dX7_simulate_21 (by decide) (fun c_21 => ?_) (fun c_21 => False.elim (by omega))
  refine lv_aload_n hx hb dX7_simulate_26 rfl (lv_at hl 0 rfl) ?_
  refine va_get (D := G.1) (ci := 4) (v := .ref mn) (C := RX7) (T := TX7) (N := 11) hx hb hts in_c_X7_simulate_X7 hown hK.1 hP 0 rfl rfl 3 (by decide) (hts (.fieldLink RX7 13 "FloorPanelsModel" "now" "[I") (by decide +kernel)) (fun _ h9 => h9) rfl dX7_simulate_27 ?_
  refine lv_iconst (v := nI 0) hx hb dX7_simulate_30 (by decide) ?_
  refine lv_aload_n hx hb dX7_simulate_31 rfl (lv_at hl 0 rfl) ?_
  refine va_get (D := G.1) (ci := 4) (v := .ref mtr) (C := RX7) (T := TX7) (N := 11) hx hb hts in_c_X7_simulate_X7 hown hK.1 hP 0 rfl rfl 4 (by decide) (hts (.fieldLink RX7 16 "FloorPanelsModel" "trial" "[I") (by decide +kernel)) (fun _ h9 => h9) rfl dX7_simulate_32 ?_
  refine lv_iconst (v := nI 0) hx hb dX7_simulate_35 (by decide) ?_
  refine cWS (As := [.ref mn, .int (nI 0), .ref mtr, .int (nI 0)]) (rest := []) (st1 := []) (w3 := [(M, .inr (4, [.int (nI 0), .ref mt, .int (nI sz), .ref mn, .ref mtr, .ref md, .int (nI ac), .ref mk, .ref mik, .ref na, .ref so])), (mn, .inl (G.2 0, 131, .inl (mr n (nI g) sk mm))), (mtr, .inl (G.2 0, 131, .inl (mr n (nI g) sk (pur tf 0 mm 131)))), (na, .inl (G.2 0, 16, .inl nf)), (so, .inl (G.2 0, 16, .inl sf))]) ⟨hx, hb, hml, hown, hts⟩ (c_X7_copyState l G mn 131 (mr n (nI g) sk mm) mtr 131 tf 0 0 (by first | omega | assumption) (by first | omega | assumption) (by first | omega | assumption) (by first | omega | assumption)) (va_cwS 4 hts gX7_simulate_X7_copyState rfl rfl rfl (by decide +kernel) ⟨Nat.le_of_ble_eq_true rfl, Nat.le_of_ble_eq_true rfl⟩) (preS_of hK hP hD [1, 2] (by decide) rfl) rfl hl.1 rfl (lv_room (Nat.le_of_ble_eq_true rfl)) dX7_simulate_36 ⟨Nat.zero_le _, Nat.zero_le _⟩ hP hD hS [1, 2] (by decide) rfl (Eq.trans (b := [mn, mtr]) rfl rfl) (by rw [fz, pur_mr]; rfl) rfl (fun H locs hP hD hS => ?_)
  refine lv_lload_n hx hb dX7_simulate_39 rfl (lv_at hl 1 rfl) ?_
  refine lv_lstore (lv' := [(4, .long sx), (0, .ref M), (1, .long sx), (3, .int (nI tn))]) hx hb dX7_simulate_40 hl (by decide) rfl (fun ls hl => ?_)
  refine lv_iconst (v := nI 0) hx hb dX7_simulate_42 (by decide) ?_
  refine lv_istore (lv' := [(6, .int (nI 0)), (4, .long sx), (0, .ref M), (1, .long sx), (3, .int (nI tn))]) hx hb dX7_simulate_43 hl (by decide) rfl (fun ls hl => ?_)
  have loop_45 : ∀ (k_ : Nat) (i : Nat) (t : Nat → Int32) (a_ : Nat → Int32) (b_ : Nat → Int32) (h_i : i ≤ tn) (h_Rt : MRu (smu sx (n, g, sk, f) i) t) (_ : tn - i < k_) (H : Heap) (locs : List Loc) (_ : VP G [(M, .inr (4, [.int (nI 0), .ref mt, .int (nI sz), .ref mn, .ref mtr, .ref md, .int (nI ac), .ref mk, .ref mik, .ref na, .ref so])), (mn, .inl (G.2 0, 131, .inl (mr n (nI g) sk mm))), (mtr, .inl (G.2 0, 131, .inl (mr ((smu sx (n, g, sk, f) i).1) (nI (smu sx (n, g, sk, f) i).2.1) ((smu sx (n, g, sk, f) i).2.2.1) t))), (na, .inl (G.2 0, 16, .inl a_)), (so, .inl (G.2 0, 16, .inl b_))] H) (_ : va_D (vA [(M, .inr (4, [.int (nI rf), .ref mt, .int (nI sz), .ref mn, .ref mtr, .ref md, .int (nI ac), .ref mk, .ref mik, .ref na, .ref so])), (mn, .inl (G.2 0, 131, .inl (mr n (nI g) sk mm))), (mtr, .inl (G.2 0, 131, .inl tf)), (na, .inl (G.2 0, 16, .inl nf)), (so, .inl (G.2 0, 16, .inl sf))]) [(M, .inr (4, [.int (nI 0), .ref mt, .int (nI sz), .ref mn, .ref mtr, .ref md, .int (nI ac), .ref mk, .ref mik, .ref na, .ref so])), (mn, .inl (G.2 0, 131, .inl (mr n (nI g) sk mm))), (mtr, .inl (G.2 0, 131, .inl (mr ((smu sx (n, g, sk, f) i).1) (nI (smu sx (n, g, sk, f) i).2.1) ((smu sx (n, g, sk, f) i).2.2.1) t))), (na, .inl (G.2 0, 16, .inl a_)), (so, .inl (G.2 0, 16, .inl b_))]) (_ : va_S (vA [(M, .inr (4, [.int (nI rf), .ref mt, .int (nI sz), .ref mn, .ref mtr, .ref md, .int (nI ac), .ref mk, .ref mik, .ref na, .ref so])), (mn, .inl (G.2 0, 131, .inl (mr n (nI g) sk mm))), (mtr, .inl (G.2 0, 131, .inl tf)), (na, .inl (G.2 0, 16, .inl nf)), (so, .inl (G.2 0, 16, .inl sf))]) s.heap H locs) (ls : Array Slot), lv_has ls 7 [(6, .int (nI i)), (4, .long (lcx sx i)), (0, .ref M), (1, .long sx), (3, .int (nI tn))] → W p l e ({ frames := 6, cells := 0, slots := 0, locals := 148 } : Room) s m ([.ref M, .long sx, .int (nI tn)] : List Value).toArray below meth c H locs 0 0 (MQ below (QX G (some (.int (nI (1000 * tw (smu sx (n, g, sk, f) tn).2.2.2 (smu sx (n, g, sk, f) tn).1 + (smu sx (n, g, sk, f) tn).1)))) (fun x_ : (Nat → Int32) × (Nat → Int32) × (Nat → Int32) => [(M, .inr (4, [.int (nI 0), .ref mt, .int (nI sz), .ref mn, .ref mtr, .ref md, .int (nI ac), .ref mk, .ref mik, .ref na, .ref so])), (mn, .inl (G.2 0, 131, .inl (mr n (nI g) sk mm))), (mtr, .inl (G.2 0, 131, .inl (mr ((smu sx (n, g, sk, f) tn).1) (nI (smu sx (n, g, sk, f) tn).2.1) ((smu sx (n, g, sk, f) tn).2.2.1) x_.1))), (na, .inl (G.2 0, 16, .inl x_.2.1)), (so, .inl (G.2 0, 16, .inl x_.2.2))]) (fun x_ : (Nat → Int32) × (Nat → Int32) × (Nat → Int32) => MRu (smu sx (n, g, sk, f) tn) x_.1) (vA [(M, .inr (4, [.int (nI rf), .ref mt, .int (nI sz), .ref mn, .ref mtr, .ref md, .int (nI ac), .ref mk, .ref mik, .ref na, .ref so])), (mn, .inl (G.2 0, 131, .inl (mr n (nI g) sk mm))), (mtr, .inl (G.2 0, 131, .inl tf)), (na, .inl (G.2 0, 16, .inl nf)), (so, .inl (G.2 0, 16, .inl sf))])) ([.ref M, .long sx, .int (nI tn)] : List Value).toArray s 0 0 (vA [(M, .inr (4, [.int (nI rf), .ref mt, .int (nI sz), .ref mn, .ref mtr, .ref md, .int (nI ac), .ref mk, .ref mik, .ref na, .ref so])), (mn, .inl (G.2 0, 131, .inl (mr n (nI g) sk mm))), (mtr, .inl (G.2 0, 131, .inl tf)), (na, .inl (G.2 0, 16, .inl nf)), (so, .inl (G.2 0, 16, .inl sf))])) (F0 m 45 ls []) := by
    intro k_
    induction k_ with
    | zero => intro i t a_ b_ h_i h_Rt hk_; exact absurd hk_ (Nat.not_lt_zero _)
    | succ k_ ih_45 =>
      intro i t a_ b_ h_i h_Rt hk_ H locs hP hD hS ls hl
      refine lv_iload hx hb dX7_simulate_45 (lv_at hl 0 rfl) ?_
      refine lv_iload_n hx hb dX7_simulate_47 rfl (lv_at hl 4 rfl) ?_
      refine bi_ge (tgt := 79) hx hb dX7_simulate_48 (by decide) (nI_i (by omega)) (nI_i (by omega)) (fun c_48 => ?_) (fun c_48 => ?_)
      ·
        rw [show i = tn by omega] at hP hD h_Rt
        have hP : VP G [(M, .inr (4, [.int (nI 0), .ref mt, .int (nI sz), .ref mn, .ref mtr, .ref md, .int (nI ac), .ref mk, .ref mik, .ref na, .ref so])), (mn, .inl (G.2 0, 131, .inl (mr n (nI g) sk mm))), (mtr, .inl (G.2 0, 131, .inl (mr ((smu sx (n, g, sk, f) tn).1) (nI (smu sx (n, g, sk, f) tn).2.1) ((smu sx (n, g, sk, f) tn).2.2.1) t))), (na, .inl (G.2 0, 16, .inl a_)), (so, .inl (G.2 0, 16, .inl b_))] H := hP
        have hD : va_D _ [(M, .inr (4, [.int (nI 0), .ref mt, .int (nI sz), .ref mn, .ref mtr, .ref md, .int (nI ac), .ref mk, .ref mik, .ref na, .ref so])), (mn, .inl (G.2 0, 131, .inl (mr n (nI g) sk mm))), (mtr, .inl (G.2 0, 131, .inl (mr ((smu sx (n, g, sk, f) tn).1) (nI (smu sx (n, g, sk, f) tn).2.1) ((smu sx (n, g, sk, f) tn).2.2.1) t))), (na, .inl (G.2 0, 16, .inl a_)), (so, .inl (G.2 0, 16, .inl b_))] := hD
        have h_ou := ok_smu (x := sx) h_u tn
        refine lv_sipush (v := nI 1000) hx hb dX7_simulate_79 (by decide) ?_
        refine lv_aload_n hx hb dX7_simulate_82 rfl (lv_at hl 2 rfl) ?_
        refine lv_aload_n hx hb dX7_simulate_83 rfl (lv_at hl 2 rfl) ?_
        refine va_get (D := G.1) (ci := 4) (v := .ref mtr) (C := RX7) (T := TX7) (N := 11) hx hb hts in_c_X7_simulate_X7 hown hK.1 hP 0 rfl rfl 4 (by decide) (hts (.fieldLink RX7 16 "FloorPanelsModel" "trial" "[I") (by decide +kernel)) (fun _ h9 => h9) rfl dX7_simulate_84 ?_
        refine cWV (As := [.ref mtr]) (rest := [.int (nI 1000)]) (st1 := [.int (nI (mwr ((smu sx (n, g, sk, f) tn).2.2.1) t ((smu sx (n, g, sk, f) tn).2.1) 19 ((smu sx (n, g, sk, f) tn).1) + mwr ((smu sx (n, g, sk, f) tn).2.2.1) t ((smu sx (n, g, sk, f) tn).2.1) 35 ((smu sx (n, g, sk, f) tn).1) + mwr ((smu sx (n, g, sk, f) tn).2.2.1) t ((smu sx (n, g, sk, f) tn).2.1) 51 ((smu sx (n, g, sk, f) tn).1) + mwr ((smu sx (n, g, sk, f) tn).2.2.1) t ((smu sx (n, g, sk, f) tn).2.1) 67 ((smu sx (n, g, sk, f) tn).1))), .int (nI 1000)]) (w3 := [(M, .inr (4, [.int (nI 0), .ref mt, .int (nI sz), .ref mn, .ref mtr, .ref md, .int (nI ac), .ref mk, .ref mik, .ref na, .ref so])), (mn, .inl (G.2 0, 131, .inl (mr n (nI g) sk mm))), (mtr, .inl (G.2 0, 131, .inl (mr ((smu sx (n, g, sk, f) tn).1) (nI ((smu sx (n, g, sk, f) tn).2.1)) ((smu sx (n, g, sk, f) tn).2.2.1) t))), (na, .inl (G.2 0, 16, .inl (nmA ((smu sx (n, g, sk, f) tn).2.2.1) (kdm t) ((smu sx (n, g, sk, f) tn).2.1) 0 ((smu sx (n, g, sk, f) tn).1) a_))), (so, .inl (G.2 0, 16, .inl (soA ((smu sx (n, g, sk, f) tn).2.2.1) (kdm t) ((smu sx (n, g, sk, f) tn).2.1) 0 ((smu sx (n, g, sk, f) tn).1) b_)))]) ⟨hx, hb, hml, hown, hts⟩ (c_X7_wrong l G M 0 mt sz mn mtr md ac mk mik na so mtr ((smu sx (n, g, sk, f) tn).1) ((smu sx (n, g, sk, f) tn).2.1) ((smu sx (n, g, sk, f) tn).2.2.1) t a_ b_ h_ou.2.1 h_ou.2.2.1 (mu_k h_Rt h_ou)) (cwV 1 hts gX7_simulate_X7_wrong rfl rfl rfl (by decide +kernel) ⟨Nat.le_of_ble_eq_true rfl, Nat.le_of_ble_eq_true rfl⟩) (preV_of hK hP hD [0, 2, 3, 4] (by decide) rfl (ci := 4) (q0 := 0) rfl rfl rfl) rfl hl.1 rfl (lv_room (Nat.le_of_ble_eq_true rfl)) dX7_simulate_87 ⟨Nat.zero_le _, Nat.zero_le _⟩ hP hD hS [0, 2, 3, 4] (by decide) rfl (Eq.trans (b := [M, mtr, na, so]) rfl rfl) (rfl) rfl (fun H locs hP hD hS => ?_)
        rw [show (nI (mwr ((smu sx (n, g, sk, f) tn).2.2.1) t ((smu sx (n, g, sk, f) tn).2.1) 19 ((smu sx (n, g, sk, f) tn).1) + mwr ((smu sx (n, g, sk, f) tn).2.2.1) t ((smu sx (n, g, sk, f) tn).2.1) 35 ((smu sx (n, g, sk, f) tn).1) + mwr ((smu sx (n, g, sk, f) tn).2.2.1) t ((smu sx (n, g, sk, f) tn).2.1) 51 ((smu sx (n, g, sk, f) tn).1) + mwr ((smu sx (n, g, sk, f) tn).2.2.1) t ((smu sx (n, g, sk, f) tn).2.1) 67 ((smu sx (n, g, sk, f) tn).1))) = nI (tw (smu sx (n, g, sk, f) tn).2.2.2 (smu sx (n, g, sk, f) tn).1) from congrArg nI (tw_R h_Rt)]
        refine nv_imul hx hb dX7_simulate_90 ?_
        refine lv_aload_n hx hb dX7_simulate_91 rfl (lv_at hl 2 rfl) ?_
        refine va_get (D := G.1) (ci := 4) (v := .ref mtr) (C := RX7) (T := TX7) (N := 11) hx hb hts in_c_X7_simulate_X7 hown hK.1 hP 0 rfl rfl 4 (by decide) (hts (.fieldLink RX7 16 "FloorPanelsModel" "trial" "[I") (by decide +kernel)) (fun _ h9 => h9) rfl dX7_simulate_92 ?_
        refine lv_iconst (v := nI 0) hx hb dX7_simulate_95 (by decide) ?_
        refine nv_iald hx hb hK hP 2 rfl (by omega) (by decide) dX7_simulate_96 ?_
        rw [show (mr ((smu sx (n, g, sk, f) tn).1) (nI ((smu sx (n, g, sk, f) tn).2.1)) ((smu sx (n, g, sk, f) tn).2.2.1) t) 0 = nI ((smu sx (n, g, sk, f) tn).1) from mr_0]
        refine nv_iadd hx hb dX7_simulate_97 ?_
        exact Y_i (x := (t, nmA ((smu sx (n, g, sk, f) tn).2.2.1) (kdm t) ((smu sx (n, g, sk, f) tn).2.1) 0 ((smu sx (n, g, sk, f) tn).1) a_, soA ((smu sx (n, g, sk, f) tn).2.2.1) (kdm t) ((smu sx (n, g, sk, f) tn).2.1) 0 ((smu sx (n, g, sk, f) tn).1) b_)) (h_Rt) hx hb hr hlk dX7_simulate_98 hP hS (rfl) (rfl)
      ·
        refine lv_lload hx hb dX7_simulate_51 (lv_at hl 1 rfl) ?_
        refine lv_ldc2 (own := RX7) (v := 6364136223846793005) hx hb hown (hts (.constantLong RX7 225 (6364136223846793005)) (by decide +kernel)) dX7_simulate_53 ?_
        refine lv_lmul hx hb dX7_simulate_56 ?_
        refine lv_ldc2 (own := RX7) (v := 1442695040888963407) hx hb hown (hts (.constantLong RX7 227 (1442695040888963407)) (by decide +kernel)) dX7_simulate_57 ?_
        refine lv_ladd hx hb dX7_simulate_60 ?_
        rw [← lcx_s]
        refine lv_lstore (lv' := [(4, .long (lcx sx (i + 1))), (6, .int (nI i)), (0, .ref M), (1, .long sx), (3, .int (nI tn))]) hx hb dX7_simulate_61 hl (by decide) rfl (fun ls hl => ?_)
        refine lv_aload_n hx hb dX7_simulate_63 rfl (lv_at hl 2 rfl) ?_
        refine lv_lload hx hb dX7_simulate_64 (lv_at hl 0 rfl) ?_
        refine lv_bipush (v := nI 33) hx hb dX7_simulate_66 (by decide) ?_
        refine lv_lushr (v := ((lcx sx (i + 1)).toUInt64 >>> ((nI 33).toInt64.toUInt64 &&& Int64.toUInt64 63)).toInt64) hx hb dX7_simulate_68 rfl ?_
        refine lv_l2i (v := nI (rof (lcx sx (i + 1)))) hx hb dX7_simulate_69 (rof_i _) ?_
        refine cYV (As := [.int (nI (rof (lcx sx (i + 1))))]) (rest := []) (st1 := []) (w3 := fun x_ : (Nat → Int32) × (Nat → Int32) × (Nat → Int32) => [(M, .inr (4, [.int (nI 0), .ref mt, .int (nI sz), .ref mn, .ref mtr, .ref md, .int (nI ac), .ref mk, .ref mik, .ref na, .ref so])), (mn, .inl (G.2 0, 131, .inl (mr n (nI g) sk mm))), (mtr, .inl (G.2 0, 131, .inl (mr ((tur (rof (lcx sx (i + 1))) (smu sx (n, g, sk, f) i)).1) (nI (tur (rof (lcx sx (i + 1))) (smu sx (n, g, sk, f) i)).2.1) ((tur (rof (lcx sx (i + 1))) (smu sx (n, g, sk, f) i)).2.2.1) x_.1))), (na, .inl (G.2 0, 16, .inl x_.2.1)), (so, .inl (G.2 0, 16, .inl x_.2.2))]) ⟨hx, hb, hml, hown, hts⟩ (c_X7_turn l G M 0 mt sz mn mtr md ac mk mik na so (smu sx (n, g, sk, f) i) t a_ b_ (rof (lcx sx (i + 1))) (rof (lcx sx (i + 1)) / 16 % 16) (rof (lcx sx (i + 1)) / 256 % 4) (ok_smu h_u i) h_Rt (rof_lt _) (by first | omega | assumption) (by first | omega | assumption)) (cwV 1 hts gX7_simulate_X7_turn rfl rfl rfl (by decide +kernel) ⟨Nat.le_of_ble_eq_true rfl, Nat.le_of_ble_eq_true rfl⟩) (preV_of hK hP hD [0, 2, 3, 4] (by decide) rfl (ci := 4) (q0 := 0) rfl rfl rfl) rfl hl.1 rfl (lv_room (Nat.le_of_ble_eq_true rfl)) dX7_simulate_70 ⟨Nat.zero_le _, Nat.zero_le _⟩ hP hD hS [0, 2, 3, 4] (by decide) rfl (fun _ => (Eq.trans (b := [M, mtr, na, so]) rfl rfl)) (fun x_ => rfl) rfl (fun q_e_70 H locs h_e_70 hP hD hS => ?_)
        have hP : VP G [(M, .inr (4, [.int (nI 0), .ref mt, .int (nI sz), .ref mn, .ref mtr, .ref md, .int (nI ac), .ref mk, .ref mik, .ref na, .ref so])), (mn, .inl (G.2 0, 131, .inl (mr n (nI g) sk mm))), (mtr, .inl (G.2 0, 131, .inl (mr ((tur (rof (lcx sx (i + 1))) (smu sx (n, g, sk, f) i)).1) (nI (tur (rof (lcx sx (i + 1))) (smu sx (n, g, sk, f) i)).2.1) ((tur (rof (lcx sx (i + 1))) (smu sx (n, g, sk, f) i)).2.2.1) q_e_70.1))), (na, .inl (G.2 0, 16, .inl q_e_70.2.1)), (so, .inl (G.2 0, 16, .inl q_e_70.2.2))] H := hP
        have hD : va_D _ [(M, .inr (4, [.int (nI 0), .ref mt, .int (nI sz), .ref mn, .ref mtr, .ref md, .int (nI ac), .ref mk, .ref mik, .ref na, .ref so])), (mn, .inl (G.2 0, 131, .inl (mr n (nI g) sk mm))), (mtr, .inl (G.2 0, 131, .inl (mr ((tur (rof (lcx sx (i + 1))) (smu sx (n, g, sk, f) i)).1) (nI (tur (rof (lcx sx (i + 1))) (smu sx (n, g, sk, f) i)).2.1) ((tur (rof (lcx sx (i + 1))) (smu sx (n, g, sk, f) i)).2.2.1) q_e_70.1))), (na, .inl (G.2 0, 16, .inl q_e_70.2.1)), (so, .inl (G.2 0, 16, .inl q_e_70.2.2))] := hD
        refine lv_iinc (v := nI (i + 1)) (lv' := [(6, .int (nI (i + 1))), (4, .long (lcx sx (i + 1))), (0, .ref M), (1, .long sx), (3, .int (nI tn))]) hx hb dX7_simulate_73 hl (k := 1) rfl (inc_n _ 1) (by decide) rfl (fun ls hl => ?_)
        refine lv_goto (tgt := 45) hx hb dX7_simulate_76 (by decide) ?_
        exact ih_45 (i + 1) q_e_70.1 q_e_70.2.1 q_e_70.2.2 (by first | omega | assumption) (by rw [smu_s]; exact h_e_70) (by omega) _ _ (by rw [smu_s]; exact hP) (by rw [smu_s]; exact hD) hS ls (lv_sub hl [0, 1, 2, 3, 4] (by rfl))
  exact loop_45 (tn - 0 + 1) 0 (pur tf 0 mm 131) nf sf (by first | omega | assumption) (mu_cp h_R h_u) (Nat.lt_succ_self _) _ _ hP hD hS ls (lv_sub hl [0, 1, 2, 3, 4] (by rfl))

set_option maxHeartbeats 4000000 in
set_option maxRecDepth 100000 in
theorem n_X7_runScript_n (l : Launch) (G : GG) (M : Nat) (rf : Nat) (mt : Nat) (sz : Nat) (mn : Nat) (mtr : Nat) (md : Nat) (ac : Nat) (mk : Nat) (mik : Nat) (na : Nat) (so : Nat) (n : Nat) (g : Nat) (sk : Int32) (mm : Nat → Int32) (y : Int32) (sx : Int64) (h_ny : ¬ (1 ≤ y.toInt ∧ y.toInt ≤ 3)) : Met l yX7_runScript wsX7_runScript ({ frames := 1, cells := 0, slots := 0, locals := 25 } : Room) (va_Pc [.ref M, .int y, .long sx] (PB G [(M, .inr (4, [.int (nI rf), .ref mt, .int (nI sz), .ref mn, .ref mtr, .ref md, .int (nI ac), .ref mk, .ref mik, .ref na, .ref so])), (mn, .inl (G.2 0, 131, .inl (mr n (nI g) sk mm)))])) (QW G (some (.int (nI 0))) [(M, .inr (4, [.int (nI 1), .ref mt, .int (nI sz), .ref mn, .ref mtr, .ref md, .int (nI ac), .ref mk, .ref mik, .ref na, .ref so])), (mn, .inl (G.2 0, 131, .inl (mr n (nI g) sk mm)))] (vA [(M, .inr (4, [.int (nI rf), .ref mt, .int (nI sz), .ref mn, .ref mtr, .ref md, .int (nI ac), .ref mk, .ref mik, .ref na, .ref so])), (mn, .inl (G.2 0, 131, .inl (mr n (nI g) sk mm)))])) 0 0 (vA [(M, .inr (4, [.int (nI rf), .ref mt, .int (nI sz), .ref mn, .ref mtr, .ref md, .int (nI ac), .ref mk, .ref mik, .ref na, .ref so])), (mn, .inl (G.2 0, 131, .inl (mr n (nI g) sk mm)))]) := by
  refine Met.go (cc := cX7_runScript) (maxL := 8) (ret := (some .int)) (by decide) rfl (Nat.le_of_ble_eq_true rfl) ?_
  intro p e s m below meth c ls hx hb hr hml hown hts hlk hP hK hD hS hl
  have hown : s.vm.findClass RX7 = some m.cls := hown
  have hl : lv_has ls 8 [(0, .ref M), (1, .int y), (2, .long sx)] := hl
  refine lv_lconst (v := lN 1) hx hb dX7_runScript_0 rfl ?_
  refine lv_lstore (lv' := [(4, .long (lN 1)), (0, .ref M), (1, .int y), (2, .long sx)]) hx hb dX7_runScript_1 hl (by decide) rfl (fun ls hl => ?_)
  refine lv_iconst (v := nI 0) hx hb dX7_runScript_3 (by decide) ?_
  refine lv_istore (lv' := [(6, .int (nI 0)), (4, .long (lN 1)), (0, .ref M), (1, .int y), (2, .long sx)]) hx hb dX7_runScript_4 hl (by decide) rfl (fun ls hl => ?_)
  have loop_6 : ∀ (k_ : Nat) (i : Nat) (sa : Int64) (h_i : i ≤ 3) (_ : 3 - i < k_) (H : Heap) (locs : List Loc) (_ : VP G [(M, .inr (4, [.int (nI rf), .ref mt, .int (nI sz), .ref mn, .ref mtr, .ref md, .int (nI ac), .ref mk, .ref mik, .ref na, .ref so])), (mn, .inl (G.2 0, 131, .inl (mr n (nI g) sk mm)))] H) (_ : va_D (vA [(M, .inr (4, [.int (nI rf), .ref mt, .int (nI sz), .ref mn, .ref mtr, .ref md, .int (nI ac), .ref mk, .ref mik, .ref na, .ref so])), (mn, .inl (G.2 0, 131, .inl (mr n (nI g) sk mm)))]) [(M, .inr (4, [.int (nI rf), .ref mt, .int (nI sz), .ref mn, .ref mtr, .ref md, .int (nI ac), .ref mk, .ref mik, .ref na, .ref so])), (mn, .inl (G.2 0, 131, .inl (mr n (nI g) sk mm)))]) (_ : va_S (vA [(M, .inr (4, [.int (nI rf), .ref mt, .int (nI sz), .ref mn, .ref mtr, .ref md, .int (nI ac), .ref mk, .ref mik, .ref na, .ref so])), (mn, .inl (G.2 0, 131, .inl (mr n (nI g) sk mm)))]) s.heap H locs) (ls : Array Slot), lv_has ls 8 [(6, .int (nI i)), (4, .long sa), (0, .ref M), (1, .int y), (2, .long sx)] → W p l e ({ frames := 1, cells := 0, slots := 0, locals := 25 } : Room) s m ([.ref M, .int y, .long sx] : List Value).toArray below meth c H locs 0 0 (MQ below (QW G (some (.int (nI 0))) [(M, .inr (4, [.int (nI 1), .ref mt, .int (nI sz), .ref mn, .ref mtr, .ref md, .int (nI ac), .ref mk, .ref mik, .ref na, .ref so])), (mn, .inl (G.2 0, 131, .inl (mr n (nI g) sk mm)))] (vA [(M, .inr (4, [.int (nI rf), .ref mt, .int (nI sz), .ref mn, .ref mtr, .ref md, .int (nI ac), .ref mk, .ref mik, .ref na, .ref so])), (mn, .inl (G.2 0, 131, .inl (mr n (nI g) sk mm)))])) ([.ref M, .int y, .long sx] : List Value).toArray s 0 0 (vA [(M, .inr (4, [.int (nI rf), .ref mt, .int (nI sz), .ref mn, .ref mtr, .ref md, .int (nI ac), .ref mk, .ref mik, .ref na, .ref so])), (mn, .inl (G.2 0, 131, .inl (mr n (nI g) sk mm)))])) (F0 m 6 ls []) := by
    intro k_
    induction k_ with
    | zero => intro i sa h_i hk_; exact absurd hk_ (Nat.not_lt_zero _)
    | succ k_ ih_6 =>
      intro i sa h_i hk_ H locs hP hD hS ls hl
      refine lv_iload hx hb dX7_runScript_6 (lv_at hl 0 rfl) ?_
      refine lv_iload_n hx hb dX7_runScript_8 rfl (lv_at hl 3 rfl) ?_
      refine bi_ge (tgt := 32) hx hb dX7_runScript_9 (by decide) (nI_i (by omega)) (toI_r _) (fun c_9 => ?_) (fun c_9 => ?_)
      ·
        refine lv_aload_n hx hb dX7_runScript_32 rfl (lv_at hl 2 rfl) ?_
        refine lv_iload_n hx hb dX7_runScript_33 rfl (lv_at hl 3 rfl) ?_
        refine lv_i2l (v := (y).toInt64) hx hb dX7_runScript_34 rfl ?_
        refine lv_lconst (v := lN 1) hx hb dX7_runScript_35 rfl ?_
        refine lv_ldc2 (own := RX7) (v := lN 3) hx hb hown (hts (.constantLong RX7 53 (3)) (by decide +kernel)) dX7_runScript_36 ?_
        refine cRS (As := [.long ((y).toInt64), .long (lN 1), .long (lN 3)]) (rest := [.ref M]) (v := .int (zb ((lN 1).toInt ≤ ((y).toInt64).toInt ∧ ((y).toInt64).toInt ≤ (lN 3).toInt))) ⟨hx, hb, hml, hown, hts⟩ (c_X7_in l G ((y).toInt64) (lN 1) (lN 3) ) (va_cwS 3 hts gX7_runScript_X7_in rfl rfl rfl (by decide +kernel) ⟨Nat.le_of_ble_eq_true rfl, Nat.le_of_ble_eq_true rfl⟩) (preS_of hK hP hD [] (by decide) rfl) rfl hl.1 rfl (lv_room (Nat.le_of_ble_eq_true rfl)) dX7_runScript_39 ⟨Nat.zero_le _, Nat.zero_le _⟩ ?_
        refine bb_eq (tgt := 61) hx hb dX7_runScript_42 (by decide) (fun c_42 => ?_) (fun c_42 => False.elim (by (rw [i2l_toInt, pk_lT (by omega), pk_lT (by omega)] at c_42; omega)))
        refine lv_iconst (v := nI 1) hx hb dX7_runScript_61 (by decide) ?_
        refine cWV (As := [.int (nI 1)]) (rest := []) (st1 := [.int (zb (0 < 1))]) (w3 := [(M, .inr (4, [.int (nI 1), .ref mt, .int (nI sz), .ref mn, .ref mtr, .ref md, .int (nI ac), .ref mk, .ref mik, .ref na, .ref so])), (mn, .inl (G.2 0, 131, .inl (mr n (nI g) sk mm)))]) ⟨hx, hb, hml, hown, hts⟩ (c_X7_refused l G M rf mt sz mn mtr md ac mk mik na so 1 (by first | omega | assumption)) (cwV 1 hts gX7_runScript_X7_refused rfl rfl rfl (by decide +kernel) ⟨Nat.le_of_ble_eq_true rfl, Nat.le_of_ble_eq_true rfl⟩) (preV_of hK hP hD [0] (by decide) rfl (ci := 4) (q0 := 0) rfl rfl rfl) rfl hl.1 rfl (lv_room (Nat.le_of_ble_eq_true rfl)) dX7_runScript_62 ⟨Nat.zero_le _, Nat.zero_le _⟩ hP hD hS [0] (by decide) rfl (Eq.trans (b := [M]) rfl rfl) (rfl) rfl (fun H locs hP hD hS => ?_)
        refine bb_eq (tgt := 70) hx hb dX7_runScript_65 (by decide) (fun c_65 => False.elim (by omega)) (fun c_65 => ?_)
        refine lv_iconst (v := nI 0) hx hb dX7_runScript_68 (by decide) ?_
        exact W_i hx hb hr hlk dX7_runScript_69 hP hS (rfl) (rfl)
      ·
        refine lv_iload hx hb dX7_runScript_12 (lv_at hl 0 rfl) ?_
        refine lv_iconst (v := nI 3) hx hb dX7_runScript_14 (by decide) ?_
        refine bi_ge (tgt := 32) hx hb dX7_runScript_15 (by decide) (nI_i (by omega)) (nI_i (by omega)) (fun c_15 => ?_) (fun c_15 => ?_)
        ·
          refine lv_aload_n hx hb dX7_runScript_32 rfl (lv_at hl 2 rfl) ?_
          refine lv_iload_n hx hb dX7_runScript_33 rfl (lv_at hl 3 rfl) ?_
          refine lv_i2l (v := (y).toInt64) hx hb dX7_runScript_34 rfl ?_
          refine lv_lconst (v := lN 1) hx hb dX7_runScript_35 rfl ?_
          refine lv_ldc2 (own := RX7) (v := lN 3) hx hb hown (hts (.constantLong RX7 53 (3)) (by decide +kernel)) dX7_runScript_36 ?_
          refine cRS (As := [.long ((y).toInt64), .long (lN 1), .long (lN 3)]) (rest := [.ref M]) (v := .int (zb ((lN 1).toInt ≤ ((y).toInt64).toInt ∧ ((y).toInt64).toInt ≤ (lN 3).toInt))) ⟨hx, hb, hml, hown, hts⟩ (c_X7_in l G ((y).toInt64) (lN 1) (lN 3) ) (va_cwS 3 hts gX7_runScript_X7_in rfl rfl rfl (by decide +kernel) ⟨Nat.le_of_ble_eq_true rfl, Nat.le_of_ble_eq_true rfl⟩) (preS_of hK hP hD [] (by decide) rfl) rfl hl.1 rfl (lv_room (Nat.le_of_ble_eq_true rfl)) dX7_runScript_39 ⟨Nat.zero_le _, Nat.zero_le _⟩ ?_
          refine bb_eq (tgt := 61) hx hb dX7_runScript_42 (by decide) (fun c_42 => ?_) (fun c_42 => False.elim (by (rw [i2l_toInt, pk_lT (by omega), pk_lT (by omega)] at c_42; omega)))
          refine lv_iconst (v := nI 1) hx hb dX7_runScript_61 (by decide) ?_
          refine cWV (As := [.int (nI 1)]) (rest := []) (st1 := [.int (zb (0 < 1))]) (w3 := [(M, .inr (4, [.int (nI 1), .ref mt, .int (nI sz), .ref mn, .ref mtr, .ref md, .int (nI ac), .ref mk, .ref mik, .ref na, .ref so])), (mn, .inl (G.2 0, 131, .inl (mr n (nI g) sk mm)))]) ⟨hx, hb, hml, hown, hts⟩ (c_X7_refused l G M rf mt sz mn mtr md ac mk mik na so 1 (by first | omega | assumption)) (cwV 1 hts gX7_runScript_X7_refused rfl rfl rfl (by decide +kernel) ⟨Nat.le_of_ble_eq_true rfl, Nat.le_of_ble_eq_true rfl⟩) (preV_of hK hP hD [0] (by decide) rfl (ci := 4) (q0 := 0) rfl rfl rfl) rfl hl.1 rfl (lv_room (Nat.le_of_ble_eq_true rfl)) dX7_runScript_62 ⟨Nat.zero_le _, Nat.zero_le _⟩ hP hD hS [0] (by decide) rfl (Eq.trans (b := [M]) rfl rfl) (rfl) rfl (fun H locs hP hD hS => ?_)
          refine bb_eq (tgt := 70) hx hb dX7_runScript_65 (by decide) (fun c_65 => False.elim (by omega)) (fun c_65 => ?_)
          refine lv_iconst (v := nI 0) hx hb dX7_runScript_68 (by decide) ?_
          exact W_i hx hb hr hlk dX7_runScript_69 hP hS (rfl) (rfl)
        ·
          refine lv_lload hx hb dX7_runScript_18 (lv_at hl 1 rfl) ?_
          refine lv_ldc2 (own := RX7) (v := lN 10000) hx hb hown (hts (.constantLong RX7 213 (10000)) (by decide +kernel)) dX7_runScript_20 ?_
          refine lv_lmul hx hb dX7_runScript_23 ?_
          refine lv_lstore (lv' := [(4, .long (sa * lN 10000)), (6, .int (nI i)), (0, .ref M), (1, .int y), (2, .long sx)]) hx hb dX7_runScript_24 hl (by decide) rfl (fun ls hl => ?_)
          refine lv_iinc (v := nI (i + 1)) (lv' := [(6, .int (nI (i + 1))), (4, .long (sa * lN 10000)), (0, .ref M), (1, .int y), (2, .long sx)]) hx hb dX7_runScript_26 hl (k := 1) rfl (inc_n _ 1) (by decide) rfl (fun ls hl => ?_)
          refine lv_goto (tgt := 6) hx hb dX7_runScript_29 (by decide) ?_
          exact ih_6 (i + 1) (sa * lN 10000) (by first | omega | assumption) (by omega) _ _ hP hD hS ls (lv_sub hl [0, 1, 2, 3, 4] (by rfl))
  exact loop_6 (3 - 0 + 1) 0 (lN 1) (by first | omega | assumption) (Nat.lt_succ_self _) _ _ hP hD hS ls (lv_sub hl [0, 1, 2, 3, 4] (by rfl))

set_option maxHeartbeats 4000000 in
set_option maxRecDepth 100000 in
theorem n_X7_runScript_s (l : Launch) (G : GG) (M : Nat) (rf : Nat) (mt : Nat) (sz : Nat) (mn : Nat) (mtr : Nat) (md : Nat) (ac : Nat) (mk : Nat) (mik : Nat) (na : Nat) (so : Nat) (n : Nat) (g : Nat) (sk : Int32) (mm : Nat → Int32) (k : Nat) (sx : Int64) (h_k : 1 ≤ k ∧ k ≤ 3) (h_ns : ¬ (0 ≤ sx.toInt ∧ sx.toInt < ((10000 ^ k : Nat) : Int))) : Met l yX7_runScript wsX7_runScript ({ frames := 1, cells := 0, slots := 0, locals := 25 } : Room) (va_Pc [.ref M, .int (nI k), .long sx] (PB G [(M, .inr (4, [.int (nI rf), .ref mt, .int (nI sz), .ref mn, .ref mtr, .ref md, .int (nI ac), .ref mk, .ref mik, .ref na, .ref so])), (mn, .inl (G.2 0, 131, .inl (mr n (nI g) sk mm)))])) (QW G (some (.int (nI 0))) [(M, .inr (4, [.int (nI 1), .ref mt, .int (nI sz), .ref mn, .ref mtr, .ref md, .int (nI ac), .ref mk, .ref mik, .ref na, .ref so])), (mn, .inl (G.2 0, 131, .inl (mr n (nI g) sk mm)))] (vA [(M, .inr (4, [.int (nI rf), .ref mt, .int (nI sz), .ref mn, .ref mtr, .ref md, .int (nI ac), .ref mk, .ref mik, .ref na, .ref so])), (mn, .inl (G.2 0, 131, .inl (mr n (nI g) sk mm)))])) 0 0 (vA [(M, .inr (4, [.int (nI rf), .ref mt, .int (nI sz), .ref mn, .ref mtr, .ref md, .int (nI ac), .ref mk, .ref mik, .ref na, .ref so])), (mn, .inl (G.2 0, 131, .inl (mr n (nI g) sk mm)))]) := by
  refine Met.go (cc := cX7_runScript) (maxL := 8) (ret := (some .int)) (by decide) rfl (Nat.le_of_ble_eq_true rfl) ?_
  intro p e s m below meth c ls hx hb hr hml hown hts hlk hP hK hD hS hl
  have hown : s.vm.findClass RX7 = some m.cls := hown
  have hl : lv_has ls 8 [(0, .ref M), (1, .int (nI k)), (2, .long sx)] := hl
  have h_pw := pw_le h_k.2
  have h_pp : 0 < 10000 ^ k := Nat.pow_pos (by decide)
  refine lv_lconst (v := lN 1) hx hb dX7_runScript_0 rfl ?_
  refine lv_lstore (lv' := [(4, .long (lN 1)), (0, .ref M), (1, .int (nI k)), (2, .long sx)]) hx hb dX7_runScript_1 hl (by decide) rfl (fun ls hl => ?_)
  refine lv_iconst (v := nI 0) hx hb dX7_runScript_3 (by decide) ?_
  refine lv_istore (lv' := [(6, .int (nI 0)), (4, .long (lN 1)), (0, .ref M), (1, .int (nI k)), (2, .long sx)]) hx hb dX7_runScript_4 hl (by decide) rfl (fun ls hl => ?_)
  have loop_6 : ∀ (k_ : Nat) (i : Nat) (h_i : i ≤ k) (_ : k - i < k_) (H : Heap) (locs : List Loc) (_ : VP G [(M, .inr (4, [.int (nI rf), .ref mt, .int (nI sz), .ref mn, .ref mtr, .ref md, .int (nI ac), .ref mk, .ref mik, .ref na, .ref so])), (mn, .inl (G.2 0, 131, .inl (mr n (nI g) sk mm)))] H) (_ : va_D (vA [(M, .inr (4, [.int (nI rf), .ref mt, .int (nI sz), .ref mn, .ref mtr, .ref md, .int (nI ac), .ref mk, .ref mik, .ref na, .ref so])), (mn, .inl (G.2 0, 131, .inl (mr n (nI g) sk mm)))]) [(M, .inr (4, [.int (nI rf), .ref mt, .int (nI sz), .ref mn, .ref mtr, .ref md, .int (nI ac), .ref mk, .ref mik, .ref na, .ref so])), (mn, .inl (G.2 0, 131, .inl (mr n (nI g) sk mm)))]) (_ : va_S (vA [(M, .inr (4, [.int (nI rf), .ref mt, .int (nI sz), .ref mn, .ref mtr, .ref md, .int (nI ac), .ref mk, .ref mik, .ref na, .ref so])), (mn, .inl (G.2 0, 131, .inl (mr n (nI g) sk mm)))]) s.heap H locs) (ls : Array Slot), lv_has ls 8 [(6, .int (nI i)), (4, .long (lN (10000 ^ i))), (0, .ref M), (1, .int (nI k)), (2, .long sx)] → W p l e ({ frames := 1, cells := 0, slots := 0, locals := 25 } : Room) s m ([.ref M, .int (nI k), .long sx] : List Value).toArray below meth c H locs 0 0 (MQ below (QW G (some (.int (nI 0))) [(M, .inr (4, [.int (nI 1), .ref mt, .int (nI sz), .ref mn, .ref mtr, .ref md, .int (nI ac), .ref mk, .ref mik, .ref na, .ref so])), (mn, .inl (G.2 0, 131, .inl (mr n (nI g) sk mm)))] (vA [(M, .inr (4, [.int (nI rf), .ref mt, .int (nI sz), .ref mn, .ref mtr, .ref md, .int (nI ac), .ref mk, .ref mik, .ref na, .ref so])), (mn, .inl (G.2 0, 131, .inl (mr n (nI g) sk mm)))])) ([.ref M, .int (nI k), .long sx] : List Value).toArray s 0 0 (vA [(M, .inr (4, [.int (nI rf), .ref mt, .int (nI sz), .ref mn, .ref mtr, .ref md, .int (nI ac), .ref mk, .ref mik, .ref na, .ref so])), (mn, .inl (G.2 0, 131, .inl (mr n (nI g) sk mm)))])) (F0 m 6 ls []) := by
    intro k_
    induction k_ with
    | zero => intro i h_i hk_; exact absurd hk_ (Nat.not_lt_zero _)
    | succ k_ ih_6 =>
      intro i h_i hk_ H locs hP hD hS ls hl
      refine lv_iload hx hb dX7_runScript_6 (lv_at hl 0 rfl) ?_
      refine lv_iload_n hx hb dX7_runScript_8 rfl (lv_at hl 3 rfl) ?_
      refine bi_ge (tgt := 32) hx hb dX7_runScript_9 (by decide) (nI_i (by omega)) (nI_i (by omega)) (fun c_9 => ?_) (fun c_9 => ?_)
      ·
        rw [show i = k by omega] at hl
        refine lv_aload_n hx hb dX7_runScript_32 rfl (lv_at hl 2 rfl) ?_
        refine lv_iload_n hx hb dX7_runScript_33 rfl (lv_at hl 3 rfl) ?_
        refine lv_i2l (v := lN k) hx hb dX7_runScript_34 (nI_l (by omega)) ?_
        refine lv_lconst (v := lN 1) hx hb dX7_runScript_35 rfl ?_
        refine lv_ldc2 (own := RX7) (v := lN 3) hx hb hown (hts (.constantLong RX7 53 (3)) (by decide +kernel)) dX7_runScript_36 ?_
        refine cRS (As := [.long (lN k), .long (lN 1), .long (lN 3)]) (rest := [.ref M]) (v := .int (zb ((lN 1).toInt ≤ (lN k).toInt ∧ (lN k).toInt ≤ (lN 3).toInt))) ⟨hx, hb, hml, hown, hts⟩ (c_X7_in l G (lN k) (lN 1) (lN 3) ) (va_cwS 3 hts gX7_runScript_X7_in rfl rfl rfl (by decide +kernel) ⟨Nat.le_of_ble_eq_true rfl, Nat.le_of_ble_eq_true rfl⟩) (preS_of hK hP hD [] (by decide) rfl) rfl hl.1 rfl (lv_room (Nat.le_of_ble_eq_true rfl)) dX7_runScript_39 ⟨Nat.zero_le _, Nat.zero_le _⟩ ?_
        refine bb_eq (tgt := 61) hx hb dX7_runScript_42 (by decide) (fun c_42 => False.elim (by (rw [pk_lT (by omega), pk_lT (by omega), pk_lT (by omega)] at c_42; omega))) (fun c_42 => ?_)
        refine lv_lload_n hx hb dX7_runScript_45 rfl (lv_at hl 4 rfl) ?_
        refine lv_lconst (v := lN 0) hx hb dX7_runScript_46 rfl ?_
        refine lv_lload hx hb dX7_runScript_47 (lv_at hl 1 rfl) ?_
        refine lv_lconst (v := lN 1) hx hb dX7_runScript_49 rfl ?_
        refine lv_lsub hx hb dX7_runScript_50 ?_
        rw [show lN (10000 ^ k) - lN 1 = lN ((10000 ^ k) - 1) from lN_sub (by omega)]
        refine cRS (As := [.long sx, .long (lN 0), .long (lN ((10000 ^ k) - 1))]) (rest := [.ref M]) (v := .int (zb ((lN 0).toInt ≤ sx.toInt ∧ sx.toInt ≤ (lN ((10000 ^ k) - 1)).toInt))) ⟨hx, hb, hml, hown, hts⟩ (c_X7_in l G sx (lN 0) (lN ((10000 ^ k) - 1)) ) (va_cwS 3 hts gX7_runScript_X7_in rfl rfl rfl (by decide +kernel) ⟨Nat.le_of_ble_eq_true rfl, Nat.le_of_ble_eq_true rfl⟩) (preS_of hK hP hD [] (by decide) rfl) rfl hl.1 rfl (lv_room (Nat.le_of_ble_eq_true rfl)) dX7_runScript_51 ⟨Nat.zero_le _, Nat.zero_le _⟩ ?_
        refine bb_eq (tgt := 61) hx hb dX7_runScript_54 (by decide) (fun c_54 => ?_) (fun c_54 => False.elim (by (rw [pk_lT (by omega), pk_lT (by omega)] at c_54; omega)))
        refine lv_iconst (v := nI 1) hx hb dX7_runScript_61 (by decide) ?_
        refine cWV (As := [.int (nI 1)]) (rest := []) (st1 := [.int (zb (0 < 1))]) (w3 := [(M, .inr (4, [.int (nI 1), .ref mt, .int (nI sz), .ref mn, .ref mtr, .ref md, .int (nI ac), .ref mk, .ref mik, .ref na, .ref so])), (mn, .inl (G.2 0, 131, .inl (mr n (nI g) sk mm)))]) ⟨hx, hb, hml, hown, hts⟩ (c_X7_refused l G M rf mt sz mn mtr md ac mk mik na so 1 (by first | omega | assumption)) (cwV 1 hts gX7_runScript_X7_refused rfl rfl rfl (by decide +kernel) ⟨Nat.le_of_ble_eq_true rfl, Nat.le_of_ble_eq_true rfl⟩) (preV_of hK hP hD [0] (by decide) rfl (ci := 4) (q0 := 0) rfl rfl rfl) rfl hl.1 rfl (lv_room (Nat.le_of_ble_eq_true rfl)) dX7_runScript_62 ⟨Nat.zero_le _, Nat.zero_le _⟩ hP hD hS [0] (by decide) rfl (Eq.trans (b := [M]) rfl rfl) (rfl) rfl (fun H locs hP hD hS => ?_)
        refine bb_eq (tgt := 70) hx hb dX7_runScript_65 (by decide) (fun c_65 => False.elim (by omega)) (fun c_65 => ?_)
        refine lv_iconst (v := nI 0) hx hb dX7_runScript_68 (by decide) ?_
        exact W_i hx hb hr hlk dX7_runScript_69 hP hS (rfl) (rfl)
      ·
        refine lv_iload hx hb dX7_runScript_12 (lv_at hl 0 rfl) ?_
        refine lv_iconst (v := nI 3) hx hb dX7_runScript_14 (by decide) ?_
        refine bi_ge (tgt := 32) hx hb dX7_runScript_15 (by decide) (nI_i (by omega)) (nI_i (by omega)) (fun c_15 => False.elim (by omega)) (fun c_15 => ?_)
        refine lv_lload hx hb dX7_runScript_18 (lv_at hl 1 rfl) ?_
        refine lv_ldc2 (own := RX7) (v := lN 10000) hx hb hown (hts (.constantLong RX7 213 (10000)) (by decide +kernel)) dX7_runScript_20 ?_
        refine lv_lmul hx hb dX7_runScript_23 ?_
        rw [show lN (10000 ^ i) * lN 10000 = lN ((10000 ^ i) * 10000) from lN_mul _ _]
        refine lv_lstore (lv' := [(4, .long (lN ((10000 ^ i) * 10000))), (6, .int (nI i)), (0, .ref M), (1, .int (nI k)), (2, .long sx)]) hx hb dX7_runScript_24 hl (by decide) rfl (fun ls hl => ?_)
        refine lv_iinc (v := nI (i + 1)) (lv' := [(6, .int (nI (i + 1))), (4, .long (lN ((10000 ^ i) * 10000))), (0, .ref M), (1, .int (nI k)), (2, .long sx)]) hx hb dX7_runScript_26 hl (k := 1) rfl (inc_n _ 1) (by decide) rfl (fun ls hl => ?_)
        refine lv_goto (tgt := 6) hx hb dX7_runScript_29 (by decide) ?_
        exact ih_6 (i + 1) (by first | omega | assumption) (by omega) _ _ hP hD hS ls (lv_sub hl [0, 1, 2, 3, 4] (by rfl))
  exact loop_6 (k - 0 + 1) 0 (by first | omega | assumption) (Nat.lt_succ_self _) _ _ hP hD hS ls (lv_sub hl [0, 1, 2, 3, 4] (by rfl))

set_option maxHeartbeats 4000000 in
set_option maxRecDepth 100000 in
theorem n_X7_simulate (l : Launch) (G : GG) (M : Nat) (rf : Nat) (mt : Nat) (sz : Nat) (mn : Nat) (mtr : Nat) (md : Nat) (ac : Nat) (mk : Nat) (mik : Nat) (na : Nat) (so : Nat) (n : Nat) (g : Nat) (sk : Int32) (mm : Nat → Int32) (sx : Int64) (y : Int32) (h_ny : ¬ (1 ≤ y.toInt ∧ y.toInt ≤ 80)) : Met l yX7_simulate wsX7_simulate ({ frames := 1, cells := 0, slots := 0, locals := 25 } : Room) (va_Pc [.ref M, .long sx, .int y] (PB G [(M, .inr (4, [.int (nI rf), .ref mt, .int (nI sz), .ref mn, .ref mtr, .ref md, .int (nI ac), .ref mk, .ref mik, .ref na, .ref so])), (mn, .inl (G.2 0, 131, .inl (mr n (nI g) sk mm)))])) (QW G (some (.int (nI 0))) [(M, .inr (4, [.int (nI 1), .ref mt, .int (nI sz), .ref mn, .ref mtr, .ref md, .int (nI ac), .ref mk, .ref mik, .ref na, .ref so])), (mn, .inl (G.2 0, 131, .inl (mr n (nI g) sk mm)))] (vA [(M, .inr (4, [.int (nI rf), .ref mt, .int (nI sz), .ref mn, .ref mtr, .ref md, .int (nI ac), .ref mk, .ref mik, .ref na, .ref so])), (mn, .inl (G.2 0, 131, .inl (mr n (nI g) sk mm)))])) 0 0 (vA [(M, .inr (4, [.int (nI rf), .ref mt, .int (nI sz), .ref mn, .ref mtr, .ref md, .int (nI ac), .ref mk, .ref mik, .ref na, .ref so])), (mn, .inl (G.2 0, 131, .inl (mr n (nI g) sk mm)))]) := by
  refine Met.go (cc := cX7_simulate) (maxL := 7) (ret := (some .int)) (by decide) rfl (Nat.le_of_ble_eq_true rfl) ?_
  intro p e s m below meth c ls hx hb hr hml hown hts hlk hP hK hD hS hl
  have hown : s.vm.findClass RX7 = some m.cls := hown
  have hl : lv_has ls 7 [(0, .ref M), (1, .long sx), (3, .int y)] := hl
  refine lv_aload_n hx hb dX7_simulate_0 rfl (lv_at hl 0 rfl) ?_
  refine lv_iload_n hx hb dX7_simulate_1 rfl (lv_at hl 2 rfl) ?_
  refine lv_i2l (v := (y).toInt64) hx hb dX7_simulate_2 rfl ?_
  refine lv_lconst (v := lN 1) hx hb dX7_simulate_3 rfl ?_
  refine lv_ldc2 (own := RX7) (v := lN 80) hx hb hown (hts (.constantLong RX7 223 (80)) (by decide +kernel)) dX7_simulate_4 ?_
  refine cRS (As := [.long ((y).toInt64), .long (lN 1), .long (lN 80)]) (rest := [.ref M]) (v := .int (zb ((lN 1).toInt ≤ ((y).toInt64).toInt ∧ ((y).toInt64).toInt ≤ (lN 80).toInt))) ⟨hx, hb, hml, hown, hts⟩ (c_X7_in l G ((y).toInt64) (lN 1) (lN 80) ) (va_cwS 3 hts gX7_simulate_X7_in rfl rfl rfl (by decide +kernel) ⟨Nat.le_of_ble_eq_true rfl, Nat.le_of_ble_eq_true rfl⟩) (preS_of hK hP hD [] (by decide) rfl) rfl hl.1 rfl (lv_room (Nat.le_of_ble_eq_true rfl)) dX7_simulate_7 ⟨Nat.zero_le _, Nat.zero_le _⟩ ?_
  refine bb_eq (tgt := 17) hx hb dX7_simulate_10 (by decide) (fun c_10 => ?_) (fun c_10 => False.elim (by (rw [i2l_toInt, pk_lT (by omega), pk_lT (by omega)] at c_10; omega)))
  refine lv_iconst (v := nI 1) hx hb dX7_simulate_17 (by decide) ?_
  refine cWV (As := [.int (nI 1)]) (rest := []) (st1 := [.int (zb (0 < 1))]) (w3 := [(M, .inr (4, [.int (nI 1), .ref mt, .int (nI sz), .ref mn, .ref mtr, .ref md, .int (nI ac), .ref mk, .ref mik, .ref na, .ref so])), (mn, .inl (G.2 0, 131, .inl (mr n (nI g) sk mm)))]) ⟨hx, hb, hml, hown, hts⟩ (c_X7_refused l G M rf mt sz mn mtr md ac mk mik na so 1 (by first | omega | assumption)) (cwV 1 hts gX7_simulate_X7_refused rfl rfl rfl (by decide +kernel) ⟨Nat.le_of_ble_eq_true rfl, Nat.le_of_ble_eq_true rfl⟩) (preV_of hK hP hD [0] (by decide) rfl (ci := 4) (q0 := 0) rfl rfl rfl) rfl hl.1 rfl (lv_room (Nat.le_of_ble_eq_true rfl)) dX7_simulate_18 ⟨Nat.zero_le _, Nat.zero_le _⟩ hP hD hS [0] (by decide) rfl (Eq.trans (b := [M]) rfl rfl) (rfl) rfl (fun H locs hP hD hS => ?_)
  refine bb_eq (tgt := 26) hx hb dX7_simulate_21 (by decide) (fun c_21 => False.elim (by omega)) (fun c_21 => ?_)
  refine lv_iconst (v := nI 0) hx hb dX7_simulate_24 (by decide) ?_
  exact W_i hx hb hr hlk dX7_simulate_25 hP hS (rfl) (rfl)

