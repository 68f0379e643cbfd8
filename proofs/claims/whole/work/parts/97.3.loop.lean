/-! THE LOOP -/
set_option maxHeartbeats 4000000 in
set_option maxRecDepth 100000 in
theorem law_loop (l : Launch) (hst : l.stackTraces = false) (G : GG) {p : Program} {e : Env} {s : State} {m : MethodId} {below : List Frame} {meth : Method} {c : Code} {b L : Nat} {xs : Nat → Int32} (CX : LCx G p s m c b L xs) (x : Nat) (tx : Nat) (ch : Nat) (h : Nat) (hc : Nat) (tr : Nat) (trc : Nat) (hi : Nat) (ka : Nat) (sl : Nat) (s0 : Nat) (s0c : Nat) (s1 : Nat) (s1c : Nat) (sv : Nat) (ot : Nat) (M : Nat) (mt : Nat) (mn : Nat) (mtr : Nat) (md : Nat) (mk : Nat) (mik : Nat) (na : Nat) (so : Nat) (kh : Nat → Nat) (kc : Nat → Nat) (hr : meth.sig.returnType = ret) (hlk : meth.locks = false) : ∀ (k_ i : Nat) (_ : i ≤ L) (_ : L - i < k_) (cells slots : Nat) (_ : cells ≤ 53 + i) (_ : slots ≤ 5217 + 6 * i) (H : Heap) (locs : List Loc) (_ : LAll G (fun q : Nat => s.heap.size ≤ q) x tx ch h hc tr trc hi ka sl s0 s0c s1 s1c sv ot M mt mn mtr md mk mik na so kh kc H) (_ : va_S (fun q : Nat => s.heap.size ≤ q) s.heap H locs) (ls : Array Slot) (_ : lv_has ls 7 [(4, .int (nI i)), (0, .ref b), (1, .ref x), (2, .ref M), (3, .ref ot)]), W p l e room_1 s m #[Value.ref b] below meth c H locs cells slots (lw_Z below #[Value.ref b] s) (F0 m 23 ls []) := by
  have CX2 := CX
  obtain ⟨hx, hb, hml, hown, hts, hX, hbl, hK, hE, hZf, hL⟩ := CX2
  have hbA : ¬ (fun q : Nat => s.heap.size ≤ q) b := Nat.not_le.mpr hbl
  intro k_
  induction k_ with
  | zero => intro i h_i hk_; exact absurd hk_ (Nat.not_lt_zero _)
  | succ k_ ih =>
    intro i h_i hk_ cells slots h_ce h_sl H locs hA hS ls hl
    refine lv_iload hx hb dL_law_23 (lv_at hl 0 rfl) ?_
    refine lv_aload_n hx hb dL_law_25 rfl (lv_at hl 1 rfl) ?_
    refine va_slen hx hb hX hbl hbA hS dL_law_26 ?_
    refine lv_iconst (v := nI 4) hx hb dL_law_27 (by decide) ?_
    refine lv_isub hx hb dL_law_28 ?_
    rw [show Int32.ofNat L - nI 4 = zI ((L : Int) - 4) from nI_subZ L 4]
    refine bi_gt (tgt := 2041) hx hb dL_law_29 (by decide) (nI_i (by omega)) (zI_toInt (by omega)) (fun c_29 => ?_) (fun c_29 => ?_)
    · refine lv_iconst (v := 1) hx hb dL_law_2041 (by decide) ?_
      refine va_forget (fun q hq => hS.2.2 q hq) ?_
      refine W.widen (k := 601024) (n := 7293034) (by omega) (by omega) ?_
      exact lw_ret hx hb hr hlk dL_law_2042
    · have h_i4 : i + 4 ≤ L := by omega
      have kk : ∀ (H1 : Heap) (locs1 : List Loc) (ls1 : Array Slot), LAll G (fun q : Nat => s.heap.size ≤ q) x tx ch h hc tr trc hi ka sl s0 s0c s1 s1c sv ot M mt mn mtr md mk mik na so kh kc H1 → va_S (fun q : Nat => s.heap.size ≤ q) s.heap H1 locs1 → lv_has ls1 7 [(4, .int (nI i)), (0, .ref b), (1, .ref x), (2, .ref M), (3, .ref ot)] → W p l e room_1 s m #[Value.ref b] below meth c H1 locs1 (cells + 1) (slots + 6) (lw_Z below #[Value.ref b] s) (F0 m 2035 ls1 []) := by
        intro H1 locs1 ls1 hA1 hS1 hl
        refine lv_iinc (v := nI (i + 4)) (lv' := [(4, .int (nI (i + 4))), (0, .ref b), (1, .ref x), (2, .ref M), (3, .ref ot)]) hx hb dL_law_2035 hl (k := 0) rfl (inc_n _ 4) (by decide) rfl (fun ls hl => ?_)
        refine lv_goto (tgt := 23) hx hb dL_law_2038 (by decide) ?_
        exact ih (i + 4) h_i4 (by omega) (cells + 1) (slots + 6) (by omega) (by omega) H1 locs1 hA1 hS1 ls hl
      refine lv_aload_n hx hb dL_law_32 rfl (lv_at hl 1 rfl) ?_
      refine lv_iload hx hb dL_law_33 (lv_at hl 0 rfl) ?_
      refine va_sld hx hb hX hbl hbA hS (vp_in_nI (n := i) (by omega) (by omega)) dL_law_35 ?_
      rw [nI_clamp (by omega)]
      refine lv_bipush (v := nI 31) hx hb dL_law_36 (by decide) ?_
      refine lv_iand hx hb dL_law_38 ?_
      obtain ⟨r, hr32, er⟩ := and_31 (xs i)
      rw [er]
      rcases (show r = 0 ∨ r = 1 ∨ r = 2 ∨ r = 3 ∨ r = 4 ∨ r = 5 ∨ r = 6 ∨ r = 7 ∨ r = 8 ∨ r = 9 ∨ r = 10 ∨ r = 11 ∨ r = 12 ∨ r = 13 ∨ r = 14 ∨ r = 15 ∨ r = 16 ∨ r = 17 ∨ r = 18 ∨ r = 19 ∨ r = 20 ∨ r = 21 ∨ r = 22 ∨ r = 23 ∨ r = 24 ∨ r = 25 ∨ r = 26 ∨ r = 27 ∨ r = 28 ∨ r = 29 ∨ r = 30 ∨ r = 31 by omega) with rfl | rfl | rfl | rfl | rfl | rfl | rfl | rfl | rfl | rfl | rfl | rfl | rfl | rfl | rfl | rfl | rfl | rfl | rfl | rfl | rfl | rfl | rfl | rfl | rfl | rfl | rfl | rfl | rfl | rfl | rfl | rfl
      · refine lv_tableIn (off := 137) (tgt := 176) hx hb dL_law_39 (by decide) (by decide) (by decide) (by decide) ?_
        exact K0 l hst G CX x tx ch h hc tr trc hi ka sl s0 s0c s1 s1c sv ot M mt mn mtr md mk mik na so kh kc i h_i4 cells slots (by omega) (by omega) H locs hA hS ls hl kk
      · refine lv_tableIn (off := 193) (tgt := 232) hx hb dL_law_39 (by decide) (by decide) (by decide) (by decide) ?_
        exact K1 l hst G CX x tx ch h hc tr trc hi ka sl s0 s0c s1 s1c sv ot M mt mn mtr md mk mik na so kh kc i h_i4 cells slots (by omega) (by omega) H locs hA hS ls hl kk
      · refine lv_tableIn (off := 206) (tgt := 245) hx hb dL_law_39 (by decide) (by decide) (by decide) (by decide) ?_
        exact K2 l hst G CX x tx ch h hc tr trc hi ka sl s0 s0c s1 s1c sv ot M mt mn mtr md mk mik na so kh kc i h_i4 cells slots (by omega) (by omega) H locs hA hS ls hl kk
      · refine lv_tableIn (off := 219) (tgt := 258) hx hb dL_law_39 (by decide) (by decide) (by decide) (by decide) ?_
        exact K3 l hst G CX x tx ch h hc tr trc hi ka sl s0 s0c s1 s1c sv ot M mt mn mtr md mk mik na so kh kc i h_i4 cells slots (by omega) (by omega) H locs hA hS ls hl kk
      · refine lv_tableIn (off := 263) (tgt := 302) hx hb dL_law_39 (by decide) (by decide) (by decide) (by decide) ?_
        exact K4 l hst G CX x tx ch h hc tr trc hi ka sl s0 s0c s1 s1c sv ot M mt mn mtr md mk mik na so kh kc i h_i4 cells slots (by omega) (by omega) H locs hA hS ls hl kk
      · refine lv_tableIn (off := 319) (tgt := 358) hx hb dL_law_39 (by decide) (by decide) (by decide) (by decide) ?_
        exact K5 l hst G CX x tx ch h hc tr trc hi ka sl s0 s0c s1 s1c sv ot M mt mn mtr md mk mik na so kh kc i h_i4 cells slots (by omega) (by omega) H locs hA hS ls hl kk
      · refine lv_tableIn (off := 387) (tgt := 426) hx hb dL_law_39 (by decide) (by decide) (by decide) (by decide) ?_
        exact K6 l hst G CX x tx ch h hc tr trc hi ka sl s0 s0c s1 s1c sv ot M mt mn mtr md mk mik na so kh kc i h_i4 cells slots (by omega) (by omega) H locs hA hS ls hl kk
      · refine lv_tableIn (off := 467) (tgt := 506) hx hb dL_law_39 (by decide) (by decide) (by decide) (by decide) ?_
        exact K7 l hst G CX x tx ch h hc tr trc hi ka sl s0 s0c s1 s1c sv ot M mt mn mtr md mk mik na so kh kc i h_i4 cells slots (by omega) (by omega) H locs hA hS ls hl kk
      · refine lv_tableIn (off := 530) (tgt := 569) hx hb dL_law_39 (by decide) (by decide) (by decide) (by decide) ?_
        exact K8 l hst G CX x tx ch h hc tr trc hi ka sl s0 s0c s1 s1c sv ot M mt mn mtr md mk mik na so kh kc i h_i4 cells slots (by omega) (by omega) H locs hA hS ls hl kk
      · refine lv_tableIn (off := 598) (tgt := 637) hx hb dL_law_39 (by decide) (by decide) (by decide) (by decide) ?_
        exact K9 l hst G CX x tx ch h hc tr trc hi ka sl s0 s0c s1 s1c sv ot M mt mn mtr md mk mik na so kh kc i h_i4 cells slots (by omega) (by omega) H locs hA hS ls hl kk
      · refine lv_tableIn (off := 666) (tgt := 705) hx hb dL_law_39 (by decide) (by decide) (by decide) (by decide) ?_
        exact K10 l hst G CX x tx ch h hc tr trc hi ka sl s0 s0c s1 s1c sv ot M mt mn mtr md mk mik na so kh kc i h_i4 cells slots (by omega) (by omega) H locs hA hS ls hl kk
      · refine lv_tableIn (off := 722) (tgt := 761) hx hb dL_law_39 (by decide) (by decide) (by decide) (by decide) ?_
        exact K11 l hst G CX x tx ch h hc tr trc hi ka sl s0 s0c s1 s1c sv ot M mt mn mtr md mk mik na so kh kc i h_i4 cells slots (by omega) (by omega) H locs hA hS ls hl kk
      · refine lv_tableIn (off := 790) (tgt := 829) hx hb dL_law_39 (by decide) (by decide) (by decide) (by decide) ?_
        exact K12 l hst G CX x tx ch h hc tr trc hi ka sl s0 s0c s1 s1c sv ot M mt mn mtr md mk mik na so kh kc i h_i4 cells slots (by omega) (by omega) H locs hA hS ls hl kk
      · refine lv_tableIn (off := 846) (tgt := 885) hx hb dL_law_39 (by decide) (by decide) (by decide) (by decide) ?_
        exact K13 l hst G CX x tx ch h hc tr trc hi ka sl s0 s0c s1 s1c sv ot M mt mn mtr md mk mik na so kh kc i h_i4 cells slots (by omega) (by omega) H locs hA hS ls hl kk
      · refine lv_tableIn (off := 930) (tgt := 969) hx hb dL_law_39 (by decide) (by decide) (by decide) (by decide) ?_
        exact K14 l hst G CX x tx ch h hc tr trc hi ka sl s0 s0c s1 s1c sv ot M mt mn mtr md mk mik na so kh kc i h_i4 cells slots (by omega) (by omega) H locs hA hS ls hl kk
      · refine lv_tableIn (off := 1026) (tgt := 1065) hx hb dL_law_39 (by decide) (by decide) (by decide) (by decide) ?_
        exact K15 l hst G CX x tx ch h hc tr trc hi ka sl s0 s0c s1 s1c sv ot M mt mn mtr md mk mik na so kh kc i h_i4 cells slots (by omega) (by omega) H locs hA hS ls hl kk
      · refine lv_tableIn (off := 1082) (tgt := 1121) hx hb dL_law_39 (by decide) (by decide) (by decide) (by decide) ?_
        exact K16 l hst G CX x tx ch h hc tr trc hi ka sl s0 s0c s1 s1c sv ot M mt mn mtr md mk mik na so kh kc i h_i4 cells slots (by omega) (by omega) H locs hA hS ls hl kk
      · refine lv_tableIn (off := 1150) (tgt := 1189) hx hb dL_law_39 (by decide) (by decide) (by decide) (by decide) ?_
        exact K17 l hst G CX x tx ch h hc tr trc hi ka sl s0 s0c s1 s1c sv ot M mt mn mtr md mk mik na so kh kc i h_i4 cells slots (by omega) (by omega) H locs hA hS ls hl kk
      · refine lv_tableIn (off := 1206) (tgt := 1245) hx hb dL_law_39 (by decide) (by decide) (by decide) (by decide) ?_
        exact K18 l hst G CX x tx ch h hc tr trc hi ka sl s0 s0c s1 s1c sv ot M mt mn mtr md mk mik na so kh kc i h_i4 cells slots (by omega) (by omega) H locs hA hS ls hl kk
      · refine lv_tableIn (off := 1286) (tgt := 1325) hx hb dL_law_39 (by decide) (by decide) (by decide) (by decide) ?_
        exact K19 l hst G CX x tx ch h hc tr trc hi ka sl s0 s0c s1 s1c sv ot M mt mn mtr md mk mik na so kh kc i h_i4 cells slots (by omega) (by omega) H locs hA hS ls hl kk
      · refine lv_tableIn (off := 1330) (tgt := 1369) hx hb dL_law_39 (by decide) (by decide) (by decide) (by decide) ?_
        exact K20 l hst G CX x tx ch h hc tr trc hi ka sl s0 s0c s1 s1c sv ot M mt mn mtr md mk mik na so kh kc i h_i4 cells slots (by omega) (by omega) H locs hA hS ls hl kk
      · refine lv_tableIn (off := 1410) (tgt := 1449) hx hb dL_law_39 (by decide) (by decide) (by decide) (by decide) ?_
        exact K21 l hst G CX x tx ch h hc tr trc hi ka sl s0 s0c s1 s1c sv ot M mt mn mtr md mk mik na so kh kc i h_i4 cells slots (by omega) (by omega) H locs hA hS ls hl kk
      · refine lv_tableIn (off := 1466) (tgt := 1505) hx hb dL_law_39 (by decide) (by decide) (by decide) (by decide) ?_
        exact K22 l hst G CX x tx ch h hc tr trc hi ka sl s0 s0c s1 s1c sv ot M mt mn mtr md mk mik na so kh kc i h_i4 cells slots (by omega) (by omega) H locs hA hS ls hl kk
      · refine lv_tableIn (off := 1534) (tgt := 1573) hx hb dL_law_39 (by decide) (by decide) (by decide) (by decide) ?_
        exact K23 l hst G CX x tx ch h hc tr trc hi ka sl s0 s0c s1 s1c sv ot M mt mn mtr md mk mik na so kh kc i h_i4 cells slots (by omega) (by omega) H locs hA hS ls hl kk
      · refine lv_tableIn (off := 1590) (tgt := 1629) hx hb dL_law_39 (by decide) (by decide) (by decide) (by decide) ?_
        exact K24 l hst G CX x tx ch h hc tr trc hi ka sl s0 s0c s1 s1c sv ot M mt mn mtr md mk mik na so kh kc i h_i4 cells slots (by omega) (by omega) H locs hA hS ls hl kk
      · refine lv_tableIn (off := 1603) (tgt := 1642) hx hb dL_law_39 (by decide) (by decide) (by decide) (by decide) ?_
        exact K25 l hst G CX x tx ch h hc tr trc hi ka sl s0 s0c s1 s1c sv ot M mt mn mtr md mk mik na so kh kc i h_i4 cells slots (by omega) (by omega) H locs hA hS ls hl kk
      · refine lv_tableIn (off := 1671) (tgt := 1710) hx hb dL_law_39 (by decide) (by decide) (by decide) (by decide) ?_
        exact K26 l hst G CX x tx ch h hc tr trc hi ka sl s0 s0c s1 s1c sv ot M mt mn mtr md mk mik na so kh kc i h_i4 cells slots (by omega) (by omega) H locs hA hS ls hl kk
      · refine lv_tableIn (off := 1684) (tgt := 1723) hx hb dL_law_39 (by decide) (by decide) (by decide) (by decide) ?_
        exact K27 l hst G CX x tx ch h hc tr trc hi ka sl s0 s0c s1 s1c sv ot M mt mn mtr md mk mik na so kh kc i h_i4 cells slots (by omega) (by omega) H locs hA hS ls hl kk
      · refine lv_tableIn (off := 1784) (tgt := 1823) hx hb dL_law_39 (by decide) (by decide) (by decide) (by decide) ?_
        exact K28 l hst G CX x tx ch h hc tr trc hi ka sl s0 s0c s1 s1c sv ot M mt mn mtr md mk mik na so kh kc i h_i4 cells slots (by omega) (by omega) H locs hA hS ls hl kk
      · refine lv_tableIn (off := 1884) (tgt := 1923) hx hb dL_law_39 (by decide) (by decide) (by decide) (by decide) ?_
        exact K29 l hst G CX x tx ch h hc tr trc hi ka sl s0 s0c s1 s1c sv ot M mt mn mtr md mk mik na so kh kc i h_i4 cells slots (by omega) (by omega) H locs hA hS ls hl kk
      · refine lv_tableIn (off := 1940) (tgt := 1979) hx hb dL_law_39 (by decide) (by decide) (by decide) (by decide) ?_
        exact K30 l hst G CX x tx ch h hc tr trc hi ka sl s0 s0c s1 s1c sv ot M mt mn mtr md mk mik na so kh kc i h_i4 cells slots (by omega) (by omega) H locs hA hS ls hl kk
      · refine lv_tableOut (tgt := 2035) hx hb dL_law_39 (by decide) (by decide) ?_
        refine W.widen (k := cells + 1) (n := slots + 6) (by omega) (by omega) ?_
        exact kk H locs ls hA hS hl
