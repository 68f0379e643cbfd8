/-! THE CASES -/
theorem nat_rg {x : Int32} {a b : Nat} (h : (a : Int) ≤ x.toInt ∧ x.toInt ≤ (b : Int)) : ∃ k : Nat, x = nI k ∧ a ≤ k ∧ k ≤ b := by
  have h1 := Int32.toInt_lt x
  refine ⟨x.toInt.toNat, Int32.toInt_inj.mp ?_, by omega, by omega⟩
  rw [nI_i (by omega)]
  omega
theorem nat_lt {x : Int32} {b : Nat} (h : 0 ≤ x.toInt ∧ x.toInt < (b : Int)) : ∃ k : Nat, x = nI k ∧ k < b := by
  have h1 := Int32.toInt_lt x
  refine ⟨x.toInt.toNat, Int32.toInt_inj.mp ?_, by omega⟩
  rw [nI_i (by omega)]
  omega
theorem nat_le {x : Int32} {b : Nat} (h : 0 ≤ x.toInt ∧ x.toInt ≤ (b : Int)) : ∃ k : Nat, x = nI k ∧ k ≤ b := by
  obtain ⟨k, h1, h2, h3⟩ := nat_rg (a := 0) h
  exact ⟨k, h1, h3⟩
theorem nat_nn {x : Int32} (h : 0 ≤ x.toInt) : ∃ k : Nat, x = nI k ∧ k < 2147483648 := by
  have h1 := Int32.toInt_lt x
  exact nat_lt ⟨h, by omega⟩
theorem long_lt {x : Int64} {b : Nat} (hb : b < 2 ^ 63) (h : 0 ≤ x.toInt ∧ x.toInt < (b : Int)) : ∃ k : Nat, x = lN k ∧ k < b := by
  obtain ⟨k, hk, rfl⟩ := pk_lOf (x := x) (fun z => by
    have := Int64.lt_iff_toInt_lt.mp z
    rw [show (0 : Int64).toInt = 0 from rfl] at this
    omega)
  rw [pk_lT hk] at h
  exact ⟨k, rfl, by omega⟩
theorem and_31 (x : Int32) : ∃ r : Nat, r < 32 ∧ x &&& nI 31 = nI r := by
  obtain ⟨n, hn, rfl⟩ := wb_of32 x
  exact ⟨n % 2 ^ 5, Nat.mod_lt _ (by decide), fa_mask n 5⟩

theorem K0 (l : Launch) (hst : l.stackTraces = false) (G : GG) {p : Program} {e : Env} {s : State} {m : MethodId} {below : List Frame} {meth : Method} {c : Code} {Q : State → Prop} {b L : Nat} {xs : Nat → Int32} (CX : LCx G p s m c b L xs) (x : Nat) (tx : Nat) (ch : Nat) (h : Nat) (hc : Nat) (tr : Nat) (trc : Nat) (hi : Nat) (ka : Nat) (sl : Nat) (s0 : Nat) (s0c : Nat) (s1 : Nat) (s1c : Nat) (sv : Nat) (ot : Nat) (M : Nat) (mt : Nat) (mn : Nat) (mtr : Nat) (md : Nat) (mk : Nat) (mik : Nat) (na : Nat) (so : Nat) (kh : Nat → Nat) (kc : Nat → Nat) (i : Nat) (h_i : i + 4 ≤ L) (cells slots : Nat) (h_ce : cells + 1 ≤ 601024) (h_sl : slots + 6 ≤ 7293034) (H : Heap) (locs : List Loc) (hA : LAll G (fun q : Nat => s.heap.size ≤ q) x tx ch h hc tr trc hi ka sl s0 s0c s1 s1c sv ot M mt mn mtr md mk mik na so kh kc H) (hS : va_S (fun q : Nat => s.heap.size ≤ q) s.heap H locs) (ls : Array Slot) (hl : lv_has ls 7 [(4, .int (nI i)), (0, .ref b), (1, .ref x), (2, .ref M), (3, .ref ot)]) (kk : ∀ (H1 : Heap) (locs1 : List Loc) (ls1 : Array Slot), LAll G (fun q : Nat => s.heap.size ≤ q) x tx ch h hc tr trc hi ka sl s0 s0c s1 s1c sv ot M mt mn mtr md mk mik na so kh kc H1 → va_S (fun q : Nat => s.heap.size ≤ q) s.heap H1 locs1 → lv_has ls1 7 [(4, .int (nI i)), (0, .ref b), (1, .ref x), (2, .ref M), (3, .ref ot)] → W p l e room_1 s m #[Value.ref b] below meth c H1 locs1 (cells + 1) (slots + 6) Q (F0 m 2035 ls1 [])) : W p l e room_1 s m #[Value.ref b] below meth c H locs cells slots Q (F0 m 176 ls []) := by
  obtain ⟨n, g, sk, f, n2, g2, sk2, f2, cnt, nx, kr, K, slf, S0, S1, svf, of_, cd, sz, rf, mm, tf, df, kf, ikf, nf, sf, hP, hD, hI, hkr, hq0, hq1⟩ := hA
  have h_n : n ≤ 16 := hI.1.2.1
  have h_sz : sz ≤ 60 := hI.2.2.2.1
  have h_cd : ∀ j_, cd j_ < 256 := hI.2.2.2.2.1
  have h_cnt : cnt ≤ 14 := hI.2.2.2.2.2.1
  by_cases h_1 : 0 ≤ (xs (i + 1)).toInt ∧ (xs (i + 1)).toInt ≤ ((255 : Nat) : Int)
  ·
    obtain ⟨k, e_1, h_kk⟩ := nat_le h_1
    by_cases h_s : sz < 60
    ·
      exact k0_ok l hst G CX x tx ch h hc tr trc hi ka sl s0 s0c s1 s1c sv ot M mt mn mtr md mk mik na so kh kc i h_i cells slots h_ce h_sl n g sk f n2 g2 sk2 f2 cnt nx kr K slf S0 S1 svf of_ cd sz rf mm tf df kf ikf nf sf H locs hP hD hS hI hkr hq0 hq1 ls hl k e_1 h_s (by omega) kk
    ·
      exact k0_f l hst G CX x tx ch h hc tr trc hi ka sl s0 s0c s1 s1c sv ot M mt mn mtr md mk mik na so kh kc i h_i cells slots h_ce h_sl n g sk f n2 g2 sk2 f2 cnt nx kr K slf S0 S1 svf of_ cd sz rf mm tf df kf ikf nf sf H locs hP hD hS hI hkr hq0 hq1 ls hl k e_1 (by omega) (by omega) kk
  ·
    exact k0_c l hst G CX x tx ch h hc tr trc hi ka sl s0 s0c s1 s1c sv ot M mt mn mtr md mk mik na so kh kc i h_i cells slots h_ce h_sl n g sk f n2 g2 sk2 f2 cnt nx kr K slf S0 S1 svf of_ cd sz rf mm tf df kf ikf nf sf H locs hP hD hS hI hkr hq0 hq1 ls hl (xs (i + 1)) rfl h_1 kk
theorem K1 (l : Launch) (hst : l.stackTraces = false) (G : GG) {p : Program} {e : Env} {s : State} {m : MethodId} {below : List Frame} {meth : Method} {c : Code} {Q : State → Prop} {b L : Nat} {xs : Nat → Int32} (CX : LCx G p s m c b L xs) (x : Nat) (tx : Nat) (ch : Nat) (h : Nat) (hc : Nat) (tr : Nat) (trc : Nat) (hi : Nat) (ka : Nat) (sl : Nat) (s0 : Nat) (s0c : Nat) (s1 : Nat) (s1c : Nat) (sv : Nat) (ot : Nat) (M : Nat) (mt : Nat) (mn : Nat) (mtr : Nat) (md : Nat) (mk : Nat) (mik : Nat) (na : Nat) (so : Nat) (kh : Nat → Nat) (kc : Nat → Nat) (i : Nat) (h_i : i + 4 ≤ L) (cells slots : Nat) (h_ce : cells + 1 ≤ 601024) (h_sl : slots + 6 ≤ 7293034) (H : Heap) (locs : List Loc) (hA : LAll G (fun q : Nat => s.heap.size ≤ q) x tx ch h hc tr trc hi ka sl s0 s0c s1 s1c sv ot M mt mn mtr md mk mik na so kh kc H) (hS : va_S (fun q : Nat => s.heap.size ≤ q) s.heap H locs) (ls : Array Slot) (hl : lv_has ls 7 [(4, .int (nI i)), (0, .ref b), (1, .ref x), (2, .ref M), (3, .ref ot)]) (kk : ∀ (H1 : Heap) (locs1 : List Loc) (ls1 : Array Slot), LAll G (fun q : Nat => s.heap.size ≤ q) x tx ch h hc tr trc hi ka sl s0 s0c s1 s1c sv ot M mt mn mtr md mk mik na so kh kc H1 → va_S (fun q : Nat => s.heap.size ≤ q) s.heap H1 locs1 → lv_has ls1 7 [(4, .int (nI i)), (0, .ref b), (1, .ref x), (2, .ref M), (3, .ref ot)] → W p l e room_1 s m #[Value.ref b] below meth c H1 locs1 (cells + 1) (slots + 6) Q (F0 m 2035 ls1 [])) : W p l e room_1 s m #[Value.ref b] below meth c H locs cells slots Q (F0 m 232 ls []) := by
  obtain ⟨n, g, sk, f, n2, g2, sk2, f2, cnt, nx, kr, K, slf, S0, S1, svf, of_, cd, sz, rf, mm, tf, df, kf, ikf, nf, sf, hP, hD, hI, hkr, hq0, hq1⟩ := hA
  have h_n : n ≤ 16 := hI.1.2.1
  have h_sz : sz ≤ 60 := hI.2.2.2.1
  have h_cd : ∀ j_, cd j_ < 256 := hI.2.2.2.2.1
  have h_cnt : cnt ≤ 14 := hI.2.2.2.2.2.1
  exact k1_ok l hst G CX x tx ch h hc tr trc hi ka sl s0 s0c s1 s1c sv ot M mt mn mtr md mk mik na so kh kc i h_i cells slots h_ce h_sl n g sk f n2 g2 sk2 f2 cnt nx kr K slf S0 S1 svf of_ cd sz rf mm tf df kf ikf nf sf H locs hP hD hS hI hkr hq0 hq1 ls hl  kk
theorem K2 (l : Launch) (hst : l.stackTraces = false) (G : GG) {p : Program} {e : Env} {s : State} {m : MethodId} {below : List Frame} {meth : Method} {c : Code} {Q : State → Prop} {b L : Nat} {xs : Nat → Int32} (CX : LCx G p s m c b L xs) (x : Nat) (tx : Nat) (ch : Nat) (h : Nat) (hc : Nat) (tr : Nat) (trc : Nat) (hi : Nat) (ka : Nat) (sl : Nat) (s0 : Nat) (s0c : Nat) (s1 : Nat) (s1c : Nat) (sv : Nat) (ot : Nat) (M : Nat) (mt : Nat) (mn : Nat) (mtr : Nat) (md : Nat) (mk : Nat) (mik : Nat) (na : Nat) (so : Nat) (kh : Nat → Nat) (kc : Nat → Nat) (i : Nat) (h_i : i + 4 ≤ L) (cells slots : Nat) (h_ce : cells + 1 ≤ 601024) (h_sl : slots + 6 ≤ 7293034) (H : Heap) (locs : List Loc) (hA : LAll G (fun q : Nat => s.heap.size ≤ q) x tx ch h hc tr trc hi ka sl s0 s0c s1 s1c sv ot M mt mn mtr md mk mik na so kh kc H) (hS : va_S (fun q : Nat => s.heap.size ≤ q) s.heap H locs) (ls : Array Slot) (hl : lv_has ls 7 [(4, .int (nI i)), (0, .ref b), (1, .ref x), (2, .ref M), (3, .ref ot)]) (kk : ∀ (H1 : Heap) (locs1 : List Loc) (ls1 : Array Slot), LAll G (fun q : Nat => s.heap.size ≤ q) x tx ch h hc tr trc hi ka sl s0 s0c s1 s1c sv ot M mt mn mtr md mk mik na so kh kc H1 → va_S (fun q : Nat => s.heap.size ≤ q) s.heap H1 locs1 → lv_has ls1 7 [(4, .int (nI i)), (0, .ref b), (1, .ref x), (2, .ref M), (3, .ref ot)] → W p l e room_1 s m #[Value.ref b] below meth c H1 locs1 (cells + 1) (slots + 6) Q (F0 m 2035 ls1 [])) : W p l e room_1 s m #[Value.ref b] below meth c H locs cells slots Q (F0 m 245 ls []) := by
  obtain ⟨n, g, sk, f, n2, g2, sk2, f2, cnt, nx, kr, K, slf, S0, S1, svf, of_, cd, sz, rf, mm, tf, df, kf, ikf, nf, sf, hP, hD, hI, hkr, hq0, hq1⟩ := hA
  have h_n : n ≤ 16 := hI.1.2.1
  have h_sz : sz ≤ 60 := hI.2.2.2.1
  have h_cd : ∀ j_, cd j_ < 256 := hI.2.2.2.2.1
  have h_cnt : cnt ≤ 14 := hI.2.2.2.2.2.1
  exact k2_ok l hst G CX x tx ch h hc tr trc hi ka sl s0 s0c s1 s1c sv ot M mt mn mtr md mk mik na so kh kc i h_i cells slots h_ce h_sl n g sk f n2 g2 sk2 f2 cnt nx kr K slf S0 S1 svf of_ cd sz rf mm tf df kf ikf nf sf H locs hP hD hS hI hkr hq0 hq1 ls hl  kk
theorem K3 (l : Launch) (hst : l.stackTraces = false) (G : GG) {p : Program} {e : Env} {s : State} {m : MethodId} {below : List Frame} {meth : Method} {c : Code} {Q : State → Prop} {b L : Nat} {xs : Nat → Int32} (CX : LCx G p s m c b L xs) (x : Nat) (tx : Nat) (ch : Nat) (h : Nat) (hc : Nat) (tr : Nat) (trc : Nat) (hi : Nat) (ka : Nat) (sl : Nat) (s0 : Nat) (s0c : Nat) (s1 : Nat) (s1c : Nat) (sv : Nat) (ot : Nat) (M : Nat) (mt : Nat) (mn : Nat) (mtr : Nat) (md : Nat) (mk : Nat) (mik : Nat) (na : Nat) (so : Nat) (kh : Nat → Nat) (kc : Nat → Nat) (i : Nat) (h_i : i + 4 ≤ L) (cells slots : Nat) (h_ce : cells + 1 ≤ 601024) (h_sl : slots + 6 ≤ 7293034) (H : Heap) (locs : List Loc) (hA : LAll G (fun q : Nat => s.heap.size ≤ q) x tx ch h hc tr trc hi ka sl s0 s0c s1 s1c sv ot M mt mn mtr md mk mik na so kh kc H) (hS : va_S (fun q : Nat => s.heap.size ≤ q) s.heap H locs) (ls : Array Slot) (hl : lv_has ls 7 [(4, .int (nI i)), (0, .ref b), (1, .ref x), (2, .ref M), (3, .ref ot)]) (kk : ∀ (H1 : Heap) (locs1 : List Loc) (ls1 : Array Slot), LAll G (fun q : Nat => s.heap.size ≤ q) x tx ch h hc tr trc hi ka sl s0 s0c s1 s1c sv ot M mt mn mtr md mk mik na so kh kc H1 → va_S (fun q : Nat => s.heap.size ≤ q) s.heap H1 locs1 → lv_has ls1 7 [(4, .int (nI i)), (0, .ref b), (1, .ref x), (2, .ref M), (3, .ref ot)] → W p l e room_1 s m #[Value.ref b] below meth c H1 locs1 (cells + 1) (slots + 6) Q (F0 m 2035 ls1 [])) : W p l e room_1 s m #[Value.ref b] below meth c H locs cells slots Q (F0 m 258 ls []) := by
  obtain ⟨n, g, sk, f, n2, g2, sk2, f2, cnt, nx, kr, K, slf, S0, S1, svf, of_, cd, sz, rf, mm, tf, df, kf, ikf, nf, sf, hP, hD, hI, hkr, hq0, hq1⟩ := hA
  have h_n : n ≤ 16 := hI.1.2.1
  have h_sz : sz ≤ 60 := hI.2.2.2.1
  have h_cd : ∀ j_, cd j_ < 256 := hI.2.2.2.2.1
  have h_cnt : cnt ≤ 14 := hI.2.2.2.2.2.1
  by_cases h_ok : ferr cd sz = -1
  ·
    obtain ⟨g1, h_GL, h_Gc, h_G, h_rl⟩ := house_G h_sz h_cd h_ok
    exact k3_ok l hst G CX x tx ch h hc tr trc hi ka sl s0 s0c s1 s1c sv ot M mt mn mtr md mk mik na so kh kc i h_i cells slots h_ce h_sl n g sk f n2 g2 sk2 f2 cnt nx kr K slf S0 S1 svf of_ cd sz rf mm tf df kf ikf nf sf H locs hP hD hS hI hkr hq0 hq1 ls hl g1 h_ok h_G h_GL h_Gc h_rl kk
  ·
    exact k3_no l hst G CX x tx ch h hc tr trc hi ka sl s0 s0c s1 s1c sv ot M mt mn mtr md mk mik na so kh kc i h_i cells slots h_ce h_sl n g sk f n2 g2 sk2 f2 cnt nx kr K slf S0 S1 svf of_ cd sz rf mm tf df kf ikf nf sf H locs hP hD hS hI hkr hq0 hq1 ls hl h_ok kk
theorem K4 (l : Launch) (hst : l.stackTraces = false) (G : GG) {p : Program} {e : Env} {s : State} {m : MethodId} {below : List Frame} {meth : Method} {c : Code} {Q : State → Prop} {b L : Nat} {xs : Nat → Int32} (CX : LCx G p s m c b L xs) (x : Nat) (tx : Nat) (ch : Nat) (h : Nat) (hc : Nat) (tr : Nat) (trc : Nat) (hi : Nat) (ka : Nat) (sl : Nat) (s0 : Nat) (s0c : Nat) (s1 : Nat) (s1c : Nat) (sv : Nat) (ot : Nat) (M : Nat) (mt : Nat) (mn : Nat) (mtr : Nat) (md : Nat) (mk : Nat) (mik : Nat) (na : Nat) (so : Nat) (kh : Nat → Nat) (kc : Nat → Nat) (i : Nat) (h_i : i + 4 ≤ L) (cells slots : Nat) (h_ce : cells + 1 ≤ 601024) (h_sl : slots + 6 ≤ 7293034) (H : Heap) (locs : List Loc) (hA : LAll G (fun q : Nat => s.heap.size ≤ q) x tx ch h hc tr trc hi ka sl s0 s0c s1 s1c sv ot M mt mn mtr md mk mik na so kh kc H) (hS : va_S (fun q : Nat => s.heap.size ≤ q) s.heap H locs) (ls : Array Slot) (hl : lv_has ls 7 [(4, .int (nI i)), (0, .ref b), (1, .ref x), (2, .ref M), (3, .ref ot)]) (kk : ∀ (H1 : Heap) (locs1 : List Loc) (ls1 : Array Slot), LAll G (fun q : Nat => s.heap.size ≤ q) x tx ch h hc tr trc hi ka sl s0 s0c s1 s1c sv ot M mt mn mtr md mk mik na so kh kc H1 → va_S (fun q : Nat => s.heap.size ≤ q) s.heap H1 locs1 → lv_has ls1 7 [(4, .int (nI i)), (0, .ref b), (1, .ref x), (2, .ref M), (3, .ref ot)] → W p l e room_1 s m #[Value.ref b] below meth c H1 locs1 (cells + 1) (slots + 6) Q (F0 m 2035 ls1 [])) : W p l e room_1 s m #[Value.ref b] below meth c H locs cells slots Q (F0 m 302 ls []) := by
  obtain ⟨n, g, sk, f, n2, g2, sk2, f2, cnt, nx, kr, K, slf, S0, S1, svf, of_, cd, sz, rf, mm, tf, df, kf, ikf, nf, sf, hP, hD, hI, hkr, hq0, hq1⟩ := hA
  have h_n : n ≤ 16 := hI.1.2.1
  have h_sz : sz ≤ 60 := hI.2.2.2.1
  have h_cd : ∀ j_, cd j_ < 256 := hI.2.2.2.2.1
  have h_cnt : cnt ≤ 14 := hI.2.2.2.2.2.1
  by_cases h_1 : 0 ≤ (xs (i + 1)).toInt ∧ (xs (i + 1)).toInt ≤ ((8 : Nat) : Int)
  ·
    obtain ⟨k, e_1, h_kk⟩ := nat_le h_1
    rcases (show k = 0 ∨ k = 1 ∨ k = 2 ∨ k = 3 ∨ k = 4 ∨ k = 5 ∨ k = 6 ∨ k = 7 ∨ k = 8 by omega) with rfl | rfl | rfl | rfl | rfl | rfl | rfl | rfl | rfl
    ·
      exact k4_0 l hst G CX x tx ch h hc tr trc hi ka sl s0 s0c s1 s1c sv ot M mt mn mtr md mk mik na so kh kc i h_i cells slots h_ce h_sl n g sk f n2 g2 sk2 f2 cnt nx kr K slf S0 S1 svf of_ cd sz rf mm tf df kf ikf nf sf H locs hP hD hS hI hkr hq0 hq1 ls hl e_1 kk
    ·
      exact k4_1 l hst G CX x tx ch h hc tr trc hi ka sl s0 s0c s1 s1c sv ot M mt mn mtr md mk mik na so kh kc i h_i cells slots h_ce h_sl n g sk f n2 g2 sk2 f2 cnt nx kr K slf S0 S1 svf of_ cd sz rf mm tf df kf ikf nf sf H locs hP hD hS hI hkr hq0 hq1 ls hl e_1 kk
    ·
      exact k4_2 l hst G CX x tx ch h hc tr trc hi ka sl s0 s0c s1 s1c sv ot M mt mn mtr md mk mik na so kh kc i h_i cells slots h_ce h_sl n g sk f n2 g2 sk2 f2 cnt nx kr K slf S0 S1 svf of_ cd sz rf mm tf df kf ikf nf sf H locs hP hD hS hI hkr hq0 hq1 ls hl e_1 kk
    ·
      exact k4_3 l hst G CX x tx ch h hc tr trc hi ka sl s0 s0c s1 s1c sv ot M mt mn mtr md mk mik na so kh kc i h_i cells slots h_ce h_sl n g sk f n2 g2 sk2 f2 cnt nx kr K slf S0 S1 svf of_ cd sz rf mm tf df kf ikf nf sf H locs hP hD hS hI hkr hq0 hq1 ls hl e_1 kk
    ·
      exact k4_4 l hst G CX x tx ch h hc tr trc hi ka sl s0 s0c s1 s1c sv ot M mt mn mtr md mk mik na so kh kc i h_i cells slots h_ce h_sl n g sk f n2 g2 sk2 f2 cnt nx kr K slf S0 S1 svf of_ cd sz rf mm tf df kf ikf nf sf H locs hP hD hS hI hkr hq0 hq1 ls hl e_1 kk
    ·
      exact k4_5 l hst G CX x tx ch h hc tr trc hi ka sl s0 s0c s1 s1c sv ot M mt mn mtr md mk mik na so kh kc i h_i cells slots h_ce h_sl n g sk f n2 g2 sk2 f2 cnt nx kr K slf S0 S1 svf of_ cd sz rf mm tf df kf ikf nf sf H locs hP hD hS hI hkr hq0 hq1 ls hl e_1 kk
    ·
      exact k4_6 l hst G CX x tx ch h hc tr trc hi ka sl s0 s0c s1 s1c sv ot M mt mn mtr md mk mik na so kh kc i h_i cells slots h_ce h_sl n g sk f n2 g2 sk2 f2 cnt nx kr K slf S0 S1 svf of_ cd sz rf mm tf df kf ikf nf sf H locs hP hD hS hI hkr hq0 hq1 ls hl e_1 kk
    ·
      exact k4_7 l hst G CX x tx ch h hc tr trc hi ka sl s0 s0c s1 s1c sv ot M mt mn mtr md mk mik na so kh kc i h_i cells slots h_ce h_sl n g sk f n2 g2 sk2 f2 cnt nx kr K slf S0 S1 svf of_ cd sz rf mm tf df kf ikf nf sf H locs hP hD hS hI hkr hq0 hq1 ls hl e_1 kk
    ·
      exact k4_8 l hst G CX x tx ch h hc tr trc hi ka sl s0 s0c s1 s1c sv ot M mt mn mtr md mk mik na so kh kc i h_i cells slots h_ce h_sl n g sk f n2 g2 sk2 f2 cnt nx kr K slf S0 S1 svf of_ cd sz rf mm tf df kf ikf nf sf H locs hP hD hS hI hkr hq0 hq1 ls hl e_1 kk
  ·
    exact k4_w l hst G CX x tx ch h hc tr trc hi ka sl s0 s0c s1 s1c sv ot M mt mn mtr md mk mik na so kh kc i h_i cells slots h_ce h_sl n g sk f n2 g2 sk2 f2 cnt nx kr K slf S0 S1 svf of_ cd sz rf mm tf df kf ikf nf sf H locs hP hD hS hI hkr hq0 hq1 ls hl (xs (i + 1)) rfl h_1 kk
theorem K5 (l : Launch) (hst : l.stackTraces = false) (G : GG) {p : Program} {e : Env} {s : State} {m : MethodId} {below : List Frame} {meth : Method} {c : Code} {Q : State → Prop} {b L : Nat} {xs : Nat → Int32} (CX : LCx G p s m c b L xs) (x : Nat) (tx : Nat) (ch : Nat) (h : Nat) (hc : Nat) (tr : Nat) (trc : Nat) (hi : Nat) (ka : Nat) (sl : Nat) (s0 : Nat) (s0c : Nat) (s1 : Nat) (s1c : Nat) (sv : Nat) (ot : Nat) (M : Nat) (mt : Nat) (mn : Nat) (mtr : Nat) (md : Nat) (mk : Nat) (mik : Nat) (na : Nat) (so : Nat) (kh : Nat → Nat) (kc : Nat → Nat) (i : Nat) (h_i : i + 4 ≤ L) (cells slots : Nat) (h_ce : cells + 1 ≤ 601024) (h_sl : slots + 6 ≤ 7293034) (H : Heap) (locs : List Loc) (hA : LAll G (fun q : Nat => s.heap.size ≤ q) x tx ch h hc tr trc hi ka sl s0 s0c s1 s1c sv ot M mt mn mtr md mk mik na so kh kc H) (hS : va_S (fun q : Nat => s.heap.size ≤ q) s.heap H locs) (ls : Array Slot) (hl : lv_has ls 7 [(4, .int (nI i)), (0, .ref b), (1, .ref x), (2, .ref M), (3, .ref ot)]) (kk : ∀ (H1 : Heap) (locs1 : List Loc) (ls1 : Array Slot), LAll G (fun q : Nat => s.heap.size ≤ q) x tx ch h hc tr trc hi ka sl s0 s0c s1 s1c sv ot M mt mn mtr md mk mik na so kh kc H1 → va_S (fun q : Nat => s.heap.size ≤ q) s.heap H1 locs1 → lv_has ls1 7 [(4, .int (nI i)), (0, .ref b), (1, .ref x), (2, .ref M), (3, .ref ot)] → W p l e room_1 s m #[Value.ref b] below meth c H1 locs1 (cells + 1) (slots + 6) Q (F0 m 2035 ls1 [])) : W p l e room_1 s m #[Value.ref b] below meth c H locs cells slots Q (F0 m 358 ls []) := by
  obtain ⟨n, g, sk, f, n2, g2, sk2, f2, cnt, nx, kr, K, slf, S0, S1, svf, of_, cd, sz, rf, mm, tf, df, kf, ikf, nf, sf, hP, hD, hI, hkr, hq0, hq1⟩ := hA
  have h_n : n ≤ 16 := hI.1.2.1
  have h_sz : sz ≤ 60 := hI.2.2.2.1
  have h_cd : ∀ j_, cd j_ < 256 := hI.2.2.2.2.1
  have h_cnt : cnt ≤ 14 := hI.2.2.2.2.2.1
  by_cases h_1l : 0 ≤ (xs (i + 1)).toInt ∧ (xs (i + 1)).toInt < ((n : Nat) : Int)
  ·
    obtain ⟨lv, e_1, h_lv⟩ := nat_lt h_1l
    by_cases h_2 : 0 ≤ (xs (i + 2)).toInt ∧ (xs (i + 2)).toInt ≤ ((4 : Nat) : Int)
    ·
      obtain ⟨k, e_2, h_kk⟩ := nat_le h_2
      rcases (show k = 0 ∨ k = 1 ∨ k = 2 ∨ k = 3 ∨ k = 4 by omega) with rfl | rfl | rfl | rfl | rfl
      ·
        exact k5_0 l hst G CX x tx ch h hc tr trc hi ka sl s0 s0c s1 s1c sv ot M mt mn mtr md mk mik na so kh kc i h_i cells slots h_ce h_sl n g sk f n2 g2 sk2 f2 cnt nx kr K slf S0 S1 svf of_ cd sz rf mm tf df kf ikf nf sf H locs hP hD hS hI hkr hq0 hq1 ls hl lv e_1 e_2 h_lv kk
      ·
        exact k5_1 l hst G CX x tx ch h hc tr trc hi ka sl s0 s0c s1 s1c sv ot M mt mn mtr md mk mik na so kh kc i h_i cells slots h_ce h_sl n g sk f n2 g2 sk2 f2 cnt nx kr K slf S0 S1 svf of_ cd sz rf mm tf df kf ikf nf sf H locs hP hD hS hI hkr hq0 hq1 ls hl lv e_1 e_2 h_lv kk
      ·
        exact k5_2 l hst G CX x tx ch h hc tr trc hi ka sl s0 s0c s1 s1c sv ot M mt mn mtr md mk mik na so kh kc i h_i cells slots h_ce h_sl n g sk f n2 g2 sk2 f2 cnt nx kr K slf S0 S1 svf of_ cd sz rf mm tf df kf ikf nf sf H locs hP hD hS hI hkr hq0 hq1 ls hl lv e_1 e_2 h_lv kk
      ·
        exact k5_3 l hst G CX x tx ch h hc tr trc hi ka sl s0 s0c s1 s1c sv ot M mt mn mtr md mk mik na so kh kc i h_i cells slots h_ce h_sl n g sk f n2 g2 sk2 f2 cnt nx kr K slf S0 S1 svf of_ cd sz rf mm tf df kf ikf nf sf H locs hP hD hS hI hkr hq0 hq1 ls hl lv e_1 e_2 h_lv kk
      ·
        exact k5_4 l hst G CX x tx ch h hc tr trc hi ka sl s0 s0c s1 s1c sv ot M mt mn mtr md mk mik na so kh kc i h_i cells slots h_ce h_sl n g sk f n2 g2 sk2 f2 cnt nx kr K slf S0 S1 svf of_ cd sz rf mm tf df kf ikf nf sf H locs hP hD hS hI hkr hq0 hq1 ls hl lv e_1 e_2 h_lv kk
    ·
      exact k5_w l hst G CX x tx ch h hc tr trc hi ka sl s0 s0c s1 s1c sv ot M mt mn mtr md mk mik na so kh kc i h_i cells slots h_ce h_sl n g sk f n2 g2 sk2 f2 cnt nx kr K slf S0 S1 svf of_ cd sz rf mm tf df kf ikf nf sf H locs hP hD hS hI hkr hq0 hq1 ls hl lv (xs (i + 2)) e_1 rfl h_lv h_2 kk
  ·
    exact k5_l l hst G CX x tx ch h hc tr trc hi ka sl s0 s0c s1 s1c sv ot M mt mn mtr md mk mik na so kh kc i h_i cells slots h_ce h_sl n g sk f n2 g2 sk2 f2 cnt nx kr K slf S0 S1 svf of_ cd sz rf mm tf df kf ikf nf sf H locs hP hD hS hI hkr hq0 hq1 ls hl (xs (i + 1)) (xs (i + 2)) rfl rfl h_1l kk
theorem K6 (l : Launch) (hst : l.stackTraces = false) (G : GG) {p : Program} {e : Env} {s : State} {m : MethodId} {below : List Frame} {meth : Method} {c : Code} {Q : State → Prop} {b L : Nat} {xs : Nat → Int32} (CX : LCx G p s m c b L xs) (x : Nat) (tx : Nat) (ch : Nat) (h : Nat) (hc : Nat) (tr : Nat) (trc : Nat) (hi : Nat) (ka : Nat) (sl : Nat) (s0 : Nat) (s0c : Nat) (s1 : Nat) (s1c : Nat) (sv : Nat) (ot : Nat) (M : Nat) (mt : Nat) (mn : Nat) (mtr : Nat) (md : Nat) (mk : Nat) (mik : Nat) (na : Nat) (so : Nat) (kh : Nat → Nat) (kc : Nat → Nat) (i : Nat) (h_i : i + 4 ≤ L) (cells slots : Nat) (h_ce : cells + 1 ≤ 601024) (h_sl : slots + 6 ≤ 7293034) (H : Heap) (locs : List Loc) (hA : LAll G (fun q : Nat => s.heap.size ≤ q) x tx ch h hc tr trc hi ka sl s0 s0c s1 s1c sv ot M mt mn mtr md mk mik na so kh kc H) (hS : va_S (fun q : Nat => s.heap.size ≤ q) s.heap H locs) (ls : Array Slot) (hl : lv_has ls 7 [(4, .int (nI i)), (0, .ref b), (1, .ref x), (2, .ref M), (3, .ref ot)]) (kk : ∀ (H1 : Heap) (locs1 : List Loc) (ls1 : Array Slot), LAll G (fun q : Nat => s.heap.size ≤ q) x tx ch h hc tr trc hi ka sl s0 s0c s1 s1c sv ot M mt mn mtr md mk mik na so kh kc H1 → va_S (fun q : Nat => s.heap.size ≤ q) s.heap H1 locs1 → lv_has ls1 7 [(4, .int (nI i)), (0, .ref b), (1, .ref x), (2, .ref M), (3, .ref ot)] → W p l e room_1 s m #[Value.ref b] below meth c H1 locs1 (cells + 1) (slots + 6) Q (F0 m 2035 ls1 [])) : W p l e room_1 s m #[Value.ref b] below meth c H locs cells slots Q (F0 m 426 ls []) := by
  obtain ⟨n, g, sk, f, n2, g2, sk2, f2, cnt, nx, kr, K, slf, S0, S1, svf, of_, cd, sz, rf, mm, tf, df, kf, ikf, nf, sf, hP, hD, hI, hkr, hq0, hq1⟩ := hA
  have h_n : n ≤ 16 := hI.1.2.1
  have h_sz : sz ≤ 60 := hI.2.2.2.1
  have h_cd : ∀ j_, cd j_ < 256 := hI.2.2.2.2.1
  have h_cnt : cnt ≤ 14 := hI.2.2.2.2.2.1
  by_cases h_1c : 0 ≤ (xs (i + 1)).toInt ∧ (xs (i + 1)).toInt < ((3 : Nat) : Int)
  ·
    obtain ⟨ca, e_1, h_ca⟩ := nat_lt h_1c
    by_cases h_2l : 0 ≤ (xs (i + 2)).toInt ∧ (xs (i + 2)).toInt < ((n : Nat) : Int)
    ·
      obtain ⟨lv, e_2, h_lv⟩ := nat_lt h_2l
      by_cases h_3 : 0 ≤ (xs (i + 3)).toInt ∧ (xs (i + 3)).toInt ≤ ((2 : Nat) : Int)
      ·
        obtain ⟨k, e_3, h_kk⟩ := nat_le h_3
        rcases (show k = 0 ∨ k = 1 ∨ k = 2 by omega) with rfl | rfl | rfl
        ·
          exact k6_0 l hst G CX x tx ch h hc tr trc hi ka sl s0 s0c s1 s1c sv ot M mt mn mtr md mk mik na so kh kc i h_i cells slots h_ce h_sl n g sk f n2 g2 sk2 f2 cnt nx kr K slf S0 S1 svf of_ cd sz rf mm tf df kf ikf nf sf H locs hP hD hS hI hkr hq0 hq1 ls hl ca lv e_1 e_2 e_3 h_ca h_lv kk
        ·
          exact k6_1 l hst G CX x tx ch h hc tr trc hi ka sl s0 s0c s1 s1c sv ot M mt mn mtr md mk mik na so kh kc i h_i cells slots h_ce h_sl n g sk f n2 g2 sk2 f2 cnt nx kr K slf S0 S1 svf of_ cd sz rf mm tf df kf ikf nf sf H locs hP hD hS hI hkr hq0 hq1 ls hl ca lv e_1 e_2 e_3 h_ca h_lv kk
        ·
          exact k6_2 l hst G CX x tx ch h hc tr trc hi ka sl s0 s0c s1 s1c sv ot M mt mn mtr md mk mik na so kh kc i h_i cells slots h_ce h_sl n g sk f n2 g2 sk2 f2 cnt nx kr K slf S0 S1 svf of_ cd sz rf mm tf df kf ikf nf sf H locs hP hD hS hI hkr hq0 hq1 ls hl ca lv e_1 e_2 e_3 h_ca h_lv kk
      ·
        exact k6_w l hst G CX x tx ch h hc tr trc hi ka sl s0 s0c s1 s1c sv ot M mt mn mtr md mk mik na so kh kc i h_i cells slots h_ce h_sl n g sk f n2 g2 sk2 f2 cnt nx kr K slf S0 S1 svf of_ cd sz rf mm tf df kf ikf nf sf H locs hP hD hS hI hkr hq0 hq1 ls hl ca lv (xs (i + 3)) e_1 e_2 rfl h_ca h_lv h_3 kk
    ·
      exact k6_l l hst G CX x tx ch h hc tr trc hi ka sl s0 s0c s1 s1c sv ot M mt mn mtr md mk mik na so kh kc i h_i cells slots h_ce h_sl n g sk f n2 g2 sk2 f2 cnt nx kr K slf S0 S1 svf of_ cd sz rf mm tf df kf ikf nf sf H locs hP hD hS hI hkr hq0 hq1 ls hl ca (xs (i + 2)) (xs (i + 3)) e_1 rfl rfl h_ca h_2l kk
  ·
    exact k6_c l hst G CX x tx ch h hc tr trc hi ka sl s0 s0c s1 s1c sv ot M mt mn mtr md mk mik na so kh kc i h_i cells slots h_ce h_sl n g sk f n2 g2 sk2 f2 cnt nx kr K slf S0 S1 svf of_ cd sz rf mm tf df kf ikf nf sf H locs hP hD hS hI hkr hq0 hq1 ls hl (xs (i + 1)) (xs (i + 2)) (xs (i + 3)) rfl rfl rfl h_1c kk
theorem K7 (l : Launch) (hst : l.stackTraces = false) (G : GG) {p : Program} {e : Env} {s : State} {m : MethodId} {below : List Frame} {meth : Method} {c : Code} {Q : State → Prop} {b L : Nat} {xs : Nat → Int32} (CX : LCx G p s m c b L xs) (x : Nat) (tx : Nat) (ch : Nat) (h : Nat) (hc : Nat) (tr : Nat) (trc : Nat) (hi : Nat) (ka : Nat) (sl : Nat) (s0 : Nat) (s0c : Nat) (s1 : Nat) (s1c : Nat) (sv : Nat) (ot : Nat) (M : Nat) (mt : Nat) (mn : Nat) (mtr : Nat) (md : Nat) (mk : Nat) (mik : Nat) (na : Nat) (so : Nat) (kh : Nat → Nat) (kc : Nat → Nat) (i : Nat) (h_i : i + 4 ≤ L) (cells slots : Nat) (h_ce : cells + 1 ≤ 601024) (h_sl : slots + 6 ≤ 7293034) (H : Heap) (locs : List Loc) (hA : LAll G (fun q : Nat => s.heap.size ≤ q) x tx ch h hc tr trc hi ka sl s0 s0c s1 s1c sv ot M mt mn mtr md mk mik na so kh kc H) (hS : va_S (fun q : Nat => s.heap.size ≤ q) s.heap H locs) (ls : Array Slot) (hl : lv_has ls 7 [(4, .int (nI i)), (0, .ref b), (1, .ref x), (2, .ref M), (3, .ref ot)]) (kk : ∀ (H1 : Heap) (locs1 : List Loc) (ls1 : Array Slot), LAll G (fun q : Nat => s.heap.size ≤ q) x tx ch h hc tr trc hi ka sl s0 s0c s1 s1c sv ot M mt mn mtr md mk mik na so kh kc H1 → va_S (fun q : Nat => s.heap.size ≤ q) s.heap H1 locs1 → lv_has ls1 7 [(4, .int (nI i)), (0, .ref b), (1, .ref x), (2, .ref M), (3, .ref ot)] → W p l e room_1 s m #[Value.ref b] below meth c H1 locs1 (cells + 1) (slots + 6) Q (F0 m 2035 ls1 [])) : W p l e room_1 s m #[Value.ref b] below meth c H locs cells slots Q (F0 m 506 ls []) := by
  obtain ⟨n, g, sk, f, n2, g2, sk2, f2, cnt, nx, kr, K, slf, S0, S1, svf, of_, cd, sz, rf, mm, tf, df, kf, ikf, nf, sf, hP, hD, hI, hkr, hq0, hq1⟩ := hA
  have h_n : n ≤ 16 := hI.1.2.1
  have h_sz : sz ≤ 60 := hI.2.2.2.1
  have h_cd : ∀ j_, cd j_ < 256 := hI.2.2.2.2.1
  have h_cnt : cnt ≤ 14 := hI.2.2.2.2.2.1
  by_cases h_1 : ((1 : Nat) : Int) ≤ (xs (i + 1)).toInt ∧ (xs (i + 1)).toInt ≤ ((30 : Nat) : Int)
  ·
    obtain ⟨q, e_1, h_q⟩ := nat_rg h_1
    exact k7_ok l hst G CX x tx ch h hc tr trc hi ka sl s0 s0c s1 s1c sv ot M mt mn mtr md mk mik na so kh kc i h_i cells slots h_ce h_sl n g sk f n2 g2 sk2 f2 cnt nx kr K slf S0 S1 svf of_ cd sz rf mm tf df kf ikf nf sf H locs hP hD hS hI hkr hq0 hq1 ls hl q e_1 h_q kk
  ·
    exact k7_no l hst G CX x tx ch h hc tr trc hi ka sl s0 s0c s1 s1c sv ot M mt mn mtr md mk mik na so kh kc i h_i cells slots h_ce h_sl n g sk f n2 g2 sk2 f2 cnt nx kr K slf S0 S1 svf of_ cd sz rf mm tf df kf ikf nf sf H locs hP hD hS hI hkr hq0 hq1 ls hl (xs (i + 1)) rfl h_1 kk
theorem K8 (l : Launch) (hst : l.stackTraces = false) (G : GG) {p : Program} {e : Env} {s : State} {m : MethodId} {below : List Frame} {meth : Method} {c : Code} {Q : State → Prop} {b L : Nat} {xs : Nat → Int32} (CX : LCx G p s m c b L xs) (x : Nat) (tx : Nat) (ch : Nat) (h : Nat) (hc : Nat) (tr : Nat) (trc : Nat) (hi : Nat) (ka : Nat) (sl : Nat) (s0 : Nat) (s0c : Nat) (s1 : Nat) (s1c : Nat) (sv : Nat) (ot : Nat) (M : Nat) (mt : Nat) (mn : Nat) (mtr : Nat) (md : Nat) (mk : Nat) (mik : Nat) (na : Nat) (so : Nat) (kh : Nat → Nat) (kc : Nat → Nat) (i : Nat) (h_i : i + 4 ≤ L) (cells slots : Nat) (h_ce : cells + 1 ≤ 601024) (h_sl : slots + 6 ≤ 7293034) (H : Heap) (locs : List Loc) (hA : LAll G (fun q : Nat => s.heap.size ≤ q) x tx ch h hc tr trc hi ka sl s0 s0c s1 s1c sv ot M mt mn mtr md mk mik na so kh kc H) (hS : va_S (fun q : Nat => s.heap.size ≤ q) s.heap H locs) (ls : Array Slot) (hl : lv_has ls 7 [(4, .int (nI i)), (0, .ref b), (1, .ref x), (2, .ref M), (3, .ref ot)]) (kk : ∀ (H1 : Heap) (locs1 : List Loc) (ls1 : Array Slot), LAll G (fun q : Nat => s.heap.size ≤ q) x tx ch h hc tr trc hi ka sl s0 s0c s1 s1c sv ot M mt mn mtr md mk mik na so kh kc H1 → va_S (fun q : Nat => s.heap.size ≤ q) s.heap H1 locs1 → lv_has ls1 7 [(4, .int (nI i)), (0, .ref b), (1, .ref x), (2, .ref M), (3, .ref ot)] → W p l e room_1 s m #[Value.ref b] below meth c H1 locs1 (cells + 1) (slots + 6) Q (F0 m 2035 ls1 [])) : W p l e room_1 s m #[Value.ref b] below meth c H locs cells slots Q (F0 m 569 ls []) := by
  obtain ⟨n, g, sk, f, n2, g2, sk2, f2, cnt, nx, kr, K, slf, S0, S1, svf, of_, cd, sz, rf, mm, tf, df, kf, ikf, nf, sf, hP, hD, hI, hkr, hq0, hq1⟩ := hA
  have h_n : n ≤ 16 := hI.1.2.1
  have h_sz : sz ≤ 60 := hI.2.2.2.1
  have h_cd : ∀ j_, cd j_ < 256 := hI.2.2.2.2.1
  have h_cnt : cnt ≤ 14 := hI.2.2.2.2.2.1
  by_cases h_2 : 0 ≤ (xs (i + 2)).toInt
  ·
    obtain ⟨k, e_2, h_kk⟩ := nat_nn h_2
    exact k8_ok l hst G CX x tx ch h hc tr trc hi ka sl s0 s0c s1 s1c sv ot M mt mn mtr md mk mik na so kh kc i h_i cells slots h_ce h_sl n g sk f n2 g2 sk2 f2 cnt nx kr K slf S0 S1 svf of_ cd sz rf mm tf df kf ikf nf sf H locs hP hD hS hI hkr hq0 hq1 ls hl (xs (i + 1)) k rfl e_2 h_kk kk
  ·
    exact k8_no l hst G CX x tx ch h hc tr trc hi ka sl s0 s0c s1 s1c sv ot M mt mn mtr md mk mik na so kh kc i h_i cells slots h_ce h_sl n g sk f n2 g2 sk2 f2 cnt nx kr K slf S0 S1 svf of_ cd sz rf mm tf df kf ikf nf sf H locs hP hD hS hI hkr hq0 hq1 ls hl (xs (i + 1)) (xs (i + 2)) rfl rfl (by omega) kk
theorem K9 (l : Launch) (hst : l.stackTraces = false) (G : GG) {p : Program} {e : Env} {s : State} {m : MethodId} {below : List Frame} {meth : Method} {c : Code} {Q : State → Prop} {b L : Nat} {xs : Nat → Int32} (CX : LCx G p s m c b L xs) (x : Nat) (tx : Nat) (ch : Nat) (h : Nat) (hc : Nat) (tr : Nat) (trc : Nat) (hi : Nat) (ka : Nat) (sl : Nat) (s0 : Nat) (s0c : Nat) (s1 : Nat) (s1c : Nat) (sv : Nat) (ot : Nat) (M : Nat) (mt : Nat) (mn : Nat) (mtr : Nat) (md : Nat) (mk : Nat) (mik : Nat) (na : Nat) (so : Nat) (kh : Nat → Nat) (kc : Nat → Nat) (i : Nat) (h_i : i + 4 ≤ L) (cells slots : Nat) (h_ce : cells + 1 ≤ 601024) (h_sl : slots + 6 ≤ 7293034) (H : Heap) (locs : List Loc) (hA : LAll G (fun q : Nat => s.heap.size ≤ q) x tx ch h hc tr trc hi ka sl s0 s0c s1 s1c sv ot M mt mn mtr md mk mik na so kh kc H) (hS : va_S (fun q : Nat => s.heap.size ≤ q) s.heap H locs) (ls : Array Slot) (hl : lv_has ls 7 [(4, .int (nI i)), (0, .ref b), (1, .ref x), (2, .ref M), (3, .ref ot)]) (kk : ∀ (H1 : Heap) (locs1 : List Loc) (ls1 : Array Slot), LAll G (fun q : Nat => s.heap.size ≤ q) x tx ch h hc tr trc hi ka sl s0 s0c s1 s1c sv ot M mt mn mtr md mk mik na so kh kc H1 → va_S (fun q : Nat => s.heap.size ≤ q) s.heap H1 locs1 → lv_has ls1 7 [(4, .int (nI i)), (0, .ref b), (1, .ref x), (2, .ref M), (3, .ref ot)] → W p l e room_1 s m #[Value.ref b] below meth c H1 locs1 (cells + 1) (slots + 6) Q (F0 m 2035 ls1 [])) : W p l e room_1 s m #[Value.ref b] below meth c H locs cells slots Q (F0 m 637 ls []) := by
  obtain ⟨n, g, sk, f, n2, g2, sk2, f2, cnt, nx, kr, K, slf, S0, S1, svf, of_, cd, sz, rf, mm, tf, df, kf, ikf, nf, sf, hP, hD, hI, hkr, hq0, hq1⟩ := hA
  have h_n : n ≤ 16 := hI.1.2.1
  have h_sz : sz ≤ 60 := hI.2.2.2.1
  have h_cd : ∀ j_, cd j_ < 256 := hI.2.2.2.2.1
  have h_cnt : cnt ≤ 14 := hI.2.2.2.2.2.1
  by_cases h_1 : 0 ≤ (xs (i + 1)).toInt ∧ (xs (i + 1)).toInt ≤ ((n : Nat) : Int)
  ·
    obtain ⟨lv, e_1, h_lv⟩ := nat_le h_1
    by_cases h_2 : 0 ≤ (xs (i + 2)).toInt ∧ (xs (i + 2)).toInt < ((4 : Nat) : Int)
    ·
      obtain ⟨k, e_2, h_k⟩ := nat_lt h_2
      by_cases h_f16 : n < 16
      ·
        exact k9_ok l hst G CX x tx ch h hc tr trc hi ka sl s0 s0c s1 s1c sv ot M mt mn mtr md mk mik na so kh kc i h_i cells slots h_ce h_sl n g sk f n2 g2 sk2 f2 cnt nx kr K slf S0 S1 svf of_ cd sz rf mm tf df kf ikf nf sf H locs hP hD hS hI hkr hq0 hq1 ls hl lv k e_1 e_2 h_f16 h_lv h_k kk
      ·
        exact k9_f l hst G CX x tx ch h hc tr trc hi ka sl s0 s0c s1 s1c sv ot M mt mn mtr md mk mik na so kh kc i h_i cells slots h_ce h_sl n g sk f n2 g2 sk2 f2 cnt nx kr K slf S0 S1 svf of_ cd sz rf mm tf df kf ikf nf sf H locs hP hD hS hI hkr hq0 hq1 ls hl lv k e_1 e_2 h_lv h_k (by omega) kk
    ·
      exact k9_k l hst G CX x tx ch h hc tr trc hi ka sl s0 s0c s1 s1c sv ot M mt mn mtr md mk mik na so kh kc i h_i cells slots h_ce h_sl n g sk f n2 g2 sk2 f2 cnt nx kr K slf S0 S1 svf of_ cd sz rf mm tf df kf ikf nf sf H locs hP hD hS hI hkr hq0 hq1 ls hl lv (xs (i + 2)) e_1 rfl h_lv h_2 kk
  ·
    exact k9_l l hst G CX x tx ch h hc tr trc hi ka sl s0 s0c s1 s1c sv ot M mt mn mtr md mk mik na so kh kc i h_i cells slots h_ce h_sl n g sk f n2 g2 sk2 f2 cnt nx kr K slf S0 S1 svf of_ cd sz rf mm tf df kf ikf nf sf H locs hP hD hS hI hkr hq0 hq1 ls hl (xs (i + 1)) (xs (i + 2)) rfl rfl h_1 kk
theorem K10 (l : Launch) (hst : l.stackTraces = false) (G : GG) {p : Program} {e : Env} {s : State} {m : MethodId} {below : List Frame} {meth : Method} {c : Code} {Q : State → Prop} {b L : Nat} {xs : Nat → Int32} (CX : LCx G p s m c b L xs) (x : Nat) (tx : Nat) (ch : Nat) (h : Nat) (hc : Nat) (tr : Nat) (trc : Nat) (hi : Nat) (ka : Nat) (sl : Nat) (s0 : Nat) (s0c : Nat) (s1 : Nat) (s1c : Nat) (sv : Nat) (ot : Nat) (M : Nat) (mt : Nat) (mn : Nat) (mtr : Nat) (md : Nat) (mk : Nat) (mik : Nat) (na : Nat) (so : Nat) (kh : Nat → Nat) (kc : Nat → Nat) (i : Nat) (h_i : i + 4 ≤ L) (cells slots : Nat) (h_ce : cells + 1 ≤ 601024) (h_sl : slots + 6 ≤ 7293034) (H : Heap) (locs : List Loc) (hA : LAll G (fun q : Nat => s.heap.size ≤ q) x tx ch h hc tr trc hi ka sl s0 s0c s1 s1c sv ot M mt mn mtr md mk mik na so kh kc H) (hS : va_S (fun q : Nat => s.heap.size ≤ q) s.heap H locs) (ls : Array Slot) (hl : lv_has ls 7 [(4, .int (nI i)), (0, .ref b), (1, .ref x), (2, .ref M), (3, .ref ot)]) (kk : ∀ (H1 : Heap) (locs1 : List Loc) (ls1 : Array Slot), LAll G (fun q : Nat => s.heap.size ≤ q) x tx ch h hc tr trc hi ka sl s0 s0c s1 s1c sv ot M mt mn mtr md mk mik na so kh kc H1 → va_S (fun q : Nat => s.heap.size ≤ q) s.heap H1 locs1 → lv_has ls1 7 [(4, .int (nI i)), (0, .ref b), (1, .ref x), (2, .ref M), (3, .ref ot)] → W p l e room_1 s m #[Value.ref b] below meth c H1 locs1 (cells + 1) (slots + 6) Q (F0 m 2035 ls1 [])) : W p l e room_1 s m #[Value.ref b] below meth c H locs cells slots Q (F0 m 705 ls []) := by
  obtain ⟨n, g, sk, f, n2, g2, sk2, f2, cnt, nx, kr, K, slf, S0, S1, svf, of_, cd, sz, rf, mm, tf, df, kf, ikf, nf, sf, hP, hD, hI, hkr, hq0, hq1⟩ := hA
  have h_n : n ≤ 16 := hI.1.2.1
  have h_sz : sz ≤ 60 := hI.2.2.2.1
  have h_cd : ∀ j_, cd j_ < 256 := hI.2.2.2.2.1
  have h_cnt : cnt ≤ 14 := hI.2.2.2.2.2.1
  by_cases h_1l : 0 ≤ (xs (i + 1)).toInt ∧ (xs (i + 1)).toInt < ((n : Nat) : Int)
  ·
    obtain ⟨lv, e_1, h_lv⟩ := nat_lt h_1l
    by_cases h_e : lv = g
    ·
      exact k10_g l hst G CX x tx ch h hc tr trc hi ka sl s0 s0c s1 s1c sv ot M mt mn mtr md mk mik na so kh kc i h_i cells slots h_ce h_sl n g sk f n2 g2 sk2 f2 cnt nx kr K slf S0 S1 svf of_ cd sz rf mm tf df kf ikf nf sf H locs hP hD hS hI hkr hq0 hq1 ls hl lv e_1 h_lv h_e kk
    ·
      exact k10_ok l hst G CX x tx ch h hc tr trc hi ka sl s0 s0c s1 s1c sv ot M mt mn mtr md mk mik na so kh kc i h_i cells slots h_ce h_sl n g sk f n2 g2 sk2 f2 cnt nx kr K slf S0 S1 svf of_ cd sz rf mm tf df kf ikf nf sf H locs hP hD hS hI hkr hq0 hq1 ls hl lv e_1 h_lv h_e kk
  ·
    exact k10_l l hst G CX x tx ch h hc tr trc hi ka sl s0 s0c s1 s1c sv ot M mt mn mtr md mk mik na so kh kc i h_i cells slots h_ce h_sl n g sk f n2 g2 sk2 f2 cnt nx kr K slf S0 S1 svf of_ cd sz rf mm tf df kf ikf nf sf H locs hP hD hS hI hkr hq0 hq1 ls hl (xs (i + 1)) rfl h_1l kk
theorem K11 (l : Launch) (hst : l.stackTraces = false) (G : GG) {p : Program} {e : Env} {s : State} {m : MethodId} {below : List Frame} {meth : Method} {c : Code} {Q : State → Prop} {b L : Nat} {xs : Nat → Int32} (CX : LCx G p s m c b L xs) (x : Nat) (tx : Nat) (ch : Nat) (h : Nat) (hc : Nat) (tr : Nat) (trc : Nat) (hi : Nat) (ka : Nat) (sl : Nat) (s0 : Nat) (s0c : Nat) (s1 : Nat) (s1c : Nat) (sv : Nat) (ot : Nat) (M : Nat) (mt : Nat) (mn : Nat) (mtr : Nat) (md : Nat) (mk : Nat) (mik : Nat) (na : Nat) (so : Nat) (kh : Nat → Nat) (kc : Nat → Nat) (i : Nat) (h_i : i + 4 ≤ L) (cells slots : Nat) (h_ce : cells + 1 ≤ 601024) (h_sl : slots + 6 ≤ 7293034) (H : Heap) (locs : List Loc) (hA : LAll G (fun q : Nat => s.heap.size ≤ q) x tx ch h hc tr trc hi ka sl s0 s0c s1 s1c sv ot M mt mn mtr md mk mik na so kh kc H) (hS : va_S (fun q : Nat => s.heap.size ≤ q) s.heap H locs) (ls : Array Slot) (hl : lv_has ls 7 [(4, .int (nI i)), (0, .ref b), (1, .ref x), (2, .ref M), (3, .ref ot)]) (kk : ∀ (H1 : Heap) (locs1 : List Loc) (ls1 : Array Slot), LAll G (fun q : Nat => s.heap.size ≤ q) x tx ch h hc tr trc hi ka sl s0 s0c s1 s1c sv ot M mt mn mtr md mk mik na so kh kc H1 → va_S (fun q : Nat => s.heap.size ≤ q) s.heap H1 locs1 → lv_has ls1 7 [(4, .int (nI i)), (0, .ref b), (1, .ref x), (2, .ref M), (3, .ref ot)] → W p l e room_1 s m #[Value.ref b] below meth c H1 locs1 (cells + 1) (slots + 6) Q (F0 m 2035 ls1 [])) : W p l e room_1 s m #[Value.ref b] below meth c H locs cells slots Q (F0 m 761 ls []) := by
  obtain ⟨n, g, sk, f, n2, g2, sk2, f2, cnt, nx, kr, K, slf, S0, S1, svf, of_, cd, sz, rf, mm, tf, df, kf, ikf, nf, sf, hP, hD, hI, hkr, hq0, hq1⟩ := hA
  have h_n : n ≤ 16 := hI.1.2.1
  have h_sz : sz ≤ 60 := hI.2.2.2.1
  have h_cd : ∀ j_, cd j_ < 256 := hI.2.2.2.2.1
  have h_cnt : cnt ≤ 14 := hI.2.2.2.2.2.1
  by_cases h_1l : 0 ≤ (xs (i + 1)).toInt ∧ (xs (i + 1)).toInt < ((n : Nat) : Int)
  ·
    obtain ⟨lv, e_1, h_lv⟩ := nat_lt h_1l
    by_cases h_2 : 0 ≤ (xs (i + 2)).toInt ∧ (xs (i + 2)).toInt < ((4 : Nat) : Int)
    ·
      obtain ⟨k, e_2, h_k⟩ := nat_lt h_2
      by_cases h_e : lv = g ∧ k ≠ 0
      ·
        exact k11_g l hst G CX x tx ch h hc tr trc hi ka sl s0 s0c s1 s1c sv ot M mt mn mtr md mk mik na so kh kc i h_i cells slots h_ce h_sl n g sk f n2 g2 sk2 f2 cnt nx kr K slf S0 S1 svf of_ cd sz rf mm tf df kf ikf nf sf H locs hP hD hS hI hkr hq0 hq1 ls hl lv k e_1 e_2 h_lv h_k h_e.1 h_e.2 kk
      ·
        exact k11_ok l hst G CX x tx ch h hc tr trc hi ka sl s0 s0c s1 s1c sv ot M mt mn mtr md mk mik na so kh kc i h_i cells slots h_ce h_sl n g sk f n2 g2 sk2 f2 cnt nx kr K slf S0 S1 svf of_ cd sz rf mm tf df kf ikf nf sf H locs hP hD hS hI hkr hq0 hq1 ls hl lv k e_1 e_2 h_lv h_k h_e kk
    ·
      exact k11_k l hst G CX x tx ch h hc tr trc hi ka sl s0 s0c s1 s1c sv ot M mt mn mtr md mk mik na so kh kc i h_i cells slots h_ce h_sl n g sk f n2 g2 sk2 f2 cnt nx kr K slf S0 S1 svf of_ cd sz rf mm tf df kf ikf nf sf H locs hP hD hS hI hkr hq0 hq1 ls hl lv (xs (i + 2)) e_1 rfl h_lv h_2 kk
  ·
    exact k11_l l hst G CX x tx ch h hc tr trc hi ka sl s0 s0c s1 s1c sv ot M mt mn mtr md mk mik na so kh kc i h_i cells slots h_ce h_sl n g sk f n2 g2 sk2 f2 cnt nx kr K slf S0 S1 svf of_ cd sz rf mm tf df kf ikf nf sf H locs hP hD hS hI hkr hq0 hq1 ls hl (xs (i + 1)) (xs (i + 2)) rfl rfl h_1l kk
theorem K12 (l : Launch) (hst : l.stackTraces = false) (G : GG) {p : Program} {e : Env} {s : State} {m : MethodId} {below : List Frame} {meth : Method} {c : Code} {Q : State → Prop} {b L : Nat} {xs : Nat → Int32} (CX : LCx G p s m c b L xs) (x : Nat) (tx : Nat) (ch : Nat) (h : Nat) (hc : Nat) (tr : Nat) (trc : Nat) (hi : Nat) (ka : Nat) (sl : Nat) (s0 : Nat) (s0c : Nat) (s1 : Nat) (s1c : Nat) (sv : Nat) (ot : Nat) (M : Nat) (mt : Nat) (mn : Nat) (mtr : Nat) (md : Nat) (mk : Nat) (mik : Nat) (na : Nat) (so : Nat) (kh : Nat → Nat) (kc : Nat → Nat) (i : Nat) (h_i : i + 4 ≤ L) (cells slots : Nat) (h_ce : cells + 1 ≤ 601024) (h_sl : slots + 6 ≤ 7293034) (H : Heap) (locs : List Loc) (hA : LAll G (fun q : Nat => s.heap.size ≤ q) x tx ch h hc tr trc hi ka sl s0 s0c s1 s1c sv ot M mt mn mtr md mk mik na so kh kc H) (hS : va_S (fun q : Nat => s.heap.size ≤ q) s.heap H locs) (ls : Array Slot) (hl : lv_has ls 7 [(4, .int (nI i)), (0, .ref b), (1, .ref x), (2, .ref M), (3, .ref ot)]) (kk : ∀ (H1 : Heap) (locs1 : List Loc) (ls1 : Array Slot), LAll G (fun q : Nat => s.heap.size ≤ q) x tx ch h hc tr trc hi ka sl s0 s0c s1 s1c sv ot M mt mn mtr md mk mik na so kh kc H1 → va_S (fun q : Nat => s.heap.size ≤ q) s.heap H1 locs1 → lv_has ls1 7 [(4, .int (nI i)), (0, .ref b), (1, .ref x), (2, .ref M), (3, .ref ot)] → W p l e room_1 s m #[Value.ref b] below meth c H1 locs1 (cells + 1) (slots + 6) Q (F0 m 2035 ls1 [])) : W p l e room_1 s m #[Value.ref b] below meth c H locs cells slots Q (F0 m 829 ls []) := by
  obtain ⟨n, g, sk, f, n2, g2, sk2, f2, cnt, nx, kr, K, slf, S0, S1, svf, of_, cd, sz, rf, mm, tf, df, kf, ikf, nf, sf, hP, hD, hI, hkr, hq0, hq1⟩ := hA
  have h_n : n ≤ 16 := hI.1.2.1
  have h_sz : sz ≤ 60 := hI.2.2.2.1
  have h_cd : ∀ j_, cd j_ < 256 := hI.2.2.2.2.1
  have h_cnt : cnt ≤ 14 := hI.2.2.2.2.2.1
  by_cases h_1l : 0 ≤ (xs (i + 1)).toInt ∧ (xs (i + 1)).toInt < ((n : Nat) : Int)
  ·
    obtain ⟨lv, e_1, h_lv⟩ := nat_lt h_1l
    by_cases h_e : f lv = 0
    ·
      exact k12_ok l hst G CX x tx ch h hc tr trc hi ka sl s0 s0c s1 s1c sv ot M mt mn mtr md mk mik na so kh kc i h_i cells slots h_ce h_sl n g sk f n2 g2 sk2 f2 cnt nx kr K slf S0 S1 svf of_ cd sz rf mm tf df kf ikf nf sf H locs hP hD hS hI hkr hq0 hq1 ls hl lv e_1 h_lv h_e kk
    ·
      exact k12_w l hst G CX x tx ch h hc tr trc hi ka sl s0 s0c s1 s1c sv ot M mt mn mtr md mk mik na so kh kc i h_i cells slots h_ce h_sl n g sk f n2 g2 sk2 f2 cnt nx kr K slf S0 S1 svf of_ cd sz rf mm tf df kf ikf nf sf H locs hP hD hS hI hkr hq0 hq1 ls hl lv e_1 h_lv h_e kk
  ·
    exact k12_l l hst G CX x tx ch h hc tr trc hi ka sl s0 s0c s1 s1c sv ot M mt mn mtr md mk mik na so kh kc i h_i cells slots h_ce h_sl n g sk f n2 g2 sk2 f2 cnt nx kr K slf S0 S1 svf of_ cd sz rf mm tf df kf ikf nf sf H locs hP hD hS hI hkr hq0 hq1 ls hl (xs (i + 1)) rfl h_1l kk
theorem K13 (l : Launch) (hst : l.stackTraces = false) (G : GG) {p : Program} {e : Env} {s : State} {m : MethodId} {below : List Frame} {meth : Method} {c : Code} {Q : State → Prop} {b L : Nat} {xs : Nat → Int32} (CX : LCx G p s m c b L xs) (x : Nat) (tx : Nat) (ch : Nat) (h : Nat) (hc : Nat) (tr : Nat) (trc : Nat) (hi : Nat) (ka : Nat) (sl : Nat) (s0 : Nat) (s0c : Nat) (s1 : Nat) (s1c : Nat) (sv : Nat) (ot : Nat) (M : Nat) (mt : Nat) (mn : Nat) (mtr : Nat) (md : Nat) (mk : Nat) (mik : Nat) (na : Nat) (so : Nat) (kh : Nat → Nat) (kc : Nat → Nat) (i : Nat) (h_i : i + 4 ≤ L) (cells slots : Nat) (h_ce : cells + 1 ≤ 601024) (h_sl : slots + 6 ≤ 7293034) (H : Heap) (locs : List Loc) (hA : LAll G (fun q : Nat => s.heap.size ≤ q) x tx ch h hc tr trc hi ka sl s0 s0c s1 s1c sv ot M mt mn mtr md mk mik na so kh kc H) (hS : va_S (fun q : Nat => s.heap.size ≤ q) s.heap H locs) (ls : Array Slot) (hl : lv_has ls 7 [(4, .int (nI i)), (0, .ref b), (1, .ref x), (2, .ref M), (3, .ref ot)]) (kk : ∀ (H1 : Heap) (locs1 : List Loc) (ls1 : Array Slot), LAll G (fun q : Nat => s.heap.size ≤ q) x tx ch h hc tr trc hi ka sl s0 s0c s1 s1c sv ot M mt mn mtr md mk mik na so kh kc H1 → va_S (fun q : Nat => s.heap.size ≤ q) s.heap H1 locs1 → lv_has ls1 7 [(4, .int (nI i)), (0, .ref b), (1, .ref x), (2, .ref M), (3, .ref ot)] → W p l e room_1 s m #[Value.ref b] below meth c H1 locs1 (cells + 1) (slots + 6) Q (F0 m 2035 ls1 [])) : W p l e room_1 s m #[Value.ref b] below meth c H locs cells slots Q (F0 m 885 ls []) := by
  obtain ⟨n, g, sk, f, n2, g2, sk2, f2, cnt, nx, kr, K, slf, S0, S1, svf, of_, cd, sz, rf, mm, tf, df, kf, ikf, nf, sf, hP, hD, hI, hkr, hq0, hq1⟩ := hA
  have h_n : n ≤ 16 := hI.1.2.1
  have h_sz : sz ≤ 60 := hI.2.2.2.1
  have h_cd : ∀ j_, cd j_ < 256 := hI.2.2.2.2.1
  have h_cnt : cnt ≤ 14 := hI.2.2.2.2.2.1
  by_cases h_1 : ((1 : Nat) : Int) ≤ (xs (i + 1)).toInt ∧ (xs (i + 1)).toInt ≤ ((30 : Nat) : Int)
  ·
    obtain ⟨q, e_1, h_q⟩ := nat_rg h_1
    exact k13_ok l hst G CX x tx ch h hc tr trc hi ka sl s0 s0c s1 s1c sv ot M mt mn mtr md mk mik na so kh kc i h_i cells slots h_ce h_sl n g sk f n2 g2 sk2 f2 cnt nx kr K slf S0 S1 svf of_ cd sz rf mm tf df kf ikf nf sf H locs hP hD hS hI hkr hq0 hq1 ls hl q (xs (i + 2)) e_1 rfl h_q kk
  ·
    exact k13_no l hst G CX x tx ch h hc tr trc hi ka sl s0 s0c s1 s1c sv ot M mt mn mtr md mk mik na so kh kc i h_i cells slots h_ce h_sl n g sk f n2 g2 sk2 f2 cnt nx kr K slf S0 S1 svf of_ cd sz rf mm tf df kf ikf nf sf H locs hP hD hS hI hkr hq0 hq1 ls hl (xs (i + 1)) (xs (i + 2)) rfl rfl h_1 kk
theorem K14 (l : Launch) (hst : l.stackTraces = false) (G : GG) {p : Program} {e : Env} {s : State} {m : MethodId} {below : List Frame} {meth : Method} {c : Code} {Q : State → Prop} {b L : Nat} {xs : Nat → Int32} (CX : LCx G p s m c b L xs) (x : Nat) (tx : Nat) (ch : Nat) (h : Nat) (hc : Nat) (tr : Nat) (trc : Nat) (hi : Nat) (ka : Nat) (sl : Nat) (s0 : Nat) (s0c : Nat) (s1 : Nat) (s1c : Nat) (sv : Nat) (ot : Nat) (M : Nat) (mt : Nat) (mn : Nat) (mtr : Nat) (md : Nat) (mk : Nat) (mik : Nat) (na : Nat) (so : Nat) (kh : Nat → Nat) (kc : Nat → Nat) (i : Nat) (h_i : i + 4 ≤ L) (cells slots : Nat) (h_ce : cells + 1 ≤ 601024) (h_sl : slots + 6 ≤ 7293034) (H : Heap) (locs : List Loc) (hA : LAll G (fun q : Nat => s.heap.size ≤ q) x tx ch h hc tr trc hi ka sl s0 s0c s1 s1c sv ot M mt mn mtr md mk mik na so kh kc H) (hS : va_S (fun q : Nat => s.heap.size ≤ q) s.heap H locs) (ls : Array Slot) (hl : lv_has ls 7 [(4, .int (nI i)), (0, .ref b), (1, .ref x), (2, .ref M), (3, .ref ot)]) (kk : ∀ (H1 : Heap) (locs1 : List Loc) (ls1 : Array Slot), LAll G (fun q : Nat => s.heap.size ≤ q) x tx ch h hc tr trc hi ka sl s0 s0c s1 s1c sv ot M mt mn mtr md mk mik na so kh kc H1 → va_S (fun q : Nat => s.heap.size ≤ q) s.heap H1 locs1 → lv_has ls1 7 [(4, .int (nI i)), (0, .ref b), (1, .ref x), (2, .ref M), (3, .ref ot)] → W p l e room_1 s m #[Value.ref b] below meth c H1 locs1 (cells + 1) (slots + 6) Q (F0 m 2035 ls1 [])) : W p l e room_1 s m #[Value.ref b] below meth c H locs cells slots Q (F0 m 969 ls []) := by
  obtain ⟨n, g, sk, f, n2, g2, sk2, f2, cnt, nx, kr, K, slf, S0, S1, svf, of_, cd, sz, rf, mm, tf, df, kf, ikf, nf, sf, hP, hD, hI, hkr, hq0, hq1⟩ := hA
  have h_n : n ≤ 16 := hI.1.2.1
  have h_sz : sz ≤ 60 := hI.2.2.2.1
  have h_cd : ∀ j_, cd j_ < 256 := hI.2.2.2.2.1
  have h_cnt : cnt ≤ 14 := hI.2.2.2.2.2.1
  by_cases h_1c : 0 ≤ (xs (i + 1)).toInt ∧ (xs (i + 1)).toInt < ((3 : Nat) : Int)
  ·
    obtain ⟨ca, e_1, h_ca⟩ := nat_lt h_1c
    by_cases h_2l : 0 ≤ (xs (i + 2)).toInt ∧ (xs (i + 2)).toInt < ((n : Nat) : Int)
    ·
      obtain ⟨lv, e_2, h_lv⟩ := nat_lt h_2l
      exact k14_ok l hst G CX x tx ch h hc tr trc hi ka sl s0 s0c s1 s1c sv ot M mt mn mtr md mk mik na so kh kc i h_i cells slots h_ce h_sl n g sk f n2 g2 sk2 f2 cnt nx kr K slf S0 S1 svf of_ cd sz rf mm tf df kf ikf nf sf H locs hP hD hS hI hkr hq0 hq1 ls hl ca lv (xs (i + 3)) e_1 e_2 rfl h_ca h_lv kk
    ·
      exact k14_l l hst G CX x tx ch h hc tr trc hi ka sl s0 s0c s1 s1c sv ot M mt mn mtr md mk mik na so kh kc i h_i cells slots h_ce h_sl n g sk f n2 g2 sk2 f2 cnt nx kr K slf S0 S1 svf of_ cd sz rf mm tf df kf ikf nf sf H locs hP hD hS hI hkr hq0 hq1 ls hl ca (xs (i + 2)) (xs (i + 3)) e_1 rfl rfl h_ca h_2l kk
  ·
    exact k14_c l hst G CX x tx ch h hc tr trc hi ka sl s0 s0c s1 s1c sv ot M mt mn mtr md mk mik na so kh kc i h_i cells slots h_ce h_sl n g sk f n2 g2 sk2 f2 cnt nx kr K slf S0 S1 svf of_ cd sz rf mm tf df kf ikf nf sf H locs hP hD hS hI hkr hq0 hq1 ls hl (xs (i + 1)) (xs (i + 2)) (xs (i + 3)) rfl rfl rfl h_1c kk
theorem K15 (l : Launch) (hst : l.stackTraces = false) (G : GG) {p : Program} {e : Env} {s : State} {m : MethodId} {below : List Frame} {meth : Method} {c : Code} {Q : State → Prop} {b L : Nat} {xs : Nat → Int32} (CX : LCx G p s m c b L xs) (x : Nat) (tx : Nat) (ch : Nat) (h : Nat) (hc : Nat) (tr : Nat) (trc : Nat) (hi : Nat) (ka : Nat) (sl : Nat) (s0 : Nat) (s0c : Nat) (s1 : Nat) (s1c : Nat) (sv : Nat) (ot : Nat) (M : Nat) (mt : Nat) (mn : Nat) (mtr : Nat) (md : Nat) (mk : Nat) (mik : Nat) (na : Nat) (so : Nat) (kh : Nat → Nat) (kc : Nat → Nat) (i : Nat) (h_i : i + 4 ≤ L) (cells slots : Nat) (h_ce : cells + 1 ≤ 601024) (h_sl : slots + 6 ≤ 7293034) (H : Heap) (locs : List Loc) (hA : LAll G (fun q : Nat => s.heap.size ≤ q) x tx ch h hc tr trc hi ka sl s0 s0c s1 s1c sv ot M mt mn mtr md mk mik na so kh kc H) (hS : va_S (fun q : Nat => s.heap.size ≤ q) s.heap H locs) (ls : Array Slot) (hl : lv_has ls 7 [(4, .int (nI i)), (0, .ref b), (1, .ref x), (2, .ref M), (3, .ref ot)]) (kk : ∀ (H1 : Heap) (locs1 : List Loc) (ls1 : Array Slot), LAll G (fun q : Nat => s.heap.size ≤ q) x tx ch h hc tr trc hi ka sl s0 s0c s1 s1c sv ot M mt mn mtr md mk mik na so kh kc H1 → va_S (fun q : Nat => s.heap.size ≤ q) s.heap H1 locs1 → lv_has ls1 7 [(4, .int (nI i)), (0, .ref b), (1, .ref x), (2, .ref M), (3, .ref ot)] → W p l e room_1 s m #[Value.ref b] below meth c H1 locs1 (cells + 1) (slots + 6) Q (F0 m 2035 ls1 [])) : W p l e room_1 s m #[Value.ref b] below meth c H locs cells slots Q (F0 m 1065 ls []) := by
  obtain ⟨n, g, sk, f, n2, g2, sk2, f2, cnt, nx, kr, K, slf, S0, S1, svf, of_, cd, sz, rf, mm, tf, df, kf, ikf, nf, sf, hP, hD, hI, hkr, hq0, hq1⟩ := hA
  have h_n : n ≤ 16 := hI.1.2.1
  have h_sz : sz ≤ 60 := hI.2.2.2.1
  have h_cd : ∀ j_, cd j_ < 256 := hI.2.2.2.2.1
  have h_cnt : cnt ≤ 14 := hI.2.2.2.2.2.1
  by_cases h_1l : 0 ≤ (xs (i + 1)).toInt ∧ (xs (i + 1)).toInt < ((n : Nat) : Int)
  ·
    obtain ⟨lv, e_1, h_lv⟩ := nat_lt h_1l
    exact k15_ok l hst G CX x tx ch h hc tr trc hi ka sl s0 s0c s1 s1c sv ot M mt mn mtr md mk mik na so kh kc i h_i cells slots h_ce h_sl n g sk f n2 g2 sk2 f2 cnt nx kr K slf S0 S1 svf of_ cd sz rf mm tf df kf ikf nf sf H locs hP hD hS hI hkr hq0 hq1 ls hl lv e_1 h_lv kk
  ·
    exact k15_l l hst G CX x tx ch h hc tr trc hi ka sl s0 s0c s1 s1c sv ot M mt mn mtr md mk mik na so kh kc i h_i cells slots h_ce h_sl n g sk f n2 g2 sk2 f2 cnt nx kr K slf S0 S1 svf of_ cd sz rf mm tf df kf ikf nf sf H locs hP hD hS hI hkr hq0 hq1 ls hl (xs (i + 1)) rfl h_1l kk
theorem K16 (l : Launch) (hst : l.stackTraces = false) (G : GG) {p : Program} {e : Env} {s : State} {m : MethodId} {below : List Frame} {meth : Method} {c : Code} {Q : State → Prop} {b L : Nat} {xs : Nat → Int32} (CX : LCx G p s m c b L xs) (x : Nat) (tx : Nat) (ch : Nat) (h : Nat) (hc : Nat) (tr : Nat) (trc : Nat) (hi : Nat) (ka : Nat) (sl : Nat) (s0 : Nat) (s0c : Nat) (s1 : Nat) (s1c : Nat) (sv : Nat) (ot : Nat) (M : Nat) (mt : Nat) (mn : Nat) (mtr : Nat) (md : Nat) (mk : Nat) (mik : Nat) (na : Nat) (so : Nat) (kh : Nat → Nat) (kc : Nat → Nat) (i : Nat) (h_i : i + 4 ≤ L) (cells slots : Nat) (h_ce : cells + 1 ≤ 601024) (h_sl : slots + 6 ≤ 7293034) (H : Heap) (locs : List Loc) (hA : LAll G (fun q : Nat => s.heap.size ≤ q) x tx ch h hc tr trc hi ka sl s0 s0c s1 s1c sv ot M mt mn mtr md mk mik na so kh kc H) (hS : va_S (fun q : Nat => s.heap.size ≤ q) s.heap H locs) (ls : Array Slot) (hl : lv_has ls 7 [(4, .int (nI i)), (0, .ref b), (1, .ref x), (2, .ref M), (3, .ref ot)]) (kk : ∀ (H1 : Heap) (locs1 : List Loc) (ls1 : Array Slot), LAll G (fun q : Nat => s.heap.size ≤ q) x tx ch h hc tr trc hi ka sl s0 s0c s1 s1c sv ot M mt mn mtr md mk mik na so kh kc H1 → va_S (fun q : Nat => s.heap.size ≤ q) s.heap H1 locs1 → lv_has ls1 7 [(4, .int (nI i)), (0, .ref b), (1, .ref x), (2, .ref M), (3, .ref ot)] → W p l e room_1 s m #[Value.ref b] below meth c H1 locs1 (cells + 1) (slots + 6) Q (F0 m 2035 ls1 [])) : W p l e room_1 s m #[Value.ref b] below meth c H locs cells slots Q (F0 m 1121 ls []) := by
  obtain ⟨n, g, sk, f, n2, g2, sk2, f2, cnt, nx, kr, K, slf, S0, S1, svf, of_, cd, sz, rf, mm, tf, df, kf, ikf, nf, sf, hP, hD, hI, hkr, hq0, hq1⟩ := hA
  have h_n : n ≤ 16 := hI.1.2.1
  have h_sz : sz ≤ 60 := hI.2.2.2.1
  have h_cd : ∀ j_, cd j_ < 256 := hI.2.2.2.2.1
  have h_cnt : cnt ≤ 14 := hI.2.2.2.2.2.1
  by_cases h_1c : 0 ≤ (xs (i + 1)).toInt ∧ (xs (i + 1)).toInt < ((3 : Nat) : Int)
  ·
    obtain ⟨ca, e_1, h_ca⟩ := nat_lt h_1c
    by_cases h_2l : 0 ≤ (xs (i + 2)).toInt ∧ (xs (i + 2)).toInt < ((n : Nat) : Int)
    ·
      obtain ⟨lv, e_2, h_lv⟩ := nat_lt h_2l
      exact k16_ok l hst G CX x tx ch h hc tr trc hi ka sl s0 s0c s1 s1c sv ot M mt mn mtr md mk mik na so kh kc i h_i cells slots h_ce h_sl n g sk f n2 g2 sk2 f2 cnt nx kr K slf S0 S1 svf of_ cd sz rf mm tf df kf ikf nf sf H locs hP hD hS hI hkr hq0 hq1 ls hl ca lv e_1 e_2 h_ca h_lv kk
    ·
      exact k16_l l hst G CX x tx ch h hc tr trc hi ka sl s0 s0c s1 s1c sv ot M mt mn mtr md mk mik na so kh kc i h_i cells slots h_ce h_sl n g sk f n2 g2 sk2 f2 cnt nx kr K slf S0 S1 svf of_ cd sz rf mm tf df kf ikf nf sf H locs hP hD hS hI hkr hq0 hq1 ls hl ca (xs (i + 2)) e_1 rfl h_ca h_2l kk
  ·
    exact k16_c l hst G CX x tx ch h hc tr trc hi ka sl s0 s0c s1 s1c sv ot M mt mn mtr md mk mik na so kh kc i h_i cells slots h_ce h_sl n g sk f n2 g2 sk2 f2 cnt nx kr K slf S0 S1 svf of_ cd sz rf mm tf df kf ikf nf sf H locs hP hD hS hI hkr hq0 hq1 ls hl (xs (i + 1)) (xs (i + 2)) rfl rfl h_1c kk
theorem K17 (l : Launch) (hst : l.stackTraces = false) (G : GG) {p : Program} {e : Env} {s : State} {m : MethodId} {below : List Frame} {meth : Method} {c : Code} {Q : State → Prop} {b L : Nat} {xs : Nat → Int32} (CX : LCx G p s m c b L xs) (x : Nat) (tx : Nat) (ch : Nat) (h : Nat) (hc : Nat) (tr : Nat) (trc : Nat) (hi : Nat) (ka : Nat) (sl : Nat) (s0 : Nat) (s0c : Nat) (s1 : Nat) (s1c : Nat) (sv : Nat) (ot : Nat) (M : Nat) (mt : Nat) (mn : Nat) (mtr : Nat) (md : Nat) (mk : Nat) (mik : Nat) (na : Nat) (so : Nat) (kh : Nat → Nat) (kc : Nat → Nat) (i : Nat) (h_i : i + 4 ≤ L) (cells slots : Nat) (h_ce : cells + 1 ≤ 601024) (h_sl : slots + 6 ≤ 7293034) (H : Heap) (locs : List Loc) (hA : LAll G (fun q : Nat => s.heap.size ≤ q) x tx ch h hc tr trc hi ka sl s0 s0c s1 s1c sv ot M mt mn mtr md mk mik na so kh kc H) (hS : va_S (fun q : Nat => s.heap.size ≤ q) s.heap H locs) (ls : Array Slot) (hl : lv_has ls 7 [(4, .int (nI i)), (0, .ref b), (1, .ref x), (2, .ref M), (3, .ref ot)]) (kk : ∀ (H1 : Heap) (locs1 : List Loc) (ls1 : Array Slot), LAll G (fun q : Nat => s.heap.size ≤ q) x tx ch h hc tr trc hi ka sl s0 s0c s1 s1c sv ot M mt mn mtr md mk mik na so kh kc H1 → va_S (fun q : Nat => s.heap.size ≤ q) s.heap H1 locs1 → lv_has ls1 7 [(4, .int (nI i)), (0, .ref b), (1, .ref x), (2, .ref M), (3, .ref ot)] → W p l e room_1 s m #[Value.ref b] below meth c H1 locs1 (cells + 1) (slots + 6) Q (F0 m 2035 ls1 [])) : W p l e room_1 s m #[Value.ref b] below meth c H locs cells slots Q (F0 m 1189 ls []) := by
  obtain ⟨n, g, sk, f, n2, g2, sk2, f2, cnt, nx, kr, K, slf, S0, S1, svf, of_, cd, sz, rf, mm, tf, df, kf, ikf, nf, sf, hP, hD, hI, hkr, hq0, hq1⟩ := hA
  have h_n : n ≤ 16 := hI.1.2.1
  have h_sz : sz ≤ 60 := hI.2.2.2.1
  have h_cd : ∀ j_, cd j_ < 256 := hI.2.2.2.2.1
  have h_cnt : cnt ≤ 14 := hI.2.2.2.2.2.1
  by_cases h_1c : 0 ≤ (xs (i + 1)).toInt ∧ (xs (i + 1)).toInt < ((3 : Nat) : Int)
  ·
    obtain ⟨ca, e_1, h_ca⟩ := nat_lt h_1c
    exact k17_ok l hst G CX x tx ch h hc tr trc hi ka sl s0 s0c s1 s1c sv ot M mt mn mtr md mk mik na so kh kc i h_i cells slots h_ce h_sl n g sk f n2 g2 sk2 f2 cnt nx kr K slf S0 S1 svf of_ cd sz rf mm tf df kf ikf nf sf H locs hP hD hS hI hkr hq0 hq1 ls hl ca e_1 h_ca kk
  ·
    exact k17_c l hst G CX x tx ch h hc tr trc hi ka sl s0 s0c s1 s1c sv ot M mt mn mtr md mk mik na so kh kc i h_i cells slots h_ce h_sl n g sk f n2 g2 sk2 f2 cnt nx kr K slf S0 S1 svf of_ cd sz rf mm tf df kf ikf nf sf H locs hP hD hS hI hkr hq0 hq1 ls hl (xs (i + 1)) rfl h_1c kk
theorem K18 (l : Launch) (hst : l.stackTraces = false) (G : GG) {p : Program} {e : Env} {s : State} {m : MethodId} {below : List Frame} {meth : Method} {c : Code} {Q : State → Prop} {b L : Nat} {xs : Nat → Int32} (CX : LCx G p s m c b L xs) (x : Nat) (tx : Nat) (ch : Nat) (h : Nat) (hc : Nat) (tr : Nat) (trc : Nat) (hi : Nat) (ka : Nat) (sl : Nat) (s0 : Nat) (s0c : Nat) (s1 : Nat) (s1c : Nat) (sv : Nat) (ot : Nat) (M : Nat) (mt : Nat) (mn : Nat) (mtr : Nat) (md : Nat) (mk : Nat) (mik : Nat) (na : Nat) (so : Nat) (kh : Nat → Nat) (kc : Nat → Nat) (i : Nat) (h_i : i + 4 ≤ L) (cells slots : Nat) (h_ce : cells + 1 ≤ 601024) (h_sl : slots + 6 ≤ 7293034) (H : Heap) (locs : List Loc) (hA : LAll G (fun q : Nat => s.heap.size ≤ q) x tx ch h hc tr trc hi ka sl s0 s0c s1 s1c sv ot M mt mn mtr md mk mik na so kh kc H) (hS : va_S (fun q : Nat => s.heap.size ≤ q) s.heap H locs) (ls : Array Slot) (hl : lv_has ls 7 [(4, .int (nI i)), (0, .ref b), (1, .ref x), (2, .ref M), (3, .ref ot)]) (kk : ∀ (H1 : Heap) (locs1 : List Loc) (ls1 : Array Slot), LAll G (fun q : Nat => s.heap.size ≤ q) x tx ch h hc tr trc hi ka sl s0 s0c s1 s1c sv ot M mt mn mtr md mk mik na so kh kc H1 → va_S (fun q : Nat => s.heap.size ≤ q) s.heap H1 locs1 → lv_has ls1 7 [(4, .int (nI i)), (0, .ref b), (1, .ref x), (2, .ref M), (3, .ref ot)] → W p l e room_1 s m #[Value.ref b] below meth c H1 locs1 (cells + 1) (slots + 6) Q (F0 m 2035 ls1 [])) : W p l e room_1 s m #[Value.ref b] below meth c H locs cells slots Q (F0 m 1245 ls []) := by
  obtain ⟨n, g, sk, f, n2, g2, sk2, f2, cnt, nx, kr, K, slf, S0, S1, svf, of_, cd, sz, rf, mm, tf, df, kf, ikf, nf, sf, hP, hD, hI, hkr, hq0, hq1⟩ := hA
  have h_n : n ≤ 16 := hI.1.2.1
  have h_sz : sz ≤ 60 := hI.2.2.2.1
  have h_cd : ∀ j_, cd j_ < 256 := hI.2.2.2.2.1
  have h_cnt : cnt ≤ 14 := hI.2.2.2.2.2.1
  by_cases h_1c : 0 ≤ (xs (i + 1)).toInt ∧ (xs (i + 1)).toInt < ((3 : Nat) : Int)
  ·
    obtain ⟨ca, e_1, h_ca⟩ := nat_lt h_1c
    by_cases h_2l : 0 ≤ (xs (i + 2)).toInt ∧ (xs (i + 2)).toInt < ((n : Nat) : Int)
    ·
      obtain ⟨lv, e_2, h_lv⟩ := nat_lt h_2l
      by_cases h_3l : 0 ≤ (xs (i + 3)).toInt ∧ (xs (i + 3)).toInt < ((n : Nat) : Int)
      ·
        obtain ⟨l2, e_3, h_l2⟩ := nat_lt h_3l
        exact k18_ok l hst G CX x tx ch h hc tr trc hi ka sl s0 s0c s1 s1c sv ot M mt mn mtr md mk mik na so kh kc i h_i cells slots h_ce h_sl n g sk f n2 g2 sk2 f2 cnt nx kr K slf S0 S1 svf of_ cd sz rf mm tf df kf ikf nf sf H locs hP hD hS hI hkr hq0 hq1 ls hl ca lv l2 e_1 e_2 e_3 h_ca h_lv h_l2 kk
      ·
        exact k18_m l hst G CX x tx ch h hc tr trc hi ka sl s0 s0c s1 s1c sv ot M mt mn mtr md mk mik na so kh kc i h_i cells slots h_ce h_sl n g sk f n2 g2 sk2 f2 cnt nx kr K slf S0 S1 svf of_ cd sz rf mm tf df kf ikf nf sf H locs hP hD hS hI hkr hq0 hq1 ls hl ca lv (xs (i + 3)) e_1 e_2 rfl h_ca h_lv h_3l kk
    ·
      exact k18_l l hst G CX x tx ch h hc tr trc hi ka sl s0 s0c s1 s1c sv ot M mt mn mtr md mk mik na so kh kc i h_i cells slots h_ce h_sl n g sk f n2 g2 sk2 f2 cnt nx kr K slf S0 S1 svf of_ cd sz rf mm tf df kf ikf nf sf H locs hP hD hS hI hkr hq0 hq1 ls hl ca (xs (i + 2)) (xs (i + 3)) e_1 rfl rfl h_ca h_2l kk
  ·
    exact k18_c l hst G CX x tx ch h hc tr trc hi ka sl s0 s0c s1 s1c sv ot M mt mn mtr md mk mik na so kh kc i h_i cells slots h_ce h_sl n g sk f n2 g2 sk2 f2 cnt nx kr K slf S0 S1 svf of_ cd sz rf mm tf df kf ikf nf sf H locs hP hD hS hI hkr hq0 hq1 ls hl (xs (i + 1)) (xs (i + 2)) (xs (i + 3)) rfl rfl rfl h_1c kk
theorem K19 (l : Launch) (hst : l.stackTraces = false) (G : GG) {p : Program} {e : Env} {s : State} {m : MethodId} {below : List Frame} {meth : Method} {c : Code} {Q : State → Prop} {b L : Nat} {xs : Nat → Int32} (CX : LCx G p s m c b L xs) (x : Nat) (tx : Nat) (ch : Nat) (h : Nat) (hc : Nat) (tr : Nat) (trc : Nat) (hi : Nat) (ka : Nat) (sl : Nat) (s0 : Nat) (s0c : Nat) (s1 : Nat) (s1c : Nat) (sv : Nat) (ot : Nat) (M : Nat) (mt : Nat) (mn : Nat) (mtr : Nat) (md : Nat) (mk : Nat) (mik : Nat) (na : Nat) (so : Nat) (kh : Nat → Nat) (kc : Nat → Nat) (i : Nat) (h_i : i + 4 ≤ L) (cells slots : Nat) (h_ce : cells + 1 ≤ 601024) (h_sl : slots + 6 ≤ 7293034) (H : Heap) (locs : List Loc) (hA : LAll G (fun q : Nat => s.heap.size ≤ q) x tx ch h hc tr trc hi ka sl s0 s0c s1 s1c sv ot M mt mn mtr md mk mik na so kh kc H) (hS : va_S (fun q : Nat => s.heap.size ≤ q) s.heap H locs) (ls : Array Slot) (hl : lv_has ls 7 [(4, .int (nI i)), (0, .ref b), (1, .ref x), (2, .ref M), (3, .ref ot)]) (kk : ∀ (H1 : Heap) (locs1 : List Loc) (ls1 : Array Slot), LAll G (fun q : Nat => s.heap.size ≤ q) x tx ch h hc tr trc hi ka sl s0 s0c s1 s1c sv ot M mt mn mtr md mk mik na so kh kc H1 → va_S (fun q : Nat => s.heap.size ≤ q) s.heap H1 locs1 → lv_has ls1 7 [(4, .int (nI i)), (0, .ref b), (1, .ref x), (2, .ref M), (3, .ref ot)] → W p l e room_1 s m #[Value.ref b] below meth c H1 locs1 (cells + 1) (slots + 6) Q (F0 m 2035 ls1 [])) : W p l e room_1 s m #[Value.ref b] below meth c H locs cells slots Q (F0 m 1325 ls []) := by
  obtain ⟨n, g, sk, f, n2, g2, sk2, f2, cnt, nx, kr, K, slf, S0, S1, svf, of_, cd, sz, rf, mm, tf, df, kf, ikf, nf, sf, hP, hD, hI, hkr, hq0, hq1⟩ := hA
  have h_n : n ≤ 16 := hI.1.2.1
  have h_sz : sz ≤ 60 := hI.2.2.2.1
  have h_cd : ∀ j_, cd j_ < 256 := hI.2.2.2.2.1
  have h_cnt : cnt ≤ 14 := hI.2.2.2.2.2.1
  by_cases h_e : 1 ≤ cnt
  ·
    exact k19_ok l hst G CX x tx ch h hc tr trc hi ka sl s0 s0c s1 s1c sv ot M mt mn mtr md mk mik na so kh kc i h_i cells slots h_ce h_sl n g sk f n2 g2 sk2 f2 cnt nx kr K slf S0 S1 svf of_ cd sz rf mm tf df kf ikf nf sf H locs hP hD hS hI hkr hq0 hq1 ls hl h_e kk
  ·
    exact k19_no l hst G CX x tx ch h hc tr trc hi ka sl s0 s0c s1 s1c sv ot M mt mn mtr md mk mik na so kh kc i h_i cells slots h_ce h_sl n g sk f n2 g2 sk2 f2 cnt nx kr K slf S0 S1 svf of_ cd sz rf mm tf df kf ikf nf sf H locs hP hD hS hI hkr hq0 hq1 ls hl (by omega) kk
theorem K20 (l : Launch) (hst : l.stackTraces = false) (G : GG) {p : Program} {e : Env} {s : State} {m : MethodId} {below : List Frame} {meth : Method} {c : Code} {Q : State → Prop} {b L : Nat} {xs : Nat → Int32} (CX : LCx G p s m c b L xs) (x : Nat) (tx : Nat) (ch : Nat) (h : Nat) (hc : Nat) (tr : Nat) (trc : Nat) (hi : Nat) (ka : Nat) (sl : Nat) (s0 : Nat) (s0c : Nat) (s1 : Nat) (s1c : Nat) (sv : Nat) (ot : Nat) (M : Nat) (mt : Nat) (mn : Nat) (mtr : Nat) (md : Nat) (mk : Nat) (mik : Nat) (na : Nat) (so : Nat) (kh : Nat → Nat) (kc : Nat → Nat) (i : Nat) (h_i : i + 4 ≤ L) (cells slots : Nat) (h_ce : cells + 1 ≤ 601024) (h_sl : slots + 6 ≤ 7293034) (H : Heap) (locs : List Loc) (hA : LAll G (fun q : Nat => s.heap.size ≤ q) x tx ch h hc tr trc hi ka sl s0 s0c s1 s1c sv ot M mt mn mtr md mk mik na so kh kc H) (hS : va_S (fun q : Nat => s.heap.size ≤ q) s.heap H locs) (ls : Array Slot) (hl : lv_has ls 7 [(4, .int (nI i)), (0, .ref b), (1, .ref x), (2, .ref M), (3, .ref ot)]) (kk : ∀ (H1 : Heap) (locs1 : List Loc) (ls1 : Array Slot), LAll G (fun q : Nat => s.heap.size ≤ q) x tx ch h hc tr trc hi ka sl s0 s0c s1 s1c sv ot M mt mn mtr md mk mik na so kh kc H1 → va_S (fun q : Nat => s.heap.size ≤ q) s.heap H1 locs1 → lv_has ls1 7 [(4, .int (nI i)), (0, .ref b), (1, .ref x), (2, .ref M), (3, .ref ot)] → W p l e room_1 s m #[Value.ref b] below meth c H1 locs1 (cells + 1) (slots + 6) Q (F0 m 2035 ls1 [])) : W p l e room_1 s m #[Value.ref b] below meth c H locs cells slots Q (F0 m 1369 ls []) := by
  obtain ⟨n, g, sk, f, n2, g2, sk2, f2, cnt, nx, kr, K, slf, S0, S1, svf, of_, cd, sz, rf, mm, tf, df, kf, ikf, nf, sf, hP, hD, hI, hkr, hq0, hq1⟩ := hA
  have h_n : n ≤ 16 := hI.1.2.1
  have h_sz : sz ≤ 60 := hI.2.2.2.1
  have h_cd : ∀ j_, cd j_ < 256 := hI.2.2.2.2.1
  have h_cnt : cnt ≤ 14 := hI.2.2.2.2.2.1
  by_cases h_1c : 0 ≤ (xs (i + 1)).toInt ∧ (xs (i + 1)).toInt < ((3 : Nat) : Int)
  ·
    obtain ⟨ca, e_1, h_ca⟩ := nat_lt h_1c
    by_cases h_2l : 0 ≤ (xs (i + 2)).toInt ∧ (xs (i + 2)).toInt < ((n : Nat) : Int)
    ·
      obtain ⟨lv, e_2, h_lv⟩ := nat_lt h_2l
      exact k20_ok l hst G CX x tx ch h hc tr trc hi ka sl s0 s0c s1 s1c sv ot M mt mn mtr md mk mik na so kh kc i h_i cells slots h_ce h_sl n g sk f n2 g2 sk2 f2 cnt nx kr K slf S0 S1 svf of_ cd sz rf mm tf df kf ikf nf sf H locs hP hD hS hI hkr hq0 hq1 ls hl ca lv (xs (i + 3)) e_1 e_2 rfl h_ca h_lv kk
    ·
      exact k20_l l hst G CX x tx ch h hc tr trc hi ka sl s0 s0c s1 s1c sv ot M mt mn mtr md mk mik na so kh kc i h_i cells slots h_ce h_sl n g sk f n2 g2 sk2 f2 cnt nx kr K slf S0 S1 svf of_ cd sz rf mm tf df kf ikf nf sf H locs hP hD hS hI hkr hq0 hq1 ls hl ca (xs (i + 2)) (xs (i + 3)) e_1 rfl rfl h_ca h_2l kk
  ·
    exact k20_c l hst G CX x tx ch h hc tr trc hi ka sl s0 s0c s1 s1c sv ot M mt mn mtr md mk mik na so kh kc i h_i cells slots h_ce h_sl n g sk f n2 g2 sk2 f2 cnt nx kr K slf S0 S1 svf of_ cd sz rf mm tf df kf ikf nf sf H locs hP hD hS hI hkr hq0 hq1 ls hl (xs (i + 1)) (xs (i + 2)) (xs (i + 3)) rfl rfl rfl h_1c kk
theorem K21 (l : Launch) (hst : l.stackTraces = false) (G : GG) {p : Program} {e : Env} {s : State} {m : MethodId} {below : List Frame} {meth : Method} {c : Code} {Q : State → Prop} {b L : Nat} {xs : Nat → Int32} (CX : LCx G p s m c b L xs) (x : Nat) (tx : Nat) (ch : Nat) (h : Nat) (hc : Nat) (tr : Nat) (trc : Nat) (hi : Nat) (ka : Nat) (sl : Nat) (s0 : Nat) (s0c : Nat) (s1 : Nat) (s1c : Nat) (sv : Nat) (ot : Nat) (M : Nat) (mt : Nat) (mn : Nat) (mtr : Nat) (md : Nat) (mk : Nat) (mik : Nat) (na : Nat) (so : Nat) (kh : Nat → Nat) (kc : Nat → Nat) (i : Nat) (h_i : i + 4 ≤ L) (cells slots : Nat) (h_ce : cells + 1 ≤ 601024) (h_sl : slots + 6 ≤ 7293034) (H : Heap) (locs : List Loc) (hA : LAll G (fun q : Nat => s.heap.size ≤ q) x tx ch h hc tr trc hi ka sl s0 s0c s1 s1c sv ot M mt mn mtr md mk mik na so kh kc H) (hS : va_S (fun q : Nat => s.heap.size ≤ q) s.heap H locs) (ls : Array Slot) (hl : lv_has ls 7 [(4, .int (nI i)), (0, .ref b), (1, .ref x), (2, .ref M), (3, .ref ot)]) (kk : ∀ (H1 : Heap) (locs1 : List Loc) (ls1 : Array Slot), LAll G (fun q : Nat => s.heap.size ≤ q) x tx ch h hc tr trc hi ka sl s0 s0c s1 s1c sv ot M mt mn mtr md mk mik na so kh kc H1 → va_S (fun q : Nat => s.heap.size ≤ q) s.heap H1 locs1 → lv_has ls1 7 [(4, .int (nI i)), (0, .ref b), (1, .ref x), (2, .ref M), (3, .ref ot)] → W p l e room_1 s m #[Value.ref b] below meth c H1 locs1 (cells + 1) (slots + 6) Q (F0 m 2035 ls1 [])) : W p l e room_1 s m #[Value.ref b] below meth c H locs cells slots Q (F0 m 1449 ls []) := by
  obtain ⟨n, g, sk, f, n2, g2, sk2, f2, cnt, nx, kr, K, slf, S0, S1, svf, of_, cd, sz, rf, mm, tf, df, kf, ikf, nf, sf, hP, hD, hI, hkr, hq0, hq1⟩ := hA
  have h_n : n ≤ 16 := hI.1.2.1
  have h_sz : sz ≤ 60 := hI.2.2.2.1
  have h_cd : ∀ j_, cd j_ < 256 := hI.2.2.2.2.1
  have h_cnt : cnt ≤ 14 := hI.2.2.2.2.2.1
  by_cases h_1c : 0 ≤ (xs (i + 1)).toInt ∧ (xs (i + 1)).toInt < ((3 : Nat) : Int)
  ·
    obtain ⟨ca, e_1, h_ca⟩ := nat_lt h_1c
    exact k21_ok l hst G CX x tx ch h hc tr trc hi ka sl s0 s0c s1 s1c sv ot M mt mn mtr md mk mik na so kh kc i h_i cells slots h_ce h_sl n g sk f n2 g2 sk2 f2 cnt nx kr K slf S0 S1 svf of_ cd sz rf mm tf df kf ikf nf sf H locs hP hD hS hI hkr hq0 hq1 ls hl ca e_1 h_ca kk
  ·
    exact k21_c l hst G CX x tx ch h hc tr trc hi ka sl s0 s0c s1 s1c sv ot M mt mn mtr md mk mik na so kh kc i h_i cells slots h_ce h_sl n g sk f n2 g2 sk2 f2 cnt nx kr K slf S0 S1 svf of_ cd sz rf mm tf df kf ikf nf sf H locs hP hD hS hI hkr hq0 hq1 ls hl (xs (i + 1)) rfl h_1c kk
theorem K22 (l : Launch) (hst : l.stackTraces = false) (G : GG) {p : Program} {e : Env} {s : State} {m : MethodId} {below : List Frame} {meth : Method} {c : Code} {Q : State → Prop} {b L : Nat} {xs : Nat → Int32} (CX : LCx G p s m c b L xs) (x : Nat) (tx : Nat) (ch : Nat) (h : Nat) (hc : Nat) (tr : Nat) (trc : Nat) (hi : Nat) (ka : Nat) (sl : Nat) (s0 : Nat) (s0c : Nat) (s1 : Nat) (s1c : Nat) (sv : Nat) (ot : Nat) (M : Nat) (mt : Nat) (mn : Nat) (mtr : Nat) (md : Nat) (mk : Nat) (mik : Nat) (na : Nat) (so : Nat) (kh : Nat → Nat) (kc : Nat → Nat) (i : Nat) (h_i : i + 4 ≤ L) (cells slots : Nat) (h_ce : cells + 1 ≤ 601024) (h_sl : slots + 6 ≤ 7293034) (H : Heap) (locs : List Loc) (hA : LAll G (fun q : Nat => s.heap.size ≤ q) x tx ch h hc tr trc hi ka sl s0 s0c s1 s1c sv ot M mt mn mtr md mk mik na so kh kc H) (hS : va_S (fun q : Nat => s.heap.size ≤ q) s.heap H locs) (ls : Array Slot) (hl : lv_has ls 7 [(4, .int (nI i)), (0, .ref b), (1, .ref x), (2, .ref M), (3, .ref ot)]) (kk : ∀ (H1 : Heap) (locs1 : List Loc) (ls1 : Array Slot), LAll G (fun q : Nat => s.heap.size ≤ q) x tx ch h hc tr trc hi ka sl s0 s0c s1 s1c sv ot M mt mn mtr md mk mik na so kh kc H1 → va_S (fun q : Nat => s.heap.size ≤ q) s.heap H1 locs1 → lv_has ls1 7 [(4, .int (nI i)), (0, .ref b), (1, .ref x), (2, .ref M), (3, .ref ot)] → W p l e room_1 s m #[Value.ref b] below meth c H1 locs1 (cells + 1) (slots + 6) Q (F0 m 2035 ls1 [])) : W p l e room_1 s m #[Value.ref b] below meth c H locs cells slots Q (F0 m 1505 ls []) := by
  obtain ⟨n, g, sk, f, n2, g2, sk2, f2, cnt, nx, kr, K, slf, S0, S1, svf, of_, cd, sz, rf, mm, tf, df, kf, ikf, nf, sf, hP, hD, hI, hkr, hq0, hq1⟩ := hA
  have h_n : n ≤ 16 := hI.1.2.1
  have h_sz : sz ≤ 60 := hI.2.2.2.1
  have h_cd : ∀ j_, cd j_ < 256 := hI.2.2.2.2.1
  have h_cnt : cnt ≤ 14 := hI.2.2.2.2.2.1
  by_cases h_1l : 0 ≤ (xs (i + 1)).toInt ∧ (xs (i + 1)).toInt < ((n : Nat) : Int)
  ·
    obtain ⟨lv, e_1, h_lv⟩ := nat_lt h_1l
    by_cases h_2l : 0 ≤ (xs (i + 2)).toInt ∧ (xs (i + 2)).toInt < ((n : Nat) : Int)
    ·
      obtain ⟨to, e_2, h_to⟩ := nat_lt h_2l
      exact k22_ok l hst G CX x tx ch h hc tr trc hi ka sl s0 s0c s1 s1c sv ot M mt mn mtr md mk mik na so kh kc i h_i cells slots h_ce h_sl n g sk f n2 g2 sk2 f2 cnt nx kr K slf S0 S1 svf of_ cd sz rf mm tf df kf ikf nf sf H locs hP hD hS hI hkr hq0 hq1 ls hl lv to e_1 e_2 h_lv h_to kk
    ·
      exact k22_m l hst G CX x tx ch h hc tr trc hi ka sl s0 s0c s1 s1c sv ot M mt mn mtr md mk mik na so kh kc i h_i cells slots h_ce h_sl n g sk f n2 g2 sk2 f2 cnt nx kr K slf S0 S1 svf of_ cd sz rf mm tf df kf ikf nf sf H locs hP hD hS hI hkr hq0 hq1 ls hl lv (xs (i + 2)) e_1 rfl h_lv h_2l kk
  ·
    exact k22_l l hst G CX x tx ch h hc tr trc hi ka sl s0 s0c s1 s1c sv ot M mt mn mtr md mk mik na so kh kc i h_i cells slots h_ce h_sl n g sk f n2 g2 sk2 f2 cnt nx kr K slf S0 S1 svf of_ cd sz rf mm tf df kf ikf nf sf H locs hP hD hS hI hkr hq0 hq1 ls hl (xs (i + 1)) (xs (i + 2)) rfl rfl h_1l kk
theorem K23 (l : Launch) (hst : l.stackTraces = false) (G : GG) {p : Program} {e : Env} {s : State} {m : MethodId} {below : List Frame} {meth : Method} {c : Code} {Q : State → Prop} {b L : Nat} {xs : Nat → Int32} (CX : LCx G p s m c b L xs) (x : Nat) (tx : Nat) (ch : Nat) (h : Nat) (hc : Nat) (tr : Nat) (trc : Nat) (hi : Nat) (ka : Nat) (sl : Nat) (s0 : Nat) (s0c : Nat) (s1 : Nat) (s1c : Nat) (sv : Nat) (ot : Nat) (M : Nat) (mt : Nat) (mn : Nat) (mtr : Nat) (md : Nat) (mk : Nat) (mik : Nat) (na : Nat) (so : Nat) (kh : Nat → Nat) (kc : Nat → Nat) (i : Nat) (h_i : i + 4 ≤ L) (cells slots : Nat) (h_ce : cells + 1 ≤ 601024) (h_sl : slots + 6 ≤ 7293034) (H : Heap) (locs : List Loc) (hA : LAll G (fun q : Nat => s.heap.size ≤ q) x tx ch h hc tr trc hi ka sl s0 s0c s1 s1c sv ot M mt mn mtr md mk mik na so kh kc H) (hS : va_S (fun q : Nat => s.heap.size ≤ q) s.heap H locs) (ls : Array Slot) (hl : lv_has ls 7 [(4, .int (nI i)), (0, .ref b), (1, .ref x), (2, .ref M), (3, .ref ot)]) (kk : ∀ (H1 : Heap) (locs1 : List Loc) (ls1 : Array Slot), LAll G (fun q : Nat => s.heap.size ≤ q) x tx ch h hc tr trc hi ka sl s0 s0c s1 s1c sv ot M mt mn mtr md mk mik na so kh kc H1 → va_S (fun q : Nat => s.heap.size ≤ q) s.heap H1 locs1 → lv_has ls1 7 [(4, .int (nI i)), (0, .ref b), (1, .ref x), (2, .ref M), (3, .ref ot)] → W p l e room_1 s m #[Value.ref b] below meth c H1 locs1 (cells + 1) (slots + 6) Q (F0 m 2035 ls1 [])) : W p l e room_1 s m #[Value.ref b] below meth c H locs cells slots Q (F0 m 1573 ls []) := by
  obtain ⟨n, g, sk, f, n2, g2, sk2, f2, cnt, nx, kr, K, slf, S0, S1, svf, of_, cd, sz, rf, mm, tf, df, kf, ikf, nf, sf, hP, hD, hI, hkr, hq0, hq1⟩ := hA
  have h_n : n ≤ 16 := hI.1.2.1
  have h_sz : sz ≤ 60 := hI.2.2.2.1
  have h_cd : ∀ j_, cd j_ < 256 := hI.2.2.2.2.1
  have h_cnt : cnt ≤ 14 := hI.2.2.2.2.2.1
  by_cases h_1 : ((1 : Nat) : Int) ≤ (xs (i + 1)).toInt ∧ (xs (i + 1)).toInt ≤ ((30 : Nat) : Int)
  ·
    obtain ⟨q, e_1, h_q⟩ := nat_rg h_1
    exact k23_ok l hst G CX x tx ch h hc tr trc hi ka sl s0 s0c s1 s1c sv ot M mt mn mtr md mk mik na so kh kc i h_i cells slots h_ce h_sl n g sk f n2 g2 sk2 f2 cnt nx kr K slf S0 S1 svf of_ cd sz rf mm tf df kf ikf nf sf H locs hP hD hS hI hkr hq0 hq1 ls hl q e_1 h_q kk
  ·
    exact k23_no l hst G CX x tx ch h hc tr trc hi ka sl s0 s0c s1 s1c sv ot M mt mn mtr md mk mik na so kh kc i h_i cells slots h_ce h_sl n g sk f n2 g2 sk2 f2 cnt nx kr K slf S0 S1 svf of_ cd sz rf mm tf df kf ikf nf sf H locs hP hD hS hI hkr hq0 hq1 ls hl (xs (i + 1)) rfl h_1 kk
theorem K24 (l : Launch) (hst : l.stackTraces = false) (G : GG) {p : Program} {e : Env} {s : State} {m : MethodId} {below : List Frame} {meth : Method} {c : Code} {Q : State → Prop} {b L : Nat} {xs : Nat → Int32} (CX : LCx G p s m c b L xs) (x : Nat) (tx : Nat) (ch : Nat) (h : Nat) (hc : Nat) (tr : Nat) (trc : Nat) (hi : Nat) (ka : Nat) (sl : Nat) (s0 : Nat) (s0c : Nat) (s1 : Nat) (s1c : Nat) (sv : Nat) (ot : Nat) (M : Nat) (mt : Nat) (mn : Nat) (mtr : Nat) (md : Nat) (mk : Nat) (mik : Nat) (na : Nat) (so : Nat) (kh : Nat → Nat) (kc : Nat → Nat) (i : Nat) (h_i : i + 4 ≤ L) (cells slots : Nat) (h_ce : cells + 1 ≤ 601024) (h_sl : slots + 6 ≤ 7293034) (H : Heap) (locs : List Loc) (hA : LAll G (fun q : Nat => s.heap.size ≤ q) x tx ch h hc tr trc hi ka sl s0 s0c s1 s1c sv ot M mt mn mtr md mk mik na so kh kc H) (hS : va_S (fun q : Nat => s.heap.size ≤ q) s.heap H locs) (ls : Array Slot) (hl : lv_has ls 7 [(4, .int (nI i)), (0, .ref b), (1, .ref x), (2, .ref M), (3, .ref ot)]) (kk : ∀ (H1 : Heap) (locs1 : List Loc) (ls1 : Array Slot), LAll G (fun q : Nat => s.heap.size ≤ q) x tx ch h hc tr trc hi ka sl s0 s0c s1 s1c sv ot M mt mn mtr md mk mik na so kh kc H1 → va_S (fun q : Nat => s.heap.size ≤ q) s.heap H1 locs1 → lv_has ls1 7 [(4, .int (nI i)), (0, .ref b), (1, .ref x), (2, .ref M), (3, .ref ot)] → W p l e room_1 s m #[Value.ref b] below meth c H1 locs1 (cells + 1) (slots + 6) Q (F0 m 2035 ls1 [])) : W p l e room_1 s m #[Value.ref b] below meth c H locs cells slots Q (F0 m 1629 ls []) := by
  obtain ⟨n, g, sk, f, n2, g2, sk2, f2, cnt, nx, kr, K, slf, S0, S1, svf, of_, cd, sz, rf, mm, tf, df, kf, ikf, nf, sf, hP, hD, hI, hkr, hq0, hq1⟩ := hA
  have h_n : n ≤ 16 := hI.1.2.1
  have h_sz : sz ≤ 60 := hI.2.2.2.1
  have h_cd : ∀ j_, cd j_ < 256 := hI.2.2.2.2.1
  have h_cnt : cnt ≤ 14 := hI.2.2.2.2.2.1
  exact k24_ok l hst G CX x tx ch h hc tr trc hi ka sl s0 s0c s1 s1c sv ot M mt mn mtr md mk mik na so kh kc i h_i cells slots h_ce h_sl n g sk f n2 g2 sk2 f2 cnt nx kr K slf S0 S1 svf of_ cd sz rf mm tf df kf ikf nf sf H locs hP hD hS hI hkr hq0 hq1 ls hl  kk
theorem K25 (l : Launch) (hst : l.stackTraces = false) (G : GG) {p : Program} {e : Env} {s : State} {m : MethodId} {below : List Frame} {meth : Method} {c : Code} {Q : State → Prop} {b L : Nat} {xs : Nat → Int32} (CX : LCx G p s m c b L xs) (x : Nat) (tx : Nat) (ch : Nat) (h : Nat) (hc : Nat) (tr : Nat) (trc : Nat) (hi : Nat) (ka : Nat) (sl : Nat) (s0 : Nat) (s0c : Nat) (s1 : Nat) (s1c : Nat) (sv : Nat) (ot : Nat) (M : Nat) (mt : Nat) (mn : Nat) (mtr : Nat) (md : Nat) (mk : Nat) (mik : Nat) (na : Nat) (so : Nat) (kh : Nat → Nat) (kc : Nat → Nat) (i : Nat) (h_i : i + 4 ≤ L) (cells slots : Nat) (h_ce : cells + 1 ≤ 601024) (h_sl : slots + 6 ≤ 7293034) (H : Heap) (locs : List Loc) (hA : LAll G (fun q : Nat => s.heap.size ≤ q) x tx ch h hc tr trc hi ka sl s0 s0c s1 s1c sv ot M mt mn mtr md mk mik na so kh kc H) (hS : va_S (fun q : Nat => s.heap.size ≤ q) s.heap H locs) (ls : Array Slot) (hl : lv_has ls 7 [(4, .int (nI i)), (0, .ref b), (1, .ref x), (2, .ref M), (3, .ref ot)]) (kk : ∀ (H1 : Heap) (locs1 : List Loc) (ls1 : Array Slot), LAll G (fun q : Nat => s.heap.size ≤ q) x tx ch h hc tr trc hi ka sl s0 s0c s1 s1c sv ot M mt mn mtr md mk mik na so kh kc H1 → va_S (fun q : Nat => s.heap.size ≤ q) s.heap H1 locs1 → lv_has ls1 7 [(4, .int (nI i)), (0, .ref b), (1, .ref x), (2, .ref M), (3, .ref ot)] → W p l e room_1 s m #[Value.ref b] below meth c H1 locs1 (cells + 1) (slots + 6) Q (F0 m 2035 ls1 [])) : W p l e room_1 s m #[Value.ref b] below meth c H locs cells slots Q (F0 m 1642 ls []) := by
  obtain ⟨n, g, sk, f, n2, g2, sk2, f2, cnt, nx, kr, K, slf, S0, S1, svf, of_, cd, sz, rf, mm, tf, df, kf, ikf, nf, sf, hP, hD, hI, hkr, hq0, hq1⟩ := hA
  have h_n : n ≤ 16 := hI.1.2.1
  have h_sz : sz ≤ 60 := hI.2.2.2.1
  have h_cd : ∀ j_, cd j_ < 256 := hI.2.2.2.2.1
  have h_cnt : cnt ≤ 14 := hI.2.2.2.2.2.1
  by_cases h_1 : 0 ≤ (xs (i + 1)).toInt ∧ (xs (i + 1)).toInt ≤ ((n : Nat) : Int)
  ·
    obtain ⟨lv, e_1, h_lv⟩ := nat_le h_1
    by_cases h_2 : 0 ≤ (xs (i + 2)).toInt ∧ (xs (i + 2)).toInt < ((4 : Nat) : Int)
    ·
      obtain ⟨k, e_2, h_k⟩ := nat_lt h_2
      by_cases h_f16 : n < 16
      ·
        exact k25_ok l hst G CX x tx ch h hc tr trc hi ka sl s0 s0c s1 s1c sv ot M mt mn mtr md mk mik na so kh kc i h_i cells slots h_ce h_sl n g sk f n2 g2 sk2 f2 cnt nx kr K slf S0 S1 svf of_ cd sz rf mm tf df kf ikf nf sf H locs hP hD hS hI hkr hq0 hq1 ls hl lv k e_1 e_2 h_f16 h_lv h_k kk
      ·
        exact k25_f l hst G CX x tx ch h hc tr trc hi ka sl s0 s0c s1 s1c sv ot M mt mn mtr md mk mik na so kh kc i h_i cells slots h_ce h_sl n g sk f n2 g2 sk2 f2 cnt nx kr K slf S0 S1 svf of_ cd sz rf mm tf df kf ikf nf sf H locs hP hD hS hI hkr hq0 hq1 ls hl lv k e_1 e_2 h_lv h_k (by omega) kk
    ·
      exact k25_k l hst G CX x tx ch h hc tr trc hi ka sl s0 s0c s1 s1c sv ot M mt mn mtr md mk mik na so kh kc i h_i cells slots h_ce h_sl n g sk f n2 g2 sk2 f2 cnt nx kr K slf S0 S1 svf of_ cd sz rf mm tf df kf ikf nf sf H locs hP hD hS hI hkr hq0 hq1 ls hl lv (xs (i + 2)) e_1 rfl h_lv h_2 kk
  ·
    exact k25_l l hst G CX x tx ch h hc tr trc hi ka sl s0 s0c s1 s1c sv ot M mt mn mtr md mk mik na so kh kc i h_i cells slots h_ce h_sl n g sk f n2 g2 sk2 f2 cnt nx kr K slf S0 S1 svf of_ cd sz rf mm tf df kf ikf nf sf H locs hP hD hS hI hkr hq0 hq1 ls hl (xs (i + 1)) (xs (i + 2)) rfl rfl h_1 kk
theorem K26 (l : Launch) (hst : l.stackTraces = false) (G : GG) {p : Program} {e : Env} {s : State} {m : MethodId} {below : List Frame} {meth : Method} {c : Code} {Q : State → Prop} {b L : Nat} {xs : Nat → Int32} (CX : LCx G p s m c b L xs) (x : Nat) (tx : Nat) (ch : Nat) (h : Nat) (hc : Nat) (tr : Nat) (trc : Nat) (hi : Nat) (ka : Nat) (sl : Nat) (s0 : Nat) (s0c : Nat) (s1 : Nat) (s1c : Nat) (sv : Nat) (ot : Nat) (M : Nat) (mt : Nat) (mn : Nat) (mtr : Nat) (md : Nat) (mk : Nat) (mik : Nat) (na : Nat) (so : Nat) (kh : Nat → Nat) (kc : Nat → Nat) (i : Nat) (h_i : i + 4 ≤ L) (cells slots : Nat) (h_ce : cells + 1 ≤ 601024) (h_sl : slots + 6 ≤ 7293034) (H : Heap) (locs : List Loc) (hA : LAll G (fun q : Nat => s.heap.size ≤ q) x tx ch h hc tr trc hi ka sl s0 s0c s1 s1c sv ot M mt mn mtr md mk mik na so kh kc H) (hS : va_S (fun q : Nat => s.heap.size ≤ q) s.heap H locs) (ls : Array Slot) (hl : lv_has ls 7 [(4, .int (nI i)), (0, .ref b), (1, .ref x), (2, .ref M), (3, .ref ot)]) (kk : ∀ (H1 : Heap) (locs1 : List Loc) (ls1 : Array Slot), LAll G (fun q : Nat => s.heap.size ≤ q) x tx ch h hc tr trc hi ka sl s0 s0c s1 s1c sv ot M mt mn mtr md mk mik na so kh kc H1 → va_S (fun q : Nat => s.heap.size ≤ q) s.heap H1 locs1 → lv_has ls1 7 [(4, .int (nI i)), (0, .ref b), (1, .ref x), (2, .ref M), (3, .ref ot)] → W p l e room_1 s m #[Value.ref b] below meth c H1 locs1 (cells + 1) (slots + 6) Q (F0 m 2035 ls1 [])) : W p l e room_1 s m #[Value.ref b] below meth c H locs cells slots Q (F0 m 1710 ls []) := by
  obtain ⟨n, g, sk, f, n2, g2, sk2, f2, cnt, nx, kr, K, slf, S0, S1, svf, of_, cd, sz, rf, mm, tf, df, kf, ikf, nf, sf, hP, hD, hI, hkr, hq0, hq1⟩ := hA
  have h_n : n ≤ 16 := hI.1.2.1
  have h_sz : sz ≤ 60 := hI.2.2.2.1
  have h_cd : ∀ j_, cd j_ < 256 := hI.2.2.2.2.1
  have h_cnt : cnt ≤ 14 := hI.2.2.2.2.2.1
  exact k26_ok l hst G CX x tx ch h hc tr trc hi ka sl s0 s0c s1 s1c sv ot M mt mn mtr md mk mik na so kh kc i h_i cells slots h_ce h_sl n g sk f n2 g2 sk2 f2 cnt nx kr K slf S0 S1 svf of_ cd sz rf mm tf df kf ikf nf sf H locs hP hD hS hI hkr hq0 hq1 ls hl  kk
theorem K27 (l : Launch) (hst : l.stackTraces = false) (G : GG) {p : Program} {e : Env} {s : State} {m : MethodId} {below : List Frame} {meth : Method} {c : Code} {Q : State → Prop} {b L : Nat} {xs : Nat → Int32} (CX : LCx G p s m c b L xs) (x : Nat) (tx : Nat) (ch : Nat) (h : Nat) (hc : Nat) (tr : Nat) (trc : Nat) (hi : Nat) (ka : Nat) (sl : Nat) (s0 : Nat) (s0c : Nat) (s1 : Nat) (s1c : Nat) (sv : Nat) (ot : Nat) (M : Nat) (mt : Nat) (mn : Nat) (mtr : Nat) (md : Nat) (mk : Nat) (mik : Nat) (na : Nat) (so : Nat) (kh : Nat → Nat) (kc : Nat → Nat) (i : Nat) (h_i : i + 4 ≤ L) (cells slots : Nat) (h_ce : cells + 1 ≤ 601024) (h_sl : slots + 6 ≤ 7293034) (H : Heap) (locs : List Loc) (hA : LAll G (fun q : Nat => s.heap.size ≤ q) x tx ch h hc tr trc hi ka sl s0 s0c s1 s1c sv ot M mt mn mtr md mk mik na so kh kc H) (hS : va_S (fun q : Nat => s.heap.size ≤ q) s.heap H locs) (ls : Array Slot) (hl : lv_has ls 7 [(4, .int (nI i)), (0, .ref b), (1, .ref x), (2, .ref M), (3, .ref ot)]) (kk : ∀ (H1 : Heap) (locs1 : List Loc) (ls1 : Array Slot), LAll G (fun q : Nat => s.heap.size ≤ q) x tx ch h hc tr trc hi ka sl s0 s0c s1 s1c sv ot M mt mn mtr md mk mik na so kh kc H1 → va_S (fun q : Nat => s.heap.size ≤ q) s.heap H1 locs1 → lv_has ls1 7 [(4, .int (nI i)), (0, .ref b), (1, .ref x), (2, .ref M), (3, .ref ot)] → W p l e room_1 s m #[Value.ref b] below meth c H1 locs1 (cells + 1) (slots + 6) Q (F0 m 2035 ls1 [])) : W p l e room_1 s m #[Value.ref b] below meth c H locs cells slots Q (F0 m 1723 ls []) := by
  obtain ⟨n, g, sk, f, n2, g2, sk2, f2, cnt, nx, kr, K, slf, S0, S1, svf, of_, cd, sz, rf, mm, tf, df, kf, ikf, nf, sf, hP, hD, hI, hkr, hq0, hq1⟩ := hA
  have h_n : n ≤ 16 := hI.1.2.1
  have h_sz : sz ≤ 60 := hI.2.2.2.1
  have h_cd : ∀ j_, cd j_ < 256 := hI.2.2.2.2.1
  have h_cnt : cnt ≤ 14 := hI.2.2.2.2.2.1
  by_cases h_1 : ((1 : Nat) : Int) ≤ (xs (i + 1)).toInt ∧ (xs (i + 1)).toInt ≤ ((3 : Nat) : Int)
  ·
    obtain ⟨k, e_1, h_k⟩ := nat_rg h_1
    have h_pw := pw_le h_k.2
    by_cases h_s : 0 ≤ ((xs (i + 2)).toInt64 <<< ((nI 32).toInt64 &&& 63) ||| (xs (i + 3)).toInt64 &&& 4294967295).toInt ∧ ((xs (i + 2)).toInt64 <<< ((nI 32).toInt64 &&& 63) ||| (xs (i + 3)).toInt64 &&& 4294967295).toInt < ((10000 ^ k : Nat) : Int)
    ·
      obtain ⟨S, e_s, h_S⟩ := long_lt (Nat.lt_of_le_of_lt h_pw (by decide)) h_s
      exact k27_ok l hst G CX x tx ch h hc tr trc hi ka sl s0 s0c s1 s1c sv ot M mt mn mtr md mk mik na so kh kc i h_i cells slots h_ce h_sl n g sk f n2 g2 sk2 f2 cnt nx kr K slf S0 S1 svf of_ cd sz rf mm tf df kf ikf nf sf H locs hP hD hS hI hkr hq0 hq1 ls hl (xs (i + 2)) (xs (i + 3)) k S e_1 rfl rfl h_k h_S e_s kk
    ·
      exact k27_s l hst G CX x tx ch h hc tr trc hi ka sl s0 s0c s1 s1c sv ot M mt mn mtr md mk mik na so kh kc i h_i cells slots h_ce h_sl n g sk f n2 g2 sk2 f2 cnt nx kr K slf S0 S1 svf of_ cd sz rf mm tf df kf ikf nf sf H locs hP hD hS hI hkr hq0 hq1 ls hl (xs (i + 2)) (xs (i + 3)) k ((xs (i + 2)).toInt64 <<< ((nI 32).toInt64 &&& 63) ||| (xs (i + 3)).toInt64 &&& 4294967295) e_1 rfl rfl h_k h_s rfl kk
  ·
    exact k27_n l hst G CX x tx ch h hc tr trc hi ka sl s0 s0c s1 s1c sv ot M mt mn mtr md mk mik na so kh kc i h_i cells slots h_ce h_sl n g sk f n2 g2 sk2 f2 cnt nx kr K slf S0 S1 svf of_ cd sz rf mm tf df kf ikf nf sf H locs hP hD hS hI hkr hq0 hq1 ls hl (xs (i + 2)) (xs (i + 3)) (xs (i + 1)) ((xs (i + 2)).toInt64 <<< ((nI 32).toInt64 &&& 63) ||| (xs (i + 3)).toInt64 &&& 4294967295) rfl rfl rfl h_1 rfl kk
theorem K28 (l : Launch) (hst : l.stackTraces = false) (G : GG) {p : Program} {e : Env} {s : State} {m : MethodId} {below : List Frame} {meth : Method} {c : Code} {Q : State → Prop} {b L : Nat} {xs : Nat → Int32} (CX : LCx G p s m c b L xs) (x : Nat) (tx : Nat) (ch : Nat) (h : Nat) (hc : Nat) (tr : Nat) (trc : Nat) (hi : Nat) (ka : Nat) (sl : Nat) (s0 : Nat) (s0c : Nat) (s1 : Nat) (s1c : Nat) (sv : Nat) (ot : Nat) (M : Nat) (mt : Nat) (mn : Nat) (mtr : Nat) (md : Nat) (mk : Nat) (mik : Nat) (na : Nat) (so : Nat) (kh : Nat → Nat) (kc : Nat → Nat) (i : Nat) (h_i : i + 4 ≤ L) (cells slots : Nat) (h_ce : cells + 1 ≤ 601024) (h_sl : slots + 6 ≤ 7293034) (H : Heap) (locs : List Loc) (hA : LAll G (fun q : Nat => s.heap.size ≤ q) x tx ch h hc tr trc hi ka sl s0 s0c s1 s1c sv ot M mt mn mtr md mk mik na so kh kc H) (hS : va_S (fun q : Nat => s.heap.size ≤ q) s.heap H locs) (ls : Array Slot) (hl : lv_has ls 7 [(4, .int (nI i)), (0, .ref b), (1, .ref x), (2, .ref M), (3, .ref ot)]) (kk : ∀ (H1 : Heap) (locs1 : List Loc) (ls1 : Array Slot), LAll G (fun q : Nat => s.heap.size ≤ q) x tx ch h hc tr trc hi ka sl s0 s0c s1 s1c sv ot M mt mn mtr md mk mik na so kh kc H1 → va_S (fun q : Nat => s.heap.size ≤ q) s.heap H1 locs1 → lv_has ls1 7 [(4, .int (nI i)), (0, .ref b), (1, .ref x), (2, .ref M), (3, .ref ot)] → W p l e room_1 s m #[Value.ref b] below meth c H1 locs1 (cells + 1) (slots + 6) Q (F0 m 2035 ls1 [])) : W p l e room_1 s m #[Value.ref b] below meth c H locs cells slots Q (F0 m 1823 ls []) := by
  obtain ⟨n, g, sk, f, n2, g2, sk2, f2, cnt, nx, kr, K, slf, S0, S1, svf, of_, cd, sz, rf, mm, tf, df, kf, ikf, nf, sf, hP, hD, hI, hkr, hq0, hq1⟩ := hA
  have h_n : n ≤ 16 := hI.1.2.1
  have h_sz : sz ≤ 60 := hI.2.2.2.1
  have h_cd : ∀ j_, cd j_ < 256 := hI.2.2.2.2.1
  have h_cnt : cnt ≤ 14 := hI.2.2.2.2.2.1
  by_cases h_3 : ((1 : Nat) : Int) ≤ (xs (i + 3)).toInt ∧ (xs (i + 3)).toInt ≤ ((80 : Nat) : Int)
  ·
    obtain ⟨tn, e_3, h_m⟩ := nat_rg h_3
    exact k28_ok l hst G CX x tx ch h hc tr trc hi ka sl s0 s0c s1 s1c sv ot M mt mn mtr md mk mik na so kh kc i h_i cells slots h_ce h_sl n g sk f n2 g2 sk2 f2 cnt nx kr K slf S0 S1 svf of_ cd sz rf mm tf df kf ikf nf sf H locs hP hD hS hI hkr hq0 hq1 ls hl (xs (i + 1)) (xs (i + 2)) ((xs (i + 1)).toInt64 <<< ((nI 32).toInt64 &&& 63) ||| (xs (i + 2)).toInt64 &&& 4294967295) tn rfl rfl e_3 h_m rfl kk
  ·
    exact k28_no l hst G CX x tx ch h hc tr trc hi ka sl s0 s0c s1 s1c sv ot M mt mn mtr md mk mik na so kh kc i h_i cells slots h_ce h_sl n g sk f n2 g2 sk2 f2 cnt nx kr K slf S0 S1 svf of_ cd sz rf mm tf df kf ikf nf sf H locs hP hD hS hI hkr hq0 hq1 ls hl (xs (i + 1)) (xs (i + 2)) ((xs (i + 1)).toInt64 <<< ((nI 32).toInt64 &&& 63) ||| (xs (i + 2)).toInt64 &&& 4294967295) (xs (i + 3)) rfl rfl rfl h_3 rfl kk
theorem K29 (l : Launch) (hst : l.stackTraces = false) (G : GG) {p : Program} {e : Env} {s : State} {m : MethodId} {below : List Frame} {meth : Method} {c : Code} {Q : State → Prop} {b L : Nat} {xs : Nat → Int32} (CX : LCx G p s m c b L xs) (x : Nat) (tx : Nat) (ch : Nat) (h : Nat) (hc : Nat) (tr : Nat) (trc : Nat) (hi : Nat) (ka : Nat) (sl : Nat) (s0 : Nat) (s0c : Nat) (s1 : Nat) (s1c : Nat) (sv : Nat) (ot : Nat) (M : Nat) (mt : Nat) (mn : Nat) (mtr : Nat) (md : Nat) (mk : Nat) (mik : Nat) (na : Nat) (so : Nat) (kh : Nat → Nat) (kc : Nat → Nat) (i : Nat) (h_i : i + 4 ≤ L) (cells slots : Nat) (h_ce : cells + 1 ≤ 601024) (h_sl : slots + 6 ≤ 7293034) (H : Heap) (locs : List Loc) (hA : LAll G (fun q : Nat => s.heap.size ≤ q) x tx ch h hc tr trc hi ka sl s0 s0c s1 s1c sv ot M mt mn mtr md mk mik na so kh kc H) (hS : va_S (fun q : Nat => s.heap.size ≤ q) s.heap H locs) (ls : Array Slot) (hl : lv_has ls 7 [(4, .int (nI i)), (0, .ref b), (1, .ref x), (2, .ref M), (3, .ref ot)]) (kk : ∀ (H1 : Heap) (locs1 : List Loc) (ls1 : Array Slot), LAll G (fun q : Nat => s.heap.size ≤ q) x tx ch h hc tr trc hi ka sl s0 s0c s1 s1c sv ot M mt mn mtr md mk mik na so kh kc H1 → va_S (fun q : Nat => s.heap.size ≤ q) s.heap H1 locs1 → lv_has ls1 7 [(4, .int (nI i)), (0, .ref b), (1, .ref x), (2, .ref M), (3, .ref ot)] → W p l e room_1 s m #[Value.ref b] below meth c H1 locs1 (cells + 1) (slots + 6) Q (F0 m 2035 ls1 [])) : W p l e room_1 s m #[Value.ref b] below meth c H locs cells slots Q (F0 m 1923 ls []) := by
  obtain ⟨n, g, sk, f, n2, g2, sk2, f2, cnt, nx, kr, K, slf, S0, S1, svf, of_, cd, sz, rf, mm, tf, df, kf, ikf, nf, sf, hP, hD, hI, hkr, hq0, hq1⟩ := hA
  have h_n : n ≤ 16 := hI.1.2.1
  have h_sz : sz ≤ 60 := hI.2.2.2.1
  have h_cd : ∀ j_, cd j_ < 256 := hI.2.2.2.2.1
  have h_cnt : cnt ≤ 14 := hI.2.2.2.2.2.1
  by_cases h_1 : 0 ≤ (xs (i + 1)).toInt ∧ (xs (i + 1)).toInt < ((2 : Nat) : Int)
  ·
    obtain ⟨u, e_1, h_uu⟩ := nat_lt h_1
    rcases (show u = 0 ∨ u = 1 by omega) with rfl | rfl
    ·
      exact k29_ok0 l hst G CX x tx ch h hc tr trc hi ka sl s0 s0c s1 s1c sv ot M mt mn mtr md mk mik na so kh kc i h_i cells slots h_ce h_sl n g sk f n2 g2 sk2 f2 cnt nx kr K slf S0 S1 svf of_ cd sz rf mm tf df kf ikf nf sf H locs hP hD hS hI hkr hq0 hq1 ls hl e_1 kk
    ·
      exact k29_ok1 l hst G CX x tx ch h hc tr trc hi ka sl s0 s0c s1 s1c sv ot M mt mn mtr md mk mik na so kh kc i h_i cells slots h_ce h_sl n g sk f n2 g2 sk2 f2 cnt nx kr K slf S0 S1 svf of_ cd sz rf mm tf df kf ikf nf sf H locs hP hD hS hI hkr hq0 hq1 ls hl e_1 kk
  ·
    exact k29_no l hst G CX x tx ch h hc tr trc hi ka sl s0 s0c s1 s1c sv ot M mt mn mtr md mk mik na so kh kc i h_i cells slots h_ce h_sl n g sk f n2 g2 sk2 f2 cnt nx kr K slf S0 S1 svf of_ cd sz rf mm tf df kf ikf nf sf H locs hP hD hS hI hkr hq0 hq1 ls hl (xs (i + 1)) rfl h_1 kk
theorem K30 (l : Launch) (hst : l.stackTraces = false) (G : GG) {p : Program} {e : Env} {s : State} {m : MethodId} {below : List Frame} {meth : Method} {c : Code} {Q : State → Prop} {b L : Nat} {xs : Nat → Int32} (CX : LCx G p s m c b L xs) (x : Nat) (tx : Nat) (ch : Nat) (h : Nat) (hc : Nat) (tr : Nat) (trc : Nat) (hi : Nat) (ka : Nat) (sl : Nat) (s0 : Nat) (s0c : Nat) (s1 : Nat) (s1c : Nat) (sv : Nat) (ot : Nat) (M : Nat) (mt : Nat) (mn : Nat) (mtr : Nat) (md : Nat) (mk : Nat) (mik : Nat) (na : Nat) (so : Nat) (kh : Nat → Nat) (kc : Nat → Nat) (i : Nat) (h_i : i + 4 ≤ L) (cells slots : Nat) (h_ce : cells + 1 ≤ 601024) (h_sl : slots + 6 ≤ 7293034) (H : Heap) (locs : List Loc) (hA : LAll G (fun q : Nat => s.heap.size ≤ q) x tx ch h hc tr trc hi ka sl s0 s0c s1 s1c sv ot M mt mn mtr md mk mik na so kh kc H) (hS : va_S (fun q : Nat => s.heap.size ≤ q) s.heap H locs) (ls : Array Slot) (hl : lv_has ls 7 [(4, .int (nI i)), (0, .ref b), (1, .ref x), (2, .ref M), (3, .ref ot)]) (kk : ∀ (H1 : Heap) (locs1 : List Loc) (ls1 : Array Slot), LAll G (fun q : Nat => s.heap.size ≤ q) x tx ch h hc tr trc hi ka sl s0 s0c s1 s1c sv ot M mt mn mtr md mk mik na so kh kc H1 → va_S (fun q : Nat => s.heap.size ≤ q) s.heap H1 locs1 → lv_has ls1 7 [(4, .int (nI i)), (0, .ref b), (1, .ref x), (2, .ref M), (3, .ref ot)] → W p l e room_1 s m #[Value.ref b] below meth c H1 locs1 (cells + 1) (slots + 6) Q (F0 m 2035 ls1 [])) : W p l e room_1 s m #[Value.ref b] below meth c H locs cells slots Q (F0 m 1979 ls []) := by
  obtain ⟨n, g, sk, f, n2, g2, sk2, f2, cnt, nx, kr, K, slf, S0, S1, svf, of_, cd, sz, rf, mm, tf, df, kf, ikf, nf, sf, hP, hD, hI, hkr, hq0, hq1⟩ := hA
  have h_n : n ≤ 16 := hI.1.2.1
  have h_sz : sz ≤ 60 := hI.2.2.2.1
  have h_cd : ∀ j_, cd j_ < 256 := hI.2.2.2.2.1
  have h_cnt : cnt ≤ 14 := hI.2.2.2.2.2.1
  by_cases h_1 : 0 ≤ (xs (i + 1)).toInt ∧ (xs (i + 1)).toInt < ((2 : Nat) : Int)
  ·
    obtain ⟨u, e_1, h_uu⟩ := nat_lt h_1
    rcases (show u = 0 ∨ u = 1 by omega) with rfl | rfl
    ·
      by_cases h_e : svf 0 = 0
      ·
        exact k30_s0 l hst G CX x tx ch h hc tr trc hi ka sl s0 s0c s1 s1c sv ot M mt mn mtr md mk mik na so kh kc i h_i cells slots h_ce h_sl n g sk f n2 g2 sk2 f2 cnt nx kr K slf S0 S1 svf of_ cd sz rf mm tf df kf ikf nf sf H locs hP hD hS hI hkr hq0 hq1 ls hl e_1 h_e kk
      ·
        exact k30_ok0 l hst G CX x tx ch h hc tr trc hi ka sl s0 s0c s1 s1c sv ot M mt mn mtr md mk mik na so kh kc i h_i cells slots h_ce h_sl n g sk f n2 g2 sk2 f2 cnt nx kr K slf S0 S1 svf of_ cd sz rf mm tf df kf ikf nf sf H locs hP hD hS hI hkr hq0 hq1 ls hl e_1 h_e kk
    ·
      by_cases h_e : svf 1 = 0
      ·
        exact k30_s1 l hst G CX x tx ch h hc tr trc hi ka sl s0 s0c s1 s1c sv ot M mt mn mtr md mk mik na so kh kc i h_i cells slots h_ce h_sl n g sk f n2 g2 sk2 f2 cnt nx kr K slf S0 S1 svf of_ cd sz rf mm tf df kf ikf nf sf H locs hP hD hS hI hkr hq0 hq1 ls hl e_1 h_e kk
      ·
        exact k30_ok1 l hst G CX x tx ch h hc tr trc hi ka sl s0 s0c s1 s1c sv ot M mt mn mtr md mk mik na so kh kc i h_i cells slots h_ce h_sl n g sk f n2 g2 sk2 f2 cnt nx kr K slf S0 S1 svf of_ cd sz rf mm tf df kf ikf nf sf H locs hP hD hS hI hkr hq0 hq1 ls hl e_1 h_e kk
  ·
    exact k30_u l hst G CX x tx ch h hc tr trc hi ka sl s0 s0c s1 s1c sv ot M mt mn mtr md mk mik na so kh kc i h_i cells slots h_ce h_sl n g sk f n2 g2 sk2 f2 cnt nx kr K slf S0 S1 svf of_ cd sz rf mm tf df kf ikf nf sf H locs hP hD hS hI hkr hq0 hq1 ls hl (xs (i + 1)) rfl h_1 kk
