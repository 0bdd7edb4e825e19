set_option maxRecDepth 100000 in
set_option maxHeartbeats 4000000 in
theorem lw_op16 {p : Program} {l : Launch} {e : Env} {s : State} {m : MethodId} {args : Array Value} {below : List Frame} {meth : Method} {c : Code} {H : Heap} {locs : List Loc} {cells slots : Nat} {Q : State → Prop} {b L : Nat} {xs : Nat → Int32} {X Y : pgX} {cJ cD aJ aD : Nat} (hC : lwK l p s m c args b L xs X Y cJ cD) {i : Nat} (hi : i + 5 ≤ L) {S : pgS} {t : Int} {f : Nat → Int64} {g : Nat → UInt64} (hG : lwG s X Y cJ aJ cD aD S t f g H locs) (hce : cells + 1 ≤ 1047 ∧ slots + 6 ≤ 8369) {ls : Array Slot} (hl : lv_has ls 9 (lwB b X Y aJ aD i)) (kk : ∀ (S1 : pgS) (t1 : Int) (f1 : Nat → Int64) (g1 : Nat → UInt64) (H1 : Heap) (locs1 : List Loc) (ls1 : Array Slot), lwG s X Y cJ aJ cD aD S1 t1 f1 g1 H1 locs1 → lv_has ls1 9 (lwB b X Y aJ aD i) → W p l e room_1 s m args below meth c H1 locs1 (cells + 1) (slots + 6) Q (F0 m 2002 ls1 [])) : W p l e room_1 s m args below meth c H locs cells slots Q (F0 m 1277 ls []) := by
  obtain ⟨SC, hfl, hX, hbl, hL, hYX, hKJ, hKD, hKY, hE, hN⟩ := id hC
  obtain ⟨hx, hb, hml, hown, hts⟩ := id SC
  obtain ⟨hP, hD, hS, hok⟩ := id hG
  have hKX : va_K (xG X) vwCl (xTy X) s := va_K.sub hKJ [0, 1] rfl
  have hbA : ¬ s.heap.size ≤ b := by omega
  have hc0 : cells ≤ 1047 ∧ slots ≤ 8369 := by omega
  have hl : lv_has ls 9 [(0, .ref b), (1, .ref ((xa X 0))), (2, .ref ((xa Y 0))), (3, .ref aJ), (4, .ref aD), (5, .int (iI ((i : Int))))] := hl
  obtain ⟨v1, hv1, hq1⟩ : ∃ v : Int, xs (i + 1) = iI v ∧ inI v := ⟨_, iI_self _, inI_self _⟩
  obtain ⟨v2, hv2, hq2⟩ : ∃ v : Int, xs (i + 2) = iI v ∧ inI v := ⟨_, iI_self _, inI_self _⟩
  obtain ⟨q, hq⟩ : ∃ z : Int, (v2 = 0 ∧ z = 0) ∨ (v2 ≠ 0 ∧ z = 1) := by
    by_cases hz : v2 = 0
    · exact ⟨0, Or.inl ⟨hz, rfl⟩⟩
    · exact ⟨1, Or.inr ⟨hz, rfl⟩⟩
  have hiq : inI q := ⟨by omega, by omega⟩
  by_cases h1 : v1 < 0 ∨ 32768 ≤ v1
  · refine lv_aload_n hx hb dL_law_1277 rfl (lv_at hl 1 rfl) ?_
    refine lw_sc (j := i + 1) (v := v1) hx hb hX hbl hbA hS (lv_at hl 0 rfl) (lv_at hl 5 rfl) (by omega) (by omega) hL hv1 dL_law_1278 dL_law_1279 dL_law_1281 dL_law_1282 dL_law_1283 ?_
    refine lw_sc (j := i + 2) (v := v2) hx hb hX hbl hbA hS (lv_at hl 0 rfl) (lv_at hl 5 rfl) (by omega) (by omega) hL hv2 dL_law_1284 dL_law_1285 dL_law_1287 dL_law_1288 dL_law_1289 ?_
    refine lw_bool (b := q) hx hb (by omega) hq dL_law_1290 dL_law_1293 dL_law_1294 dL_law_1297 ?_
    refine lv_aload_n hx hb dL_law_1298 rfl (lv_at hl 3 rfl) ?_
    refine pg_wcallH (As := [.ref ((xa X 0)), .int (iI v1), .int (iI q), .ref aJ]) (rest := []) (l1 := []) (l2 := lwW X Y S S t (lwJ aJ cJ f) (lwD aD cD g)) (w := []) (w' := []) SC (c_L_rootBits_1 l hfl s.heap.size X S v1 hq1 h1 q aJ) xW_st (lw_xW hKX hP hS hE hN) (vx_cwSW 4 hts gL_law_L_rootBits rfl rfl rfl (by decide +kernel) ⟨Nat.le_of_ble_eq_true rfl, Nat.le_of_ble_eq_true rfl⟩) (va_K.sub hKX [] rfl) hP hD hS rfl rfl hl.1 rfl (Nat.le_of_ble_eq_true rfl) dL_law_1299 ⟨hce.1, hce.2⟩ (fun H locs hP hD hS => ?_)
    have hP : va_P (xG X) vwCl (lwW X Y S S t (lwJ aJ cJ f) (lwD aD cD g)) H := hP
    have hD : va_D (fun q => s.heap.size ≤ q) (lwW X Y S S t (lwJ aJ cJ f) (lwD aD cD g)) := hD
    refine lv_istore (lv' := [(6, .int (iI 1)), (0, .ref b), (1, .ref ((xa X 0))), (2, .ref ((xa Y 0))), (3, .ref aJ), (4, .ref aD), (5, .int (iI ((i : Int))))]) hx hb dL_law_1302 hl (by decide) rfl (fun ls hl => ?_)
    refine lv_aload_n hx hb dL_law_1304 rfl (lv_at hl 3 rfl) ?_
    refine lw_sc (j := i + 1) (v := v1) hx hb hX hbl hbA hS (lv_at hl 1 rfl) (lv_at hl 6 rfl) (by omega) (by omega) hL hv1 dL_law_1305 dL_law_1306 dL_law_1308 dL_law_1309 dL_law_1310 ?_
    refine lw_sc (j := i + 2) (v := v2) hx hb hX hbl hbA hS (lv_at hl 1 rfl) (lv_at hl 6 rfl) (by omega) (by omega) hL hv2 dL_law_1311 dL_law_1312 dL_law_1314 dL_law_1315 dL_law_1316 ?_
    refine lw_bool (b := q) hx hb (by omega) hq dL_law_1317 dL_law_1320 dL_law_1321 dL_law_1324 ?_
    refine pg_wcallV (As := [.int (iI v1), .int (iI q)]) (rest := []) (l1 := (lwJ aJ cJ f) :: (xC X S ++ [(lwD aD cD g)])) (l2 := []) (w := mC Y S t) (w' := mC Y S 1) SC (pg_cY hYX (c_X1_rootBits_1 l Y S t v1 hq1 h1 q)) pT_st pT_h (cwV 2 hts gL_law_X1_rootBits rfl rfl rfl (by decide +kernel) ⟨Nat.le_of_ble_eq_true rfl, Nat.le_of_ble_eq_true rfl⟩) (va_recv hKY hP (ci := 1) (q0 := 7) rfl rfl) hKY hP hD hS rfl rfl hl.1 rfl (Nat.le_of_ble_eq_true rfl) dL_law_1325 ⟨hce.1, hce.2⟩ (fun H locs hP hD hS => ?_)
    have hP : va_P (xG X) vwCl (lwW X Y S S 1 (lwJ aJ cJ f) (lwD aD cD g)) H := hP
    have hD : va_D (fun q => s.heap.size ≤ q) (lwW X Y S S 1 (lwJ aJ cJ f) (lwD aD cD g)) := hD
    refine lv_lstore (lv' := [(7, .long (lI 0)), (6, .int (iI 1)), (0, .ref b), (1, .ref ((xa X 0))), (2, .ref ((xa Y 0))), (3, .ref aJ), (4, .ref aD), (5, .int (iI ((i : Int))))]) hx hb dL_law_1328 hl (by decide) rfl (fun ls hl => ?_)
    refine lv_aload_n hx hb dL_law_1330 rfl (lv_at hl 4 rfl) ?_
    refine pg_callV (As := []) (rest := []) SC (c_X1_thrown l Y S 1) mB_st (lw_mB hYX hKY hP) (cwV 0 hts gL_law_X1_thrown rfl rfl rfl (by decide +kernel) ⟨Nat.le_of_ble_eq_true rfl, Nat.le_of_ble_eq_true rfl⟩) (va_recv hKY hP (ci := 1) (q0 := 7) rfl rfl) rfl hl.1 rfl (Nat.le_of_ble_eq_true rfl) dL_law_1331 ⟨hce.1, hce.2⟩ ?_
    refine lv_iload hx hb dL_law_1334 (lv_at hl 1 rfl) ?_
    refine lw_same (tgt := 1341) hx hb (⟨by omega, by omega⟩) dL_law_1336 (by decide) ?_
    refine lv_iload hx hb dL_law_1341 (lv_at hl 1 rfl) ?_
    refine pg_if_ne (tgt := 1357) hx hb dL_law_1343 (by decide) (⟨by omega, by omega⟩) (fun _ => ?_) (fun h9 => absurd h9 (by omega))
    refine lv_goto (tgt := 2002) hx hb dL_law_1357 (by decide) ?_
    exact kk S 1 f g H locs ls ⟨hP, hD, hS, hok⟩ (lv_sub hl [2, 3, 4, 5, 6, 7] rfl)
  · obtain ⟨n, rfl⟩ : ∃ z : Nat, v1 = (z : Int) := ⟨v1.toNat, by omega⟩
    obtain ⟨M, hM⟩ : ∃ M : Nat, (q = 0 ∧ M = 16 * n) ∨ (q = 1 ∧ M = 4 * n) := by
      by_cases hz : q = 0
      · exact ⟨16 * n, Or.inl ⟨hz, rfl⟩⟩
      · exact ⟨4 * n, Or.inr ⟨by omega, rfl⟩⟩
    refine lv_aload_n hx hb dL_law_1277 rfl (lv_at hl 1 rfl) ?_
    refine lw_sc (j := i + 1) (v := ((n : Nat) : Int)) hx hb hX hbl hbA hS (lv_at hl 0 rfl) (lv_at hl 5 rfl) (by omega) (by omega) hL hv1 dL_law_1278 dL_law_1279 dL_law_1281 dL_law_1282 dL_law_1283 ?_
    refine lw_sc (j := i + 2) (v := v2) hx hb hX hbl hbA hS (lv_at hl 0 rfl) (lv_at hl 5 rfl) (by omega) (by omega) hL hv2 dL_law_1284 dL_law_1285 dL_law_1287 dL_law_1288 dL_law_1289 ?_
    refine lw_bool (b := q) hx hb (by omega) hq dL_law_1290 dL_law_1293 dL_law_1294 dL_law_1297 ?_
    refine lv_aload_n hx hb dL_law_1298 rfl (lv_at hl 3 rfl) ?_
    refine pg_wcallH (As := [.ref ((xa X 0)), .int (iI (((n : Nat) : Int))), .int (iI q), .ref aJ]) (rest := []) (l1 := []) (l2 := (lwD aD cD g) :: mC Y S t) (w := (lwJ aJ cJ f) :: xC X S) (w' := (lwJ aJ cJ (vp_updL f 0 (lI (((bx M : Nat) : Int))))) :: xC X S) SC (c_L_rootBits_ok l X S n q M (by omega) hiq (by omega) cJ aJ f) pT_st pT_h (vx_cwSW 4 hts gL_law_L_rootBits rfl rfl rfl (by decide +kernel) ⟨Nat.le_of_ble_eq_true rfl, Nat.le_of_ble_eq_true rfl⟩) hKJ hP hD hS rfl rfl hl.1 rfl (Nat.le_of_ble_eq_true rfl) dL_law_1299 ⟨hc0.1, hc0.2⟩ (fun H locs hP hD hS => ?_)
    have hP : va_P (xG X) vwCl (lwW X Y S S t (lwJ aJ cJ (vp_updL f 0 (lI (((bx M : Nat) : Int))))) (lwD aD cD g)) H := hP
    have hD : va_D (fun q => s.heap.size ≤ q) (lwW X Y S S t (lwJ aJ cJ (vp_updL f 0 (lI (((bx M : Nat) : Int))))) (lwD aD cD g)) := hD
    refine lv_istore (lv' := [(6, .int (iI 0)), (0, .ref b), (1, .ref ((xa X 0))), (2, .ref ((xa Y 0))), (3, .ref aJ), (4, .ref aD), (5, .int (iI ((i : Int))))]) hx hb dL_law_1302 hl (by decide) rfl (fun ls hl => ?_)
    refine lv_aload_n hx hb dL_law_1304 rfl (lv_at hl 3 rfl) ?_
    refine lw_sc (j := i + 1) (v := ((n : Nat) : Int)) hx hb hX hbl hbA hS (lv_at hl 1 rfl) (lv_at hl 6 rfl) (by omega) (by omega) hL hv1 dL_law_1305 dL_law_1306 dL_law_1308 dL_law_1309 dL_law_1310 ?_
    refine lw_sc (j := i + 2) (v := v2) hx hb hX hbl hbA hS (lv_at hl 1 rfl) (lv_at hl 6 rfl) (by omega) (by omega) hL hv2 dL_law_1311 dL_law_1312 dL_law_1314 dL_law_1315 dL_law_1316 ?_
    refine lw_bool (b := q) hx hb (by omega) hq dL_law_1317 dL_law_1320 dL_law_1321 dL_law_1324 ?_
    refine pg_wcallV (As := [.int (iI (((n : Nat) : Int))), .int (iI q)]) (rest := []) (l1 := (lwJ aJ cJ (vp_updL f 0 (lI (((bx M : Nat) : Int))))) :: (xC X S ++ [(lwD aD cD g)])) (l2 := []) (w := mC Y S t) (w' := mC Y S 0) SC (pg_cY hYX (c_X1_rootBits_ok l Y S t n q M (by omega) hiq hM)) pT_st pT_h (cwV 2 hts gL_law_X1_rootBits rfl rfl rfl (by decide +kernel) ⟨Nat.le_of_ble_eq_true rfl, Nat.le_of_ble_eq_true rfl⟩) (va_recv hKY hP (ci := 1) (q0 := 7) rfl rfl) hKY hP hD hS rfl rfl hl.1 rfl (Nat.le_of_ble_eq_true rfl) dL_law_1325 ⟨hc0.1, hc0.2⟩ (fun H locs hP hD hS => ?_)
    have hP : va_P (xG X) vwCl (lwW X Y S S 0 (lwJ aJ cJ (vp_updL f 0 (lI (((bx M : Nat) : Int))))) (lwD aD cD g)) H := hP
    have hD : va_D (fun q => s.heap.size ≤ q) (lwW X Y S S 0 (lwJ aJ cJ (vp_updL f 0 (lI (((bx M : Nat) : Int))))) (lwD aD cD g)) := hD
    refine lv_lstore (lv' := [(7, .long (lI (((bx M : Nat) : Int)))), (6, .int (iI 0)), (0, .ref b), (1, .ref ((xa X 0))), (2, .ref ((xa Y 0))), (3, .ref aJ), (4, .ref aD), (5, .int (iI ((i : Int))))]) hx hb dL_law_1328 hl (by decide) rfl (fun ls hl => ?_)
    refine lv_aload_n hx hb dL_law_1330 rfl (lv_at hl 4 rfl) ?_
    refine pg_callV (As := []) (rest := []) SC (c_X1_thrown l Y S 0) mB_st (lw_mB hYX hKY hP) (cwV 0 hts gL_law_X1_thrown rfl rfl rfl (by decide +kernel) ⟨Nat.le_of_ble_eq_true rfl, Nat.le_of_ble_eq_true rfl⟩) (va_recv hKY hP (ci := 1) (q0 := 7) rfl rfl) rfl hl.1 rfl (Nat.le_of_ble_eq_true rfl) dL_law_1331 ⟨hc0.1, hc0.2⟩ ?_
    refine lv_iload hx hb dL_law_1334 (lv_at hl 1 rfl) ?_
    refine lw_same (tgt := 1341) hx hb (⟨by omega, by omega⟩) dL_law_1336 (by decide) ?_
    refine lv_iload hx hb dL_law_1341 (lv_at hl 1 rfl) ?_
    refine pg_if_ne (tgt := 1357) hx hb dL_law_1343 (by decide) (⟨by omega, by omega⟩) (fun h9 => absurd rfl h9) (fun _ => ?_)
    refine lv_aload_n hx hb dL_law_1346 rfl (lv_at hl 5 rfl) ?_
    refine lv_iconst (v := iI 0) hx hb dL_law_1347 rfl ?_
    refine pg_lld0 hx hb hKJ hP 0 2 rfl rfl dL_law_1348 ?_
    refine lv_lload hx hb dL_law_1349 (lv_at hl 0 rfl) ?_
    refine lw_leq (tgt := 1357) hx hb rfl dL_law_1351 dL_law_1352 (by decide) ?_
    refine lv_goto (tgt := 2002) hx hb dL_law_1357 (by decide) ?_
    exact pg_widen (Nat.le_succ _) (Nat.le_add_right _ 6) (kk S 0 ((vp_updL f 0 (lI (((bx M : Nat) : Int))))) g H locs ls ⟨hP, hD, hS, hok⟩ (lv_sub hl [2, 3, 4, 5, 6, 7] rfl))
set_option maxRecDepth 100000 in
set_option maxHeartbeats 4000000 in
theorem lw_op17 {p : Program} {l : Launch} {e : Env} {s : State} {m : MethodId} {args : Array Value} {below : List Frame} {meth : Method} {c : Code} {H : Heap} {locs : List Loc} {cells slots : Nat} {Q : State → Prop} {b L : Nat} {xs : Nat → Int32} {X Y : pgX} {cJ cD aJ aD : Nat} (hC : lwK l p s m c args b L xs X Y cJ cD) {i : Nat} (hi : i + 5 ≤ L) {S : pgS} {t : Int} {f : Nat → Int64} {g : Nat → UInt64} (hG : lwG s X Y cJ aJ cD aD S t f g H locs) (hce : cells + 1 ≤ 1047 ∧ slots + 6 ≤ 8369) {ls : Array Slot} (hl : lv_has ls 9 (lwB b X Y aJ aD i)) (kk : ∀ (S1 : pgS) (t1 : Int) (f1 : Nat → Int64) (g1 : Nat → UInt64) (H1 : Heap) (locs1 : List Loc) (ls1 : Array Slot), lwG s X Y cJ aJ cD aD S1 t1 f1 g1 H1 locs1 → lv_has ls1 9 (lwB b X Y aJ aD i) → W p l e room_1 s m args below meth c H1 locs1 (cells + 1) (slots + 6) Q (F0 m 2002 ls1 [])) : W p l e room_1 s m args below meth c H locs cells slots Q (F0 m 1360 ls []) := by
  obtain ⟨SC, hfl, hX, hbl, hL, hYX, hKJ, hKD, hKY, hE, hN⟩ := id hC
  obtain ⟨hx, hb, hml, hown, hts⟩ := id SC
  obtain ⟨hP, hD, hS, hok⟩ := id hG
  have hKX : va_K (xG X) vwCl (xTy X) s := va_K.sub hKJ [0, 1] rfl
  have hbA : ¬ s.heap.size ≤ b := by omega
  have hc0 : cells ≤ 1047 ∧ slots ≤ 8369 := by omega
  have hl : lv_has ls 9 [(0, .ref b), (1, .ref ((xa X 0))), (2, .ref ((xa Y 0))), (3, .ref aJ), (4, .ref aD), (5, .int (iI ((i : Int))))] := hl
  obtain ⟨v1, hv1, hq1⟩ : ∃ v : Int, xs (i + 1) = iI v ∧ inI v := ⟨_, iI_self _, inI_self _⟩
  obtain ⟨v2, hv2, hq2⟩ : ∃ v : Int, xs (i + 2) = iI v ∧ inI v := ⟨_, iI_self _, inI_self _⟩
  obtain ⟨q, hq⟩ : ∃ z : Int, (v2 = 0 ∧ z = 0) ∨ (v2 ≠ 0 ∧ z = 1) := by
    by_cases hz : v2 = 0
    · exact ⟨0, Or.inl ⟨hz, rfl⟩⟩
    · exact ⟨1, Or.inr ⟨hz, rfl⟩⟩
  have hiq : inI q := ⟨by omega, by omega⟩
  by_cases h1 : v1 < 0 ∨ 32768 ≤ v1
  · refine lv_aload_n hx hb dL_law_1360 rfl (lv_at hl 1 rfl) ?_
    refine lw_sc (j := i + 1) (v := v1) hx hb hX hbl hbA hS (lv_at hl 0 rfl) (lv_at hl 5 rfl) (by omega) (by omega) hL hv1 dL_law_1361 dL_law_1362 dL_law_1364 dL_law_1365 dL_law_1366 ?_
    refine lw_sc (j := i + 2) (v := v2) hx hb hX hbl hbA hS (lv_at hl 0 rfl) (lv_at hl 5 rfl) (by omega) (by omega) hL hv2 dL_law_1367 dL_law_1368 dL_law_1370 dL_law_1371 dL_law_1372 ?_
    refine lw_bool (b := q) hx hb (by omega) hq dL_law_1373 dL_law_1376 dL_law_1377 dL_law_1380 ?_
    refine lv_aload_n hx hb dL_law_1381 rfl (lv_at hl 3 rfl) ?_
    refine pg_wcallH (As := [.ref ((xa X 0)), .int (iI v1), .int (iI q), .ref aJ]) (rest := []) (l1 := []) (l2 := lwW X Y S S t (lwJ aJ cJ f) (lwD aD cD g)) (w := []) (w' := []) SC (c_L_rootGrains_1 l hfl s.heap.size X S v1 hq1 h1 q aJ) xW_st (lw_xW hKX hP hS hE hN) (vx_cwSW 4 hts gL_law_L_rootGrains rfl rfl rfl (by decide +kernel) ⟨Nat.le_of_ble_eq_true rfl, Nat.le_of_ble_eq_true rfl⟩) (va_K.sub hKX [] rfl) hP hD hS rfl rfl hl.1 rfl (Nat.le_of_ble_eq_true rfl) dL_law_1382 ⟨hce.1, hce.2⟩ (fun H locs hP hD hS => ?_)
    have hP : va_P (xG X) vwCl (lwW X Y S S t (lwJ aJ cJ f) (lwD aD cD g)) H := hP
    have hD : va_D (fun q => s.heap.size ≤ q) (lwW X Y S S t (lwJ aJ cJ f) (lwD aD cD g)) := hD
    refine lv_istore (lv' := [(6, .int (iI 1)), (0, .ref b), (1, .ref ((xa X 0))), (2, .ref ((xa Y 0))), (3, .ref aJ), (4, .ref aD), (5, .int (iI ((i : Int))))]) hx hb dL_law_1385 hl (by decide) rfl (fun ls hl => ?_)
    refine lv_aload_n hx hb dL_law_1387 rfl (lv_at hl 3 rfl) ?_
    refine lw_sc (j := i + 1) (v := v1) hx hb hX hbl hbA hS (lv_at hl 1 rfl) (lv_at hl 6 rfl) (by omega) (by omega) hL hv1 dL_law_1388 dL_law_1389 dL_law_1391 dL_law_1392 dL_law_1393 ?_
    refine lw_sc (j := i + 2) (v := v2) hx hb hX hbl hbA hS (lv_at hl 1 rfl) (lv_at hl 6 rfl) (by omega) (by omega) hL hv2 dL_law_1394 dL_law_1395 dL_law_1397 dL_law_1398 dL_law_1399 ?_
    refine lw_bool (b := q) hx hb (by omega) hq dL_law_1400 dL_law_1403 dL_law_1404 dL_law_1407 ?_
    refine pg_wcallV (As := [.int (iI v1), .int (iI q)]) (rest := []) (l1 := (lwJ aJ cJ f) :: (xC X S ++ [(lwD aD cD g)])) (l2 := []) (w := mC Y S t) (w' := mC Y S 1) SC (pg_cY hYX (c_X1_rootGrains_1 l Y S t v1 hq1 h1 q)) pT_st pT_h (cwV 2 hts gL_law_X1_rootGrains rfl rfl rfl (by decide +kernel) ⟨Nat.le_of_ble_eq_true rfl, Nat.le_of_ble_eq_true rfl⟩) (va_recv hKY hP (ci := 1) (q0 := 7) rfl rfl) hKY hP hD hS rfl rfl hl.1 rfl (Nat.le_of_ble_eq_true rfl) dL_law_1408 ⟨hce.1, hce.2⟩ (fun H locs hP hD hS => ?_)
    have hP : va_P (xG X) vwCl (lwW X Y S S 1 (lwJ aJ cJ f) (lwD aD cD g)) H := hP
    have hD : va_D (fun q => s.heap.size ≤ q) (lwW X Y S S 1 (lwJ aJ cJ f) (lwD aD cD g)) := hD
    refine lv_istore (lv' := [(7, .int (iI 0)), (6, .int (iI 1)), (0, .ref b), (1, .ref ((xa X 0))), (2, .ref ((xa Y 0))), (3, .ref aJ), (4, .ref aD), (5, .int (iI ((i : Int))))]) hx hb dL_law_1411 hl (by decide) rfl (fun ls hl => ?_)
    refine lv_aload_n hx hb dL_law_1413 rfl (lv_at hl 4 rfl) ?_
    refine pg_callV (As := []) (rest := []) SC (c_X1_thrown l Y S 1) mB_st (lw_mB hYX hKY hP) (cwV 0 hts gL_law_X1_thrown rfl rfl rfl (by decide +kernel) ⟨Nat.le_of_ble_eq_true rfl, Nat.le_of_ble_eq_true rfl⟩) (va_recv hKY hP (ci := 1) (q0 := 7) rfl rfl) rfl hl.1 rfl (Nat.le_of_ble_eq_true rfl) dL_law_1414 ⟨hce.1, hce.2⟩ ?_
    refine lv_iload hx hb dL_law_1417 (lv_at hl 1 rfl) ?_
    refine lw_same (tgt := 1424) hx hb (⟨by omega, by omega⟩) dL_law_1419 (by decide) ?_
    refine lv_iload hx hb dL_law_1424 (lv_at hl 1 rfl) ?_
    refine pg_if_ne (tgt := 1441) hx hb dL_law_1426 (by decide) (⟨by omega, by omega⟩) (fun _ => ?_) (fun h9 => absurd h9 (by omega))
    refine lv_goto (tgt := 2002) hx hb dL_law_1441 (by decide) ?_
    exact kk S 1 f g H locs ls ⟨hP, hD, hS, hok⟩ (lv_sub hl [2, 3, 4, 5, 6, 7] rfl)
  · obtain ⟨n, rfl⟩ : ∃ z : Nat, v1 = (z : Int) := ⟨v1.toNat, by omega⟩
    obtain ⟨M, hM⟩ : ∃ M : Nat, (q = 0 ∧ M = 16 * n) ∨ (q = 1 ∧ M = 4 * n) := by
      by_cases hz : q = 0
      · exact ⟨16 * n, Or.inl ⟨hz, rfl⟩⟩
      · exact ⟨4 * n, Or.inr ⟨by omega, rfl⟩⟩
    have hgb := gr_lt (M := M) (by omega)
    refine lv_aload_n hx hb dL_law_1360 rfl (lv_at hl 1 rfl) ?_
    refine lw_sc (j := i + 1) (v := ((n : Nat) : Int)) hx hb hX hbl hbA hS (lv_at hl 0 rfl) (lv_at hl 5 rfl) (by omega) (by omega) hL hv1 dL_law_1361 dL_law_1362 dL_law_1364 dL_law_1365 dL_law_1366 ?_
    refine lw_sc (j := i + 2) (v := v2) hx hb hX hbl hbA hS (lv_at hl 0 rfl) (lv_at hl 5 rfl) (by omega) (by omega) hL hv2 dL_law_1367 dL_law_1368 dL_law_1370 dL_law_1371 dL_law_1372 ?_
    refine lw_bool (b := q) hx hb (by omega) hq dL_law_1373 dL_law_1376 dL_law_1377 dL_law_1380 ?_
    refine lv_aload_n hx hb dL_law_1381 rfl (lv_at hl 3 rfl) ?_
    refine pg_wcallH (As := [.ref ((xa X 0)), .int (iI (((n : Nat) : Int))), .int (iI q), .ref aJ]) (rest := []) (l1 := []) (l2 := (lwD aD cD g) :: mC Y S t) (w := (lwJ aJ cJ f) :: xC X S) (w' := (lwJ aJ cJ (vp_updL f 0 (lI (((gr M : Nat) : Int))))) :: xC X S) SC (c_L_rootGrains_ok l X S n q M (by omega) hiq (by omega) cJ aJ f) pT_st pT_h (vx_cwSW 4 hts gL_law_L_rootGrains rfl rfl rfl (by decide +kernel) ⟨Nat.le_of_ble_eq_true rfl, Nat.le_of_ble_eq_true rfl⟩) hKJ hP hD hS rfl rfl hl.1 rfl (Nat.le_of_ble_eq_true rfl) dL_law_1382 ⟨hc0.1, hc0.2⟩ (fun H locs hP hD hS => ?_)
    have hP : va_P (xG X) vwCl (lwW X Y S S t (lwJ aJ cJ (vp_updL f 0 (lI (((gr M : Nat) : Int))))) (lwD aD cD g)) H := hP
    have hD : va_D (fun q => s.heap.size ≤ q) (lwW X Y S S t (lwJ aJ cJ (vp_updL f 0 (lI (((gr M : Nat) : Int))))) (lwD aD cD g)) := hD
    refine lv_istore (lv' := [(6, .int (iI 0)), (0, .ref b), (1, .ref ((xa X 0))), (2, .ref ((xa Y 0))), (3, .ref aJ), (4, .ref aD), (5, .int (iI ((i : Int))))]) hx hb dL_law_1385 hl (by decide) rfl (fun ls hl => ?_)
    refine lv_aload_n hx hb dL_law_1387 rfl (lv_at hl 3 rfl) ?_
    refine lw_sc (j := i + 1) (v := ((n : Nat) : Int)) hx hb hX hbl hbA hS (lv_at hl 1 rfl) (lv_at hl 6 rfl) (by omega) (by omega) hL hv1 dL_law_1388 dL_law_1389 dL_law_1391 dL_law_1392 dL_law_1393 ?_
    refine lw_sc (j := i + 2) (v := v2) hx hb hX hbl hbA hS (lv_at hl 1 rfl) (lv_at hl 6 rfl) (by omega) (by omega) hL hv2 dL_law_1394 dL_law_1395 dL_law_1397 dL_law_1398 dL_law_1399 ?_
    refine lw_bool (b := q) hx hb (by omega) hq dL_law_1400 dL_law_1403 dL_law_1404 dL_law_1407 ?_
    refine pg_wcallV (As := [.int (iI (((n : Nat) : Int))), .int (iI q)]) (rest := []) (l1 := (lwJ aJ cJ (vp_updL f 0 (lI (((gr M : Nat) : Int))))) :: (xC X S ++ [(lwD aD cD g)])) (l2 := []) (w := mC Y S t) (w' := mC Y S 0) SC (pg_cY hYX (c_X1_rootGrains_ok l Y S t n q M (by omega) hiq hM)) pT_st pT_h (cwV 2 hts gL_law_X1_rootGrains rfl rfl rfl (by decide +kernel) ⟨Nat.le_of_ble_eq_true rfl, Nat.le_of_ble_eq_true rfl⟩) (va_recv hKY hP (ci := 1) (q0 := 7) rfl rfl) hKY hP hD hS rfl rfl hl.1 rfl (Nat.le_of_ble_eq_true rfl) dL_law_1408 ⟨hc0.1, hc0.2⟩ (fun H locs hP hD hS => ?_)
    have hP : va_P (xG X) vwCl (lwW X Y S S 0 (lwJ aJ cJ (vp_updL f 0 (lI (((gr M : Nat) : Int))))) (lwD aD cD g)) H := hP
    have hD : va_D (fun q => s.heap.size ≤ q) (lwW X Y S S 0 (lwJ aJ cJ (vp_updL f 0 (lI (((gr M : Nat) : Int))))) (lwD aD cD g)) := hD
    refine lv_istore (lv' := [(7, .int (iI (((gr M : Nat) : Int)))), (6, .int (iI 0)), (0, .ref b), (1, .ref ((xa X 0))), (2, .ref ((xa Y 0))), (3, .ref aJ), (4, .ref aD), (5, .int (iI ((i : Int))))]) hx hb dL_law_1411 hl (by decide) rfl (fun ls hl => ?_)
    refine lv_aload_n hx hb dL_law_1413 rfl (lv_at hl 4 rfl) ?_
    refine pg_callV (As := []) (rest := []) SC (c_X1_thrown l Y S 0) mB_st (lw_mB hYX hKY hP) (cwV 0 hts gL_law_X1_thrown rfl rfl rfl (by decide +kernel) ⟨Nat.le_of_ble_eq_true rfl, Nat.le_of_ble_eq_true rfl⟩) (va_recv hKY hP (ci := 1) (q0 := 7) rfl rfl) rfl hl.1 rfl (Nat.le_of_ble_eq_true rfl) dL_law_1414 ⟨hc0.1, hc0.2⟩ ?_
    refine lv_iload hx hb dL_law_1417 (lv_at hl 1 rfl) ?_
    refine lw_same (tgt := 1424) hx hb (⟨by omega, by omega⟩) dL_law_1419 (by decide) ?_
    refine lv_iload hx hb dL_law_1424 (lv_at hl 1 rfl) ?_
    refine pg_if_ne (tgt := 1441) hx hb dL_law_1426 (by decide) (⟨by omega, by omega⟩) (fun h9 => absurd rfl h9) (fun _ => ?_)
    refine lv_aload_n hx hb dL_law_1429 rfl (lv_at hl 5 rfl) ?_
    refine lv_iconst (v := iI 0) hx hb dL_law_1430 rfl ?_
    refine pg_lld0 hx hb hKJ hP 0 2 rfl rfl dL_law_1431 ?_
    refine lv_iload hx hb dL_law_1432 (lv_at hl 0 rfl) ?_
    refine pg_i2l hx hb dL_law_1434 (⟨by omega, by omega⟩) ?_
    refine lw_leq (tgt := 1441) hx hb rfl dL_law_1435 dL_law_1436 (by decide) ?_
    refine lv_goto (tgt := 2002) hx hb dL_law_1441 (by decide) ?_
    exact pg_widen (Nat.le_succ _) (Nat.le_add_right _ 6) (kk S 0 ((vp_updL f 0 (lI (((gr M : Nat) : Int))))) g H locs ls ⟨hP, hD, hS, hok⟩ (lv_sub hl [2, 3, 4, 5, 6, 7] rfl))
set_option maxRecDepth 100000 in
set_option maxHeartbeats 4000000 in
theorem lw_op18 {p : Program} {l : Launch} {e : Env} {s : State} {m : MethodId} {args : Array Value} {below : List Frame} {meth : Method} {c : Code} {H : Heap} {locs : List Loc} {cells slots : Nat} {Q : State → Prop} {b L : Nat} {xs : Nat → Int32} {X Y : pgX} {cJ cD aJ aD : Nat} (hC : lwK l p s m c args b L xs X Y cJ cD) {i : Nat} (hi : i + 5 ≤ L) {S : pgS} {t : Int} {f : Nat → Int64} {g : Nat → UInt64} (hG : lwG s X Y cJ aJ cD aD S t f g H locs) (hce : cells + 1 ≤ 1047 ∧ slots + 6 ≤ 8369) {ls : Array Slot} (hl : lv_has ls 9 (lwB b X Y aJ aD i)) (kk : ∀ (S1 : pgS) (t1 : Int) (f1 : Nat → Int64) (g1 : Nat → UInt64) (H1 : Heap) (locs1 : List Loc) (ls1 : Array Slot), lwG s X Y cJ aJ cD aD S1 t1 f1 g1 H1 locs1 → lv_has ls1 9 (lwB b X Y aJ aD i) → W p l e room_1 s m args below meth c H1 locs1 (cells + 1) (slots + 6) Q (F0 m 2002 ls1 [])) : W p l e room_1 s m args below meth c H locs cells slots Q (F0 m 1444 ls []) := by
  obtain ⟨SC, hfl, hX, hbl, hL, hYX, hKJ, hKD, hKY, hE, hN⟩ := id hC
  obtain ⟨hx, hb, hml, hown, hts⟩ := id SC
  obtain ⟨hP, hD, hS, hok⟩ := id hG
  have hKX : va_K (xG X) vwCl (xTy X) s := va_K.sub hKJ [0, 1] rfl
  have hbA : ¬ s.heap.size ≤ b := by omega
  have hc0 : cells ≤ 1047 ∧ slots ≤ 8369 := by omega
  have hl : lv_has ls 9 [(0, .ref b), (1, .ref ((xa X 0))), (2, .ref ((xa Y 0))), (3, .ref aJ), (4, .ref aD), (5, .int (iI ((i : Int))))] := hl
  obtain ⟨v1, hv1, hq1⟩ : ∃ v : Int, xs (i + 1) = iI v ∧ inI v := ⟨_, iI_self _, inI_self _⟩
  by_cases h1 : v1 < 0 ∨ 32768 ≤ v1
  · refine lv_aload_n hx hb dL_law_1444 rfl (lv_at hl 1 rfl) ?_
    refine lw_sc (j := i + 1) (v := v1) hx hb hX hbl hbA hS (lv_at hl 0 rfl) (lv_at hl 5 rfl) (by omega) (by omega) hL hv1 dL_law_1445 dL_law_1446 dL_law_1448 dL_law_1449 dL_law_1450 ?_
    refine lv_aload_n hx hb dL_law_1451 rfl (lv_at hl 3 rfl) ?_
    refine pg_wcallH (As := [.ref ((xa X 0)), .int (iI v1), .ref aJ]) (rest := []) (l1 := []) (l2 := lwW X Y S S t (lwJ aJ cJ f) (lwD aD cD g)) (w := []) (w' := []) SC (c_L_wholeRoot_1 l hfl s.heap.size X S v1 hq1 h1 aJ) xW_st (lw_xW hKX hP hS hE hN) (vx_cwSW 3 hts gL_law_L_wholeRoot rfl rfl rfl (by decide +kernel) ⟨Nat.le_of_ble_eq_true rfl, Nat.le_of_ble_eq_true rfl⟩) (va_K.sub hKX [] rfl) hP hD hS rfl rfl hl.1 rfl (Nat.le_of_ble_eq_true rfl) dL_law_1452 ⟨hce.1, hce.2⟩ (fun H locs hP hD hS => ?_)
    have hP : va_P (xG X) vwCl (lwW X Y S S t (lwJ aJ cJ f) (lwD aD cD g)) H := hP
    have hD : va_D (fun q => s.heap.size ≤ q) (lwW X Y S S t (lwJ aJ cJ f) (lwD aD cD g)) := hD
    refine lv_istore (lv' := [(6, .int (iI 1)), (0, .ref b), (1, .ref ((xa X 0))), (2, .ref ((xa Y 0))), (3, .ref aJ), (4, .ref aD), (5, .int (iI ((i : Int))))]) hx hb dL_law_1455 hl (by decide) rfl (fun ls hl => ?_)
    refine lv_aload_n hx hb dL_law_1457 rfl (lv_at hl 3 rfl) ?_
    refine lw_sc (j := i + 1) (v := v1) hx hb hX hbl hbA hS (lv_at hl 1 rfl) (lv_at hl 6 rfl) (by omega) (by omega) hL hv1 dL_law_1458 dL_law_1459 dL_law_1461 dL_law_1462 dL_law_1463 ?_
    refine pg_wcallV (As := [.int (iI v1)]) (rest := []) (l1 := (lwJ aJ cJ f) :: (xC X S ++ [(lwD aD cD g)])) (l2 := []) (w := mC Y S t) (w' := mC Y S 1) SC (pg_cY hYX (c_X1_wholeRoot_1 l Y S t v1 hq1 h1)) pT_st pT_h (cwV 1 hts gL_law_X1_wholeRoot rfl rfl rfl (by decide +kernel) ⟨Nat.le_of_ble_eq_true rfl, Nat.le_of_ble_eq_true rfl⟩) (va_recv hKY hP (ci := 1) (q0 := 7) rfl rfl) hKY hP hD hS rfl rfl hl.1 rfl (Nat.le_of_ble_eq_true rfl) dL_law_1464 ⟨hce.1, hce.2⟩ (fun H locs hP hD hS => ?_)
    have hP : va_P (xG X) vwCl (lwW X Y S S 1 (lwJ aJ cJ f) (lwD aD cD g)) H := hP
    have hD : va_D (fun q => s.heap.size ≤ q) (lwW X Y S S 1 (lwJ aJ cJ f) (lwD aD cD g)) := hD
    refine lv_istore (lv' := [(7, .int (iI 0)), (6, .int (iI 1)), (0, .ref b), (1, .ref ((xa X 0))), (2, .ref ((xa Y 0))), (3, .ref aJ), (4, .ref aD), (5, .int (iI ((i : Int))))]) hx hb dL_law_1467 hl (by decide) rfl (fun ls hl => ?_)
    refine lv_aload_n hx hb dL_law_1469 rfl (lv_at hl 4 rfl) ?_
    refine pg_callV (As := []) (rest := []) SC (c_X1_thrown l Y S 1) mB_st (lw_mB hYX hKY hP) (cwV 0 hts gL_law_X1_thrown rfl rfl rfl (by decide +kernel) ⟨Nat.le_of_ble_eq_true rfl, Nat.le_of_ble_eq_true rfl⟩) (va_recv hKY hP (ci := 1) (q0 := 7) rfl rfl) rfl hl.1 rfl (Nat.le_of_ble_eq_true rfl) dL_law_1470 ⟨hce.1, hce.2⟩ ?_
    refine lv_iload hx hb dL_law_1473 (lv_at hl 1 rfl) ?_
    refine lw_same (tgt := 1480) hx hb (⟨by omega, by omega⟩) dL_law_1475 (by decide) ?_
    refine lv_iload hx hb dL_law_1480 (lv_at hl 1 rfl) ?_
    refine pg_if_ne (tgt := 1497) hx hb dL_law_1482 (by decide) (⟨by omega, by omega⟩) (fun _ => ?_) (fun h9 => absurd h9 (by omega))
    refine lv_goto (tgt := 2002) hx hb dL_law_1497 (by decide) ?_
    exact kk S 1 f g H locs ls ⟨hP, hD, hS, hok⟩ (lv_sub hl [2, 3, 4, 5, 6, 7] rfl)
  · obtain ⟨n, rfl⟩ : ∃ z : Nat, v1 = (z : Int) := ⟨v1.toNat, by omega⟩
    have hqb := qs_below (n := n) (b := 256) (by omega)
    refine lv_aload_n hx hb dL_law_1444 rfl (lv_at hl 1 rfl) ?_
    refine lw_sc (j := i + 1) (v := ((n : Nat) : Int)) hx hb hX hbl hbA hS (lv_at hl 0 rfl) (lv_at hl 5 rfl) (by omega) (by omega) hL hv1 dL_law_1445 dL_law_1446 dL_law_1448 dL_law_1449 dL_law_1450 ?_
    refine lv_aload_n hx hb dL_law_1451 rfl (lv_at hl 3 rfl) ?_
    refine pg_wcallH (As := [.ref ((xa X 0)), .int (iI (((n : Nat) : Int))), .ref aJ]) (rest := []) (l1 := []) (l2 := (lwD aD cD g) :: mC Y S t) (w := (lwJ aJ cJ f) :: xC X S) (w' := (lwJ aJ cJ (vp_updL f 0 (lI (((qs n : Nat) : Int))))) :: xC X S) SC (c_L_wholeRoot_ok l X S n (by omega) cJ aJ f) pT_st pT_h (vx_cwSW 3 hts gL_law_L_wholeRoot rfl rfl rfl (by decide +kernel) ⟨Nat.le_of_ble_eq_true rfl, Nat.le_of_ble_eq_true rfl⟩) hKJ hP hD hS rfl rfl hl.1 rfl (Nat.le_of_ble_eq_true rfl) dL_law_1452 ⟨hc0.1, hc0.2⟩ (fun H locs hP hD hS => ?_)
    have hP : va_P (xG X) vwCl (lwW X Y S S t (lwJ aJ cJ (vp_updL f 0 (lI (((qs n : Nat) : Int))))) (lwD aD cD g)) H := hP
    have hD : va_D (fun q => s.heap.size ≤ q) (lwW X Y S S t (lwJ aJ cJ (vp_updL f 0 (lI (((qs n : Nat) : Int))))) (lwD aD cD g)) := hD
    refine lv_istore (lv' := [(6, .int (iI 0)), (0, .ref b), (1, .ref ((xa X 0))), (2, .ref ((xa Y 0))), (3, .ref aJ), (4, .ref aD), (5, .int (iI ((i : Int))))]) hx hb dL_law_1455 hl (by decide) rfl (fun ls hl => ?_)
    refine lv_aload_n hx hb dL_law_1457 rfl (lv_at hl 3 rfl) ?_
    refine lw_sc (j := i + 1) (v := ((n : Nat) : Int)) hx hb hX hbl hbA hS (lv_at hl 1 rfl) (lv_at hl 6 rfl) (by omega) (by omega) hL hv1 dL_law_1458 dL_law_1459 dL_law_1461 dL_law_1462 dL_law_1463 ?_
    refine pg_wcallV (As := [.int (iI (((n : Nat) : Int)))]) (rest := []) (l1 := (lwJ aJ cJ (vp_updL f 0 (lI (((qs n : Nat) : Int))))) :: (xC X S ++ [(lwD aD cD g)])) (l2 := []) (w := mC Y S t) (w' := mC Y S 0) SC (pg_cY hYX (c_X1_wholeRoot_ok l Y S t n (by omega))) pT_st pT_h (cwV 1 hts gL_law_X1_wholeRoot rfl rfl rfl (by decide +kernel) ⟨Nat.le_of_ble_eq_true rfl, Nat.le_of_ble_eq_true rfl⟩) (va_recv hKY hP (ci := 1) (q0 := 7) rfl rfl) hKY hP hD hS rfl rfl hl.1 rfl (Nat.le_of_ble_eq_true rfl) dL_law_1464 ⟨hc0.1, hc0.2⟩ (fun H locs hP hD hS => ?_)
    have hP : va_P (xG X) vwCl (lwW X Y S S 0 (lwJ aJ cJ (vp_updL f 0 (lI (((qs n : Nat) : Int))))) (lwD aD cD g)) H := hP
    have hD : va_D (fun q => s.heap.size ≤ q) (lwW X Y S S 0 (lwJ aJ cJ (vp_updL f 0 (lI (((qs n : Nat) : Int))))) (lwD aD cD g)) := hD
    refine lv_istore (lv' := [(7, .int (iI (((qs n : Nat) : Int)))), (6, .int (iI 0)), (0, .ref b), (1, .ref ((xa X 0))), (2, .ref ((xa Y 0))), (3, .ref aJ), (4, .ref aD), (5, .int (iI ((i : Int))))]) hx hb dL_law_1467 hl (by decide) rfl (fun ls hl => ?_)
    refine lv_aload_n hx hb dL_law_1469 rfl (lv_at hl 4 rfl) ?_
    refine pg_callV (As := []) (rest := []) SC (c_X1_thrown l Y S 0) mB_st (lw_mB hYX hKY hP) (cwV 0 hts gL_law_X1_thrown rfl rfl rfl (by decide +kernel) ⟨Nat.le_of_ble_eq_true rfl, Nat.le_of_ble_eq_true rfl⟩) (va_recv hKY hP (ci := 1) (q0 := 7) rfl rfl) rfl hl.1 rfl (Nat.le_of_ble_eq_true rfl) dL_law_1470 ⟨hc0.1, hc0.2⟩ ?_
    refine lv_iload hx hb dL_law_1473 (lv_at hl 1 rfl) ?_
    refine lw_same (tgt := 1480) hx hb (⟨by omega, by omega⟩) dL_law_1475 (by decide) ?_
    refine lv_iload hx hb dL_law_1480 (lv_at hl 1 rfl) ?_
    refine pg_if_ne (tgt := 1497) hx hb dL_law_1482 (by decide) (⟨by omega, by omega⟩) (fun h9 => absurd rfl h9) (fun _ => ?_)
    refine lv_aload_n hx hb dL_law_1485 rfl (lv_at hl 5 rfl) ?_
    refine lv_iconst (v := iI 0) hx hb dL_law_1486 rfl ?_
    refine pg_lld0 hx hb hKJ hP 0 2 rfl rfl dL_law_1487 ?_
    refine lv_iload hx hb dL_law_1488 (lv_at hl 0 rfl) ?_
    refine pg_i2l hx hb dL_law_1490 (⟨by omega, by omega⟩) ?_
    refine lw_leq (tgt := 1497) hx hb rfl dL_law_1491 dL_law_1492 (by decide) ?_
    refine lv_goto (tgt := 2002) hx hb dL_law_1497 (by decide) ?_
    exact pg_widen (Nat.le_succ _) (Nat.le_add_right _ 6) (kk S 0 ((vp_updL f 0 (lI (((qs n : Nat) : Int))))) g H locs ls ⟨hP, hD, hS, hok⟩ (lv_sub hl [2, 3, 4, 5, 6, 7] rfl))
set_option maxRecDepth 100000 in
set_option maxHeartbeats 4000000 in
theorem lw_op19 {p : Program} {l : Launch} {e : Env} {s : State} {m : MethodId} {args : Array Value} {below : List Frame} {meth : Method} {c : Code} {H : Heap} {locs : List Loc} {cells slots : Nat} {Q : State → Prop} {b L : Nat} {xs : Nat → Int32} {X Y : pgX} {cJ cD aJ aD : Nat} (hC : lwK l p s m c args b L xs X Y cJ cD) {i : Nat} (hi : i + 5 ≤ L) {S : pgS} {t : Int} {f : Nat → Int64} {g : Nat → UInt64} (hG : lwG s X Y cJ aJ cD aD S t f g H locs) (hce : cells + 1 ≤ 1047 ∧ slots + 6 ≤ 8369) {ls : Array Slot} (hl : lv_has ls 9 (lwB b X Y aJ aD i)) (kk : ∀ (S1 : pgS) (t1 : Int) (f1 : Nat → Int64) (g1 : Nat → UInt64) (H1 : Heap) (locs1 : List Loc) (ls1 : Array Slot), lwG s X Y cJ aJ cD aD S1 t1 f1 g1 H1 locs1 → lv_has ls1 9 (lwB b X Y aJ aD i) → W p l e room_1 s m args below meth c H1 locs1 (cells + 1) (slots + 6) Q (F0 m 2002 ls1 [])) : W p l e room_1 s m args below meth c H locs cells slots Q (F0 m 1500 ls []) := by
  obtain ⟨SC, hfl, hX, hbl, hL, hYX, hKJ, hKD, hKY, hE, hN⟩ := id hC
  obtain ⟨hx, hb, hml, hown, hts⟩ := id SC
  obtain ⟨hP, hD, hS, hok⟩ := id hG
  have hKX : va_K (xG X) vwCl (xTy X) s := va_K.sub hKJ [0, 1] rfl
  have hbA : ¬ s.heap.size ≤ b := by omega
  have hc0 : cells ≤ 1047 ∧ slots ≤ 8369 := by omega
  have hl : lv_has ls 9 [(0, .ref b), (1, .ref ((xa X 0))), (2, .ref ((xa Y 0))), (3, .ref aJ), (4, .ref aD), (5, .int (iI ((i : Int))))] := hl
  obtain ⟨v1, hv1, hq1⟩ : ∃ v : Int, xs (i + 1) = iI v ∧ inI v := ⟨_, iI_self _, inI_self _⟩
  obtain ⟨v2, hv2, hq2⟩ : ∃ v : Int, xs (i + 2) = iI v ∧ inI v := ⟨_, iI_self _, inI_self _⟩
  obtain ⟨q, hq⟩ : ∃ z : Int, (v2 = 0 ∧ z = 0) ∨ (v2 ≠ 0 ∧ z = 1) := by
    by_cases hz : v2 = 0
    · exact ⟨0, Or.inl ⟨hz, rfl⟩⟩
    · exact ⟨1, Or.inr ⟨hz, rfl⟩⟩
  have hiq : inI q := ⟨by omega, by omega⟩
  by_cases h1 : v1 < 0 ∨ 32768 ≤ v1
  · refine lv_aload_n hx hb dL_law_1500 rfl (lv_at hl 1 rfl) ?_
    refine lw_sc (j := i + 1) (v := v1) hx hb hX hbl hbA hS (lv_at hl 0 rfl) (lv_at hl 5 rfl) (by omega) (by omega) hL hv1 dL_law_1501 dL_law_1502 dL_law_1504 dL_law_1505 dL_law_1506 ?_
    refine lw_sc (j := i + 2) (v := v2) hx hb hX hbl hbA hS (lv_at hl 0 rfl) (lv_at hl 5 rfl) (by omega) (by omega) hL hv2 dL_law_1507 dL_law_1508 dL_law_1510 dL_law_1511 dL_law_1512 ?_
    refine lw_bool (b := q) hx hb (by omega) hq dL_law_1513 dL_law_1516 dL_law_1517 dL_law_1520 ?_
    refine lv_aload_n hx hb dL_law_1521 rfl (lv_at hl 3 rfl) ?_
    refine pg_wcallH (As := [.ref ((xa X 0)), .int (iI v1), .int (iI q), .ref aJ]) (rest := []) (l1 := []) (l2 := lwW X Y S S t (lwJ aJ cJ f) (lwD aD cD g)) (w := []) (w' := []) SC (c_L_isNearest_1 l hfl s.heap.size X S v1 hq1 h1 q aJ) xW_st (lw_xW hKX hP hS hE hN) (vx_cwSW 4 hts gL_law_L_isNearest rfl rfl rfl (by decide +kernel) ⟨Nat.le_of_ble_eq_true rfl, Nat.le_of_ble_eq_true rfl⟩) (va_K.sub hKX [] rfl) hP hD hS rfl rfl hl.1 rfl (Nat.le_of_ble_eq_true rfl) dL_law_1522 ⟨hce.1, hce.2⟩ (fun H locs hP hD hS => ?_)
    have hP : va_P (xG X) vwCl (lwW X Y S S t (lwJ aJ cJ f) (lwD aD cD g)) H := hP
    have hD : va_D (fun q => s.heap.size ≤ q) (lwW X Y S S t (lwJ aJ cJ f) (lwD aD cD g)) := hD
    refine lv_istore (lv' := [(6, .int (iI 1)), (0, .ref b), (1, .ref ((xa X 0))), (2, .ref ((xa Y 0))), (3, .ref aJ), (4, .ref aD), (5, .int (iI ((i : Int))))]) hx hb dL_law_1525 hl (by decide) rfl (fun ls hl => ?_)
    refine lv_aload_n hx hb dL_law_1527 rfl (lv_at hl 3 rfl) ?_
    refine lw_sc (j := i + 1) (v := v1) hx hb hX hbl hbA hS (lv_at hl 1 rfl) (lv_at hl 6 rfl) (by omega) (by omega) hL hv1 dL_law_1528 dL_law_1529 dL_law_1531 dL_law_1532 dL_law_1533 ?_
    refine lw_sc (j := i + 2) (v := v2) hx hb hX hbl hbA hS (lv_at hl 1 rfl) (lv_at hl 6 rfl) (by omega) (by omega) hL hv2 dL_law_1534 dL_law_1535 dL_law_1537 dL_law_1538 dL_law_1539 ?_
    refine lw_bool (b := q) hx hb (by omega) hq dL_law_1540 dL_law_1543 dL_law_1544 dL_law_1547 ?_
    refine pg_wcallV (As := [.int (iI v1), .int (iI q)]) (rest := []) (l1 := (lwJ aJ cJ f) :: (xC X S ++ [(lwD aD cD g)])) (l2 := []) (w := mC Y S t) (w' := mC Y S 1) SC (pg_cY hYX (c_X1_isNearest_1 l Y S t v1 hq1 h1 q)) pT_st pT_h (cwV 2 hts gL_law_X1_isNearest rfl rfl rfl (by decide +kernel) ⟨Nat.le_of_ble_eq_true rfl, Nat.le_of_ble_eq_true rfl⟩) (va_recv hKY hP (ci := 1) (q0 := 7) rfl rfl) hKY hP hD hS rfl rfl hl.1 rfl (Nat.le_of_ble_eq_true rfl) dL_law_1548 ⟨hce.1, hce.2⟩ (fun H locs hP hD hS => ?_)
    have hP : va_P (xG X) vwCl (lwW X Y S S 1 (lwJ aJ cJ f) (lwD aD cD g)) H := hP
    have hD : va_D (fun q => s.heap.size ≤ q) (lwW X Y S S 1 (lwJ aJ cJ f) (lwD aD cD g)) := hD
    refine lv_istore (lv' := [(7, .int (iI 0)), (6, .int (iI 1)), (0, .ref b), (1, .ref ((xa X 0))), (2, .ref ((xa Y 0))), (3, .ref aJ), (4, .ref aD), (5, .int (iI ((i : Int))))]) hx hb dL_law_1551 hl (by decide) rfl (fun ls hl => ?_)
    refine lv_aload_n hx hb dL_law_1553 rfl (lv_at hl 4 rfl) ?_
    refine pg_callV (As := []) (rest := []) SC (c_X1_thrown l Y S 1) mB_st (lw_mB hYX hKY hP) (cwV 0 hts gL_law_X1_thrown rfl rfl rfl (by decide +kernel) ⟨Nat.le_of_ble_eq_true rfl, Nat.le_of_ble_eq_true rfl⟩) (va_recv hKY hP (ci := 1) (q0 := 7) rfl rfl) rfl hl.1 rfl (Nat.le_of_ble_eq_true rfl) dL_law_1554 ⟨hce.1, hce.2⟩ ?_
    refine lv_iload hx hb dL_law_1557 (lv_at hl 1 rfl) ?_
    refine lw_same (tgt := 1564) hx hb (⟨by omega, by omega⟩) dL_law_1559 (by decide) ?_
    refine lv_iload hx hb dL_law_1564 (lv_at hl 1 rfl) ?_
    refine pg_if_ne (tgt := 1588) hx hb dL_law_1566 (by decide) (⟨by omega, by omega⟩) (fun _ => ?_) (fun h9 => absurd h9 (by omega))
    refine lv_goto (tgt := 2002) hx hb dL_law_1588 (by decide) ?_
    exact kk S 1 f g H locs ls ⟨hP, hD, hS, hok⟩ (lv_sub hl [2, 3, 4, 5, 6, 7] rfl)
  · obtain ⟨n, rfl⟩ : ∃ z : Nat, v1 = (z : Int) := ⟨v1.toNat, by omega⟩
    obtain ⟨M, hM⟩ : ∃ M : Nat, (q = 0 ∧ M = 16 * n) ∨ (q = 1 ∧ M = 4 * n) := by
      by_cases hz : q = 0
      · exact ⟨16 * n, Or.inl ⟨hz, rfl⟩⟩
      · exact ⟨4 * n, Or.inr ⟨by omega, rfl⟩⟩
    refine lv_aload_n hx hb dL_law_1500 rfl (lv_at hl 1 rfl) ?_
    refine lw_sc (j := i + 1) (v := ((n : Nat) : Int)) hx hb hX hbl hbA hS (lv_at hl 0 rfl) (lv_at hl 5 rfl) (by omega) (by omega) hL hv1 dL_law_1501 dL_law_1502 dL_law_1504 dL_law_1505 dL_law_1506 ?_
    refine lw_sc (j := i + 2) (v := v2) hx hb hX hbl hbA hS (lv_at hl 0 rfl) (lv_at hl 5 rfl) (by omega) (by omega) hL hv2 dL_law_1507 dL_law_1508 dL_law_1510 dL_law_1511 dL_law_1512 ?_
    refine lw_bool (b := q) hx hb (by omega) hq dL_law_1513 dL_law_1516 dL_law_1517 dL_law_1520 ?_
    refine lv_aload_n hx hb dL_law_1521 rfl (lv_at hl 3 rfl) ?_
    refine pg_wcallH (As := [.ref ((xa X 0)), .int (iI (((n : Nat) : Int))), .int (iI q), .ref aJ]) (rest := []) (l1 := []) (l2 := (lwD aD cD g) :: mC Y S t) (w := (lwJ aJ cJ f) :: xC X S) (w' := (lwJ aJ cJ (vp_updL f 0 (lI 1))) :: xC X S) SC (c_L_isNearest_ok l X S n q M (by omega) hiq (by omega) cJ aJ f) pT_st pT_h (vx_cwSW 4 hts gL_law_L_isNearest rfl rfl rfl (by decide +kernel) ⟨Nat.le_of_ble_eq_true rfl, Nat.le_of_ble_eq_true rfl⟩) hKJ hP hD hS rfl rfl hl.1 rfl (Nat.le_of_ble_eq_true rfl) dL_law_1522 ⟨hc0.1, hc0.2⟩ (fun H locs hP hD hS => ?_)
    have hP : va_P (xG X) vwCl (lwW X Y S S t (lwJ aJ cJ (vp_updL f 0 (lI 1))) (lwD aD cD g)) H := hP
    have hD : va_D (fun q => s.heap.size ≤ q) (lwW X Y S S t (lwJ aJ cJ (vp_updL f 0 (lI 1))) (lwD aD cD g)) := hD
    refine lv_istore (lv' := [(6, .int (iI 0)), (0, .ref b), (1, .ref ((xa X 0))), (2, .ref ((xa Y 0))), (3, .ref aJ), (4, .ref aD), (5, .int (iI ((i : Int))))]) hx hb dL_law_1525 hl (by decide) rfl (fun ls hl => ?_)
    refine lv_aload_n hx hb dL_law_1527 rfl (lv_at hl 3 rfl) ?_
    refine lw_sc (j := i + 1) (v := ((n : Nat) : Int)) hx hb hX hbl hbA hS (lv_at hl 1 rfl) (lv_at hl 6 rfl) (by omega) (by omega) hL hv1 dL_law_1528 dL_law_1529 dL_law_1531 dL_law_1532 dL_law_1533 ?_
    refine lw_sc (j := i + 2) (v := v2) hx hb hX hbl hbA hS (lv_at hl 1 rfl) (lv_at hl 6 rfl) (by omega) (by omega) hL hv2 dL_law_1534 dL_law_1535 dL_law_1537 dL_law_1538 dL_law_1539 ?_
    refine lw_bool (b := q) hx hb (by omega) hq dL_law_1540 dL_law_1543 dL_law_1544 dL_law_1547 ?_
    refine pg_wcallV (As := [.int (iI (((n : Nat) : Int))), .int (iI q)]) (rest := []) (l1 := (lwJ aJ cJ (vp_updL f 0 (lI 1))) :: (xC X S ++ [(lwD aD cD g)])) (l2 := []) (w := mC Y S t) (w' := mC Y S 0) SC (pg_cY hYX (c_X1_isNearest_ok l Y S t n q (by omega))) pT_st pT_h (cwV 2 hts gL_law_X1_isNearest rfl rfl rfl (by decide +kernel) ⟨Nat.le_of_ble_eq_true rfl, Nat.le_of_ble_eq_true rfl⟩) (va_recv hKY hP (ci := 1) (q0 := 7) rfl rfl) hKY hP hD hS rfl rfl hl.1 rfl (Nat.le_of_ble_eq_true rfl) dL_law_1548 ⟨hc0.1, hc0.2⟩ (fun H locs hP hD hS => ?_)
    have hP : va_P (xG X) vwCl (lwW X Y S S 0 (lwJ aJ cJ (vp_updL f 0 (lI 1))) (lwD aD cD g)) H := hP
    have hD : va_D (fun q => s.heap.size ≤ q) (lwW X Y S S 0 (lwJ aJ cJ (vp_updL f 0 (lI 1))) (lwD aD cD g)) := hD
    refine lv_istore (lv' := [(7, .int (iI 1)), (6, .int (iI 0)), (0, .ref b), (1, .ref ((xa X 0))), (2, .ref ((xa Y 0))), (3, .ref aJ), (4, .ref aD), (5, .int (iI ((i : Int))))]) hx hb dL_law_1551 hl (by decide) rfl (fun ls hl => ?_)
    refine lv_aload_n hx hb dL_law_1553 rfl (lv_at hl 4 rfl) ?_
    refine pg_callV (As := []) (rest := []) SC (c_X1_thrown l Y S 0) mB_st (lw_mB hYX hKY hP) (cwV 0 hts gL_law_X1_thrown rfl rfl rfl (by decide +kernel) ⟨Nat.le_of_ble_eq_true rfl, Nat.le_of_ble_eq_true rfl⟩) (va_recv hKY hP (ci := 1) (q0 := 7) rfl rfl) rfl hl.1 rfl (Nat.le_of_ble_eq_true rfl) dL_law_1554 ⟨hc0.1, hc0.2⟩ ?_
    refine lv_iload hx hb dL_law_1557 (lv_at hl 1 rfl) ?_
    refine lw_same (tgt := 1564) hx hb (⟨by omega, by omega⟩) dL_law_1559 (by decide) ?_
    refine lv_iload hx hb dL_law_1564 (lv_at hl 1 rfl) ?_
    refine pg_if_ne (tgt := 1588) hx hb dL_law_1566 (by decide) (⟨by omega, by omega⟩) (fun h9 => absurd rfl h9) (fun _ => ?_)
    refine lv_aload_n hx hb dL_law_1569 rfl (lv_at hl 5 rfl) ?_
    refine lv_iconst (v := iI 0) hx hb dL_law_1570 rfl ?_
    refine pg_lld0 hx hb hKJ hP 0 2 rfl rfl dL_law_1571 ?_
    refine lv_iload hx hb dL_law_1572 (lv_at hl 0 rfl) ?_
    refine lw_lbool hx hb (by omega) dL_law_1574 dL_law_1577 dL_law_1578 dL_law_1581 ?_
    refine lw_leq (tgt := 1588) hx hb rfl dL_law_1582 dL_law_1583 (by decide) ?_
    refine lv_goto (tgt := 2002) hx hb dL_law_1588 (by decide) ?_
    exact pg_widen (Nat.le_succ _) (Nat.le_add_right _ 6) (kk S 0 ((vp_updL f 0 (lI 1))) g H locs ls ⟨hP, hD, hS, hok⟩ (lv_sub hl [2, 3, 4, 5, 6, 7] rfl))
set_option maxRecDepth 100000 in
set_option maxHeartbeats 4000000 in
theorem lw_op20 {p : Program} {l : Launch} {e : Env} {s : State} {m : MethodId} {args : Array Value} {below : List Frame} {meth : Method} {c : Code} {H : Heap} {locs : List Loc} {cells slots : Nat} {Q : State → Prop} {b L : Nat} {xs : Nat → Int32} {X Y : pgX} {cJ cD aJ aD : Nat} (hC : lwK l p s m c args b L xs X Y cJ cD) {i : Nat} (hi : i + 5 ≤ L) {S : pgS} {t : Int} {f : Nat → Int64} {g : Nat → UInt64} (hG : lwG s X Y cJ aJ cD aD S t f g H locs) (hce : cells + 1 ≤ 1047 ∧ slots + 6 ≤ 8369) {ls : Array Slot} (hl : lv_has ls 9 (lwB b X Y aJ aD i)) (kk : ∀ (S1 : pgS) (t1 : Int) (f1 : Nat → Int64) (g1 : Nat → UInt64) (H1 : Heap) (locs1 : List Loc) (ls1 : Array Slot), lwG s X Y cJ aJ cD aD S1 t1 f1 g1 H1 locs1 → lv_has ls1 9 (lwB b X Y aJ aD i) → W p l e room_1 s m args below meth c H1 locs1 (cells + 1) (slots + 6) Q (F0 m 2002 ls1 [])) : W p l e room_1 s m args below meth c H locs cells slots Q (F0 m 1591 ls []) := by
  obtain ⟨SC, hfl, hX, hbl, hL, hYX, hKJ, hKD, hKY, hE, hN⟩ := id hC
  obtain ⟨hx, hb, hml, hown, hts⟩ := id SC
  obtain ⟨hP, hD, hS, hok⟩ := id hG
  have hKX : va_K (xG X) vwCl (xTy X) s := va_K.sub hKJ [0, 1] rfl
  have hbA : ¬ s.heap.size ≤ b := by omega
  have hc0 : cells ≤ 1047 ∧ slots ≤ 8369 := by omega
  have hl : lv_has ls 9 [(0, .ref b), (1, .ref ((xa X 0))), (2, .ref ((xa Y 0))), (3, .ref aJ), (4, .ref aD), (5, .int (iI ((i : Int))))] := hl
  obtain ⟨v1, hv1, hq1⟩ : ∃ v : Int, xs (i + 1) = iI v ∧ inI v := ⟨_, iI_self _, inI_self _⟩
  by_cases h1 : v1 < 0 ∨ 32768 ≤ v1
  · refine lv_aload_n hx hb dL_law_1591 rfl (lv_at hl 1 rfl) ?_
    refine lw_sc (j := i + 1) (v := v1) hx hb hX hbl hbA hS (lv_at hl 0 rfl) (lv_at hl 5 rfl) (by omega) (by omega) hL hv1 dL_law_1592 dL_law_1593 dL_law_1595 dL_law_1596 dL_law_1597 ?_
    refine lv_aload_n hx hb dL_law_1598 rfl (lv_at hl 3 rfl) ?_
    refine pg_wcallH (As := [.ref ((xa X 0)), .int (iI v1), .ref aJ]) (rest := []) (l1 := []) (l2 := lwW X Y S S t (lwJ aJ cJ f) (lwD aD cD g)) (w := []) (w' := []) SC (c_L_isHalved_1 l hfl s.heap.size X S v1 hq1 h1 aJ) xW_st (lw_xW hKX hP hS hE hN) (vx_cwSW 3 hts gL_law_L_isHalved rfl rfl rfl (by decide +kernel) ⟨Nat.le_of_ble_eq_true rfl, Nat.le_of_ble_eq_true rfl⟩) (va_K.sub hKX [] rfl) hP hD hS rfl rfl hl.1 rfl (Nat.le_of_ble_eq_true rfl) dL_law_1599 ⟨hce.1, hce.2⟩ (fun H locs hP hD hS => ?_)
    have hP : va_P (xG X) vwCl (lwW X Y S S t (lwJ aJ cJ f) (lwD aD cD g)) H := hP
    have hD : va_D (fun q => s.heap.size ≤ q) (lwW X Y S S t (lwJ aJ cJ f) (lwD aD cD g)) := hD
    refine lv_istore (lv' := [(6, .int (iI 1)), (0, .ref b), (1, .ref ((xa X 0))), (2, .ref ((xa Y 0))), (3, .ref aJ), (4, .ref aD), (5, .int (iI ((i : Int))))]) hx hb dL_law_1602 hl (by decide) rfl (fun ls hl => ?_)
    refine lv_aload_n hx hb dL_law_1604 rfl (lv_at hl 3 rfl) ?_
    refine lw_sc (j := i + 1) (v := v1) hx hb hX hbl hbA hS (lv_at hl 1 rfl) (lv_at hl 6 rfl) (by omega) (by omega) hL hv1 dL_law_1605 dL_law_1606 dL_law_1608 dL_law_1609 dL_law_1610 ?_
    refine pg_wcallV (As := [.int (iI v1)]) (rest := []) (l1 := (lwJ aJ cJ f) :: (xC X S ++ [(lwD aD cD g)])) (l2 := []) (w := mC Y S t) (w' := mC Y S 1) SC (pg_cY hYX (c_X1_isHalved_1 l Y S t v1 hq1 h1)) pT_st pT_h (cwV 1 hts gL_law_X1_isHalved rfl rfl rfl (by decide +kernel) ⟨Nat.le_of_ble_eq_true rfl, Nat.le_of_ble_eq_true rfl⟩) (va_recv hKY hP (ci := 1) (q0 := 7) rfl rfl) hKY hP hD hS rfl rfl hl.1 rfl (Nat.le_of_ble_eq_true rfl) dL_law_1611 ⟨hce.1, hce.2⟩ (fun H locs hP hD hS => ?_)
    have hP : va_P (xG X) vwCl (lwW X Y S S 1 (lwJ aJ cJ f) (lwD aD cD g)) H := hP
    have hD : va_D (fun q => s.heap.size ≤ q) (lwW X Y S S 1 (lwJ aJ cJ f) (lwD aD cD g)) := hD
    refine lv_istore (lv' := [(7, .int (iI 0)), (6, .int (iI 1)), (0, .ref b), (1, .ref ((xa X 0))), (2, .ref ((xa Y 0))), (3, .ref aJ), (4, .ref aD), (5, .int (iI ((i : Int))))]) hx hb dL_law_1614 hl (by decide) rfl (fun ls hl => ?_)
    refine lv_aload_n hx hb dL_law_1616 rfl (lv_at hl 4 rfl) ?_
    refine pg_callV (As := []) (rest := []) SC (c_X1_thrown l Y S 1) mB_st (lw_mB hYX hKY hP) (cwV 0 hts gL_law_X1_thrown rfl rfl rfl (by decide +kernel) ⟨Nat.le_of_ble_eq_true rfl, Nat.le_of_ble_eq_true rfl⟩) (va_recv hKY hP (ci := 1) (q0 := 7) rfl rfl) rfl hl.1 rfl (Nat.le_of_ble_eq_true rfl) dL_law_1617 ⟨hce.1, hce.2⟩ ?_
    refine lv_iload hx hb dL_law_1620 (lv_at hl 1 rfl) ?_
    refine lw_same (tgt := 1627) hx hb (⟨by omega, by omega⟩) dL_law_1622 (by decide) ?_
    refine lv_iload hx hb dL_law_1627 (lv_at hl 1 rfl) ?_
    refine pg_if_ne (tgt := 1651) hx hb dL_law_1629 (by decide) (⟨by omega, by omega⟩) (fun _ => ?_) (fun h9 => absurd h9 (by omega))
    refine lv_goto (tgt := 2002) hx hb dL_law_1651 (by decide) ?_
    exact kk S 1 f g H locs ls ⟨hP, hD, hS, hok⟩ (lv_sub hl [2, 3, 4, 5, 6, 7] rfl)
  · obtain ⟨n, rfl⟩ : ∃ z : Nat, v1 = (z : Int) := ⟨v1.toNat, by omega⟩
    refine lv_aload_n hx hb dL_law_1591 rfl (lv_at hl 1 rfl) ?_
    refine lw_sc (j := i + 1) (v := ((n : Nat) : Int)) hx hb hX hbl hbA hS (lv_at hl 0 rfl) (lv_at hl 5 rfl) (by omega) (by omega) hL hv1 dL_law_1592 dL_law_1593 dL_law_1595 dL_law_1596 dL_law_1597 ?_
    refine lv_aload_n hx hb dL_law_1598 rfl (lv_at hl 3 rfl) ?_
    refine pg_wcallH (As := [.ref ((xa X 0)), .int (iI (((n : Nat) : Int))), .ref aJ]) (rest := []) (l1 := []) (l2 := (lwD aD cD g) :: mC Y S t) (w := (lwJ aJ cJ f) :: xC X S) (w' := (lwJ aJ cJ (vp_updL f 0 (lI 1))) :: xC X S) SC (c_L_isHalved_ok l X S n (by omega) cJ aJ f) pT_st pT_h (vx_cwSW 3 hts gL_law_L_isHalved rfl rfl rfl (by decide +kernel) ⟨Nat.le_of_ble_eq_true rfl, Nat.le_of_ble_eq_true rfl⟩) hKJ hP hD hS rfl rfl hl.1 rfl (Nat.le_of_ble_eq_true rfl) dL_law_1599 ⟨hc0.1, hc0.2⟩ (fun H locs hP hD hS => ?_)
    have hP : va_P (xG X) vwCl (lwW X Y S S t (lwJ aJ cJ (vp_updL f 0 (lI 1))) (lwD aD cD g)) H := hP
    have hD : va_D (fun q => s.heap.size ≤ q) (lwW X Y S S t (lwJ aJ cJ (vp_updL f 0 (lI 1))) (lwD aD cD g)) := hD
    refine lv_istore (lv' := [(6, .int (iI 0)), (0, .ref b), (1, .ref ((xa X 0))), (2, .ref ((xa Y 0))), (3, .ref aJ), (4, .ref aD), (5, .int (iI ((i : Int))))]) hx hb dL_law_1602 hl (by decide) rfl (fun ls hl => ?_)
    refine lv_aload_n hx hb dL_law_1604 rfl (lv_at hl 3 rfl) ?_
    refine lw_sc (j := i + 1) (v := ((n : Nat) : Int)) hx hb hX hbl hbA hS (lv_at hl 1 rfl) (lv_at hl 6 rfl) (by omega) (by omega) hL hv1 dL_law_1605 dL_law_1606 dL_law_1608 dL_law_1609 dL_law_1610 ?_
    refine pg_wcallV (As := [.int (iI (((n : Nat) : Int)))]) (rest := []) (l1 := (lwJ aJ cJ (vp_updL f 0 (lI 1))) :: (xC X S ++ [(lwD aD cD g)])) (l2 := []) (w := mC Y S t) (w' := mC Y S 0) SC (pg_cY hYX (c_X1_isHalved_ok l Y S t n (by omega))) pT_st pT_h (cwV 1 hts gL_law_X1_isHalved rfl rfl rfl (by decide +kernel) ⟨Nat.le_of_ble_eq_true rfl, Nat.le_of_ble_eq_true rfl⟩) (va_recv hKY hP (ci := 1) (q0 := 7) rfl rfl) hKY hP hD hS rfl rfl hl.1 rfl (Nat.le_of_ble_eq_true rfl) dL_law_1611 ⟨hc0.1, hc0.2⟩ (fun H locs hP hD hS => ?_)
    have hP : va_P (xG X) vwCl (lwW X Y S S 0 (lwJ aJ cJ (vp_updL f 0 (lI 1))) (lwD aD cD g)) H := hP
    have hD : va_D (fun q => s.heap.size ≤ q) (lwW X Y S S 0 (lwJ aJ cJ (vp_updL f 0 (lI 1))) (lwD aD cD g)) := hD
    refine lv_istore (lv' := [(7, .int (iI 1)), (6, .int (iI 0)), (0, .ref b), (1, .ref ((xa X 0))), (2, .ref ((xa Y 0))), (3, .ref aJ), (4, .ref aD), (5, .int (iI ((i : Int))))]) hx hb dL_law_1614 hl (by decide) rfl (fun ls hl => ?_)
    refine lv_aload_n hx hb dL_law_1616 rfl (lv_at hl 4 rfl) ?_
    refine pg_callV (As := []) (rest := []) SC (c_X1_thrown l Y S 0) mB_st (lw_mB hYX hKY hP) (cwV 0 hts gL_law_X1_thrown rfl rfl rfl (by decide +kernel) ⟨Nat.le_of_ble_eq_true rfl, Nat.le_of_ble_eq_true rfl⟩) (va_recv hKY hP (ci := 1) (q0 := 7) rfl rfl) rfl hl.1 rfl (Nat.le_of_ble_eq_true rfl) dL_law_1617 ⟨hc0.1, hc0.2⟩ ?_
    refine lv_iload hx hb dL_law_1620 (lv_at hl 1 rfl) ?_
    refine lw_same (tgt := 1627) hx hb (⟨by omega, by omega⟩) dL_law_1622 (by decide) ?_
    refine lv_iload hx hb dL_law_1627 (lv_at hl 1 rfl) ?_
    refine pg_if_ne (tgt := 1651) hx hb dL_law_1629 (by decide) (⟨by omega, by omega⟩) (fun h9 => absurd rfl h9) (fun _ => ?_)
    refine lv_aload_n hx hb dL_law_1632 rfl (lv_at hl 5 rfl) ?_
    refine lv_iconst (v := iI 0) hx hb dL_law_1633 rfl ?_
    refine pg_lld0 hx hb hKJ hP 0 2 rfl rfl dL_law_1634 ?_
    refine lv_iload hx hb dL_law_1635 (lv_at hl 0 rfl) ?_
    refine lw_lbool hx hb (by omega) dL_law_1637 dL_law_1640 dL_law_1641 dL_law_1644 ?_
    refine lw_leq (tgt := 1651) hx hb rfl dL_law_1645 dL_law_1646 (by decide) ?_
    refine lv_goto (tgt := 2002) hx hb dL_law_1651 (by decide) ?_
    exact pg_widen (Nat.le_succ _) (Nat.le_add_right _ 6) (kk S 0 ((vp_updL f 0 (lI 1))) g H locs ls ⟨hP, hD, hS, hok⟩ (lv_sub hl [2, 3, 4, 5, 6, 7] rfl))
set_option maxRecDepth 100000 in
set_option maxHeartbeats 4000000 in
theorem lw_op21 {p : Program} {l : Launch} {e : Env} {s : State} {m : MethodId} {args : Array Value} {below : List Frame} {meth : Method} {c : Code} {H : Heap} {locs : List Loc} {cells slots : Nat} {Q : State → Prop} {b L : Nat} {xs : Nat → Int32} {X Y : pgX} {cJ cD aJ aD : Nat} (hC : lwK l p s m c args b L xs X Y cJ cD) {i : Nat} (hi : i + 5 ≤ L) {S : pgS} {t : Int} {f : Nat → Int64} {g : Nat → UInt64} (hG : lwG s X Y cJ aJ cD aD S t f g H locs) (hce : cells + 1 ≤ 1047 ∧ slots + 6 ≤ 8369) {ls : Array Slot} (hl : lv_has ls 9 (lwB b X Y aJ aD i)) (kk : ∀ (S1 : pgS) (t1 : Int) (f1 : Nat → Int64) (g1 : Nat → UInt64) (H1 : Heap) (locs1 : List Loc) (ls1 : Array Slot), lwG s X Y cJ aJ cD aD S1 t1 f1 g1 H1 locs1 → lv_has ls1 9 (lwB b X Y aJ aD i) → W p l e room_1 s m args below meth c H1 locs1 (cells + 1) (slots + 6) Q (F0 m 2002 ls1 [])) : W p l e room_1 s m args below meth c H locs cells slots Q (F0 m 1654 ls []) := by
  obtain ⟨SC, hfl, hX, hbl, hL, hYX, hKJ, hKD, hKY, hE, hN⟩ := id hC
  obtain ⟨hx, hb, hml, hown, hts⟩ := id SC
  obtain ⟨hP, hD, hS, hok⟩ := id hG
  have hKX : va_K (xG X) vwCl (xTy X) s := va_K.sub hKJ [0, 1] rfl
  have hbA : ¬ s.heap.size ≤ b := by omega
  have hc0 : cells ≤ 1047 ∧ slots ≤ 8369 := by omega
  have hl : lv_has ls 9 [(0, .ref b), (1, .ref ((xa X 0))), (2, .ref ((xa Y 0))), (3, .ref aJ), (4, .ref aD), (5, .int (iI ((i : Int))))] := hl
  obtain ⟨v1, hv1, hq1⟩ : ∃ v : Int, xs (i + 1) = iI v ∧ inI v := ⟨_, iI_self _, inI_self _⟩
  obtain ⟨v2, hv2, hq2⟩ : ∃ v : Int, xs (i + 2) = iI v ∧ inI v := ⟨_, iI_self _, inI_self _⟩
  obtain ⟨v3, hv3, hq3⟩ : ∃ v : Int, xs (i + 3) = iI v ∧ inI v := ⟨_, iI_self _, inI_self _⟩
  obtain ⟨q, hq⟩ : ∃ z : Int, (v3 = 0 ∧ z = 0) ∨ (v3 ≠ 0 ∧ z = 1) := by
    by_cases hz : v3 = 0
    · exact ⟨0, Or.inl ⟨hz, rfl⟩⟩
    · exact ⟨1, Or.inr ⟨hz, rfl⟩⟩
  have hiq : inI q := ⟨by omega, by omega⟩
  by_cases h1 : v1 < 0 ∨ 32768 ≤ v1 ∨ v2 < 0 ∨ 32768 ≤ v2
  · refine lv_aload_n hx hb dL_law_1654 rfl (lv_at hl 1 rfl) ?_
    refine lw_sc (j := i + 1) (v := v1) hx hb hX hbl hbA hS (lv_at hl 0 rfl) (lv_at hl 5 rfl) (by omega) (by omega) hL hv1 dL_law_1655 dL_law_1656 dL_law_1658 dL_law_1659 dL_law_1660 ?_
    refine lw_sc (j := i + 2) (v := v2) hx hb hX hbl hbA hS (lv_at hl 0 rfl) (lv_at hl 5 rfl) (by omega) (by omega) hL hv2 dL_law_1661 dL_law_1662 dL_law_1664 dL_law_1665 dL_law_1666 ?_
    refine lw_sc (j := i + 3) (v := v3) hx hb hX hbl hbA hS (lv_at hl 0 rfl) (lv_at hl 5 rfl) (by omega) (by omega) hL hv3 dL_law_1667 dL_law_1668 dL_law_1670 dL_law_1671 dL_law_1672 ?_
    refine lw_bool (b := q) hx hb (by omega) hq dL_law_1673 dL_law_1676 dL_law_1677 dL_law_1680 ?_
    refine lv_aload_n hx hb dL_law_1681 rfl (lv_at hl 3 rfl) ?_
    refine pg_wcallH (As := [.ref ((xa X 0)), .int (iI v1), .int (iI v2), .int (iI q), .ref aJ]) (rest := []) (l1 := []) (l2 := lwW X Y S S t (lwJ aJ cJ f) (lwD aD cD g)) (w := []) (w' := []) SC (c_L_between_1 l hfl s.heap.size X S v1 v2 q hq1 hq2 h1 aJ) xW_st (lw_xW hKX hP hS hE hN) (vx_cwSW 5 hts gL_law_L_between rfl rfl rfl (by decide +kernel) ⟨Nat.le_of_ble_eq_true rfl, Nat.le_of_ble_eq_true rfl⟩) (va_K.sub hKX [] rfl) hP hD hS rfl rfl hl.1 rfl (Nat.le_of_ble_eq_true rfl) dL_law_1682 ⟨hce.1, hce.2⟩ (fun H locs hP hD hS => ?_)
    have hP : va_P (xG X) vwCl (lwW X Y S S t (lwJ aJ cJ f) (lwD aD cD g)) H := hP
    have hD : va_D (fun q => s.heap.size ≤ q) (lwW X Y S S t (lwJ aJ cJ f) (lwD aD cD g)) := hD
    refine lv_istore (lv' := [(6, .int (iI 1)), (0, .ref b), (1, .ref ((xa X 0))), (2, .ref ((xa Y 0))), (3, .ref aJ), (4, .ref aD), (5, .int (iI ((i : Int))))]) hx hb dL_law_1685 hl (by decide) rfl (fun ls hl => ?_)
    refine lv_aload_n hx hb dL_law_1687 rfl (lv_at hl 3 rfl) ?_
    refine lw_sc (j := i + 1) (v := v1) hx hb hX hbl hbA hS (lv_at hl 1 rfl) (lv_at hl 6 rfl) (by omega) (by omega) hL hv1 dL_law_1688 dL_law_1689 dL_law_1691 dL_law_1692 dL_law_1693 ?_
    refine lw_sc (j := i + 2) (v := v2) hx hb hX hbl hbA hS (lv_at hl 1 rfl) (lv_at hl 6 rfl) (by omega) (by omega) hL hv2 dL_law_1694 dL_law_1695 dL_law_1697 dL_law_1698 dL_law_1699 ?_
    refine lw_sc (j := i + 3) (v := v3) hx hb hX hbl hbA hS (lv_at hl 1 rfl) (lv_at hl 6 rfl) (by omega) (by omega) hL hv3 dL_law_1700 dL_law_1701 dL_law_1703 dL_law_1704 dL_law_1705 ?_
    refine lw_bool (b := q) hx hb (by omega) hq dL_law_1706 dL_law_1709 dL_law_1710 dL_law_1713 ?_
    refine pg_wcallV (As := [.int (iI v1), .int (iI v2), .int (iI q)]) (rest := []) (l1 := (lwJ aJ cJ f) :: (xC X S ++ [(lwD aD cD g)])) (l2 := []) (w := mC Y S t) (w' := mC Y S 1) SC (pg_cY hYX (c_X1_between_1 l Y S t v1 v2 q hq1 hq2 h1)) pT_st pT_h (cwV 3 hts gL_law_X1_between rfl rfl rfl (by decide +kernel) ⟨Nat.le_of_ble_eq_true rfl, Nat.le_of_ble_eq_true rfl⟩) (va_recv hKY hP (ci := 1) (q0 := 7) rfl rfl) hKY hP hD hS rfl rfl hl.1 rfl (Nat.le_of_ble_eq_true rfl) dL_law_1714 ⟨hce.1, hce.2⟩ (fun H locs hP hD hS => ?_)
    have hP : va_P (xG X) vwCl (lwW X Y S S 1 (lwJ aJ cJ f) (lwD aD cD g)) H := hP
    have hD : va_D (fun q => s.heap.size ≤ q) (lwW X Y S S 1 (lwJ aJ cJ f) (lwD aD cD g)) := hD
    refine lv_istore (lv' := [(7, .int (iI 0)), (6, .int (iI 1)), (0, .ref b), (1, .ref ((xa X 0))), (2, .ref ((xa Y 0))), (3, .ref aJ), (4, .ref aD), (5, .int (iI ((i : Int))))]) hx hb dL_law_1717 hl (by decide) rfl (fun ls hl => ?_)
    refine lv_aload_n hx hb dL_law_1719 rfl (lv_at hl 4 rfl) ?_
    refine pg_callV (As := []) (rest := []) SC (c_X1_thrown l Y S 1) mB_st (lw_mB hYX hKY hP) (cwV 0 hts gL_law_X1_thrown rfl rfl rfl (by decide +kernel) ⟨Nat.le_of_ble_eq_true rfl, Nat.le_of_ble_eq_true rfl⟩) (va_recv hKY hP (ci := 1) (q0 := 7) rfl rfl) rfl hl.1 rfl (Nat.le_of_ble_eq_true rfl) dL_law_1720 ⟨hce.1, hce.2⟩ ?_
    refine lv_iload hx hb dL_law_1723 (lv_at hl 1 rfl) ?_
    refine lw_same (tgt := 1730) hx hb (⟨by omega, by omega⟩) dL_law_1725 (by decide) ?_
    refine lv_iload hx hb dL_law_1730 (lv_at hl 1 rfl) ?_
    refine pg_if_ne (tgt := 1747) hx hb dL_law_1732 (by decide) (⟨by omega, by omega⟩) (fun _ => ?_) (fun h9 => absurd h9 (by omega))
    refine lv_goto (tgt := 2002) hx hb dL_law_1747 (by decide) ?_
    exact kk S 1 f g H locs ls ⟨hP, hD, hS, hok⟩ (lv_sub hl [2, 3, 4, 5, 6, 7] rfl)
  · obtain ⟨lo, rfl⟩ : ∃ z : Nat, v1 = (z : Int) := ⟨v1.toNat, by omega⟩
    obtain ⟨hi2, rfl⟩ : ∃ z : Nat, v2 = (z : Int) := ⟨v2.toNat, by omega⟩
    have hb_lo := qs_below (n := lo) (b := 256) (by omega)
    have hb_hi2 := qs_below (n := hi2) (b := 256) (by omega)
    have hb_l4 := qs_below (n := lo / 4) (b := 256) (by omega)
    have hb_h4 := qs_below (n := hi2 / 4) (b := 256) (by omega)
    obtain ⟨r, hr⟩ : ∃ r : Int, (hi2 ≤ lo ∧ r = 0) ∨ (lo < hi2 ∧ q = 0 ∧ r = (qs hi2 : Int) - (qs lo : Int)) ∨ (lo < hi2 ∧ q ≠ 0 ∧ r = (qs (hi2 / 4) : Int) - (qs (lo / 4) : Int)) := by
      by_cases hz : hi2 ≤ lo
      · exact ⟨0, Or.inl ⟨hz, rfl⟩⟩
      · by_cases hz2 : q = 0
        · exact ⟨_, Or.inr (Or.inl ⟨by omega, hz2, rfl⟩)⟩
        · exact ⟨_, Or.inr (Or.inr ⟨by omega, hz2, rfl⟩)⟩
    refine lv_aload_n hx hb dL_law_1654 rfl (lv_at hl 1 rfl) ?_
    refine lw_sc (j := i + 1) (v := ((lo : Nat) : Int)) hx hb hX hbl hbA hS (lv_at hl 0 rfl) (lv_at hl 5 rfl) (by omega) (by omega) hL hv1 dL_law_1655 dL_law_1656 dL_law_1658 dL_law_1659 dL_law_1660 ?_
    refine lw_sc (j := i + 2) (v := ((hi2 : Nat) : Int)) hx hb hX hbl hbA hS (lv_at hl 0 rfl) (lv_at hl 5 rfl) (by omega) (by omega) hL hv2 dL_law_1661 dL_law_1662 dL_law_1664 dL_law_1665 dL_law_1666 ?_
    refine lw_sc (j := i + 3) (v := v3) hx hb hX hbl hbA hS (lv_at hl 0 rfl) (lv_at hl 5 rfl) (by omega) (by omega) hL hv3 dL_law_1667 dL_law_1668 dL_law_1670 dL_law_1671 dL_law_1672 ?_
    refine lw_bool (b := q) hx hb (by omega) hq dL_law_1673 dL_law_1676 dL_law_1677 dL_law_1680 ?_
    refine lv_aload_n hx hb dL_law_1681 rfl (lv_at hl 3 rfl) ?_
    refine pg_wcallH (As := [.ref ((xa X 0)), .int (iI (((lo : Nat) : Int))), .int (iI (((hi2 : Nat) : Int))), .int (iI q), .ref aJ]) (rest := []) (l1 := []) (l2 := (lwD aD cD g) :: mC Y S t) (w := (lwJ aJ cJ f) :: xC X S) (w' := (lwJ aJ cJ (vp_updL f 0 (lI r))) :: xC X S) SC (c_L_between_ok l X S lo hi2 q r (by omega) (by omega) hiq hr cJ aJ f) pT_st pT_h (vx_cwSW 5 hts gL_law_L_between rfl rfl rfl (by decide +kernel) ⟨Nat.le_of_ble_eq_true rfl, Nat.le_of_ble_eq_true rfl⟩) hKJ hP hD hS rfl rfl hl.1 rfl (Nat.le_of_ble_eq_true rfl) dL_law_1682 ⟨hc0.1, hc0.2⟩ (fun H locs hP hD hS => ?_)
    have hP : va_P (xG X) vwCl (lwW X Y S S t (lwJ aJ cJ (vp_updL f 0 (lI r))) (lwD aD cD g)) H := hP
    have hD : va_D (fun q => s.heap.size ≤ q) (lwW X Y S S t (lwJ aJ cJ (vp_updL f 0 (lI r))) (lwD aD cD g)) := hD
    refine lv_istore (lv' := [(6, .int (iI 0)), (0, .ref b), (1, .ref ((xa X 0))), (2, .ref ((xa Y 0))), (3, .ref aJ), (4, .ref aD), (5, .int (iI ((i : Int))))]) hx hb dL_law_1685 hl (by decide) rfl (fun ls hl => ?_)
    refine lv_aload_n hx hb dL_law_1687 rfl (lv_at hl 3 rfl) ?_
    refine lw_sc (j := i + 1) (v := ((lo : Nat) : Int)) hx hb hX hbl hbA hS (lv_at hl 1 rfl) (lv_at hl 6 rfl) (by omega) (by omega) hL hv1 dL_law_1688 dL_law_1689 dL_law_1691 dL_law_1692 dL_law_1693 ?_
    refine lw_sc (j := i + 2) (v := ((hi2 : Nat) : Int)) hx hb hX hbl hbA hS (lv_at hl 1 rfl) (lv_at hl 6 rfl) (by omega) (by omega) hL hv2 dL_law_1694 dL_law_1695 dL_law_1697 dL_law_1698 dL_law_1699 ?_
    refine lw_sc (j := i + 3) (v := v3) hx hb hX hbl hbA hS (lv_at hl 1 rfl) (lv_at hl 6 rfl) (by omega) (by omega) hL hv3 dL_law_1700 dL_law_1701 dL_law_1703 dL_law_1704 dL_law_1705 ?_
    refine lw_bool (b := q) hx hb (by omega) hq dL_law_1706 dL_law_1709 dL_law_1710 dL_law_1713 ?_
    refine pg_wcallV (As := [.int (iI (((lo : Nat) : Int))), .int (iI (((hi2 : Nat) : Int))), .int (iI q)]) (rest := []) (l1 := (lwJ aJ cJ (vp_updL f 0 (lI r))) :: (xC X S ++ [(lwD aD cD g)])) (l2 := []) (w := mC Y S t) (w' := mC Y S 0) SC (pg_cY hYX (c_X1_between_ok l Y S t lo hi2 q r (by omega) (by omega) hiq hr)) pT_st pT_h (cwV 3 hts gL_law_X1_between rfl rfl rfl (by decide +kernel) ⟨Nat.le_of_ble_eq_true rfl, Nat.le_of_ble_eq_true rfl⟩) (va_recv hKY hP (ci := 1) (q0 := 7) rfl rfl) hKY hP hD hS rfl rfl hl.1 rfl (Nat.le_of_ble_eq_true rfl) dL_law_1714 ⟨hc0.1, hc0.2⟩ (fun H locs hP hD hS => ?_)
    have hP : va_P (xG X) vwCl (lwW X Y S S 0 (lwJ aJ cJ (vp_updL f 0 (lI r))) (lwD aD cD g)) H := hP
    have hD : va_D (fun q => s.heap.size ≤ q) (lwW X Y S S 0 (lwJ aJ cJ (vp_updL f 0 (lI r))) (lwD aD cD g)) := hD
    refine lv_istore (lv' := [(7, .int (iI r)), (6, .int (iI 0)), (0, .ref b), (1, .ref ((xa X 0))), (2, .ref ((xa Y 0))), (3, .ref aJ), (4, .ref aD), (5, .int (iI ((i : Int))))]) hx hb dL_law_1717 hl (by decide) rfl (fun ls hl => ?_)
    refine lv_aload_n hx hb dL_law_1719 rfl (lv_at hl 4 rfl) ?_
    refine pg_callV (As := []) (rest := []) SC (c_X1_thrown l Y S 0) mB_st (lw_mB hYX hKY hP) (cwV 0 hts gL_law_X1_thrown rfl rfl rfl (by decide +kernel) ⟨Nat.le_of_ble_eq_true rfl, Nat.le_of_ble_eq_true rfl⟩) (va_recv hKY hP (ci := 1) (q0 := 7) rfl rfl) rfl hl.1 rfl (Nat.le_of_ble_eq_true rfl) dL_law_1720 ⟨hc0.1, hc0.2⟩ ?_
    refine lv_iload hx hb dL_law_1723 (lv_at hl 1 rfl) ?_
    refine lw_same (tgt := 1730) hx hb (⟨by omega, by omega⟩) dL_law_1725 (by decide) ?_
    refine lv_iload hx hb dL_law_1730 (lv_at hl 1 rfl) ?_
    refine pg_if_ne (tgt := 1747) hx hb dL_law_1732 (by decide) (⟨by omega, by omega⟩) (fun h9 => absurd rfl h9) (fun _ => ?_)
    refine lv_aload_n hx hb dL_law_1735 rfl (lv_at hl 5 rfl) ?_
    refine lv_iconst (v := iI 0) hx hb dL_law_1736 rfl ?_
    refine pg_lld0 hx hb hKJ hP 0 2 rfl rfl dL_law_1737 ?_
    refine lv_iload hx hb dL_law_1738 (lv_at hl 0 rfl) ?_
    refine pg_i2l hx hb dL_law_1740 (⟨by omega, by omega⟩) ?_
    refine lw_leq (tgt := 1747) hx hb rfl dL_law_1741 dL_law_1742 (by decide) ?_
    refine lv_goto (tgt := 2002) hx hb dL_law_1747 (by decide) ?_
    exact pg_widen (Nat.le_succ _) (Nat.le_add_right _ 6) (kk S 0 ((vp_updL f 0 (lI r))) g H locs ls ⟨hP, hD, hS, hok⟩ (lv_sub hl [2, 3, 4, 5, 6, 7] rfl))
set_option maxRecDepth 100000 in
set_option maxHeartbeats 4000000 in
theorem lw_op22 {p : Program} {l : Launch} {e : Env} {s : State} {m : MethodId} {args : Array Value} {below : List Frame} {meth : Method} {c : Code} {H : Heap} {locs : List Loc} {cells slots : Nat} {Q : State → Prop} {b L : Nat} {xs : Nat → Int32} {X Y : pgX} {cJ cD aJ aD : Nat} (hC : lwK l p s m c args b L xs X Y cJ cD) {i : Nat} (hi : i + 5 ≤ L) {S : pgS} {t : Int} {f : Nat → Int64} {g : Nat → UInt64} (hG : lwG s X Y cJ aJ cD aD S t f g H locs) (hce : cells + 1 ≤ 1047 ∧ slots + 6 ≤ 8369) {ls : Array Slot} (hl : lv_has ls 9 (lwB b X Y aJ aD i)) (kk : ∀ (S1 : pgS) (t1 : Int) (f1 : Nat → Int64) (g1 : Nat → UInt64) (H1 : Heap) (locs1 : List Loc) (ls1 : Array Slot), lwG s X Y cJ aJ cD aD S1 t1 f1 g1 H1 locs1 → lv_has ls1 9 (lwB b X Y aJ aD i) → W p l e room_1 s m args below meth c H1 locs1 (cells + 1) (slots + 6) Q (F0 m 2002 ls1 [])) : W p l e room_1 s m args below meth c H locs cells slots Q (F0 m 1750 ls []) := by
  obtain ⟨SC, hfl, hX, hbl, hL, hYX, hKJ, hKD, hKY, hE, hN⟩ := id hC
  obtain ⟨hx, hb, hml, hown, hts⟩ := id SC
  obtain ⟨hP, hD, hS, hok⟩ := id hG
  have hKX : va_K (xG X) vwCl (xTy X) s := va_K.sub hKJ [0, 1] rfl
  have hbA : ¬ s.heap.size ≤ b := by omega
  have hc0 : cells ≤ 1047 ∧ slots ≤ 8369 := by omega
  have hl : lv_has ls 9 [(0, .ref b), (1, .ref ((xa X 0))), (2, .ref ((xa Y 0))), (3, .ref aJ), (4, .ref aD), (5, .int (iI ((i : Int))))] := hl
  obtain ⟨v1, hv1, hq1⟩ : ∃ v : Int, xs (i + 1) = iI v ∧ inI v := ⟨_, iI_self _, inI_self _⟩
  by_cases h1 : v1 < 0 ∨ 12 ≤ v1
  · refine lv_aload_n hx hb dL_law_1750 rfl (lv_at hl 1 rfl) ?_
    refine lw_sc (j := i + 1) (v := v1) hx hb hX hbl hbA hS (lv_at hl 0 rfl) (lv_at hl 5 rfl) (by omega) (by omega) hL hv1 dL_law_1751 dL_law_1752 dL_law_1754 dL_law_1755 dL_law_1756 ?_
    refine lv_aload_n hx hb dL_law_1757 rfl (lv_at hl 3 rfl) ?_
    refine pg_wcallH (As := [.ref ((xa X 0)), .int (iI v1), .ref aJ]) (rest := []) (l1 := []) (l2 := lwW X Y S S t (lwJ aJ cJ f) (lwD aD cD g)) (w := []) (w' := []) SC (c_L_join_1 l hfl s.heap.size X S v1 hq1 h1 aJ) xW_st (lw_xW hKX hP hS hE hN) (vx_cwSW 3 hts gL_law_L_join rfl rfl rfl (by decide +kernel) ⟨Nat.le_of_ble_eq_true rfl, Nat.le_of_ble_eq_true rfl⟩) (va_K.sub hKX [] rfl) hP hD hS rfl rfl hl.1 rfl (Nat.le_of_ble_eq_true rfl) dL_law_1758 ⟨hce.1, hce.2⟩ (fun H locs hP hD hS => ?_)
    have hP : va_P (xG X) vwCl (lwW X Y S S t (lwJ aJ cJ f) (lwD aD cD g)) H := hP
    have hD : va_D (fun q => s.heap.size ≤ q) (lwW X Y S S t (lwJ aJ cJ f) (lwD aD cD g)) := hD
    refine lv_istore (lv' := [(6, .int (iI 1)), (0, .ref b), (1, .ref ((xa X 0))), (2, .ref ((xa Y 0))), (3, .ref aJ), (4, .ref aD), (5, .int (iI ((i : Int))))]) hx hb dL_law_1761 hl (by decide) rfl (fun ls hl => ?_)
    refine lv_aload_n hx hb dL_law_1763 rfl (lv_at hl 3 rfl) ?_
    refine lw_sc (j := i + 1) (v := v1) hx hb hX hbl hbA hS (lv_at hl 1 rfl) (lv_at hl 6 rfl) (by omega) (by omega) hL hv1 dL_law_1764 dL_law_1765 dL_law_1767 dL_law_1768 dL_law_1769 ?_
    refine pg_wcallV (As := [.int (iI v1)]) (rest := []) (l1 := (lwJ aJ cJ f) :: (xC X S ++ [(lwD aD cD g)])) (l2 := []) (w := mC Y S t) (w' := mC Y S 1) SC (pg_cY hYX (c_X1_join_1 l Y S t v1 hq1 h1)) pT_st pT_h (cwV 1 hts gL_law_X1_join rfl rfl rfl (by decide +kernel) ⟨Nat.le_of_ble_eq_true rfl, Nat.le_of_ble_eq_true rfl⟩) (va_recv hKY hP (ci := 1) (q0 := 7) rfl rfl) hKY hP hD hS rfl rfl hl.1 rfl (Nat.le_of_ble_eq_true rfl) dL_law_1770 ⟨hce.1, hce.2⟩ (fun H locs hP hD hS => ?_)
    have hP : va_P (xG X) vwCl (lwW X Y S S 1 (lwJ aJ cJ f) (lwD aD cD g)) H := hP
    have hD : va_D (fun q => s.heap.size ≤ q) (lwW X Y S S 1 (lwJ aJ cJ f) (lwD aD cD g)) := hD
    refine lv_istore (lv' := [(7, .int (iI 0)), (6, .int (iI 1)), (0, .ref b), (1, .ref ((xa X 0))), (2, .ref ((xa Y 0))), (3, .ref aJ), (4, .ref aD), (5, .int (iI ((i : Int))))]) hx hb dL_law_1773 hl (by decide) rfl (fun ls hl => ?_)
    refine lv_aload_n hx hb dL_law_1775 rfl (lv_at hl 4 rfl) ?_
    refine pg_callV (As := []) (rest := []) SC (c_X1_thrown l Y S 1) mB_st (lw_mB hYX hKY hP) (cwV 0 hts gL_law_X1_thrown rfl rfl rfl (by decide +kernel) ⟨Nat.le_of_ble_eq_true rfl, Nat.le_of_ble_eq_true rfl⟩) (va_recv hKY hP (ci := 1) (q0 := 7) rfl rfl) rfl hl.1 rfl (Nat.le_of_ble_eq_true rfl) dL_law_1776 ⟨hce.1, hce.2⟩ ?_
    refine lv_iload hx hb dL_law_1779 (lv_at hl 1 rfl) ?_
    refine lw_same (tgt := 1786) hx hb (⟨by omega, by omega⟩) dL_law_1781 (by decide) ?_
    refine lv_iload hx hb dL_law_1786 (lv_at hl 1 rfl) ?_
    refine pg_if_ne (tgt := 1803) hx hb dL_law_1788 (by decide) (⟨by omega, by omega⟩) (fun _ => ?_) (fun h9 => absurd h9 (by omega))
    refine lv_goto (tgt := 2002) hx hb dL_law_1803 (by decide) ?_
    exact kk S 1 f g H locs ls ⟨hP, hD, hS, hok⟩ (lv_sub hl [2, 3, 4, 5, 6, 7] rfl)
  · obtain ⟨k, rfl⟩ : ∃ z : Nat, v1 = (z : Int) := ⟨v1.toNat, by omega⟩
    have hk : k < 12 := by omega
    have hs1 := hok.1 k
    by_cases h2 : sS S k = 0
    · refine lv_aload_n hx hb dL_law_1750 rfl (lv_at hl 1 rfl) ?_
      refine lw_sc (j := i + 1) (v := ((k : Nat) : Int)) hx hb hX hbl hbA hS (lv_at hl 0 rfl) (lv_at hl 5 rfl) (by omega) (by omega) hL hv1 dL_law_1751 dL_law_1752 dL_law_1754 dL_law_1755 dL_law_1756 ?_
      refine lv_aload_n hx hb dL_law_1757 rfl (lv_at hl 3 rfl) ?_
      refine pg_wcallH (As := [.ref ((xa X 0)), .int (iI (((k : Nat) : Int))), .ref aJ]) (rest := []) (l1 := []) (l2 := lwW X Y S S t (lwJ aJ cJ f) (lwD aD cD g)) (w := []) (w' := []) SC (c_L_join_2 l hfl s.heap.size X S k hk h2 aJ) xW_st (lw_xW hKX hP hS hE hN) (vx_cwSW 3 hts gL_law_L_join rfl rfl rfl (by decide +kernel) ⟨Nat.le_of_ble_eq_true rfl, Nat.le_of_ble_eq_true rfl⟩) (va_K.sub hKX [] rfl) hP hD hS rfl rfl hl.1 rfl (Nat.le_of_ble_eq_true rfl) dL_law_1758 ⟨hce.1, hce.2⟩ (fun H locs hP hD hS => ?_)
      have hP : va_P (xG X) vwCl (lwW X Y S S t (lwJ aJ cJ f) (lwD aD cD g)) H := hP
      have hD : va_D (fun q => s.heap.size ≤ q) (lwW X Y S S t (lwJ aJ cJ f) (lwD aD cD g)) := hD
      refine lv_istore (lv' := [(6, .int (iI 2)), (0, .ref b), (1, .ref ((xa X 0))), (2, .ref ((xa Y 0))), (3, .ref aJ), (4, .ref aD), (5, .int (iI ((i : Int))))]) hx hb dL_law_1761 hl (by decide) rfl (fun ls hl => ?_)
      refine lv_aload_n hx hb dL_law_1763 rfl (lv_at hl 3 rfl) ?_
      refine lw_sc (j := i + 1) (v := ((k : Nat) : Int)) hx hb hX hbl hbA hS (lv_at hl 1 rfl) (lv_at hl 6 rfl) (by omega) (by omega) hL hv1 dL_law_1764 dL_law_1765 dL_law_1767 dL_law_1768 dL_law_1769 ?_
      refine pg_wcallV (As := [.int (iI (((k : Nat) : Int)))]) (rest := []) (l1 := (lwJ aJ cJ f) :: (xC X S ++ [(lwD aD cD g)])) (l2 := []) (w := mC Y S t) (w' := mC Y S 2) SC (pg_cY hYX (c_X1_join_2 l Y S t k hk h2)) pT_st pT_h (cwV 1 hts gL_law_X1_join rfl rfl rfl (by decide +kernel) ⟨Nat.le_of_ble_eq_true rfl, Nat.le_of_ble_eq_true rfl⟩) (va_recv hKY hP (ci := 1) (q0 := 7) rfl rfl) hKY hP hD hS rfl rfl hl.1 rfl (Nat.le_of_ble_eq_true rfl) dL_law_1770 ⟨hce.1, hce.2⟩ (fun H locs hP hD hS => ?_)
      have hP : va_P (xG X) vwCl (lwW X Y S S 2 (lwJ aJ cJ f) (lwD aD cD g)) H := hP
      have hD : va_D (fun q => s.heap.size ≤ q) (lwW X Y S S 2 (lwJ aJ cJ f) (lwD aD cD g)) := hD
      refine lv_istore (lv' := [(7, .int (iI 0)), (6, .int (iI 2)), (0, .ref b), (1, .ref ((xa X 0))), (2, .ref ((xa Y 0))), (3, .ref aJ), (4, .ref aD), (5, .int (iI ((i : Int))))]) hx hb dL_law_1773 hl (by decide) rfl (fun ls hl => ?_)
      refine lv_aload_n hx hb dL_law_1775 rfl (lv_at hl 4 rfl) ?_
      refine pg_callV (As := []) (rest := []) SC (c_X1_thrown l Y S 2) mB_st (lw_mB hYX hKY hP) (cwV 0 hts gL_law_X1_thrown rfl rfl rfl (by decide +kernel) ⟨Nat.le_of_ble_eq_true rfl, Nat.le_of_ble_eq_true rfl⟩) (va_recv hKY hP (ci := 1) (q0 := 7) rfl rfl) rfl hl.1 rfl (Nat.le_of_ble_eq_true rfl) dL_law_1776 ⟨hce.1, hce.2⟩ ?_
      refine lv_iload hx hb dL_law_1779 (lv_at hl 1 rfl) ?_
      refine lw_same (tgt := 1786) hx hb (⟨by omega, by omega⟩) dL_law_1781 (by decide) ?_
      refine lv_iload hx hb dL_law_1786 (lv_at hl 1 rfl) ?_
      refine pg_if_ne (tgt := 1803) hx hb dL_law_1788 (by decide) (⟨by omega, by omega⟩) (fun _ => ?_) (fun h9 => absurd h9 (by omega))
      refine lv_goto (tgt := 2002) hx hb dL_law_1803 (by decide) ?_
      exact kk S 2 f g H locs ls ⟨hP, hD, hS, hok⟩ (lv_sub hl [2, 3, 4, 5, 6, 7] rfl)
    · have h3 : sS S k = 1 := by omega
      have hn12 : sN S ≤ 12 := hok.2.2.2.2.1
      by_cases h4 : sN S = 12
      · refine lv_aload_n hx hb dL_law_1750 rfl (lv_at hl 1 rfl) ?_
        refine lw_sc (j := i + 1) (v := ((k : Nat) : Int)) hx hb hX hbl hbA hS (lv_at hl 0 rfl) (lv_at hl 5 rfl) (by omega) (by omega) hL hv1 dL_law_1751 dL_law_1752 dL_law_1754 dL_law_1755 dL_law_1756 ?_
        refine lv_aload_n hx hb dL_law_1757 rfl (lv_at hl 3 rfl) ?_
        refine pg_wcallH (As := [.ref ((xa X 0)), .int (iI (((k : Nat) : Int))), .ref aJ]) (rest := []) (l1 := []) (l2 := lwW X Y S S t (lwJ aJ cJ f) (lwD aD cD g)) (w := []) (w' := []) SC (c_L_join_3 l hfl s.heap.size X S k hk h3 h4 aJ) xW_st (lw_xW hKX hP hS hE hN) (vx_cwSW 3 hts gL_law_L_join rfl rfl rfl (by decide +kernel) ⟨Nat.le_of_ble_eq_true rfl, Nat.le_of_ble_eq_true rfl⟩) (va_K.sub hKX [] rfl) hP hD hS rfl rfl hl.1 rfl (Nat.le_of_ble_eq_true rfl) dL_law_1758 ⟨hce.1, hce.2⟩ (fun H locs hP hD hS => ?_)
        have hP : va_P (xG X) vwCl (lwW X Y S S t (lwJ aJ cJ f) (lwD aD cD g)) H := hP
        have hD : va_D (fun q => s.heap.size ≤ q) (lwW X Y S S t (lwJ aJ cJ f) (lwD aD cD g)) := hD
        refine lv_istore (lv' := [(6, .int (iI 3)), (0, .ref b), (1, .ref ((xa X 0))), (2, .ref ((xa Y 0))), (3, .ref aJ), (4, .ref aD), (5, .int (iI ((i : Int))))]) hx hb dL_law_1761 hl (by decide) rfl (fun ls hl => ?_)
        refine lv_aload_n hx hb dL_law_1763 rfl (lv_at hl 3 rfl) ?_
        refine lw_sc (j := i + 1) (v := ((k : Nat) : Int)) hx hb hX hbl hbA hS (lv_at hl 1 rfl) (lv_at hl 6 rfl) (by omega) (by omega) hL hv1 dL_law_1764 dL_law_1765 dL_law_1767 dL_law_1768 dL_law_1769 ?_
        refine pg_wcallV (As := [.int (iI (((k : Nat) : Int)))]) (rest := []) (l1 := (lwJ aJ cJ f) :: (xC X S ++ [(lwD aD cD g)])) (l2 := []) (w := mC Y S t) (w' := mC Y S 3) SC (pg_cY hYX (c_X1_join_3 l Y S t k hk h3 h4)) pT_st pT_h (cwV 1 hts gL_law_X1_join rfl rfl rfl (by decide +kernel) ⟨Nat.le_of_ble_eq_true rfl, Nat.le_of_ble_eq_true rfl⟩) (va_recv hKY hP (ci := 1) (q0 := 7) rfl rfl) hKY hP hD hS rfl rfl hl.1 rfl (Nat.le_of_ble_eq_true rfl) dL_law_1770 ⟨hce.1, hce.2⟩ (fun H locs hP hD hS => ?_)
        have hP : va_P (xG X) vwCl (lwW X Y S S 3 (lwJ aJ cJ f) (lwD aD cD g)) H := hP
        have hD : va_D (fun q => s.heap.size ≤ q) (lwW X Y S S 3 (lwJ aJ cJ f) (lwD aD cD g)) := hD
        refine lv_istore (lv' := [(7, .int (iI 0)), (6, .int (iI 3)), (0, .ref b), (1, .ref ((xa X 0))), (2, .ref ((xa Y 0))), (3, .ref aJ), (4, .ref aD), (5, .int (iI ((i : Int))))]) hx hb dL_law_1773 hl (by decide) rfl (fun ls hl => ?_)
        refine lv_aload_n hx hb dL_law_1775 rfl (lv_at hl 4 rfl) ?_
        refine pg_callV (As := []) (rest := []) SC (c_X1_thrown l Y S 3) mB_st (lw_mB hYX hKY hP) (cwV 0 hts gL_law_X1_thrown rfl rfl rfl (by decide +kernel) ⟨Nat.le_of_ble_eq_true rfl, Nat.le_of_ble_eq_true rfl⟩) (va_recv hKY hP (ci := 1) (q0 := 7) rfl rfl) rfl hl.1 rfl (Nat.le_of_ble_eq_true rfl) dL_law_1776 ⟨hce.1, hce.2⟩ ?_
        refine lv_iload hx hb dL_law_1779 (lv_at hl 1 rfl) ?_
        refine lw_same (tgt := 1786) hx hb (⟨by omega, by omega⟩) dL_law_1781 (by decide) ?_
        refine lv_iload hx hb dL_law_1786 (lv_at hl 1 rfl) ?_
        refine pg_if_ne (tgt := 1803) hx hb dL_law_1788 (by decide) (⟨by omega, by omega⟩) (fun _ => ?_) (fun h9 => absurd h9 (by omega))
        refine lv_goto (tgt := 2002) hx hb dL_law_1803 (by decide) ?_
        exact kk S 3 f g H locs ls ⟨hP, hD, hS, hok⟩ (lv_sub hl [2, 3, 4, 5, 6, 7] rfl)
      · refine lv_aload_n hx hb dL_law_1750 rfl (lv_at hl 1 rfl) ?_
        refine lw_sc (j := i + 1) (v := ((k : Nat) : Int)) hx hb hX hbl hbA hS (lv_at hl 0 rfl) (lv_at hl 5 rfl) (by omega) (by omega) hL hv1 dL_law_1751 dL_law_1752 dL_law_1754 dL_law_1755 dL_law_1756 ?_
        refine lv_aload_n hx hb dL_law_1757 rfl (lv_at hl 3 rfl) ?_
        refine pg_wcallH (As := [.ref ((xa X 0)), .int (iI (((k : Nat) : Int))), .ref aJ]) (rest := []) (l1 := []) (l2 := (lwD aD cD g) :: mC Y S t) (w := (lwJ aJ cJ f) :: xC X S) (w' := (lwJ aJ cJ (vp_updL f 0 (lI (((sN S + 1 : Nat) : Int))))) :: xC X ((sS S, sA S, sU S, upN (sR S) (sN S) k, sN S + 1, sW S))) SC (c_L_join_ok l X S k hk h3 (by omega) cJ aJ f) pT_st pT_h (vx_cwSW 3 hts gL_law_L_join rfl rfl rfl (by decide +kernel) ⟨Nat.le_of_ble_eq_true rfl, Nat.le_of_ble_eq_true rfl⟩) hKJ hP hD hS rfl rfl hl.1 rfl (Nat.le_of_ble_eq_true rfl) dL_law_1758 ⟨hc0.1, hc0.2⟩ (fun H locs hP hD hS => ?_)
        have hP : va_P (xG X) vwCl (lwW X Y ((sS S, sA S, sU S, upN (sR S) (sN S) k, sN S + 1, sW S)) S t (lwJ aJ cJ (vp_updL f 0 (lI (((sN S + 1 : Nat) : Int))))) (lwD aD cD g)) H := hP
        have hD : va_D (fun q => s.heap.size ≤ q) (lwW X Y ((sS S, sA S, sU S, upN (sR S) (sN S) k, sN S + 1, sW S)) S t (lwJ aJ cJ (vp_updL f 0 (lI (((sN S + 1 : Nat) : Int))))) (lwD aD cD g)) := hD
        refine lv_istore (lv' := [(6, .int (iI 0)), (0, .ref b), (1, .ref ((xa X 0))), (2, .ref ((xa Y 0))), (3, .ref aJ), (4, .ref aD), (5, .int (iI ((i : Int))))]) hx hb dL_law_1761 hl (by decide) rfl (fun ls hl => ?_)
        refine lv_aload_n hx hb dL_law_1763 rfl (lv_at hl 3 rfl) ?_
        refine lw_sc (j := i + 1) (v := ((k : Nat) : Int)) hx hb hX hbl hbA hS (lv_at hl 1 rfl) (lv_at hl 6 rfl) (by omega) (by omega) hL hv1 dL_law_1764 dL_law_1765 dL_law_1767 dL_law_1768 dL_law_1769 ?_
        refine pg_wcallV (As := [.int (iI (((k : Nat) : Int)))]) (rest := []) (l1 := (lwJ aJ cJ (vp_updL f 0 (lI (((sN S + 1 : Nat) : Int))))) :: (xC X ((sS S, sA S, sU S, upN (sR S) (sN S) k, sN S + 1, sW S)) ++ [(lwD aD cD g)])) (l2 := []) (w := mC Y S t) (w' := mC Y ((sS S, sA S, sU S, upN (sR S) (sN S) k, sN S + 1, sW S)) 0) SC (pg_cY hYX (c_X1_join_ok l Y S t k hk h3 (by omega))) pT_st pT_h (cwV 1 hts gL_law_X1_join rfl rfl rfl (by decide +kernel) ⟨Nat.le_of_ble_eq_true rfl, Nat.le_of_ble_eq_true rfl⟩) (va_recv hKY hP (ci := 1) (q0 := 7) rfl rfl) hKY hP hD hS rfl rfl hl.1 rfl (Nat.le_of_ble_eq_true rfl) dL_law_1770 ⟨hc0.1, hc0.2⟩ (fun H locs hP hD hS => ?_)
        have hP : va_P (xG X) vwCl (lwW X Y ((sS S, sA S, sU S, upN (sR S) (sN S) k, sN S + 1, sW S)) ((sS S, sA S, sU S, upN (sR S) (sN S) k, sN S + 1, sW S)) 0 (lwJ aJ cJ (vp_updL f 0 (lI (((sN S + 1 : Nat) : Int))))) (lwD aD cD g)) H := hP
        have hD : va_D (fun q => s.heap.size ≤ q) (lwW X Y ((sS S, sA S, sU S, upN (sR S) (sN S) k, sN S + 1, sW S)) ((sS S, sA S, sU S, upN (sR S) (sN S) k, sN S + 1, sW S)) 0 (lwJ aJ cJ (vp_updL f 0 (lI (((sN S + 1 : Nat) : Int))))) (lwD aD cD g)) := hD
        refine lv_istore (lv' := [(7, .int (iI (((sN S + 1 : Nat) : Int)))), (6, .int (iI 0)), (0, .ref b), (1, .ref ((xa X 0))), (2, .ref ((xa Y 0))), (3, .ref aJ), (4, .ref aD), (5, .int (iI ((i : Int))))]) hx hb dL_law_1773 hl (by decide) rfl (fun ls hl => ?_)
        refine lv_aload_n hx hb dL_law_1775 rfl (lv_at hl 4 rfl) ?_
        refine pg_callV (As := []) (rest := []) SC (c_X1_thrown l Y ((sS S, sA S, sU S, upN (sR S) (sN S) k, sN S + 1, sW S)) 0) mB_st (lw_mB hYX hKY hP) (cwV 0 hts gL_law_X1_thrown rfl rfl rfl (by decide +kernel) ⟨Nat.le_of_ble_eq_true rfl, Nat.le_of_ble_eq_true rfl⟩) (va_recv hKY hP (ci := 1) (q0 := 7) rfl rfl) rfl hl.1 rfl (Nat.le_of_ble_eq_true rfl) dL_law_1776 ⟨hc0.1, hc0.2⟩ ?_
        refine lv_iload hx hb dL_law_1779 (lv_at hl 1 rfl) ?_
        refine lw_same (tgt := 1786) hx hb (⟨by omega, by omega⟩) dL_law_1781 (by decide) ?_
        refine lv_iload hx hb dL_law_1786 (lv_at hl 1 rfl) ?_
        refine pg_if_ne (tgt := 1803) hx hb dL_law_1788 (by decide) (⟨by omega, by omega⟩) (fun h9 => absurd rfl h9) (fun _ => ?_)
        refine lv_aload_n hx hb dL_law_1791 rfl (lv_at hl 5 rfl) ?_
        refine lv_iconst (v := iI 0) hx hb dL_law_1792 rfl ?_
        refine pg_lld0 hx hb hKJ hP 0 2 rfl rfl dL_law_1793 ?_
        refine lv_iload hx hb dL_law_1794 (lv_at hl 0 rfl) ?_
        refine pg_i2l hx hb dL_law_1796 (⟨by omega, by omega⟩) ?_
        refine lw_leq (tgt := 1803) hx hb rfl dL_law_1797 dL_law_1798 (by decide) ?_
        refine lv_goto (tgt := 2002) hx hb dL_law_1803 (by decide) ?_
        exact pg_widen (Nat.le_succ _) (Nat.le_add_right _ 6) (kk ((sS S, sA S, sU S, upN (sR S) (sN S) k, sN S + 1, sW S)) 0 ((vp_updL f 0 (lI (((sN S + 1 : Nat) : Int))))) g H locs ls ⟨hP, hD, hS, ⟨hok.1, hok.2.1, hok.2.2.1, upN_le hok.2.2.2.1 (by omega), (by omega : sN S + 1 ≤ 12), hok.2.2.2.2.2⟩⟩ (lv_sub hl [2, 3, 4, 5, 6, 7] rfl))
