set_option maxRecDepth 100000 in
set_option maxHeartbeats 4000000 in
theorem c_X0_put_th1 (l : Launch) (hfl : l.stackTraces = false) (N : Nat) (X : pgX) (S : pgS) (pp : Int) (hp : inI pp) (h : pp < 0 ∨ 12 ≤ pp) (a u : Int) : pg_th l yX0_put wsX0_put (rmx 7 102) (xE N X S) [.ref ((xa X 0)), .int (iI pp), .int (iI a), .int (iI u)] "java/lang/IndexOutOfBoundsException" := by
  refine pg_th_of (cc := cX0_put) (maxL := 5) (ret := (some .boolean)) (by decide) rfl (Nat.le_of_ble_eq_true rfl) ?_
  intro p e s m below meth c ls SC hT hlk hB hl
  obtain ⟨hx, hb, hml, hown, hts⟩ := id SC
  have hown : s.vm.findClass RX0 = some m.cls := hown
  obtain ⟨⟨hP, hK⟩, hE⟩ := id hB
  have hl : lv_has ls 5 [(0, .ref ((xa X 0))), (1, .int (iI pp)), (2, .int (iI a)), (3, .int (iI u))] := hl
  refine lv_iload_n hx hb dX0_put_0 rfl (lv_at hl 1 rfl) ?_
  exact pg_thS (As := [.int (iI pp)]) (rest := []) SC (c_X0_requirePeg_th l hfl N pp ⟨by omega, by omega⟩ (by omega)) exB_st (pg_h_of exB_st hE) (va_cwS 1 hts gX0_put_X0_requirePeg rfl rfl rfl (by decide +kernel) ⟨Nat.le_of_ble_eq_true rfl, Nat.le_of_ble_eq_true rfl⟩) hT hlk rfl hl.1 rfl (Nat.le_of_ble_eq_true rfl) dX0_put_1 ⟨Nat.le_of_ble_eq_true rfl, Nat.le_of_ble_eq_true rfl⟩
set_option maxRecDepth 100000 in
set_option maxHeartbeats 4000000 in
theorem c_X0_put_th2 (l : Launch) (hfl : l.stackTraces = false) (N : Nat) (X : pgX) (S : pgS) (k : Nat) (hk : k < 12) (a u : Int) (ha : inI a) (hu : inI u) (h : a < 0 ∨ 91 ≤ a ∨ u < 0 ∨ 91 ≤ u) : pg_th l yX0_put wsX0_put (rmx 6 82) (xE N X S) [.ref ((xa X 0)), .int (iI (((k : Nat) : Int))), .int (iI a), .int (iI u)] "java/lang/IllegalArgumentException" := by
  refine pg_th_of (cc := cX0_put) (maxL := 5) (ret := (some .boolean)) (by decide) rfl (Nat.le_of_ble_eq_true rfl) ?_
  intro p e s m below meth c ls SC hT hlk hB hl
  obtain ⟨hx, hb, hml, hown, hts⟩ := id SC
  have hown : s.vm.findClass RX0 = some m.cls := hown
  obtain ⟨⟨hP, hK⟩, hE⟩ := id hB
  have hl : lv_has ls 5 [(0, .ref ((xa X 0))), (1, .int (iI (((k : Nat) : Int)))), (2, .int (iI a)), (3, .int (iI u))] := hl
  refine lv_iload_n hx hb dX0_put_0 rfl (lv_at hl 1 rfl) ?_
  refine pg_callSv (As := [.int (iI (((k : Nat) : Int)))]) (rest := []) SC (c_X0_requirePeg_ok l (((k : Nat) : Int)) ⟨by omega, by omega⟩) pT_st pT_h (va_cwS 1 hts gX0_put_X0_requirePeg rfl rfl rfl (by decide +kernel) ⟨Nat.le_of_ble_eq_true rfl, Nat.le_of_ble_eq_true rfl⟩) rfl hl.1 rfl (Nat.le_of_ble_eq_true rfl) dX0_put_1 ⟨Nat.zero_le _, Nat.zero_le _⟩ ?_
  refine lv_iload_n hx hb dX0_put_4 rfl (lv_at hl 2 rfl) ?_
  by_cases hs1 : 0 ≤ a ∧ a < 91
  · refine pg_callS (As := [.int (iI a)]) (rest := []) SC (c_X0_isPlace l a 1 ⟨by omega, by omega⟩ (by omega)) pT_st pT_h (va_cwS 1 hts gX0_put_X0_isPlace rfl rfl rfl (by decide +kernel) ⟨Nat.le_of_ble_eq_true rfl, Nat.le_of_ble_eq_true rfl⟩) rfl hl.1 rfl (Nat.le_of_ble_eq_true rfl) dX0_put_5 ⟨Nat.zero_le _, Nat.zero_le _⟩ ?_
    refine pg_if_eq (tgt := 18) hx hb dX0_put_8 (by decide) (⟨by omega, by omega⟩) (fun hc2 => absurd hc2 (by omega)) (fun hc2 => ?_)
    refine lv_iload_n hx hb dX0_put_11 rfl (lv_at hl 3 rfl) ?_
    refine pg_callS (As := [.int (iI u)]) (rest := []) SC (c_X0_isPlace l u 0 ⟨by omega, by omega⟩ (by omega)) pT_st pT_h (va_cwS 1 hts gX0_put_X0_isPlace rfl rfl rfl (by decide +kernel) ⟨Nat.le_of_ble_eq_true rfl, Nat.le_of_ble_eq_true rfl⟩) rfl hl.1 rfl (Nat.le_of_ble_eq_true rfl) dX0_put_12 ⟨Nat.zero_le _, Nat.zero_le _⟩ ?_
    refine pg_if_ne (tgt := 28) hx hb dX0_put_15 (by decide) (⟨by omega, by omega⟩) (fun hc3 => absurd hc3 (by omega)) (fun hc3 => ?_)
    obtain ⟨sa, hsa⟩ := hE.1 (41, "no such place") (by decide)
    have hat : ∀ w ∈ (vx_atS RX0 43 "java/lang/IllegalArgumentException" ["java/lang/RuntimeException", "java/lang/Exception"]), w.before _ s = true := vx_hat (fun w hm => hts w (List.mem_cons_of_mem _ (by first | exact List.mem_append_right _ hm | exact List.mem_append_left _ (List.mem_append_right _ hm) | exact List.mem_append_left _ (List.mem_append_left _ (List.mem_append_right _ hm)) | exact List.mem_append_left _ (List.mem_append_left _ (List.mem_append_left _ (List.mem_append_right _ hm)))))) ex_bad1 (fun w h => hE.2.2.2 w h _)
    exact vx_throwS (cls := "java/lang/IllegalArgumentException") (names := ["java/lang/RuntimeException", "java/lang/Exception"]) hx hb hfl hown (by decide +kernel) (by decide +kernel) (hts (.classLink RX0 39 "java/lang/IllegalArgumentException") (by decide +kernel)) (hts (.initialized "java/lang/IllegalArgumentException") (by decide +kernel)) hsa hat (by decide +kernel) hE.2.1 hE.2.2.1 va_S.rf (hl.1.trans hml.symm) dX0_put_18 dX0_put_21 dX0_put_22 dX0_put_24 dX0_put_27 (fun x h => (hT x h).elim) (Nat.le_of_ble_eq_true rfl) (Nat.le_of_ble_eq_true rfl) (Nat.le_of_ble_eq_true rfl) (Nat.le_of_ble_eq_true rfl) hlk (fun t _ h1 h2 => ⟨rfl, h1, h2⟩) (fun z h => nomatch h) (Nat.le_refl _) (Nat.le_refl _)
  · refine pg_callS (As := [.int (iI a)]) (rest := []) SC (c_X0_isPlace l a 0 ⟨by omega, by omega⟩ (by omega)) pT_st pT_h (va_cwS 1 hts gX0_put_X0_isPlace rfl rfl rfl (by decide +kernel) ⟨Nat.le_of_ble_eq_true rfl, Nat.le_of_ble_eq_true rfl⟩) rfl hl.1 rfl (Nat.le_of_ble_eq_true rfl) dX0_put_5 ⟨Nat.zero_le _, Nat.zero_le _⟩ ?_
    refine pg_if_eq (tgt := 18) hx hb dX0_put_8 (by decide) (⟨by omega, by omega⟩) (fun hc4 => ?_) (fun hc4 => absurd hc4 (by omega))
    obtain ⟨sa, hsa⟩ := hE.1 (41, "no such place") (by decide)
    have hat : ∀ w ∈ (vx_atS RX0 43 "java/lang/IllegalArgumentException" ["java/lang/RuntimeException", "java/lang/Exception"]), w.before _ s = true := vx_hat (fun w hm => hts w (List.mem_cons_of_mem _ (by first | exact List.mem_append_right _ hm | exact List.mem_append_left _ (List.mem_append_right _ hm) | exact List.mem_append_left _ (List.mem_append_left _ (List.mem_append_right _ hm)) | exact List.mem_append_left _ (List.mem_append_left _ (List.mem_append_left _ (List.mem_append_right _ hm)))))) ex_bad1 (fun w h => hE.2.2.2 w h _)
    exact vx_throwS (cls := "java/lang/IllegalArgumentException") (names := ["java/lang/RuntimeException", "java/lang/Exception"]) hx hb hfl hown (by decide +kernel) (by decide +kernel) (hts (.classLink RX0 39 "java/lang/IllegalArgumentException") (by decide +kernel)) (hts (.initialized "java/lang/IllegalArgumentException") (by decide +kernel)) hsa hat (by decide +kernel) hE.2.1 hE.2.2.1 va_S.rf (hl.1.trans hml.symm) dX0_put_18 dX0_put_21 dX0_put_22 dX0_put_24 dX0_put_27 (fun x h => (hT x h).elim) (Nat.le_of_ble_eq_true rfl) (Nat.le_of_ble_eq_true rfl) (Nat.le_of_ble_eq_true rfl) (Nat.le_of_ble_eq_true rfl) hlk (fun t _ h1 h2 => ⟨rfl, h1, h2⟩) (fun z h => nomatch h) (Nat.le_refl _) (Nat.le_refl _)
set_option maxRecDepth 100000 in
set_option maxHeartbeats 4000000 in
theorem c_X0_take_th1 (l : Launch) (hfl : l.stackTraces = false) (N : Nat) (X : pgX) (S : pgS) (pp : Int) (hp : inI pp) (h : pp < 0 ∨ 12 ≤ pp)  : pg_th l yX0_take wsX0_take (rmx 7 102) (xE N X S) [.ref ((xa X 0)), .int (iI pp)] "java/lang/IndexOutOfBoundsException" := by
  refine pg_th_of (cc := cX0_take) (maxL := 2) (ret := none) (by decide) rfl (Nat.le_of_ble_eq_true rfl) ?_
  intro p e s m below meth c ls SC hT hlk hB hl
  obtain ⟨hx, hb, hml, hown, hts⟩ := id SC
  have hown : s.vm.findClass RX0 = some m.cls := hown
  obtain ⟨⟨hP, hK⟩, hE⟩ := id hB
  have hl : lv_has ls 2 [(0, .ref ((xa X 0))), (1, .int (iI pp))] := hl
  refine lv_iload_n hx hb dX0_take_0 rfl (lv_at hl 1 rfl) ?_
  exact pg_thS (As := [.int (iI pp)]) (rest := []) SC (c_X0_requirePeg_th l hfl N pp ⟨by omega, by omega⟩ (by omega)) exB_st (pg_h_of exB_st hE) (va_cwS 1 hts gX0_take_X0_requirePeg rfl rfl rfl (by decide +kernel) ⟨Nat.le_of_ble_eq_true rfl, Nat.le_of_ble_eq_true rfl⟩) hT hlk rfl hl.1 rfl (Nat.le_of_ble_eq_true rfl) dX0_take_1 ⟨Nat.le_of_ble_eq_true rfl, Nat.le_of_ble_eq_true rfl⟩
set_option maxRecDepth 100000 in
set_option maxHeartbeats 4000000 in
theorem c_X0_take_th2 (l : Launch) (hfl : l.stackTraces = false) (N : Nat) (X : pgX) (S : pgS) (k : Nat) (hk : k < 12) (h1 : sS S k = 0)  : pg_th l yX0_take wsX0_take (rmx 7 103) (xE N X S) [.ref ((xa X 0)), .int (iI (((k : Nat) : Int)))] "java/util/NoSuchElementException" := by
  refine pg_th_of (cc := cX0_take) (maxL := 2) (ret := none) (by decide) rfl (Nat.le_of_ble_eq_true rfl) ?_
  intro p e s m below meth c ls SC hT hlk hB hl
  obtain ⟨hx, hb, hml, hown, hts⟩ := id SC
  have hown : s.vm.findClass RX0 = some m.cls := hown
  obtain ⟨⟨hP, hK⟩, hE⟩ := id hB
  have hl : lv_has ls 2 [(0, .ref ((xa X 0))), (1, .int (iI (((k : Nat) : Int))))] := hl
  refine lv_iload_n hx hb dX0_take_0 rfl (lv_at hl 1 rfl) ?_
  refine pg_callSv (As := [.int (iI (((k : Nat) : Int)))]) (rest := []) SC (c_X0_requirePeg_ok l (((k : Nat) : Int)) ⟨by omega, by omega⟩) pT_st pT_h (va_cwS 1 hts gX0_take_X0_requirePeg rfl rfl rfl (by decide +kernel) ⟨Nat.le_of_ble_eq_true rfl, Nat.le_of_ble_eq_true rfl⟩) rfl hl.1 rfl (Nat.le_of_ble_eq_true rfl) dX0_take_1 ⟨Nat.zero_le _, Nat.zero_le _⟩ ?_
  refine lv_aload_n hx hb dX0_take_4 rfl (lv_at hl 0 rfl) ?_
  refine lv_iload_n hx hb dX0_take_5 rfl (lv_at hl 1 rfl) ?_
  exact pg_thV (As := [.int (iI (((k : Nat) : Int)))]) (rest := []) SC (c_X0_requireStanding_th l hfl N X S k hk (by omega)) xE_st (pg_h_of xE_st hB) (cwV 1 hts gX0_take_X0_requireStanding rfl rfl rfl (by decide +kernel) ⟨Nat.le_of_ble_eq_true rfl, Nat.le_of_ble_eq_true rfl⟩) (va_recv hK hP (ci := 0) (q0 := 0) rfl rfl) hT hlk rfl hl.1 rfl (Nat.le_of_ble_eq_true rfl) dX0_take_6 ⟨Nat.le_of_ble_eq_true rfl, Nat.le_of_ble_eq_true rfl⟩
set_option maxRecDepth 100000 in
set_option maxHeartbeats 4000000 in
theorem c_X0_take_th3 (l : Launch) (hfl : l.stackTraces = false) (N : Nat) (X : pgX) (S : pgS) (hok : pgOk S) (k : Nat) (hk : k < 12) (h1 : sS S k = 1) (hr9 : ∃ j, j < sN S ∧ sR S j = k) : pg_th l yX0_take wsX0_take (rmx 6 82) (xE N X S) [.ref ((xa X 0)), .int (iI (((k : Nat) : Int)))] "java/lang/IllegalStateException" := by
  refine pg_th_of (cc := cX0_take) (maxL := 2) (ret := none) (by decide) rfl (Nat.le_of_ble_eq_true rfl) ?_
  intro p e s m below meth c ls SC hT hlk hB hl
  obtain ⟨hx, hb, hml, hown, hts⟩ := id SC
  have hown : s.vm.findClass RX0 = some m.cls := hown
  obtain ⟨⟨hP, hK⟩, hE⟩ := id hB
  have hl : lv_has ls 2 [(0, .ref ((xa X 0))), (1, .int (iI (((k : Nat) : Int))))] := hl
  refine lv_iload_n hx hb dX0_take_0 rfl (lv_at hl 1 rfl) ?_
  refine pg_callSv (As := [.int (iI (((k : Nat) : Int)))]) (rest := []) SC (c_X0_requirePeg_ok l (((k : Nat) : Int)) ⟨by omega, by omega⟩) pT_st pT_h (va_cwS 1 hts gX0_take_X0_requirePeg rfl rfl rfl (by decide +kernel) ⟨Nat.le_of_ble_eq_true rfl, Nat.le_of_ble_eq_true rfl⟩) rfl hl.1 rfl (Nat.le_of_ble_eq_true rfl) dX0_take_1 ⟨Nat.zero_le _, Nat.zero_le _⟩ ?_
  refine lv_aload_n hx hb dX0_take_4 rfl (lv_at hl 0 rfl) ?_
  refine lv_iload_n hx hb dX0_take_5 rfl (lv_at hl 1 rfl) ?_
  refine pg_callVv (As := [.int (iI (((k : Nat) : Int)))]) (rest := []) SC (c_X0_requireStanding_ok l X S k hk h1) xB_st (xB_h hP hK) (cwV 1 hts gX0_take_X0_requireStanding rfl rfl rfl (by decide +kernel) ⟨Nat.le_of_ble_eq_true rfl, Nat.le_of_ble_eq_true rfl⟩) (va_recv hK hP (ci := 0) (q0 := 0) rfl rfl) rfl hl.1 rfl (Nat.le_of_ble_eq_true rfl) dX0_take_6 ⟨Nat.zero_le _, Nat.zero_le _⟩ ?_
  refine lv_aload_n hx hb dX0_take_9 rfl (lv_at hl 0 rfl) ?_
  refine lv_iload_n hx hb dX0_take_10 rfl (lv_at hl 1 rfl) ?_
  refine pg_callV (As := [.int (iI (((k : Nat) : Int)))]) (rest := []) SC (c_X0_isInRing l X S hok k hk 1 (Or.inl ⟨hr9, rfl⟩)) xB_st (xB_h hP hK) (cwV 1 hts gX0_take_X0_isInRing rfl rfl rfl (by decide +kernel) ⟨Nat.le_of_ble_eq_true rfl, Nat.le_of_ble_eq_true rfl⟩) (va_recv hK hP (ci := 0) (q0 := 0) rfl rfl) rfl hl.1 rfl (Nat.le_of_ble_eq_true rfl) dX0_take_11 ⟨Nat.zero_le _, Nat.zero_le _⟩ ?_
  refine pg_if_eq (tgt := 27) hx hb dX0_take_14 (by decide) (⟨by omega, by omega⟩) (fun hc1 => absurd hc1 (by omega)) (fun hc1 => ?_)
  obtain ⟨sa, hsa⟩ := hE.1 (61, "the peg stands in the ring") (by decide)
  have hat : ∀ w ∈ (vx_atS RX0 63 "java/lang/IllegalStateException" ["java/lang/RuntimeException", "java/lang/Exception"]), w.before _ s = true := vx_hat (fun w hm => hts w (List.mem_cons_of_mem _ (by first | exact List.mem_append_right _ hm | exact List.mem_append_left _ (List.mem_append_right _ hm) | exact List.mem_append_left _ (List.mem_append_left _ (List.mem_append_right _ hm)) | exact List.mem_append_left _ (List.mem_append_left _ (List.mem_append_left _ (List.mem_append_right _ hm)))))) ex_bad3 (fun w h => hE.2.2.2 w h _)
  exact vx_throwS (cls := "java/lang/IllegalStateException") (names := ["java/lang/RuntimeException", "java/lang/Exception"]) hx hb hfl hown (by decide +kernel) (by decide +kernel) (hts (.classLink RX0 59 "java/lang/IllegalStateException") (by decide +kernel)) (hts (.initialized "java/lang/IllegalStateException") (by decide +kernel)) hsa hat (by decide +kernel) hE.2.1 hE.2.2.1 va_S.rf (hl.1.trans hml.symm) dX0_take_17 dX0_take_20 dX0_take_21 dX0_take_23 dX0_take_26 (fun x h => (hT x h).elim) (Nat.le_of_ble_eq_true rfl) (Nat.le_of_ble_eq_true rfl) (Nat.le_of_ble_eq_true rfl) (Nat.le_of_ble_eq_true rfl) hlk (fun t _ h1 h2 => ⟨rfl, h1, h2⟩) (fun z h => nomatch h) (Nat.le_refl _) (Nat.le_refl _)
set_option maxRecDepth 100000 in
set_option maxHeartbeats 4000000 in
theorem c_X0_step_th1 (l : Launch) (hfl : l.stackTraces = false) (N : Nat) (X : pgX) (S : pgS) (pp : Int) (hp : inI pp) (h : pp < 0 ∨ 12 ≤ pp) (way : Int) : pg_th l yX0_step wsX0_step (rmx 7 102) (xE N X S) [.ref ((xa X 0)), .int (iI pp), .int (iI way)] "java/lang/IndexOutOfBoundsException" := by
  refine pg_th_of (cc := cX0_step) (maxL := 5) (ret := (some .boolean)) (by decide) rfl (Nat.le_of_ble_eq_true rfl) ?_
  intro p e s m below meth c ls SC hT hlk hB hl
  obtain ⟨hx, hb, hml, hown, hts⟩ := id SC
  have hown : s.vm.findClass RX0 = some m.cls := hown
  obtain ⟨⟨hP, hK⟩, hE⟩ := id hB
  have hl : lv_has ls 5 [(0, .ref ((xa X 0))), (1, .int (iI pp)), (2, .int (iI way))] := hl
  refine lv_iload_n hx hb dX0_step_0 rfl (lv_at hl 1 rfl) ?_
  exact pg_thS (As := [.int (iI pp)]) (rest := []) SC (c_X0_requirePeg_th l hfl N pp ⟨by omega, by omega⟩ (by omega)) exB_st (pg_h_of exB_st hE) (va_cwS 1 hts gX0_step_X0_requirePeg rfl rfl rfl (by decide +kernel) ⟨Nat.le_of_ble_eq_true rfl, Nat.le_of_ble_eq_true rfl⟩) hT hlk rfl hl.1 rfl (Nat.le_of_ble_eq_true rfl) dX0_step_1 ⟨Nat.le_of_ble_eq_true rfl, Nat.le_of_ble_eq_true rfl⟩
set_option maxRecDepth 100000 in
set_option maxHeartbeats 4000000 in
theorem c_X0_step_th2 (l : Launch) (hfl : l.stackTraces = false) (N : Nat) (X : pgX) (S : pgS) (k : Nat) (hk : k < 12) (h1 : sS S k = 0) (way : Int) : pg_th l yX0_step wsX0_step (rmx 7 103) (xE N X S) [.ref ((xa X 0)), .int (iI (((k : Nat) : Int))), .int (iI way)] "java/util/NoSuchElementException" := by
  refine pg_th_of (cc := cX0_step) (maxL := 5) (ret := (some .boolean)) (by decide) rfl (Nat.le_of_ble_eq_true rfl) ?_
  intro p e s m below meth c ls SC hT hlk hB hl
  obtain ⟨hx, hb, hml, hown, hts⟩ := id SC
  have hown : s.vm.findClass RX0 = some m.cls := hown
  obtain ⟨⟨hP, hK⟩, hE⟩ := id hB
  have hl : lv_has ls 5 [(0, .ref ((xa X 0))), (1, .int (iI (((k : Nat) : Int)))), (2, .int (iI way))] := hl
  refine lv_iload_n hx hb dX0_step_0 rfl (lv_at hl 1 rfl) ?_
  refine pg_callSv (As := [.int (iI (((k : Nat) : Int)))]) (rest := []) SC (c_X0_requirePeg_ok l (((k : Nat) : Int)) ⟨by omega, by omega⟩) pT_st pT_h (va_cwS 1 hts gX0_step_X0_requirePeg rfl rfl rfl (by decide +kernel) ⟨Nat.le_of_ble_eq_true rfl, Nat.le_of_ble_eq_true rfl⟩) rfl hl.1 rfl (Nat.le_of_ble_eq_true rfl) dX0_step_1 ⟨Nat.zero_le _, Nat.zero_le _⟩ ?_
  refine lv_aload_n hx hb dX0_step_4 rfl (lv_at hl 0 rfl) ?_
  refine lv_iload_n hx hb dX0_step_5 rfl (lv_at hl 1 rfl) ?_
  exact pg_thV (As := [.int (iI (((k : Nat) : Int)))]) (rest := []) SC (c_X0_requireStanding_th l hfl N X S k hk (by omega)) xE_st (pg_h_of xE_st hB) (cwV 1 hts gX0_step_X0_requireStanding rfl rfl rfl (by decide +kernel) ⟨Nat.le_of_ble_eq_true rfl, Nat.le_of_ble_eq_true rfl⟩) (va_recv hK hP (ci := 0) (q0 := 0) rfl rfl) hT hlk rfl hl.1 rfl (Nat.le_of_ble_eq_true rfl) dX0_step_6 ⟨Nat.le_of_ble_eq_true rfl, Nat.le_of_ble_eq_true rfl⟩
set_option maxRecDepth 100000 in
set_option maxHeartbeats 4000000 in
theorem c_X0_step_th3 (l : Launch) (hfl : l.stackTraces = false) (N : Nat) (X : pgX) (S : pgS) (k : Nat) (hk : k < 12) (h1 : sS S k = 1) (way : Int) (hwi : inI way) (hw : way ≠ 110 ∧ way ≠ 115 ∧ way ≠ 101 ∧ way ≠ 119) : pg_th l yX0_step wsX0_step (rmx 6 82) (xE N X S) [.ref ((xa X 0)), .int (iI (((k : Nat) : Int))), .int (iI way)] "java/lang/IllegalArgumentException" := by
  refine pg_th_of (cc := cX0_step) (maxL := 5) (ret := (some .boolean)) (by decide) rfl (Nat.le_of_ble_eq_true rfl) ?_
  intro p e s m below meth c ls SC hT hlk hB hl
  obtain ⟨hx, hb, hml, hown, hts⟩ := id SC
  have hown : s.vm.findClass RX0 = some m.cls := hown
  obtain ⟨⟨hP, hK⟩, hE⟩ := id hB
  have hl : lv_has ls 5 [(0, .ref ((xa X 0))), (1, .int (iI (((k : Nat) : Int)))), (2, .int (iI way))] := hl
  refine lv_iload_n hx hb dX0_step_0 rfl (lv_at hl 1 rfl) ?_
  refine pg_callSv (As := [.int (iI (((k : Nat) : Int)))]) (rest := []) SC (c_X0_requirePeg_ok l (((k : Nat) : Int)) ⟨by omega, by omega⟩) pT_st pT_h (va_cwS 1 hts gX0_step_X0_requirePeg rfl rfl rfl (by decide +kernel) ⟨Nat.le_of_ble_eq_true rfl, Nat.le_of_ble_eq_true rfl⟩) rfl hl.1 rfl (Nat.le_of_ble_eq_true rfl) dX0_step_1 ⟨Nat.zero_le _, Nat.zero_le _⟩ ?_
  refine lv_aload_n hx hb dX0_step_4 rfl (lv_at hl 0 rfl) ?_
  refine lv_iload_n hx hb dX0_step_5 rfl (lv_at hl 1 rfl) ?_
  refine pg_callVv (As := [.int (iI (((k : Nat) : Int)))]) (rest := []) SC (c_X0_requireStanding_ok l X S k hk h1) xB_st (xB_h hP hK) (cwV 1 hts gX0_step_X0_requireStanding rfl rfl rfl (by decide +kernel) ⟨Nat.le_of_ble_eq_true rfl, Nat.le_of_ble_eq_true rfl⟩) (va_recv hK hP (ci := 0) (q0 := 0) rfl rfl) rfl hl.1 rfl (Nat.le_of_ble_eq_true rfl) dX0_step_6 ⟨Nat.zero_le _, Nat.zero_le _⟩ ?_
  refine lv_iload_n hx hb dX0_step_9 rfl (lv_at hl 2 rfl) ?_
  refine lv_bipush (v := iI 110) hx hb dX0_step_10 (by decide +kernel) ?_
  refine pg_icmp_eq (tgt := 43) hx hb dX0_step_12 (by decide) (⟨by omega, by omega⟩) (⟨by omega, by omega⟩) (fun hc1 => absurd hc1 (by omega)) (fun hc1 => ?_)
  refine lv_iload_n hx hb dX0_step_15 rfl (lv_at hl 2 rfl) ?_
  refine lv_bipush (v := iI 115) hx hb dX0_step_16 (by decide +kernel) ?_
  refine pg_icmp_eq (tgt := 43) hx hb dX0_step_18 (by decide) (⟨by omega, by omega⟩) (⟨by omega, by omega⟩) (fun hc2 => absurd hc2 (by omega)) (fun hc2 => ?_)
  refine lv_iload_n hx hb dX0_step_21 rfl (lv_at hl 2 rfl) ?_
  refine lv_bipush (v := iI 101) hx hb dX0_step_22 (by decide +kernel) ?_
  refine pg_icmp_eq (tgt := 43) hx hb dX0_step_24 (by decide) (⟨by omega, by omega⟩) (⟨by omega, by omega⟩) (fun hc3 => absurd hc3 (by omega)) (fun hc3 => ?_)
  refine lv_iload_n hx hb dX0_step_27 rfl (lv_at hl 2 rfl) ?_
  refine lv_bipush (v := iI 119) hx hb dX0_step_28 (by decide +kernel) ?_
  refine pg_icmp_eq (tgt := 43) hx hb dX0_step_30 (by decide) (⟨by omega, by omega⟩) (⟨by omega, by omega⟩) (fun hc4 => absurd hc4 (by omega)) (fun hc4 => ?_)
  obtain ⟨sa, hsa⟩ := hE.1 (67, "no such way") (by decide)
  have hat : ∀ w ∈ (vx_atS RX0 43 "java/lang/IllegalArgumentException" ["java/lang/RuntimeException", "java/lang/Exception"]), w.before _ s = true := vx_hat (fun w hm => hts w (List.mem_cons_of_mem _ (by first | exact List.mem_append_right _ hm | exact List.mem_append_left _ (List.mem_append_right _ hm) | exact List.mem_append_left _ (List.mem_append_left _ (List.mem_append_right _ hm)) | exact List.mem_append_left _ (List.mem_append_left _ (List.mem_append_left _ (List.mem_append_right _ hm)))))) ex_bad1 (fun w h => hE.2.2.2 w h _)
  exact vx_throwS (cls := "java/lang/IllegalArgumentException") (names := ["java/lang/RuntimeException", "java/lang/Exception"]) hx hb hfl hown (by decide +kernel) (by decide +kernel) (hts (.classLink RX0 39 "java/lang/IllegalArgumentException") (by decide +kernel)) (hts (.initialized "java/lang/IllegalArgumentException") (by decide +kernel)) hsa hat (by decide +kernel) hE.2.1 hE.2.2.1 va_S.rf (hl.1.trans hml.symm) dX0_step_33 dX0_step_36 dX0_step_37 dX0_step_39 dX0_step_42 (fun x h => (hT x h).elim) (Nat.le_of_ble_eq_true rfl) (Nat.le_of_ble_eq_true rfl) (Nat.le_of_ble_eq_true rfl) (Nat.le_of_ble_eq_true rfl) hlk (fun t _ h1 h2 => ⟨rfl, h1, h2⟩) (fun z h => nomatch h) (Nat.le_refl _) (Nat.le_refl _)
set_option maxRecDepth 100000 in
set_option maxHeartbeats 4000000 in
theorem c_X0_isThere_th1 (l : Launch) (hfl : l.stackTraces = false) (N : Nat) (X : pgX) (S : pgS) (pp : Int) (hp : inI pp) (h : pp < 0 ∨ 12 ≤ pp)  : pg_th l yX0_isThere wsX0_isThere (rmx 7 102) (xE N X S) [.ref ((xa X 0)), .int (iI pp)] "java/lang/IndexOutOfBoundsException" := by
  refine pg_th_of (cc := cX0_isThere) (maxL := 2) (ret := (some .boolean)) (by decide) rfl (Nat.le_of_ble_eq_true rfl) ?_
  intro p e s m below meth c ls SC hT hlk hB hl
  obtain ⟨hx, hb, hml, hown, hts⟩ := id SC
  have hown : s.vm.findClass RX0 = some m.cls := hown
  obtain ⟨⟨hP, hK⟩, hE⟩ := id hB
  have hl : lv_has ls 2 [(0, .ref ((xa X 0))), (1, .int (iI pp))] := hl
  refine lv_iload_n hx hb dX0_isThere_0 rfl (lv_at hl 1 rfl) ?_
  exact pg_thS (As := [.int (iI pp)]) (rest := []) SC (c_X0_requirePeg_th l hfl N pp ⟨by omega, by omega⟩ (by omega)) exB_st (pg_h_of exB_st hE) (va_cwS 1 hts gX0_isThere_X0_requirePeg rfl rfl rfl (by decide +kernel) ⟨Nat.le_of_ble_eq_true rfl, Nat.le_of_ble_eq_true rfl⟩) hT hlk rfl hl.1 rfl (Nat.le_of_ble_eq_true rfl) dX0_isThere_1 ⟨Nat.le_of_ble_eq_true rfl, Nat.le_of_ble_eq_true rfl⟩
set_option maxRecDepth 100000 in
set_option maxHeartbeats 4000000 in
theorem c_X0_placeOf_th1 (l : Launch) (hfl : l.stackTraces = false) (N : Nat) (X : pgX) (S : pgS) (pp : Int) (hp : inI pp) (h : pp < 0 ∨ 12 ≤ pp)  : pg_th l yX0_placeOf wsX0_placeOf (rmx 7 102) (xE N X S) [.ref ((xa X 0)), .int (iI pp)] "java/lang/IndexOutOfBoundsException" := by
  refine pg_th_of (cc := cX0_placeOf) (maxL := 2) (ret := (some .int)) (by decide) rfl (Nat.le_of_ble_eq_true rfl) ?_
  intro p e s m below meth c ls SC hT hlk hB hl
  obtain ⟨hx, hb, hml, hown, hts⟩ := id SC
  have hown : s.vm.findClass RX0 = some m.cls := hown
  obtain ⟨⟨hP, hK⟩, hE⟩ := id hB
  have hl : lv_has ls 2 [(0, .ref ((xa X 0))), (1, .int (iI pp))] := hl
  refine lv_iload_n hx hb dX0_placeOf_0 rfl (lv_at hl 1 rfl) ?_
  exact pg_thS (As := [.int (iI pp)]) (rest := []) SC (c_X0_requirePeg_th l hfl N pp ⟨by omega, by omega⟩ (by omega)) exB_st (pg_h_of exB_st hE) (va_cwS 1 hts gX0_placeOf_X0_requirePeg rfl rfl rfl (by decide +kernel) ⟨Nat.le_of_ble_eq_true rfl, Nat.le_of_ble_eq_true rfl⟩) hT hlk rfl hl.1 rfl (Nat.le_of_ble_eq_true rfl) dX0_placeOf_1 ⟨Nat.le_of_ble_eq_true rfl, Nat.le_of_ble_eq_true rfl⟩
set_option maxRecDepth 100000 in
set_option maxHeartbeats 4000000 in
theorem c_X0_placeOf_th2 (l : Launch) (hfl : l.stackTraces = false) (N : Nat) (X : pgX) (S : pgS) (k : Nat) (hk : k < 12) (h1 : sS S k = 0)  : pg_th l yX0_placeOf wsX0_placeOf (rmx 7 103) (xE N X S) [.ref ((xa X 0)), .int (iI (((k : Nat) : Int)))] "java/util/NoSuchElementException" := by
  refine pg_th_of (cc := cX0_placeOf) (maxL := 2) (ret := (some .int)) (by decide) rfl (Nat.le_of_ble_eq_true rfl) ?_
  intro p e s m below meth c ls SC hT hlk hB hl
  obtain ⟨hx, hb, hml, hown, hts⟩ := id SC
  have hown : s.vm.findClass RX0 = some m.cls := hown
  obtain ⟨⟨hP, hK⟩, hE⟩ := id hB
  have hl : lv_has ls 2 [(0, .ref ((xa X 0))), (1, .int (iI (((k : Nat) : Int))))] := hl
  refine lv_iload_n hx hb dX0_placeOf_0 rfl (lv_at hl 1 rfl) ?_
  refine pg_callSv (As := [.int (iI (((k : Nat) : Int)))]) (rest := []) SC (c_X0_requirePeg_ok l (((k : Nat) : Int)) ⟨by omega, by omega⟩) pT_st pT_h (va_cwS 1 hts gX0_placeOf_X0_requirePeg rfl rfl rfl (by decide +kernel) ⟨Nat.le_of_ble_eq_true rfl, Nat.le_of_ble_eq_true rfl⟩) rfl hl.1 rfl (Nat.le_of_ble_eq_true rfl) dX0_placeOf_1 ⟨Nat.zero_le _, Nat.zero_le _⟩ ?_
  refine lv_aload_n hx hb dX0_placeOf_4 rfl (lv_at hl 0 rfl) ?_
  refine lv_iload_n hx hb dX0_placeOf_5 rfl (lv_at hl 1 rfl) ?_
  exact pg_thV (As := [.int (iI (((k : Nat) : Int)))]) (rest := []) SC (c_X0_requireStanding_th l hfl N X S k hk (by omega)) xE_st (pg_h_of xE_st hB) (cwV 1 hts gX0_placeOf_X0_requireStanding rfl rfl rfl (by decide +kernel) ⟨Nat.le_of_ble_eq_true rfl, Nat.le_of_ble_eq_true rfl⟩) (va_recv hK hP (ci := 0) (q0 := 0) rfl rfl) hT hlk rfl hl.1 rfl (Nat.le_of_ble_eq_true rfl) dX0_placeOf_6 ⟨Nat.le_of_ble_eq_true rfl, Nat.le_of_ble_eq_true rfl⟩
set_option maxRecDepth 100000 in
set_option maxHeartbeats 4000000 in
theorem c_X0_stretch_th1 (l : Launch) (hfl : l.stackTraces = false) (N : Nat) (X : pgX) (S : pgS) (pp qq : Int) (hp : inI pp) (hq : inI qq) (h : pp < 0 ∨ 12 ≤ pp ∨ qq < 0 ∨ 12 ≤ qq) : pg_th l yX0_stretch wsX0_stretch (rmx 8 124) (xE N X S) [.ref ((xa X 0)), .int (iI pp), .int (iI qq)] "java/lang/IndexOutOfBoundsException" := by
  refine pg_th_of (cc := cX0_stretch) (maxL := 3) (ret := (some .int)) (by decide) rfl (Nat.le_of_ble_eq_true rfl) ?_
  intro p e s m below meth c ls SC hT hlk hB hl
  obtain ⟨hx, hb, hml, hown, hts⟩ := id SC
  have hown : s.vm.findClass RX0 = some m.cls := hown
  obtain ⟨⟨hP, hK⟩, hE⟩ := id hB
  have hl : lv_has ls 3 [(0, .ref ((xa X 0))), (1, .int (iI pp)), (2, .int (iI qq))] := hl
  refine lv_aload_n hx hb dX0_stretch_0 rfl (lv_at hl 0 rfl) ?_
  refine lv_iload_n hx hb dX0_stretch_1 rfl (lv_at hl 1 rfl) ?_
  refine lv_iload_n hx hb dX0_stretch_2 rfl (lv_at hl 2 rfl) ?_
  exact pg_thV (As := [.int (iI pp), .int (iI qq)]) (rest := []) SC (c_X0_requireTwo_th1 l hfl N X S pp qq hp hq h) xE_st (pg_h_of xE_st hB) (cwV 2 hts gX0_stretch_X0_requireTwo rfl rfl rfl (by decide +kernel) ⟨Nat.le_of_ble_eq_true rfl, Nat.le_of_ble_eq_true rfl⟩) (va_recv hK hP (ci := 0) (q0 := 0) rfl rfl) hT hlk rfl hl.1 rfl (Nat.le_of_ble_eq_true rfl) dX0_stretch_3 ⟨Nat.le_of_ble_eq_true rfl, Nat.le_of_ble_eq_true rfl⟩
set_option maxRecDepth 100000 in
set_option maxHeartbeats 4000000 in
theorem c_X0_stretch_th2 (l : Launch) (hfl : l.stackTraces = false) (N : Nat) (X : pgX) (S : pgS) (a b : Nat) (ha : a < 12) (hb2 : b < 12) (h : sS S a = 0 ∨ sS S b = 0) (h1 : sS S a ≤ 1) (h2 : sS S b ≤ 1) : pg_th l yX0_stretch wsX0_stretch (rmx 8 125) (xE N X S) [.ref ((xa X 0)), .int (iI (((a : Nat) : Int))), .int (iI (((b : Nat) : Int)))] "java/util/NoSuchElementException" := by
  refine pg_th_of (cc := cX0_stretch) (maxL := 3) (ret := (some .int)) (by decide) rfl (Nat.le_of_ble_eq_true rfl) ?_
  intro p e s m below meth c ls SC hT hlk hB hl
  obtain ⟨hx, hb, hml, hown, hts⟩ := id SC
  have hown : s.vm.findClass RX0 = some m.cls := hown
  obtain ⟨⟨hP, hK⟩, hE⟩ := id hB
  have hl : lv_has ls 3 [(0, .ref ((xa X 0))), (1, .int (iI (((a : Nat) : Int)))), (2, .int (iI (((b : Nat) : Int))))] := hl
  refine lv_aload_n hx hb dX0_stretch_0 rfl (lv_at hl 0 rfl) ?_
  refine lv_iload_n hx hb dX0_stretch_1 rfl (lv_at hl 1 rfl) ?_
  refine lv_iload_n hx hb dX0_stretch_2 rfl (lv_at hl 2 rfl) ?_
  exact pg_thV (As := [.int (iI (((a : Nat) : Int))), .int (iI (((b : Nat) : Int)))]) (rest := []) SC (c_X0_requireTwo_th2 l hfl N X S a b ha hb2 h h1 h2) xE_st (pg_h_of xE_st hB) (cwV 2 hts gX0_stretch_X0_requireTwo rfl rfl rfl (by decide +kernel) ⟨Nat.le_of_ble_eq_true rfl, Nat.le_of_ble_eq_true rfl⟩) (va_recv hK hP (ci := 0) (q0 := 0) rfl rfl) hT hlk rfl hl.1 rfl (Nat.le_of_ble_eq_true rfl) dX0_stretch_3 ⟨Nat.le_of_ble_eq_true rfl, Nat.le_of_ble_eq_true rfl⟩
set_option maxRecDepth 100000 in
set_option maxHeartbeats 4000000 in
theorem c_X0_isSteady_th1 (l : Launch) (hfl : l.stackTraces = false) (N : Nat) (X : pgX) (S : pgS) (pp qq : Int) (hp : inI pp) (hq : inI qq) (h : pp < 0 ∨ 12 ≤ pp ∨ qq < 0 ∨ 12 ≤ qq) : pg_th l yX0_isSteady wsX0_isSteady (rmx 8 124) (xE N X S) [.ref ((xa X 0)), .int (iI pp), .int (iI qq)] "java/lang/IndexOutOfBoundsException" := by
  refine pg_th_of (cc := cX0_isSteady) (maxL := 10) (ret := (some .boolean)) (by decide) rfl (Nat.le_of_ble_eq_true rfl) ?_
  intro p e s m below meth c ls SC hT hlk hB hl
  obtain ⟨hx, hb, hml, hown, hts⟩ := id SC
  have hown : s.vm.findClass RX0 = some m.cls := hown
  obtain ⟨⟨hP, hK⟩, hE⟩ := id hB
  have hl : lv_has ls 10 [(0, .ref ((xa X 0))), (1, .int (iI pp)), (2, .int (iI qq))] := hl
  refine lv_aload_n hx hb dX0_isSteady_0 rfl (lv_at hl 0 rfl) ?_
  refine lv_iload_n hx hb dX0_isSteady_1 rfl (lv_at hl 1 rfl) ?_
  refine lv_iload_n hx hb dX0_isSteady_2 rfl (lv_at hl 2 rfl) ?_
  exact pg_thV (As := [.int (iI pp), .int (iI qq)]) (rest := []) SC (c_X0_requireTwo_th1 l hfl N X S pp qq hp hq h) xE_st (pg_h_of xE_st hB) (cwV 2 hts gX0_isSteady_X0_requireTwo rfl rfl rfl (by decide +kernel) ⟨Nat.le_of_ble_eq_true rfl, Nat.le_of_ble_eq_true rfl⟩) (va_recv hK hP (ci := 0) (q0 := 0) rfl rfl) hT hlk rfl hl.1 rfl (Nat.le_of_ble_eq_true rfl) dX0_isSteady_3 ⟨Nat.le_of_ble_eq_true rfl, Nat.le_of_ble_eq_true rfl⟩
set_option maxRecDepth 100000 in
set_option maxHeartbeats 4000000 in
theorem c_X0_isSteady_th2 (l : Launch) (hfl : l.stackTraces = false) (N : Nat) (X : pgX) (S : pgS) (a b : Nat) (ha : a < 12) (hb2 : b < 12) (h : sS S a = 0 ∨ sS S b = 0) (h1 : sS S a ≤ 1) (h2 : sS S b ≤ 1) : pg_th l yX0_isSteady wsX0_isSteady (rmx 8 125) (xE N X S) [.ref ((xa X 0)), .int (iI (((a : Nat) : Int))), .int (iI (((b : Nat) : Int)))] "java/util/NoSuchElementException" := by
  refine pg_th_of (cc := cX0_isSteady) (maxL := 10) (ret := (some .boolean)) (by decide) rfl (Nat.le_of_ble_eq_true rfl) ?_
  intro p e s m below meth c ls SC hT hlk hB hl
  obtain ⟨hx, hb, hml, hown, hts⟩ := id SC
  have hown : s.vm.findClass RX0 = some m.cls := hown
  obtain ⟨⟨hP, hK⟩, hE⟩ := id hB
  have hl : lv_has ls 10 [(0, .ref ((xa X 0))), (1, .int (iI (((a : Nat) : Int)))), (2, .int (iI (((b : Nat) : Int))))] := hl
  refine lv_aload_n hx hb dX0_isSteady_0 rfl (lv_at hl 0 rfl) ?_
  refine lv_iload_n hx hb dX0_isSteady_1 rfl (lv_at hl 1 rfl) ?_
  refine lv_iload_n hx hb dX0_isSteady_2 rfl (lv_at hl 2 rfl) ?_
  exact pg_thV (As := [.int (iI (((a : Nat) : Int))), .int (iI (((b : Nat) : Int)))]) (rest := []) SC (c_X0_requireTwo_th2 l hfl N X S a b ha hb2 h h1 h2) xE_st (pg_h_of xE_st hB) (cwV 2 hts gX0_isSteady_X0_requireTwo rfl rfl rfl (by decide +kernel) ⟨Nat.le_of_ble_eq_true rfl, Nat.le_of_ble_eq_true rfl⟩) (va_recv hK hP (ci := 0) (q0 := 0) rfl rfl) hT hlk rfl hl.1 rfl (Nat.le_of_ble_eq_true rfl) dX0_isSteady_3 ⟨Nat.le_of_ble_eq_true rfl, Nat.le_of_ble_eq_true rfl⟩
set_option maxRecDepth 100000 in
set_option maxHeartbeats 4000000 in
theorem c_X0_isDoubled_th1 (l : Launch) (hfl : l.stackTraces = false) (N : Nat) (X : pgX) (S : pgS) (pp qq : Int) (hp : inI pp) (hq : inI qq) (h : pp < 0 ∨ 12 ≤ pp ∨ qq < 0 ∨ 12 ≤ qq) : pg_th l yX0_isDoubled wsX0_isDoubled (rmx 8 124) (xE N X S) [.ref ((xa X 0)), .int (iI pp), .int (iI qq)] "java/lang/IndexOutOfBoundsException" := by
  refine pg_th_of (cc := cX0_isDoubled) (maxL := 5) (ret := (some .boolean)) (by decide) rfl (Nat.le_of_ble_eq_true rfl) ?_
  intro p e s m below meth c ls SC hT hlk hB hl
  obtain ⟨hx, hb, hml, hown, hts⟩ := id SC
  have hown : s.vm.findClass RX0 = some m.cls := hown
  obtain ⟨⟨hP, hK⟩, hE⟩ := id hB
  have hl : lv_has ls 5 [(0, .ref ((xa X 0))), (1, .int (iI pp)), (2, .int (iI qq))] := hl
  refine lv_aload_n hx hb dX0_isDoubled_0 rfl (lv_at hl 0 rfl) ?_
  refine lv_iload_n hx hb dX0_isDoubled_1 rfl (lv_at hl 1 rfl) ?_
  refine lv_iload_n hx hb dX0_isDoubled_2 rfl (lv_at hl 2 rfl) ?_
  exact pg_thV (As := [.int (iI pp), .int (iI qq)]) (rest := []) SC (c_X0_requireTwo_th1 l hfl N X S pp qq hp hq h) xE_st (pg_h_of xE_st hB) (cwV 2 hts gX0_isDoubled_X0_requireTwo rfl rfl rfl (by decide +kernel) ⟨Nat.le_of_ble_eq_true rfl, Nat.le_of_ble_eq_true rfl⟩) (va_recv hK hP (ci := 0) (q0 := 0) rfl rfl) hT hlk rfl hl.1 rfl (Nat.le_of_ble_eq_true rfl) dX0_isDoubled_3 ⟨Nat.le_of_ble_eq_true rfl, Nat.le_of_ble_eq_true rfl⟩
set_option maxRecDepth 100000 in
set_option maxHeartbeats 4000000 in
theorem c_X0_isDoubled_th2 (l : Launch) (hfl : l.stackTraces = false) (N : Nat) (X : pgX) (S : pgS) (a b : Nat) (ha : a < 12) (hb2 : b < 12) (h : sS S a = 0 ∨ sS S b = 0) (h1 : sS S a ≤ 1) (h2 : sS S b ≤ 1) : pg_th l yX0_isDoubled wsX0_isDoubled (rmx 8 125) (xE N X S) [.ref ((xa X 0)), .int (iI (((a : Nat) : Int))), .int (iI (((b : Nat) : Int)))] "java/util/NoSuchElementException" := by
  refine pg_th_of (cc := cX0_isDoubled) (maxL := 5) (ret := (some .boolean)) (by decide) rfl (Nat.le_of_ble_eq_true rfl) ?_
  intro p e s m below meth c ls SC hT hlk hB hl
  obtain ⟨hx, hb, hml, hown, hts⟩ := id SC
  have hown : s.vm.findClass RX0 = some m.cls := hown
  obtain ⟨⟨hP, hK⟩, hE⟩ := id hB
  have hl : lv_has ls 5 [(0, .ref ((xa X 0))), (1, .int (iI (((a : Nat) : Int)))), (2, .int (iI (((b : Nat) : Int))))] := hl
  refine lv_aload_n hx hb dX0_isDoubled_0 rfl (lv_at hl 0 rfl) ?_
  refine lv_iload_n hx hb dX0_isDoubled_1 rfl (lv_at hl 1 rfl) ?_
  refine lv_iload_n hx hb dX0_isDoubled_2 rfl (lv_at hl 2 rfl) ?_
  exact pg_thV (As := [.int (iI (((a : Nat) : Int))), .int (iI (((b : Nat) : Int)))]) (rest := []) SC (c_X0_requireTwo_th2 l hfl N X S a b ha hb2 h h1 h2) xE_st (pg_h_of xE_st hB) (cwV 2 hts gX0_isDoubled_X0_requireTwo rfl rfl rfl (by decide +kernel) ⟨Nat.le_of_ble_eq_true rfl, Nat.le_of_ble_eq_true rfl⟩) (va_recv hK hP (ci := 0) (q0 := 0) rfl rfl) hT hlk rfl hl.1 rfl (Nat.le_of_ble_eq_true rfl) dX0_isDoubled_3 ⟨Nat.le_of_ble_eq_true rfl, Nat.le_of_ble_eq_true rfl⟩
set_option maxRecDepth 100000 in
set_option maxHeartbeats 4000000 in
theorem c_X0_isClose_th1 (l : Launch) (hfl : l.stackTraces = false) (N : Nat) (X : pgX) (S : pgS) (pp qq : Int) (hp : inI pp) (hq : inI qq) (h : pp < 0 ∨ 12 ≤ pp ∨ qq < 0 ∨ 12 ≤ qq) : pg_th l yX0_isClose wsX0_isClose (rmx 8 124) (xE N X S) [.ref ((xa X 0)), .int (iI pp), .int (iI qq)] "java/lang/IndexOutOfBoundsException" := by
  refine pg_th_of (cc := cX0_isClose) (maxL := 11) (ret := (some .boolean)) (by decide) rfl (Nat.le_of_ble_eq_true rfl) ?_
  intro p e s m below meth c ls SC hT hlk hB hl
  obtain ⟨hx, hb, hml, hown, hts⟩ := id SC
  have hown : s.vm.findClass RX0 = some m.cls := hown
  obtain ⟨⟨hP, hK⟩, hE⟩ := id hB
  have hl : lv_has ls 11 [(0, .ref ((xa X 0))), (1, .int (iI pp)), (2, .int (iI qq))] := hl
  refine lv_aload_n hx hb dX0_isClose_0 rfl (lv_at hl 0 rfl) ?_
  refine lv_iload_n hx hb dX0_isClose_1 rfl (lv_at hl 1 rfl) ?_
  refine lv_iload_n hx hb dX0_isClose_2 rfl (lv_at hl 2 rfl) ?_
  exact pg_thV (As := [.int (iI pp), .int (iI qq)]) (rest := []) SC (c_X0_requireTwo_th1 l hfl N X S pp qq hp hq h) xE_st (pg_h_of xE_st hB) (cwV 2 hts gX0_isClose_X0_requireTwo rfl rfl rfl (by decide +kernel) ⟨Nat.le_of_ble_eq_true rfl, Nat.le_of_ble_eq_true rfl⟩) (va_recv hK hP (ci := 0) (q0 := 0) rfl rfl) hT hlk rfl hl.1 rfl (Nat.le_of_ble_eq_true rfl) dX0_isClose_3 ⟨Nat.le_of_ble_eq_true rfl, Nat.le_of_ble_eq_true rfl⟩
set_option maxRecDepth 100000 in
set_option maxHeartbeats 4000000 in
theorem c_X0_isClose_th2 (l : Launch) (hfl : l.stackTraces = false) (N : Nat) (X : pgX) (S : pgS) (a b : Nat) (ha : a < 12) (hb2 : b < 12) (h : sS S a = 0 ∨ sS S b = 0) (h1 : sS S a ≤ 1) (h2 : sS S b ≤ 1) : pg_th l yX0_isClose wsX0_isClose (rmx 8 125) (xE N X S) [.ref ((xa X 0)), .int (iI (((a : Nat) : Int))), .int (iI (((b : Nat) : Int)))] "java/util/NoSuchElementException" := by
  refine pg_th_of (cc := cX0_isClose) (maxL := 11) (ret := (some .boolean)) (by decide) rfl (Nat.le_of_ble_eq_true rfl) ?_
  intro p e s m below meth c ls SC hT hlk hB hl
  obtain ⟨hx, hb, hml, hown, hts⟩ := id SC
  have hown : s.vm.findClass RX0 = some m.cls := hown
  obtain ⟨⟨hP, hK⟩, hE⟩ := id hB
  have hl : lv_has ls 11 [(0, .ref ((xa X 0))), (1, .int (iI (((a : Nat) : Int)))), (2, .int (iI (((b : Nat) : Int))))] := hl
  refine lv_aload_n hx hb dX0_isClose_0 rfl (lv_at hl 0 rfl) ?_
  refine lv_iload_n hx hb dX0_isClose_1 rfl (lv_at hl 1 rfl) ?_
  refine lv_iload_n hx hb dX0_isClose_2 rfl (lv_at hl 2 rfl) ?_
  exact pg_thV (As := [.int (iI (((a : Nat) : Int))), .int (iI (((b : Nat) : Int)))]) (rest := []) SC (c_X0_requireTwo_th2 l hfl N X S a b ha hb2 h h1 h2) xE_st (pg_h_of xE_st hB) (cwV 2 hts gX0_isClose_X0_requireTwo rfl rfl rfl (by decide +kernel) ⟨Nat.le_of_ble_eq_true rfl, Nat.le_of_ble_eq_true rfl⟩) (va_recv hK hP (ci := 0) (q0 := 0) rfl rfl) hT hlk rfl hl.1 rfl (Nat.le_of_ble_eq_true rfl) dX0_isClose_3 ⟨Nat.le_of_ble_eq_true rfl, Nat.le_of_ble_eq_true rfl⟩
set_option maxRecDepth 100000 in
set_option maxHeartbeats 4000000 in
theorem c_X0_rank_th1 (l : Launch) (hfl : l.stackTraces = false) (N : Nat) (X : pgX) (S : pgS) (pp qq : Int) (hp : inI pp) (hq : inI qq) (h : pp < 0 ∨ 12 ≤ pp ∨ qq < 0 ∨ 12 ≤ qq) : pg_th l yX0_rank wsX0_rank (rmx 8 124) (xE N X S) [.ref ((xa X 0)), .int (iI pp), .int (iI qq)] "java/lang/IndexOutOfBoundsException" := by
  refine pg_th_of (cc := cX0_rank) (maxL := 7) (ret := (some .int)) (by decide) rfl (Nat.le_of_ble_eq_true rfl) ?_
  intro p e s m below meth c ls SC hT hlk hB hl
  obtain ⟨hx, hb, hml, hown, hts⟩ := id SC
  have hown : s.vm.findClass RX0 = some m.cls := hown
  obtain ⟨⟨hP, hK⟩, hE⟩ := id hB
  have hl : lv_has ls 7 [(0, .ref ((xa X 0))), (1, .int (iI pp)), (2, .int (iI qq))] := hl
  refine lv_aload_n hx hb dX0_rank_0 rfl (lv_at hl 0 rfl) ?_
  refine lv_iload_n hx hb dX0_rank_1 rfl (lv_at hl 1 rfl) ?_
  refine lv_iload_n hx hb dX0_rank_2 rfl (lv_at hl 2 rfl) ?_
  exact pg_thV (As := [.int (iI pp), .int (iI qq)]) (rest := []) SC (c_X0_requireTwo_th1 l hfl N X S pp qq hp hq h) xE_st (pg_h_of xE_st hB) (cwV 2 hts gX0_rank_X0_requireTwo rfl rfl rfl (by decide +kernel) ⟨Nat.le_of_ble_eq_true rfl, Nat.le_of_ble_eq_true rfl⟩) (va_recv hK hP (ci := 0) (q0 := 0) rfl rfl) hT hlk rfl hl.1 rfl (Nat.le_of_ble_eq_true rfl) dX0_rank_3 ⟨Nat.le_of_ble_eq_true rfl, Nat.le_of_ble_eq_true rfl⟩
set_option maxRecDepth 100000 in
set_option maxHeartbeats 4000000 in
theorem c_X0_rank_th2 (l : Launch) (hfl : l.stackTraces = false) (N : Nat) (X : pgX) (S : pgS) (a b : Nat) (ha : a < 12) (hb2 : b < 12) (h : sS S a = 0 ∨ sS S b = 0) (h1 : sS S a ≤ 1) (h2 : sS S b ≤ 1) : pg_th l yX0_rank wsX0_rank (rmx 8 125) (xE N X S) [.ref ((xa X 0)), .int (iI (((a : Nat) : Int))), .int (iI (((b : Nat) : Int)))] "java/util/NoSuchElementException" := by
  refine pg_th_of (cc := cX0_rank) (maxL := 7) (ret := (some .int)) (by decide) rfl (Nat.le_of_ble_eq_true rfl) ?_
  intro p e s m below meth c ls SC hT hlk hB hl
  obtain ⟨hx, hb, hml, hown, hts⟩ := id SC
  have hown : s.vm.findClass RX0 = some m.cls := hown
  obtain ⟨⟨hP, hK⟩, hE⟩ := id hB
  have hl : lv_has ls 7 [(0, .ref ((xa X 0))), (1, .int (iI (((a : Nat) : Int)))), (2, .int (iI (((b : Nat) : Int))))] := hl
  refine lv_aload_n hx hb dX0_rank_0 rfl (lv_at hl 0 rfl) ?_
  refine lv_iload_n hx hb dX0_rank_1 rfl (lv_at hl 1 rfl) ?_
  refine lv_iload_n hx hb dX0_rank_2 rfl (lv_at hl 2 rfl) ?_
  exact pg_thV (As := [.int (iI (((a : Nat) : Int))), .int (iI (((b : Nat) : Int)))]) (rest := []) SC (c_X0_requireTwo_th2 l hfl N X S a b ha hb2 h h1 h2) xE_st (pg_h_of xE_st hB) (cwV 2 hts gX0_rank_X0_requireTwo rfl rfl rfl (by decide +kernel) ⟨Nat.le_of_ble_eq_true rfl, Nat.le_of_ble_eq_true rfl⟩) (va_recv hK hP (ci := 0) (q0 := 0) rfl rfl) hT hlk rfl hl.1 rfl (Nat.le_of_ble_eq_true rfl) dX0_rank_3 ⟨Nat.le_of_ble_eq_true rfl, Nat.le_of_ble_eq_true rfl⟩
set_option maxRecDepth 100000 in
set_option maxHeartbeats 4000000 in
theorem c_X0_isStraight_th1 (l : Launch) (hfl : l.stackTraces = false) (N : Nat) (X : pgX) (S : pgS) (pp qq rr : Int) (hp : inI pp) (hq : inI qq) (hr9 : inI rr) (h : pp < 0 ∨ 12 ≤ pp ∨ qq < 0 ∨ 12 ≤ qq ∨ rr < 0 ∨ 12 ≤ rr) : pg_th l yX0_isStraight wsX0_isStraight (rmx 7 102) (xE N X S) [.ref ((xa X 0)), .int (iI pp), .int (iI qq), .int (iI rr)] "java/lang/IndexOutOfBoundsException" := by
  refine pg_th_of (cc := cX0_isStraight) (maxL := 4) (ret := (some .boolean)) (by decide) rfl (Nat.le_of_ble_eq_true rfl) ?_
  intro p e s m below meth c ls SC hT hlk hB hl
  obtain ⟨hx, hb, hml, hown, hts⟩ := id SC
  have hown : s.vm.findClass RX0 = some m.cls := hown
  obtain ⟨⟨hP, hK⟩, hE⟩ := id hB
  have hl : lv_has ls 4 [(0, .ref ((xa X 0))), (1, .int (iI pp)), (2, .int (iI qq)), (3, .int (iI rr))] := hl
  refine lv_iload_n hx hb dX0_isStraight_0 rfl (lv_at hl 1 rfl) ?_
  by_cases hs1 : 0 ≤ pp ∧ pp < 12
  · refine pg_callSv (As := [.int (iI pp)]) (rest := []) SC (c_X0_requirePeg_ok l pp ⟨by omega, by omega⟩) pT_st pT_h (va_cwS 1 hts gX0_isStraight_X0_requirePeg rfl rfl rfl (by decide +kernel) ⟨Nat.le_of_ble_eq_true rfl, Nat.le_of_ble_eq_true rfl⟩) rfl hl.1 rfl (Nat.le_of_ble_eq_true rfl) dX0_isStraight_1 ⟨Nat.zero_le _, Nat.zero_le _⟩ ?_
    refine lv_iload_n hx hb dX0_isStraight_4 rfl (lv_at hl 2 rfl) ?_
    by_cases hs2 : 0 ≤ qq ∧ qq < 12
    · refine pg_callSv (As := [.int (iI qq)]) (rest := []) SC (c_X0_requirePeg_ok l qq ⟨by omega, by omega⟩) pT_st pT_h (va_cwS 1 hts gX0_isStraight_X0_requirePeg rfl rfl rfl (by decide +kernel) ⟨Nat.le_of_ble_eq_true rfl, Nat.le_of_ble_eq_true rfl⟩) rfl hl.1 rfl (Nat.le_of_ble_eq_true rfl) dX0_isStraight_5 ⟨Nat.zero_le _, Nat.zero_le _⟩ ?_
      refine lv_iload_n hx hb dX0_isStraight_8 rfl (lv_at hl 3 rfl) ?_
      exact pg_thS (As := [.int (iI rr)]) (rest := []) SC (c_X0_requirePeg_th l hfl N rr ⟨by omega, by omega⟩ (by omega)) exB_st (pg_h_of exB_st hE) (va_cwS 1 hts gX0_isStraight_X0_requirePeg rfl rfl rfl (by decide +kernel) ⟨Nat.le_of_ble_eq_true rfl, Nat.le_of_ble_eq_true rfl⟩) hT hlk rfl hl.1 rfl (Nat.le_of_ble_eq_true rfl) dX0_isStraight_9 ⟨Nat.le_of_ble_eq_true rfl, Nat.le_of_ble_eq_true rfl⟩
    · exact pg_thS (As := [.int (iI qq)]) (rest := []) SC (c_X0_requirePeg_th l hfl N qq ⟨by omega, by omega⟩ (by omega)) exB_st (pg_h_of exB_st hE) (va_cwS 1 hts gX0_isStraight_X0_requirePeg rfl rfl rfl (by decide +kernel) ⟨Nat.le_of_ble_eq_true rfl, Nat.le_of_ble_eq_true rfl⟩) hT hlk rfl hl.1 rfl (Nat.le_of_ble_eq_true rfl) dX0_isStraight_5 ⟨Nat.le_of_ble_eq_true rfl, Nat.le_of_ble_eq_true rfl⟩
  · exact pg_thS (As := [.int (iI pp)]) (rest := []) SC (c_X0_requirePeg_th l hfl N pp ⟨by omega, by omega⟩ (by omega)) exB_st (pg_h_of exB_st hE) (va_cwS 1 hts gX0_isStraight_X0_requirePeg rfl rfl rfl (by decide +kernel) ⟨Nat.le_of_ble_eq_true rfl, Nat.le_of_ble_eq_true rfl⟩) hT hlk rfl hl.1 rfl (Nat.le_of_ble_eq_true rfl) dX0_isStraight_1 ⟨Nat.le_of_ble_eq_true rfl, Nat.le_of_ble_eq_true rfl⟩
set_option maxRecDepth 100000 in
set_option maxHeartbeats 4000000 in
theorem c_X0_isStraight_th2 (l : Launch) (hfl : l.stackTraces = false) (N : Nat) (X : pgX) (S : pgS) (a b c2 : Nat) (ha : a < 12) (hb2 : b < 12) (hc2 : c2 < 12) (h : sS S a = 0 ∨ sS S b = 0 ∨ sS S c2 = 0) (h1 : sS S a ≤ 1) (h2 : sS S b ≤ 1) (h3 : sS S c2 ≤ 1) : pg_th l yX0_isStraight wsX0_isStraight (rmx 7 103) (xE N X S) [.ref ((xa X 0)), .int (iI (((a : Nat) : Int))), .int (iI (((b : Nat) : Int))), .int (iI (((c2 : Nat) : Int)))] "java/util/NoSuchElementException" := by
  refine pg_th_of (cc := cX0_isStraight) (maxL := 4) (ret := (some .boolean)) (by decide) rfl (Nat.le_of_ble_eq_true rfl) ?_
  intro p e s m below meth c ls SC hT hlk hB hl
  obtain ⟨hx, hb, hml, hown, hts⟩ := id SC
  have hown : s.vm.findClass RX0 = some m.cls := hown
  obtain ⟨⟨hP, hK⟩, hE⟩ := id hB
  have hl : lv_has ls 4 [(0, .ref ((xa X 0))), (1, .int (iI (((a : Nat) : Int)))), (2, .int (iI (((b : Nat) : Int)))), (3, .int (iI (((c2 : Nat) : Int))))] := hl
  refine lv_iload_n hx hb dX0_isStraight_0 rfl (lv_at hl 1 rfl) ?_
  refine pg_callSv (As := [.int (iI (((a : Nat) : Int)))]) (rest := []) SC (c_X0_requirePeg_ok l (((a : Nat) : Int)) ⟨by omega, by omega⟩) pT_st pT_h (va_cwS 1 hts gX0_isStraight_X0_requirePeg rfl rfl rfl (by decide +kernel) ⟨Nat.le_of_ble_eq_true rfl, Nat.le_of_ble_eq_true rfl⟩) rfl hl.1 rfl (Nat.le_of_ble_eq_true rfl) dX0_isStraight_1 ⟨Nat.zero_le _, Nat.zero_le _⟩ ?_
  refine lv_iload_n hx hb dX0_isStraight_4 rfl (lv_at hl 2 rfl) ?_
  refine pg_callSv (As := [.int (iI (((b : Nat) : Int)))]) (rest := []) SC (c_X0_requirePeg_ok l (((b : Nat) : Int)) ⟨by omega, by omega⟩) pT_st pT_h (va_cwS 1 hts gX0_isStraight_X0_requirePeg rfl rfl rfl (by decide +kernel) ⟨Nat.le_of_ble_eq_true rfl, Nat.le_of_ble_eq_true rfl⟩) rfl hl.1 rfl (Nat.le_of_ble_eq_true rfl) dX0_isStraight_5 ⟨Nat.zero_le _, Nat.zero_le _⟩ ?_
  refine lv_iload_n hx hb dX0_isStraight_8 rfl (lv_at hl 3 rfl) ?_
  refine pg_callSv (As := [.int (iI (((c2 : Nat) : Int)))]) (rest := []) SC (c_X0_requirePeg_ok l (((c2 : Nat) : Int)) ⟨by omega, by omega⟩) pT_st pT_h (va_cwS 1 hts gX0_isStraight_X0_requirePeg rfl rfl rfl (by decide +kernel) ⟨Nat.le_of_ble_eq_true rfl, Nat.le_of_ble_eq_true rfl⟩) rfl hl.1 rfl (Nat.le_of_ble_eq_true rfl) dX0_isStraight_9 ⟨Nat.zero_le _, Nat.zero_le _⟩ ?_
  refine lv_aload_n hx hb dX0_isStraight_12 rfl (lv_at hl 0 rfl) ?_
  refine lv_iload_n hx hb dX0_isStraight_13 rfl (lv_at hl 1 rfl) ?_
  by_cases hs1 : sS S a = 1
  · refine pg_callVv (As := [.int (iI (((a : Nat) : Int)))]) (rest := []) SC (c_X0_requireStanding_ok l X S a ha (by omega)) xB_st (xB_h hP hK) (cwV 1 hts gX0_isStraight_X0_requireStanding rfl rfl rfl (by decide +kernel) ⟨Nat.le_of_ble_eq_true rfl, Nat.le_of_ble_eq_true rfl⟩) (va_recv hK hP (ci := 0) (q0 := 0) rfl rfl) rfl hl.1 rfl (Nat.le_of_ble_eq_true rfl) dX0_isStraight_14 ⟨Nat.zero_le _, Nat.zero_le _⟩ ?_
    refine lv_aload_n hx hb dX0_isStraight_17 rfl (lv_at hl 0 rfl) ?_
    refine lv_iload_n hx hb dX0_isStraight_18 rfl (lv_at hl 2 rfl) ?_
    by_cases hs2 : sS S b = 1
    · refine pg_callVv (As := [.int (iI (((b : Nat) : Int)))]) (rest := []) SC (c_X0_requireStanding_ok l X S b hb2 (by omega)) xB_st (xB_h hP hK) (cwV 1 hts gX0_isStraight_X0_requireStanding rfl rfl rfl (by decide +kernel) ⟨Nat.le_of_ble_eq_true rfl, Nat.le_of_ble_eq_true rfl⟩) (va_recv hK hP (ci := 0) (q0 := 0) rfl rfl) rfl hl.1 rfl (Nat.le_of_ble_eq_true rfl) dX0_isStraight_19 ⟨Nat.zero_le _, Nat.zero_le _⟩ ?_
      refine lv_aload_n hx hb dX0_isStraight_22 rfl (lv_at hl 0 rfl) ?_
      refine lv_iload_n hx hb dX0_isStraight_23 rfl (lv_at hl 3 rfl) ?_
      exact pg_thV (As := [.int (iI (((c2 : Nat) : Int)))]) (rest := []) SC (c_X0_requireStanding_th l hfl N X S c2 hc2 (by omega)) xE_st (pg_h_of xE_st hB) (cwV 1 hts gX0_isStraight_X0_requireStanding rfl rfl rfl (by decide +kernel) ⟨Nat.le_of_ble_eq_true rfl, Nat.le_of_ble_eq_true rfl⟩) (va_recv hK hP (ci := 0) (q0 := 0) rfl rfl) hT hlk rfl hl.1 rfl (Nat.le_of_ble_eq_true rfl) dX0_isStraight_24 ⟨Nat.le_of_ble_eq_true rfl, Nat.le_of_ble_eq_true rfl⟩
    · exact pg_thV (As := [.int (iI (((b : Nat) : Int)))]) (rest := []) SC (c_X0_requireStanding_th l hfl N X S b hb2 (by omega)) xE_st (pg_h_of xE_st hB) (cwV 1 hts gX0_isStraight_X0_requireStanding rfl rfl rfl (by decide +kernel) ⟨Nat.le_of_ble_eq_true rfl, Nat.le_of_ble_eq_true rfl⟩) (va_recv hK hP (ci := 0) (q0 := 0) rfl rfl) hT hlk rfl hl.1 rfl (Nat.le_of_ble_eq_true rfl) dX0_isStraight_19 ⟨Nat.le_of_ble_eq_true rfl, Nat.le_of_ble_eq_true rfl⟩
  · exact pg_thV (As := [.int (iI (((a : Nat) : Int)))]) (rest := []) SC (c_X0_requireStanding_th l hfl N X S a ha (by omega)) xE_st (pg_h_of xE_st hB) (cwV 1 hts gX0_isStraight_X0_requireStanding rfl rfl rfl (by decide +kernel) ⟨Nat.le_of_ble_eq_true rfl, Nat.le_of_ble_eq_true rfl⟩) (va_recv hK hP (ci := 0) (q0 := 0) rfl rfl) hT hlk rfl hl.1 rfl (Nat.le_of_ble_eq_true rfl) dX0_isStraight_14 ⟨Nat.le_of_ble_eq_true rfl, Nat.le_of_ble_eq_true rfl⟩
set_option maxRecDepth 100000 in
set_option maxHeartbeats 4000000 in
theorem c_X0_nearest_th1 (l : Launch) (hfl : l.stackTraces = false) (N : Nat) (X : pgX) (S : pgS) (pp : Int) (hp : inI pp) (h : pp < 0 ∨ 12 ≤ pp)  : pg_th l yX0_nearest wsX0_nearest (rmx 7 102) (xE N X S) [.ref ((xa X 0)), .int (iI pp)] "java/lang/IndexOutOfBoundsException" := by
  refine pg_th_of (cc := cX0_nearest) (maxL := 3) (ret := (some .int)) (by decide) rfl (Nat.le_of_ble_eq_true rfl) ?_
  intro p e s m below meth c ls SC hT hlk hB hl
  obtain ⟨hx, hb, hml, hown, hts⟩ := id SC
  have hown : s.vm.findClass RX0 = some m.cls := hown
  obtain ⟨⟨hP, hK⟩, hE⟩ := id hB
  have hl : lv_has ls 3 [(0, .ref ((xa X 0))), (1, .int (iI pp))] := hl
  refine lv_iload_n hx hb dX0_nearest_0 rfl (lv_at hl 1 rfl) ?_
  exact pg_thS (As := [.int (iI pp)]) (rest := []) SC (c_X0_requirePeg_th l hfl N pp ⟨by omega, by omega⟩ (by omega)) exB_st (pg_h_of exB_st hE) (va_cwS 1 hts gX0_nearest_X0_requirePeg rfl rfl rfl (by decide +kernel) ⟨Nat.le_of_ble_eq_true rfl, Nat.le_of_ble_eq_true rfl⟩) hT hlk rfl hl.1 rfl (Nat.le_of_ble_eq_true rfl) dX0_nearest_1 ⟨Nat.le_of_ble_eq_true rfl, Nat.le_of_ble_eq_true rfl⟩
set_option maxRecDepth 100000 in
set_option maxHeartbeats 4000000 in
theorem c_X0_nearest_th2 (l : Launch) (hfl : l.stackTraces = false) (N : Nat) (X : pgX) (S : pgS) (k : Nat) (hk : k < 12) (h1 : sS S k = 0)  : pg_th l yX0_nearest wsX0_nearest (rmx 7 103) (xE N X S) [.ref ((xa X 0)), .int (iI (((k : Nat) : Int)))] "java/util/NoSuchElementException" := by
  refine pg_th_of (cc := cX0_nearest) (maxL := 3) (ret := (some .int)) (by decide) rfl (Nat.le_of_ble_eq_true rfl) ?_
  intro p e s m below meth c ls SC hT hlk hB hl
  obtain ⟨hx, hb, hml, hown, hts⟩ := id SC
  have hown : s.vm.findClass RX0 = some m.cls := hown
  obtain ⟨⟨hP, hK⟩, hE⟩ := id hB
  have hl : lv_has ls 3 [(0, .ref ((xa X 0))), (1, .int (iI (((k : Nat) : Int))))] := hl
  refine lv_iload_n hx hb dX0_nearest_0 rfl (lv_at hl 1 rfl) ?_
  refine pg_callSv (As := [.int (iI (((k : Nat) : Int)))]) (rest := []) SC (c_X0_requirePeg_ok l (((k : Nat) : Int)) ⟨by omega, by omega⟩) pT_st pT_h (va_cwS 1 hts gX0_nearest_X0_requirePeg rfl rfl rfl (by decide +kernel) ⟨Nat.le_of_ble_eq_true rfl, Nat.le_of_ble_eq_true rfl⟩) rfl hl.1 rfl (Nat.le_of_ble_eq_true rfl) dX0_nearest_1 ⟨Nat.zero_le _, Nat.zero_le _⟩ ?_
  refine lv_aload_n hx hb dX0_nearest_4 rfl (lv_at hl 0 rfl) ?_
  refine lv_iload_n hx hb dX0_nearest_5 rfl (lv_at hl 1 rfl) ?_
  exact pg_thV (As := [.int (iI (((k : Nat) : Int)))]) (rest := []) SC (c_X0_requireStanding_th l hfl N X S k hk (by omega)) xE_st (pg_h_of xE_st hB) (cwV 1 hts gX0_nearest_X0_requireStanding rfl rfl rfl (by decide +kernel) ⟨Nat.le_of_ble_eq_true rfl, Nat.le_of_ble_eq_true rfl⟩) (va_recv hK hP (ci := 0) (q0 := 0) rfl rfl) hT hlk rfl hl.1 rfl (Nat.le_of_ble_eq_true rfl) dX0_nearest_6 ⟨Nat.le_of_ble_eq_true rfl, Nat.le_of_ble_eq_true rfl⟩
set_option maxRecDepth 100000 in
set_option maxHeartbeats 4000000 in
theorem c_X0_nearest_th3 (l : Launch) (hfl : l.stackTraces = false) (N : Nat) (X : pgX) (S : pgS) (hok : pgOk S) (k : Nat) (hk : k < 12) (h1 : sS S k = 1) (hn : nr S k 12 = -1) : pg_th l yX0_nearest wsX0_nearest (rmx 6 95) (xE N X S) [.ref ((xa X 0)), .int (iI (((k : Nat) : Int)))] "java/lang/IllegalStateException" := by
  refine pg_th_of (cc := cX0_nearest) (maxL := 3) (ret := (some .int)) (by decide) rfl (Nat.le_of_ble_eq_true rfl) ?_
  intro p e s m below meth c ls SC hT hlk hB hl
  obtain ⟨hx, hb, hml, hown, hts⟩ := id SC
  have hown : s.vm.findClass RX0 = some m.cls := hown
  obtain ⟨⟨hP, hK⟩, hE⟩ := id hB
  have hl : lv_has ls 3 [(0, .ref ((xa X 0))), (1, .int (iI (((k : Nat) : Int))))] := hl
  refine lv_iload_n hx hb dX0_nearest_0 rfl (lv_at hl 1 rfl) ?_
  refine pg_callSv (As := [.int (iI (((k : Nat) : Int)))]) (rest := []) SC (c_X0_requirePeg_ok l (((k : Nat) : Int)) ⟨by omega, by omega⟩) pT_st pT_h (va_cwS 1 hts gX0_nearest_X0_requirePeg rfl rfl rfl (by decide +kernel) ⟨Nat.le_of_ble_eq_true rfl, Nat.le_of_ble_eq_true rfl⟩) rfl hl.1 rfl (Nat.le_of_ble_eq_true rfl) dX0_nearest_1 ⟨Nat.zero_le _, Nat.zero_le _⟩ ?_
  refine lv_aload_n hx hb dX0_nearest_4 rfl (lv_at hl 0 rfl) ?_
  refine lv_iload_n hx hb dX0_nearest_5 rfl (lv_at hl 1 rfl) ?_
  refine pg_callVv (As := [.int (iI (((k : Nat) : Int)))]) (rest := []) SC (c_X0_requireStanding_ok l X S k hk h1) xB_st (xB_h hP hK) (cwV 1 hts gX0_nearest_X0_requireStanding rfl rfl rfl (by decide +kernel) ⟨Nat.le_of_ble_eq_true rfl, Nat.le_of_ble_eq_true rfl⟩) (va_recv hK hP (ci := 0) (q0 := 0) rfl rfl) rfl hl.1 rfl (Nat.le_of_ble_eq_true rfl) dX0_nearest_6 ⟨Nat.zero_le _, Nat.zero_le _⟩ ?_
  refine lv_aload_n hx hb dX0_nearest_9 rfl (lv_at hl 0 rfl) ?_
  refine lv_iload_n hx hb dX0_nearest_10 rfl (lv_at hl 1 rfl) ?_
  refine pg_callV (As := [.int (iI (((k : Nat) : Int)))]) (rest := []) SC (c_X0_nearestOther l X S hok k hk) xB_st (xB_h hP hK) (cwV 1 hts gX0_nearest_X0_nearestOther rfl rfl rfl (by decide +kernel) ⟨Nat.le_of_ble_eq_true rfl, Nat.le_of_ble_eq_true rfl⟩) (va_recv hK hP (ci := 0) (q0 := 0) rfl rfl) rfl hl.1 rfl (Nat.le_of_ble_eq_true rfl) dX0_nearest_11 ⟨Nat.zero_le _, Nat.zero_le _⟩ ?_
  refine lv_istore_n (lv' := [(2, .int (iI (nr S k 12))), (0, .ref ((xa X 0))), (1, .int (iI (((k : Nat) : Int))))]) hx hb dX0_nearest_14 rfl hl (by decide) rfl (fun ls hl => ?_)
  refine lv_iload_n hx hb dX0_nearest_15 rfl (lv_at hl 0 rfl) ?_
  refine lv_iconst (v := iI (-1)) hx hb dX0_nearest_16 rfl ?_
  refine pg_icmp_ne (tgt := 30) hx hb dX0_nearest_17 (by decide) (⟨by omega, by omega⟩) (⟨by omega, by omega⟩) (fun hc1 => absurd hc1 (by omega)) (fun hc1 => ?_)
  obtain ⟨sa, hsa⟩ := hE.1 (110, "no other peg stands") (by decide)
  have hat : ∀ w ∈ (vx_atS RX0 63 "java/lang/IllegalStateException" ["java/lang/RuntimeException", "java/lang/Exception"]), w.before _ s = true := vx_hat (fun w hm => hts w (List.mem_cons_of_mem _ (by first | exact List.mem_append_right _ hm | exact List.mem_append_left _ (List.mem_append_right _ hm) | exact List.mem_append_left _ (List.mem_append_left _ (List.mem_append_right _ hm)) | exact List.mem_append_left _ (List.mem_append_left _ (List.mem_append_left _ (List.mem_append_right _ hm)))))) ex_bad3 (fun w h => hE.2.2.2 w h _)
  exact vx_throwS (cls := "java/lang/IllegalStateException") (names := ["java/lang/RuntimeException", "java/lang/Exception"]) hx hb hfl hown (by decide +kernel) (by decide +kernel) (hts (.classLink RX0 59 "java/lang/IllegalStateException") (by decide +kernel)) (hts (.initialized "java/lang/IllegalStateException") (by decide +kernel)) hsa hat (by decide +kernel) hE.2.1 hE.2.2.1 va_S.rf (hl.1.trans hml.symm) dX0_nearest_20 dX0_nearest_23 dX0_nearest_24 dX0_nearest_26 dX0_nearest_29 (fun x h => (hT x h).elim) (Nat.le_of_ble_eq_true rfl) (Nat.le_of_ble_eq_true rfl) (Nat.le_of_ble_eq_true rfl) (Nat.le_of_ble_eq_true rfl) hlk (fun t _ h1 h2 => ⟨rfl, h1, h2⟩) (fun z h => nomatch h) (Nat.le_refl _) (Nat.le_refl _)
set_option maxRecDepth 100000 in
set_option maxHeartbeats 4000000 in
theorem c_X0_isIn_th1 (l : Launch) (hfl : l.stackTraces = false) (N : Nat) (X : pgX) (S : pgS) (pp qq : Int) (hp : inI pp) (hq : inI qq) (h : pp < 0 ∨ 12 ≤ pp ∨ qq < 0 ∨ 12 ≤ qq) (n q : Int) : pg_th l yX0_isIn wsX0_isIn (rmx 8 124) (xE N X S) [.ref ((xa X 0)), .int (iI pp), .int (iI qq), .int (iI n), .int (iI q)] "java/lang/IndexOutOfBoundsException" := by
  refine pg_th_of (cc := cX0_isIn) (maxL := 5) (ret := (some .boolean)) (by decide) rfl (Nat.le_of_ble_eq_true rfl) ?_
  intro p e s m below meth c ls SC hT hlk hB hl
  obtain ⟨hx, hb, hml, hown, hts⟩ := id SC
  have hown : s.vm.findClass RX0 = some m.cls := hown
  obtain ⟨⟨hP, hK⟩, hE⟩ := id hB
  have hl : lv_has ls 5 [(0, .ref ((xa X 0))), (1, .int (iI pp)), (2, .int (iI qq)), (3, .int (iI n)), (4, .int (iI q))] := hl
  refine lv_aload_n hx hb dX0_isIn_0 rfl (lv_at hl 0 rfl) ?_
  refine lv_iload_n hx hb dX0_isIn_1 rfl (lv_at hl 1 rfl) ?_
  refine lv_iload_n hx hb dX0_isIn_2 rfl (lv_at hl 2 rfl) ?_
  exact pg_thV (As := [.int (iI pp), .int (iI qq)]) (rest := []) SC (c_X0_requireTwo_th1 l hfl N X S pp qq hp hq h) xE_st (pg_h_of xE_st hB) (cwV 2 hts gX0_isIn_X0_requireTwo rfl rfl rfl (by decide +kernel) ⟨Nat.le_of_ble_eq_true rfl, Nat.le_of_ble_eq_true rfl⟩) (va_recv hK hP (ci := 0) (q0 := 0) rfl rfl) hT hlk rfl hl.1 rfl (Nat.le_of_ble_eq_true rfl) dX0_isIn_3 ⟨Nat.le_of_ble_eq_true rfl, Nat.le_of_ble_eq_true rfl⟩
set_option maxRecDepth 100000 in
set_option maxHeartbeats 4000000 in
theorem c_X0_isIn_th2 (l : Launch) (hfl : l.stackTraces = false) (N : Nat) (X : pgX) (S : pgS) (a b : Nat) (ha : a < 12) (hb2 : b < 12) (h : sS S a = 0 ∨ sS S b = 0) (h1 : sS S a ≤ 1) (h2 : sS S b ≤ 1) (n q : Int) : pg_th l yX0_isIn wsX0_isIn (rmx 8 125) (xE N X S) [.ref ((xa X 0)), .int (iI (((a : Nat) : Int))), .int (iI (((b : Nat) : Int))), .int (iI n), .int (iI q)] "java/util/NoSuchElementException" := by
  refine pg_th_of (cc := cX0_isIn) (maxL := 5) (ret := (some .boolean)) (by decide) rfl (Nat.le_of_ble_eq_true rfl) ?_
  intro p e s m below meth c ls SC hT hlk hB hl
  obtain ⟨hx, hb, hml, hown, hts⟩ := id SC
  have hown : s.vm.findClass RX0 = some m.cls := hown
  obtain ⟨⟨hP, hK⟩, hE⟩ := id hB
  have hl : lv_has ls 5 [(0, .ref ((xa X 0))), (1, .int (iI (((a : Nat) : Int)))), (2, .int (iI (((b : Nat) : Int)))), (3, .int (iI n)), (4, .int (iI q))] := hl
  refine lv_aload_n hx hb dX0_isIn_0 rfl (lv_at hl 0 rfl) ?_
  refine lv_iload_n hx hb dX0_isIn_1 rfl (lv_at hl 1 rfl) ?_
  refine lv_iload_n hx hb dX0_isIn_2 rfl (lv_at hl 2 rfl) ?_
  exact pg_thV (As := [.int (iI (((a : Nat) : Int))), .int (iI (((b : Nat) : Int)))]) (rest := []) SC (c_X0_requireTwo_th2 l hfl N X S a b ha hb2 h h1 h2) xE_st (pg_h_of xE_st hB) (cwV 2 hts gX0_isIn_X0_requireTwo rfl rfl rfl (by decide +kernel) ⟨Nat.le_of_ble_eq_true rfl, Nat.le_of_ble_eq_true rfl⟩) (va_recv hK hP (ci := 0) (q0 := 0) rfl rfl) hT hlk rfl hl.1 rfl (Nat.le_of_ble_eq_true rfl) dX0_isIn_3 ⟨Nat.le_of_ble_eq_true rfl, Nat.le_of_ble_eq_true rfl⟩
set_option maxRecDepth 100000 in
set_option maxHeartbeats 4000000 in
theorem c_X0_isIn_th3 (l : Launch) (hfl : l.stackTraces = false) (N : Nat) (X : pgX) (S : pgS) (a b : Nat) (ha : a < 12) (hb2 : b < 12) (sa : sS S a = 1) (sb : sS S b = 1) (n : Int) (hn : inI n) (h : n < 0 ∨ 32768 ≤ n) (q : Int) : pg_th l yX0_isIn wsX0_isIn (rmx 7 102) (xE N X S) [.ref ((xa X 0)), .int (iI (((a : Nat) : Int))), .int (iI (((b : Nat) : Int))), .int (iI n), .int (iI q)] "java/lang/IllegalArgumentException" := by
  refine pg_th_of (cc := cX0_isIn) (maxL := 5) (ret := (some .boolean)) (by decide) rfl (Nat.le_of_ble_eq_true rfl) ?_
  intro p e s m below meth c ls SC hT hlk hB hl
  obtain ⟨hx, hb, hml, hown, hts⟩ := id SC
  have hown : s.vm.findClass RX0 = some m.cls := hown
  obtain ⟨⟨hP, hK⟩, hE⟩ := id hB
  have hl : lv_has ls 5 [(0, .ref ((xa X 0))), (1, .int (iI (((a : Nat) : Int)))), (2, .int (iI (((b : Nat) : Int)))), (3, .int (iI n)), (4, .int (iI q))] := hl
  refine lv_aload_n hx hb dX0_isIn_0 rfl (lv_at hl 0 rfl) ?_
  refine lv_iload_n hx hb dX0_isIn_1 rfl (lv_at hl 1 rfl) ?_
  refine lv_iload_n hx hb dX0_isIn_2 rfl (lv_at hl 2 rfl) ?_
  refine pg_callVv (As := [.int (iI (((a : Nat) : Int))), .int (iI (((b : Nat) : Int)))]) (rest := []) SC (c_X0_requireTwo_ok l X S a b ha hb2 sa sb) xB_st (xB_h hP hK) (cwV 2 hts gX0_isIn_X0_requireTwo rfl rfl rfl (by decide +kernel) ⟨Nat.le_of_ble_eq_true rfl, Nat.le_of_ble_eq_true rfl⟩) (va_recv hK hP (ci := 0) (q0 := 0) rfl rfl) rfl hl.1 rfl (Nat.le_of_ble_eq_true rfl) dX0_isIn_3 ⟨Nat.zero_le _, Nat.zero_le _⟩ ?_
  refine lv_iload_n hx hb dX0_isIn_6 rfl (lv_at hl 3 rfl) ?_
  exact pg_thS (As := [.int (iI n)]) (rest := []) SC (c_X0_requireNumber_th l hfl N n hn h) exB_st (pg_h_of exB_st hE) (va_cwS 1 hts gX0_isIn_X0_requireNumber rfl rfl rfl (by decide +kernel) ⟨Nat.le_of_ble_eq_true rfl, Nat.le_of_ble_eq_true rfl⟩) hT hlk rfl hl.1 rfl (Nat.le_of_ble_eq_true rfl) dX0_isIn_7 ⟨Nat.le_of_ble_eq_true rfl, Nat.le_of_ble_eq_true rfl⟩
set_option maxRecDepth 100000 in
set_option maxHeartbeats 4000000 in
theorem c_X0_root_th1 (l : Launch) (hfl : l.stackTraces = false) (N : Nat) (X : pgX) (S : pgS) (n : Int) (hn : inI n) (h : n < 0 ∨ 32768 ≤ n) (q : Int) : pg_th l yX0_root wsX0_root (rmx 7 102) (xE N X S) [.ref ((xa X 0)), .int (iI n), .int (iI q)] "java/lang/IllegalArgumentException" := by
  refine pg_th_of (cc := cX0_root) (maxL := 3) (ret := (some .double)) (by decide) rfl (Nat.le_of_ble_eq_true rfl) ?_
  intro p e s m below meth c ls SC hT hlk hB hl
  obtain ⟨hx, hb, hml, hown, hts⟩ := id SC
  have hown : s.vm.findClass RX0 = some m.cls := hown
  obtain ⟨⟨hP, hK⟩, hE⟩ := id hB
  have hl : lv_has ls 3 [(0, .ref ((xa X 0))), (1, .int (iI n)), (2, .int (iI q))] := hl
  refine lv_iload_n hx hb dX0_root_0 rfl (lv_at hl 1 rfl) ?_
  exact pg_thS (As := [.int (iI n)]) (rest := []) SC (c_X0_requireNumber_th l hfl N n hn h) exB_st (pg_h_of exB_st hE) (va_cwS 1 hts gX0_root_X0_requireNumber rfl rfl rfl (by decide +kernel) ⟨Nat.le_of_ble_eq_true rfl, Nat.le_of_ble_eq_true rfl⟩) hT hlk rfl hl.1 rfl (Nat.le_of_ble_eq_true rfl) dX0_root_1 ⟨Nat.le_of_ble_eq_true rfl, Nat.le_of_ble_eq_true rfl⟩
set_option maxRecDepth 100000 in
set_option maxHeartbeats 4000000 in
theorem c_X0_rootBits_th1 (l : Launch) (hfl : l.stackTraces = false) (N : Nat) (X : pgX) (S : pgS) (n : Int) (hn : inI n) (h : n < 0 ∨ 32768 ≤ n) (q : Int) : pg_th l yX0_rootBits wsX0_rootBits (rmx 7 102) (xE N X S) [.ref ((xa X 0)), .int (iI n), .int (iI q)] "java/lang/IllegalArgumentException" := by
  refine pg_th_of (cc := cX0_rootBits) (maxL := 3) (ret := (some .long)) (by decide) rfl (Nat.le_of_ble_eq_true rfl) ?_
  intro p e s m below meth c ls SC hT hlk hB hl
  obtain ⟨hx, hb, hml, hown, hts⟩ := id SC
  have hown : s.vm.findClass RX0 = some m.cls := hown
  obtain ⟨⟨hP, hK⟩, hE⟩ := id hB
  have hl : lv_has ls 3 [(0, .ref ((xa X 0))), (1, .int (iI n)), (2, .int (iI q))] := hl
  refine lv_iload_n hx hb dX0_rootBits_0 rfl (lv_at hl 1 rfl) ?_
  exact pg_thS (As := [.int (iI n)]) (rest := []) SC (c_X0_requireNumber_th l hfl N n hn h) exB_st (pg_h_of exB_st hE) (va_cwS 1 hts gX0_rootBits_X0_requireNumber rfl rfl rfl (by decide +kernel) ⟨Nat.le_of_ble_eq_true rfl, Nat.le_of_ble_eq_true rfl⟩) hT hlk rfl hl.1 rfl (Nat.le_of_ble_eq_true rfl) dX0_rootBits_1 ⟨Nat.le_of_ble_eq_true rfl, Nat.le_of_ble_eq_true rfl⟩
set_option maxRecDepth 100000 in
set_option maxHeartbeats 4000000 in
theorem c_X0_rootGrains_th1 (l : Launch) (hfl : l.stackTraces = false) (N : Nat) (X : pgX) (S : pgS) (n : Int) (hn : inI n) (h : n < 0 ∨ 32768 ≤ n) (q : Int) : pg_th l yX0_rootGrains wsX0_rootGrains (rmx 7 102) (xE N X S) [.ref ((xa X 0)), .int (iI n), .int (iI q)] "java/lang/IllegalArgumentException" := by
  refine pg_th_of (cc := cX0_rootGrains) (maxL := 3) (ret := (some .int)) (by decide) rfl (Nat.le_of_ble_eq_true rfl) ?_
  intro p e s m below meth c ls SC hT hlk hB hl
  obtain ⟨hx, hb, hml, hown, hts⟩ := id SC
  have hown : s.vm.findClass RX0 = some m.cls := hown
  obtain ⟨⟨hP, hK⟩, hE⟩ := id hB
  have hl : lv_has ls 3 [(0, .ref ((xa X 0))), (1, .int (iI n)), (2, .int (iI q))] := hl
  refine lv_iload_n hx hb dX0_rootGrains_0 rfl (lv_at hl 1 rfl) ?_
  exact pg_thS (As := [.int (iI n)]) (rest := []) SC (c_X0_requireNumber_th l hfl N n hn h) exB_st (pg_h_of exB_st hE) (va_cwS 1 hts gX0_rootGrains_X0_requireNumber rfl rfl rfl (by decide +kernel) ⟨Nat.le_of_ble_eq_true rfl, Nat.le_of_ble_eq_true rfl⟩) hT hlk rfl hl.1 rfl (Nat.le_of_ble_eq_true rfl) dX0_rootGrains_1 ⟨Nat.le_of_ble_eq_true rfl, Nat.le_of_ble_eq_true rfl⟩
set_option maxRecDepth 100000 in
set_option maxHeartbeats 4000000 in
theorem c_X0_isNearest_th1 (l : Launch) (hfl : l.stackTraces = false) (N : Nat) (X : pgX) (S : pgS) (n : Int) (hn : inI n) (h : n < 0 ∨ 32768 ≤ n) (q : Int) : pg_th l yX0_isNearest wsX0_isNearest (rmx 7 102) (xE N X S) [.ref ((xa X 0)), .int (iI n), .int (iI q)] "java/lang/IllegalArgumentException" := by
  refine pg_th_of (cc := cX0_isNearest) (maxL := 9) (ret := (some .boolean)) (by decide) rfl (Nat.le_of_ble_eq_true rfl) ?_
  intro p e s m below meth c ls SC hT hlk hB hl
  obtain ⟨hx, hb, hml, hown, hts⟩ := id SC
  have hown : s.vm.findClass RX0 = some m.cls := hown
  obtain ⟨⟨hP, hK⟩, hE⟩ := id hB
  have hl : lv_has ls 9 [(0, .ref ((xa X 0))), (1, .int (iI n)), (2, .int (iI q))] := hl
  refine lv_iload_n hx hb dX0_isNearest_0 rfl (lv_at hl 1 rfl) ?_
  exact pg_thS (As := [.int (iI n)]) (rest := []) SC (c_X0_requireNumber_th l hfl N n hn h) exB_st (pg_h_of exB_st hE) (va_cwS 1 hts gX0_isNearest_X0_requireNumber rfl rfl rfl (by decide +kernel) ⟨Nat.le_of_ble_eq_true rfl, Nat.le_of_ble_eq_true rfl⟩) hT hlk rfl hl.1 rfl (Nat.le_of_ble_eq_true rfl) dX0_isNearest_1 ⟨Nat.le_of_ble_eq_true rfl, Nat.le_of_ble_eq_true rfl⟩
set_option maxRecDepth 100000 in
set_option maxHeartbeats 4000000 in
theorem c_X0_wholeRoot_th1 (l : Launch) (hfl : l.stackTraces = false) (N : Nat) (X : pgX) (S : pgS) (n : Int) (hn : inI n) (h : n < 0 ∨ 32768 ≤ n)  : pg_th l yX0_wholeRoot wsX0_wholeRoot (rmx 7 102) (xE N X S) [.ref ((xa X 0)), .int (iI n)] "java/lang/IllegalArgumentException" := by
  refine pg_th_of (cc := cX0_wholeRoot) (maxL := 2) (ret := (some .int)) (by decide) rfl (Nat.le_of_ble_eq_true rfl) ?_
  intro p e s m below meth c ls SC hT hlk hB hl
  obtain ⟨hx, hb, hml, hown, hts⟩ := id SC
  have hown : s.vm.findClass RX0 = some m.cls := hown
  obtain ⟨⟨hP, hK⟩, hE⟩ := id hB
  have hl : lv_has ls 2 [(0, .ref ((xa X 0))), (1, .int (iI n))] := hl
  refine lv_iload_n hx hb dX0_wholeRoot_0 rfl (lv_at hl 1 rfl) ?_
  exact pg_thS (As := [.int (iI n)]) (rest := []) SC (c_X0_requireNumber_th l hfl N n hn h) exB_st (pg_h_of exB_st hE) (va_cwS 1 hts gX0_wholeRoot_X0_requireNumber rfl rfl rfl (by decide +kernel) ⟨Nat.le_of_ble_eq_true rfl, Nat.le_of_ble_eq_true rfl⟩) hT hlk rfl hl.1 rfl (Nat.le_of_ble_eq_true rfl) dX0_wholeRoot_1 ⟨Nat.le_of_ble_eq_true rfl, Nat.le_of_ble_eq_true rfl⟩
set_option maxRecDepth 100000 in
set_option maxHeartbeats 4000000 in
theorem c_X0_isHalved_th1 (l : Launch) (hfl : l.stackTraces = false) (N : Nat) (X : pgX) (S : pgS) (n : Int) (hn : inI n) (h : n < 0 ∨ 32768 ≤ n)  : pg_th l yX0_isHalved wsX0_isHalved (rmx 7 102) (xE N X S) [.ref ((xa X 0)), .int (iI n)] "java/lang/IllegalArgumentException" := by
  refine pg_th_of (cc := cX0_isHalved) (maxL := 2) (ret := (some .boolean)) (by decide) rfl (Nat.le_of_ble_eq_true rfl) ?_
  intro p e s m below meth c ls SC hT hlk hB hl
  obtain ⟨hx, hb, hml, hown, hts⟩ := id SC
  have hown : s.vm.findClass RX0 = some m.cls := hown
  obtain ⟨⟨hP, hK⟩, hE⟩ := id hB
  have hl : lv_has ls 2 [(0, .ref ((xa X 0))), (1, .int (iI n))] := hl
  refine lv_iload_n hx hb dX0_isHalved_0 rfl (lv_at hl 1 rfl) ?_
  exact pg_thS (As := [.int (iI n)]) (rest := []) SC (c_X0_requireNumber_th l hfl N n hn h) exB_st (pg_h_of exB_st hE) (va_cwS 1 hts gX0_isHalved_X0_requireNumber rfl rfl rfl (by decide +kernel) ⟨Nat.le_of_ble_eq_true rfl, Nat.le_of_ble_eq_true rfl⟩) hT hlk rfl hl.1 rfl (Nat.le_of_ble_eq_true rfl) dX0_isHalved_1 ⟨Nat.le_of_ble_eq_true rfl, Nat.le_of_ble_eq_true rfl⟩
set_option maxRecDepth 100000 in
set_option maxHeartbeats 4000000 in
theorem c_X0_between_th1 (l : Launch) (hfl : l.stackTraces = false) (N : Nat) (X : pgX) (S : pgS) (n n2 q : Int) (hn : inI n) (hn2 : inI n2) (h : n < 0 ∨ 32768 ≤ n ∨ n2 < 0 ∨ 32768 ≤ n2) : pg_th l yX0_between wsX0_between (rmx 7 102) (xE N X S) [.ref ((xa X 0)), .int (iI n), .int (iI n2), .int (iI q)] "java/lang/IllegalArgumentException" := by
  refine pg_th_of (cc := cX0_between) (maxL := 4) (ret := (some .int)) (by decide) rfl (Nat.le_of_ble_eq_true rfl) ?_
  intro p e s m below meth c ls SC hT hlk hB hl
  obtain ⟨hx, hb, hml, hown, hts⟩ := id SC
  have hown : s.vm.findClass RX0 = some m.cls := hown
  obtain ⟨⟨hP, hK⟩, hE⟩ := id hB
  have hl : lv_has ls 4 [(0, .ref ((xa X 0))), (1, .int (iI n)), (2, .int (iI n2)), (3, .int (iI q))] := hl
  refine lv_iload_n hx hb dX0_between_0 rfl (lv_at hl 1 rfl) ?_
  by_cases hs1 : 0 ≤ n ∧ n < 32768
  · refine pg_callSv (As := [.int (iI n)]) (rest := []) SC (c_X0_requireNumber_ok l n (by omega)) pT_st pT_h (va_cwS 1 hts gX0_between_X0_requireNumber rfl rfl rfl (by decide +kernel) ⟨Nat.le_of_ble_eq_true rfl, Nat.le_of_ble_eq_true rfl⟩) rfl hl.1 rfl (Nat.le_of_ble_eq_true rfl) dX0_between_1 ⟨Nat.zero_le _, Nat.zero_le _⟩ ?_
    refine lv_iload_n hx hb dX0_between_4 rfl (lv_at hl 2 rfl) ?_
    exact pg_thS (As := [.int (iI n2)]) (rest := []) SC (c_X0_requireNumber_th l hfl N n2 hn2 (by omega)) exB_st (pg_h_of exB_st hE) (va_cwS 1 hts gX0_between_X0_requireNumber rfl rfl rfl (by decide +kernel) ⟨Nat.le_of_ble_eq_true rfl, Nat.le_of_ble_eq_true rfl⟩) hT hlk rfl hl.1 rfl (Nat.le_of_ble_eq_true rfl) dX0_between_5 ⟨Nat.le_of_ble_eq_true rfl, Nat.le_of_ble_eq_true rfl⟩
  · exact pg_thS (As := [.int (iI n)]) (rest := []) SC (c_X0_requireNumber_th l hfl N n hn (by omega)) exB_st (pg_h_of exB_st hE) (va_cwS 1 hts gX0_between_X0_requireNumber rfl rfl rfl (by decide +kernel) ⟨Nat.le_of_ble_eq_true rfl, Nat.le_of_ble_eq_true rfl⟩) hT hlk rfl hl.1 rfl (Nat.le_of_ble_eq_true rfl) dX0_between_1 ⟨Nat.le_of_ble_eq_true rfl, Nat.le_of_ble_eq_true rfl⟩
set_option maxRecDepth 100000 in
set_option maxHeartbeats 4000000 in
theorem c_X0_join_th1 (l : Launch) (hfl : l.stackTraces = false) (N : Nat) (X : pgX) (S : pgS) (pp : Int) (hp : inI pp) (h : pp < 0 ∨ 12 ≤ pp)  : pg_th l yX0_join wsX0_join (rmx 7 102) (xE N X S) [.ref ((xa X 0)), .int (iI pp)] "java/lang/IndexOutOfBoundsException" := by
  refine pg_th_of (cc := cX0_join) (maxL := 2) (ret := (some .int)) (by decide) rfl (Nat.le_of_ble_eq_true rfl) ?_
  intro p e s m below meth c ls SC hT hlk hB hl
  obtain ⟨hx, hb, hml, hown, hts⟩ := id SC
  have hown : s.vm.findClass RX0 = some m.cls := hown
  obtain ⟨⟨hP, hK⟩, hE⟩ := id hB
  have hl : lv_has ls 2 [(0, .ref ((xa X 0))), (1, .int (iI pp))] := hl
  refine lv_iload_n hx hb dX0_join_0 rfl (lv_at hl 1 rfl) ?_
  exact pg_thS (As := [.int (iI pp)]) (rest := []) SC (c_X0_requirePeg_th l hfl N pp ⟨by omega, by omega⟩ (by omega)) exB_st (pg_h_of exB_st hE) (va_cwS 1 hts gX0_join_X0_requirePeg rfl rfl rfl (by decide +kernel) ⟨Nat.le_of_ble_eq_true rfl, Nat.le_of_ble_eq_true rfl⟩) hT hlk rfl hl.1 rfl (Nat.le_of_ble_eq_true rfl) dX0_join_1 ⟨Nat.le_of_ble_eq_true rfl, Nat.le_of_ble_eq_true rfl⟩
set_option maxRecDepth 100000 in
set_option maxHeartbeats 4000000 in
theorem c_X0_join_th2 (l : Launch) (hfl : l.stackTraces = false) (N : Nat) (X : pgX) (S : pgS) (k : Nat) (hk : k < 12) (h1 : sS S k = 0)  : pg_th l yX0_join wsX0_join (rmx 7 103) (xE N X S) [.ref ((xa X 0)), .int (iI (((k : Nat) : Int)))] "java/util/NoSuchElementException" := by
  refine pg_th_of (cc := cX0_join) (maxL := 2) (ret := (some .int)) (by decide) rfl (Nat.le_of_ble_eq_true rfl) ?_
  intro p e s m below meth c ls SC hT hlk hB hl
  obtain ⟨hx, hb, hml, hown, hts⟩ := id SC
  have hown : s.vm.findClass RX0 = some m.cls := hown
  obtain ⟨⟨hP, hK⟩, hE⟩ := id hB
  have hl : lv_has ls 2 [(0, .ref ((xa X 0))), (1, .int (iI (((k : Nat) : Int))))] := hl
  refine lv_iload_n hx hb dX0_join_0 rfl (lv_at hl 1 rfl) ?_
  refine pg_callSv (As := [.int (iI (((k : Nat) : Int)))]) (rest := []) SC (c_X0_requirePeg_ok l (((k : Nat) : Int)) ⟨by omega, by omega⟩) pT_st pT_h (va_cwS 1 hts gX0_join_X0_requirePeg rfl rfl rfl (by decide +kernel) ⟨Nat.le_of_ble_eq_true rfl, Nat.le_of_ble_eq_true rfl⟩) rfl hl.1 rfl (Nat.le_of_ble_eq_true rfl) dX0_join_1 ⟨Nat.zero_le _, Nat.zero_le _⟩ ?_
  refine lv_aload_n hx hb dX0_join_4 rfl (lv_at hl 0 rfl) ?_
  refine lv_iload_n hx hb dX0_join_5 rfl (lv_at hl 1 rfl) ?_
  exact pg_thV (As := [.int (iI (((k : Nat) : Int)))]) (rest := []) SC (c_X0_requireStanding_th l hfl N X S k hk (by omega)) xE_st (pg_h_of xE_st hB) (cwV 1 hts gX0_join_X0_requireStanding rfl rfl rfl (by decide +kernel) ⟨Nat.le_of_ble_eq_true rfl, Nat.le_of_ble_eq_true rfl⟩) (va_recv hK hP (ci := 0) (q0 := 0) rfl rfl) hT hlk rfl hl.1 rfl (Nat.le_of_ble_eq_true rfl) dX0_join_6 ⟨Nat.le_of_ble_eq_true rfl, Nat.le_of_ble_eq_true rfl⟩
set_option maxRecDepth 100000 in
set_option maxHeartbeats 4000000 in
theorem c_X0_join_th3 (l : Launch) (hfl : l.stackTraces = false) (N : Nat) (X : pgX) (S : pgS) (k : Nat) (hk : k < 12) (h1 : sS S k = 1) (hn : sN S = 12) : pg_th l yX0_join wsX0_join (rmx 6 82) (xE N X S) [.ref ((xa X 0)), .int (iI (((k : Nat) : Int)))] "java/lang/IllegalStateException" := by
  refine pg_th_of (cc := cX0_join) (maxL := 2) (ret := (some .int)) (by decide) rfl (Nat.le_of_ble_eq_true rfl) ?_
  intro p e s m below meth c ls SC hT hlk hB hl
  obtain ⟨hx, hb, hml, hown, hts⟩ := id SC
  have hown : s.vm.findClass RX0 = some m.cls := hown
  obtain ⟨⟨hP, hK⟩, hE⟩ := id hB
  have hl : lv_has ls 2 [(0, .ref ((xa X 0))), (1, .int (iI (((k : Nat) : Int))))] := hl
  have hin : ∀ w ∈ u_ws RX0 TX0 6, w ∈ wsX0_join := by decide +kernel
  refine lv_iload_n hx hb dX0_join_0 rfl (lv_at hl 1 rfl) ?_
  refine pg_callSv (As := [.int (iI (((k : Nat) : Int)))]) (rest := []) SC (c_X0_requirePeg_ok l (((k : Nat) : Int)) ⟨by omega, by omega⟩) pT_st pT_h (va_cwS 1 hts gX0_join_X0_requirePeg rfl rfl rfl (by decide +kernel) ⟨Nat.le_of_ble_eq_true rfl, Nat.le_of_ble_eq_true rfl⟩) rfl hl.1 rfl (Nat.le_of_ble_eq_true rfl) dX0_join_1 ⟨Nat.zero_le _, Nat.zero_le _⟩ ?_
  refine lv_aload_n hx hb dX0_join_4 rfl (lv_at hl 0 rfl) ?_
  refine lv_iload_n hx hb dX0_join_5 rfl (lv_at hl 1 rfl) ?_
  refine pg_callVv (As := [.int (iI (((k : Nat) : Int)))]) (rest := []) SC (c_X0_requireStanding_ok l X S k hk h1) xB_st (xB_h hP hK) (cwV 1 hts gX0_join_X0_requireStanding rfl rfl rfl (by decide +kernel) ⟨Nat.le_of_ble_eq_true rfl, Nat.le_of_ble_eq_true rfl⟩) (va_recv hK hP (ci := 0) (q0 := 0) rfl rfl) rfl hl.1 rfl (Nat.le_of_ble_eq_true rfl) dX0_join_6 ⟨Nat.zero_le _, Nat.zero_le _⟩ ?_
  refine lv_aload_n hx hb dX0_join_9 rfl (lv_at hl 0 rfl) ?_
  refine va_get (D := xG X) (ci := 0) (v := .int (iI (((sN S : Nat) : Int)))) (C := RX0) (T := TX0) (N := 6) hx hb hts hin hown hK hP 0 rfl rfl 4 (by decide) (hts (.fieldLink RX0 23 "Pegfield" "ringSize" "I") (by decide +kernel)) (fun _ h9 => h9) rfl dX0_join_10 ?_
  refine pg_if_lt (tgt := 25) hx hb dX0_join_13 (by decide) (⟨by omega, by omega⟩) (fun hc1 => absurd hc1 (by omega)) (fun hc1 => ?_)
  refine lv_aload_n hx hb dX0_join_16 rfl (lv_at hl 0 rfl) ?_
  refine va_get (D := xG X) (ci := 0) (v := .int (iI (((sN S : Nat) : Int)))) (C := RX0) (T := TX0) (N := 6) hx hb hts hin hown hK hP 0 rfl rfl 4 (by decide) (hts (.fieldLink RX0 23 "Pegfield" "ringSize" "I") (by decide +kernel)) (fun _ h9 => h9) rfl dX0_join_17 ?_
  refine lv_bipush (v := iI 12) hx hb dX0_join_20 (by decide +kernel) ?_
  refine pg_icmp_lt (tgt := 35) hx hb dX0_join_22 (by decide) (⟨by omega, by omega⟩) (⟨by omega, by omega⟩) (fun hc2 => absurd hc2 (by omega)) (fun hc2 => ?_)
  obtain ⟨sa, hsa⟩ := hE.1 (135, "the ring is full") (by decide)
  have hat : ∀ w ∈ (vx_atS RX0 63 "java/lang/IllegalStateException" ["java/lang/RuntimeException", "java/lang/Exception"]), w.before _ s = true := vx_hat (fun w hm => hts w (List.mem_cons_of_mem _ (by first | exact List.mem_append_right _ hm | exact List.mem_append_left _ (List.mem_append_right _ hm) | exact List.mem_append_left _ (List.mem_append_left _ (List.mem_append_right _ hm)) | exact List.mem_append_left _ (List.mem_append_left _ (List.mem_append_left _ (List.mem_append_right _ hm)))))) ex_bad3 (fun w h => hE.2.2.2 w h _)
  exact vx_throwS (cls := "java/lang/IllegalStateException") (names := ["java/lang/RuntimeException", "java/lang/Exception"]) hx hb hfl hown (by decide +kernel) (by decide +kernel) (hts (.classLink RX0 59 "java/lang/IllegalStateException") (by decide +kernel)) (hts (.initialized "java/lang/IllegalStateException") (by decide +kernel)) hsa hat (by decide +kernel) hE.2.1 hE.2.2.1 va_S.rf (hl.1.trans hml.symm) dX0_join_25 dX0_join_28 dX0_join_29 dX0_join_31 dX0_join_34 (fun x h => (hT x h).elim) (Nat.le_of_ble_eq_true rfl) (Nat.le_of_ble_eq_true rfl) (Nat.le_of_ble_eq_true rfl) (Nat.le_of_ble_eq_true rfl) hlk (fun t _ h1 h2 => ⟨rfl, h1, h2⟩) (fun z h => nomatch h) (Nat.le_refl _) (Nat.le_refl _)
set_option maxRecDepth 100000 in
set_option maxHeartbeats 4000000 in
theorem c_X0_unjoin_th1 (l : Launch) (hfl : l.stackTraces = false) (N : Nat) (X : pgX) (S : pgS) (hn : sN S = 0) : pg_th l yX0_unjoin wsX0_unjoin (rmx 6 82) (xE N X S) [.ref ((xa X 0))] "java/lang/IllegalStateException" := by
  refine pg_th_of (cc := cX0_unjoin) (maxL := 1) (ret := (some .int)) (by decide) rfl (Nat.le_of_ble_eq_true rfl) ?_
  intro p e s m below meth c ls SC hT hlk hB hl
  obtain ⟨hx, hb, hml, hown, hts⟩ := id SC
  have hown : s.vm.findClass RX0 = some m.cls := hown
  obtain ⟨⟨hP, hK⟩, hE⟩ := id hB
  have hl : lv_has ls 1 [(0, .ref ((xa X 0)))] := hl
  have hin : ∀ w ∈ u_ws RX0 TX0 6, w ∈ wsX0_unjoin := by decide +kernel
  refine lv_aload_n hx hb dX0_unjoin_0 rfl (lv_at hl 0 rfl) ?_
  refine va_get (D := xG X) (ci := 0) (v := .int (iI (((sN S : Nat) : Int)))) (C := RX0) (T := TX0) (N := 6) hx hb hts hin hown hK hP 0 rfl rfl 4 (by decide) (hts (.fieldLink RX0 23 "Pegfield" "ringSize" "I") (by decide +kernel)) (fun _ h9 => h9) rfl dX0_unjoin_1 ?_
  refine pg_if_gt (tgt := 17) hx hb dX0_unjoin_4 (by decide) (⟨by omega, by omega⟩) (fun hc1 => absurd hc1 (by omega)) (fun hc1 => ?_)
  obtain ⟨sa, hsa⟩ := hE.1 (137, "the ring is empty") (by decide)
  have hat : ∀ w ∈ (vx_atS RX0 63 "java/lang/IllegalStateException" ["java/lang/RuntimeException", "java/lang/Exception"]), w.before _ s = true := vx_hat (fun w hm => hts w (List.mem_cons_of_mem _ (by first | exact List.mem_append_right _ hm | exact List.mem_append_left _ (List.mem_append_right _ hm) | exact List.mem_append_left _ (List.mem_append_left _ (List.mem_append_right _ hm)) | exact List.mem_append_left _ (List.mem_append_left _ (List.mem_append_left _ (List.mem_append_right _ hm)))))) ex_bad3 (fun w h => hE.2.2.2 w h _)
  exact vx_throwS (cls := "java/lang/IllegalStateException") (names := ["java/lang/RuntimeException", "java/lang/Exception"]) hx hb hfl hown (by decide +kernel) (by decide +kernel) (hts (.classLink RX0 59 "java/lang/IllegalStateException") (by decide +kernel)) (hts (.initialized "java/lang/IllegalStateException") (by decide +kernel)) hsa hat (by decide +kernel) hE.2.1 hE.2.2.1 va_S.rf (hl.1.trans hml.symm) dX0_unjoin_7 dX0_unjoin_10 dX0_unjoin_11 dX0_unjoin_13 dX0_unjoin_16 (fun x h => (hT x h).elim) (Nat.le_of_ble_eq_true rfl) (Nat.le_of_ble_eq_true rfl) (Nat.le_of_ble_eq_true rfl) (Nat.le_of_ble_eq_true rfl) hlk (fun t _ h1 h2 => ⟨rfl, h1, h2⟩) (fun z h => nomatch h) (Nat.le_refl _) (Nat.le_refl _)
set_option maxRecDepth 100000 in
set_option maxHeartbeats 4000000 in
theorem c_X0_ringAt_th1 (l : Launch) (hfl : l.stackTraces = false) (N : Nat) (X : pgX) (S : pgS) (pp : Int) (hp : inI pp) (hn : sN S ≤ 12) (h : pp < 0 ∨ (sN S : Int) ≤ pp) : pg_th l yX0_ringAt wsX0_ringAt (rmx 6 82) (xE N X S) [.ref ((xa X 0)), .int (iI pp)] "java/lang/IndexOutOfBoundsException" := by
  refine pg_th_of (cc := cX0_ringAt) (maxL := 2) (ret := (some .int)) (by decide) rfl (Nat.le_of_ble_eq_true rfl) ?_
  intro p e s m below meth c ls SC hT hlk hB hl
  obtain ⟨hx, hb, hml, hown, hts⟩ := id SC
  have hown : s.vm.findClass RX0 = some m.cls := hown
  obtain ⟨⟨hP, hK⟩, hE⟩ := id hB
  have hl : lv_has ls 2 [(0, .ref ((xa X 0))), (1, .int (iI pp))] := hl
  have hin : ∀ w ∈ u_ws RX0 TX0 6, w ∈ wsX0_ringAt := by decide +kernel
  refine lv_iload_n hx hb dX0_ringAt_0 rfl (lv_at hl 1 rfl) ?_
  refine pg_if_lt (tgt := 12) hx hb dX0_ringAt_1 (by decide) (⟨by omega, by omega⟩) (fun hc1 => ?_) (fun hc1 => ?_)
  · obtain ⟨sa, hsa⟩ := hE.1 (144, "no such place in the ring") (by decide)
    have hat : ∀ w ∈ (vx_atS RX0 146 "java/lang/IndexOutOfBoundsException" ["java/lang/RuntimeException", "java/lang/Exception"]), w.before _ s = true := vx_hat (fun w hm => hts w (List.mem_cons_of_mem _ (by first | exact List.mem_append_right _ hm | exact List.mem_append_left _ (List.mem_append_right _ hm) | exact List.mem_append_left _ (List.mem_append_left _ (List.mem_append_right _ hm)) | exact List.mem_append_left _ (List.mem_append_left _ (List.mem_append_left _ (List.mem_append_right _ hm)))))) ex_bad2 (fun w h => hE.2.2.2 w h _)
    exact vx_throwS (cls := "java/lang/IndexOutOfBoundsException") (names := ["java/lang/RuntimeException", "java/lang/Exception"]) hx hb hfl hown (by decide +kernel) (by decide +kernel) (hts (.classLink RX0 142 "java/lang/IndexOutOfBoundsException") (by decide +kernel)) (hts (.initialized "java/lang/IndexOutOfBoundsException") (by decide +kernel)) hsa hat (by decide +kernel) hE.2.1 hE.2.2.1 va_S.rf (hl.1.trans hml.symm) dX0_ringAt_12 dX0_ringAt_15 dX0_ringAt_16 dX0_ringAt_18 dX0_ringAt_21 (fun x h => (hT x h).elim) (Nat.le_of_ble_eq_true rfl) (Nat.le_of_ble_eq_true rfl) (Nat.le_of_ble_eq_true rfl) (Nat.le_of_ble_eq_true rfl) hlk (fun t _ h1 h2 => ⟨rfl, h1, h2⟩) (fun z h => nomatch h) (Nat.le_refl _) (Nat.le_refl _)
  · refine lv_iload_n hx hb dX0_ringAt_4 rfl (lv_at hl 1 rfl) ?_
    refine lv_aload_n hx hb dX0_ringAt_5 rfl (lv_at hl 0 rfl) ?_
    refine va_get (D := xG X) (ci := 0) (v := .int (iI (((sN S : Nat) : Int)))) (C := RX0) (T := TX0) (N := 6) hx hb hts hin hown hK hP 0 rfl rfl 4 (by decide) (hts (.fieldLink RX0 23 "Pegfield" "ringSize" "I") (by decide +kernel)) (fun _ h9 => h9) rfl dX0_ringAt_6 ?_
    refine pg_icmp_lt (tgt := 22) hx hb dX0_ringAt_9 (by decide) (⟨by omega, by omega⟩) (⟨by omega, by omega⟩) (fun hc2 => absurd hc2 (by omega)) (fun hc2 => ?_)
    obtain ⟨sa, hsa⟩ := hE.1 (144, "no such place in the ring") (by decide)
    have hat : ∀ w ∈ (vx_atS RX0 146 "java/lang/IndexOutOfBoundsException" ["java/lang/RuntimeException", "java/lang/Exception"]), w.before _ s = true := vx_hat (fun w hm => hts w (List.mem_cons_of_mem _ (by first | exact List.mem_append_right _ hm | exact List.mem_append_left _ (List.mem_append_right _ hm) | exact List.mem_append_left _ (List.mem_append_left _ (List.mem_append_right _ hm)) | exact List.mem_append_left _ (List.mem_append_left _ (List.mem_append_left _ (List.mem_append_right _ hm)))))) ex_bad2 (fun w h => hE.2.2.2 w h _)
    exact vx_throwS (cls := "java/lang/IndexOutOfBoundsException") (names := ["java/lang/RuntimeException", "java/lang/Exception"]) hx hb hfl hown (by decide +kernel) (by decide +kernel) (hts (.classLink RX0 142 "java/lang/IndexOutOfBoundsException") (by decide +kernel)) (hts (.initialized "java/lang/IndexOutOfBoundsException") (by decide +kernel)) hsa hat (by decide +kernel) hE.2.1 hE.2.2.1 va_S.rf (hl.1.trans hml.symm) dX0_ringAt_12 dX0_ringAt_15 dX0_ringAt_16 dX0_ringAt_18 dX0_ringAt_21 (fun x h => (hT x h).elim) (Nat.le_of_ble_eq_true rfl) (Nat.le_of_ble_eq_true rfl) (Nat.le_of_ble_eq_true rfl) (Nat.le_of_ble_eq_true rfl) hlk (fun t _ h1 h2 => ⟨rfl, h1, h2⟩) (fun z h => nomatch h) (Nat.le_refl _) (Nat.le_refl _)
set_option maxRecDepth 100000 in
set_option maxHeartbeats 4000000 in
theorem c_X0_sideBits_th1 (l : Launch) (hfl : l.stackTraces = false) (N : Nat) (X : pgX) (S : pgS) (hok : pgOk S) (hA : 32768 ≤ (da S (sN S)).natAbs) : pg_th l yX0_sideBits wsX0_sideBits (rmx 6 82) (xE N X S) [.ref ((xa X 0))] "java/lang/IllegalStateException" := by
  refine pg_th_of (cc := cX0_sideBits) (maxL := 2) (ret := (some .long)) (by decide) rfl (Nat.le_of_ble_eq_true rfl) ?_
  intro p e s m below meth c ls SC hT hlk hB hl
  obtain ⟨hx, hb, hml, hown, hts⟩ := id SC
  have hown : s.vm.findClass RX0 = some m.cls := hown
  obtain ⟨⟨hP, hK⟩, hE⟩ := id hB
  have hl : lv_has ls 2 [(0, .ref ((xa X 0)))] := hl
  have hN : sN S ≤ 12 := hok.2.2.2.2.1
  have hda := da_b hok (sN S)
  refine lv_aload_n hx hb dX0_sideBits_0 rfl (lv_at hl 0 rfl) ?_
  refine pg_callV (As := []) (rest := []) SC (c_X0_doubleArea l X S hok) xB_st (xB_h hP hK) (cwV 0 hts gX0_sideBits_X0_doubleArea rfl rfl rfl (by decide +kernel) ⟨Nat.le_of_ble_eq_true rfl, Nat.le_of_ble_eq_true rfl⟩) (va_recv hK hP (ci := 0) (q0 := 0) rfl rfl) rfl hl.1 rfl (Nat.le_of_ble_eq_true rfl) dX0_sideBits_1 ⟨Nat.zero_le _, Nat.zero_le _⟩ ?_
  refine va_mabs hx hb (hml.trans hl.1.symm) hown (hts (.methodLink RX0 154 Lib.Math.abs.name) (by decide +kernel)) (hts (.static Lib.Math.abs.name) (by decide +kernel)) (hts (.initialized "java/lang/Math") (by decide +kernel)) (hts (.code Lib.Math.abs.name Lib.Math.abs.code 1 (some .int)) (by decide +kernel)) (Nat.le_of_ble_eq_true rfl) (Nat.le_of_ble_eq_true rfl) (Nat.zero_le _) (Nat.zero_le _) dX0_sideBits_4 (pg_ti (iI_abs (⟨by omega, by omega⟩)) ?_)
  refine lv_istore_n (lv' := [(1, .int (iI (((Int.natAbs (da S (sN S)) : Nat) : Int)))), (0, .ref ((xa X 0)))]) hx hb dX0_sideBits_7 rfl hl (by decide) rfl (fun ls hl => ?_)
  refine lv_iload_n hx hb dX0_sideBits_8 rfl (lv_at hl 0 rfl) ?_
  refine pg_callS (As := [.int (iI (((Int.natAbs (da S (sN S)) : Nat) : Int)))]) (rest := []) SC (c_X0_isNumber l (da S (sN S)).natAbs 0 ⟨by omega, by omega⟩ (by omega)) pT_st pT_h (va_cwS 1 hts gX0_sideBits_X0_isNumber rfl rfl rfl (by decide +kernel) ⟨Nat.le_of_ble_eq_true rfl, Nat.le_of_ble_eq_true rfl⟩) rfl hl.1 rfl (Nat.le_of_ble_eq_true rfl) dX0_sideBits_9 ⟨Nat.zero_le _, Nat.zero_le _⟩ ?_
  refine pg_if_ne (tgt := 25) hx hb dX0_sideBits_12 (by decide) (⟨by omega, by omega⟩) (fun hc1 => absurd hc1 (by omega)) (fun hc1 => ?_)
  obtain ⟨sa, hsa⟩ := hE.1 (162, "the area is too large") (by decide)
  have hat : ∀ w ∈ (vx_atS RX0 63 "java/lang/IllegalStateException" ["java/lang/RuntimeException", "java/lang/Exception"]), w.before _ s = true := vx_hat (fun w hm => hts w (List.mem_cons_of_mem _ (by first | exact List.mem_append_right _ hm | exact List.mem_append_left _ (List.mem_append_right _ hm) | exact List.mem_append_left _ (List.mem_append_left _ (List.mem_append_right _ hm)) | exact List.mem_append_left _ (List.mem_append_left _ (List.mem_append_left _ (List.mem_append_right _ hm)))))) ex_bad3 (fun w h => hE.2.2.2 w h _)
  exact vx_throwS (cls := "java/lang/IllegalStateException") (names := ["java/lang/RuntimeException", "java/lang/Exception"]) hx hb hfl hown (by decide +kernel) (by decide +kernel) (hts (.classLink RX0 59 "java/lang/IllegalStateException") (by decide +kernel)) (hts (.initialized "java/lang/IllegalStateException") (by decide +kernel)) hsa hat (by decide +kernel) hE.2.1 hE.2.2.1 va_S.rf (hl.1.trans hml.symm) dX0_sideBits_15 dX0_sideBits_18 dX0_sideBits_19 dX0_sideBits_21 dX0_sideBits_24 (fun x h => (hT x h).elim) (Nat.le_of_ble_eq_true rfl) (Nat.le_of_ble_eq_true rfl) (Nat.le_of_ble_eq_true rfl) (Nat.le_of_ble_eq_true rfl) hlk (fun t _ h1 h2 => ⟨rfl, h1, h2⟩) (fun z h => nomatch h) (Nat.le_refl _) (Nat.le_refl _)
