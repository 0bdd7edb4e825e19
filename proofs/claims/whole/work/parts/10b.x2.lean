set_option maxRecDepth 100000 in
set_option maxHeartbeats 4000000 in
theorem c_X0_requirePeg_ok (l : Launch) (pp : Int) (h : 0 ≤ pp ∧ pp < 12) : pg_ro l yX0_requirePeg wsX0_requirePeg (rm 1 20) pT [.int (iI pp)] (none) := by
  refine pg_ro_of (cc := cX0_requirePeg) (maxL := 1) (ret := none) (by decide) rfl (Nat.le_of_ble_eq_true rfl) ?_
  intro p e s m below meth c ls SC hr hlk hB hl
  obtain ⟨hx, hb, hml, hown, hts⟩ := id SC
  have hown : s.vm.findClass RX0 = some m.cls := hown
  have hl : lv_has ls 1 [(0, .int (iI pp))] := hl
  refine lv_iload_n hx hb dX0_requirePeg_0 rfl (lv_at hl 0 rfl) ?_
  refine pg_callS (As := [.int (iI pp)]) (rest := []) SC (c_X0_isPeg l pp 1 ⟨by omega, by omega⟩ (by omega)) pT_st pT_h (va_cwS 1 hts gX0_requirePeg_X0_isPeg rfl rfl rfl (by decide +kernel) ⟨Nat.le_of_ble_eq_true rfl, Nat.le_of_ble_eq_true rfl⟩) rfl hl.1 rfl (Nat.le_of_ble_eq_true rfl) dX0_requirePeg_1 ⟨Nat.zero_le _, Nat.zero_le _⟩ ?_
  refine pg_if_ne (tgt := 17) hx hb dX0_requirePeg_4 (by decide) (⟨by omega, by omega⟩) (fun hc1 => ?_) (fun hc1 => absurd hc1 (by omega))
  exact pg_vret hx hb hr hlk  rfl dX0_requirePeg_17
set_option maxRecDepth 100000 in
set_option maxHeartbeats 4000000 in
theorem c_X0_requirePeg_th (l : Launch) (hfl : l.stackTraces = false) (N : Nat) (pp : Int) (hp : inI pp) (h : pp < 0 ∨ 12 ≤ pp) : pg_th l yX0_requirePeg wsX0_requirePeg (rmx 6 82) (exB N) [.int (iI pp)] "java/lang/IndexOutOfBoundsException" := by
  refine pg_th_of (cc := cX0_requirePeg) (maxL := 1) (ret := none) (by decide) rfl (Nat.le_of_ble_eq_true rfl) ?_
  intro p e s m below meth c ls SC hT hlk hB hl
  obtain ⟨hx, hb, hml, hown, hts⟩ := id SC
  have hown : s.vm.findClass RX0 = some m.cls := hown
  have hE := hB
  have hl : lv_has ls 1 [(0, .int (iI pp))] := hl
  refine lv_iload_n hx hb dX0_requirePeg_0 rfl (lv_at hl 0 rfl) ?_
  refine pg_callS (As := [.int (iI pp)]) (rest := []) SC (c_X0_isPeg l pp 0 hp (by omega)) pT_st pT_h (va_cwS 1 hts gX0_requirePeg_X0_isPeg rfl rfl rfl (by decide +kernel) ⟨Nat.le_of_ble_eq_true rfl, Nat.le_of_ble_eq_true rfl⟩) rfl hl.1 rfl (Nat.le_of_ble_eq_true rfl) dX0_requirePeg_1 ⟨Nat.zero_le _, Nat.zero_le _⟩ ?_
  refine pg_if_ne (tgt := 17) hx hb dX0_requirePeg_4 (by decide) (⟨by omega, by omega⟩) (fun hc1 => absurd hc1 (by omega)) (fun hc1 => ?_)
  obtain ⟨sa, hsa⟩ := hE.1 (212, "no such peg") (by decide)
  have hat : ∀ w ∈ (vx_atS RX0 146 "java/lang/IndexOutOfBoundsException" ["java/lang/RuntimeException", "java/lang/Exception"]), w.before _ s = true := vx_hat (fun w hm => hts w (List.mem_cons_of_mem _ (by first | exact List.mem_append_right _ hm | exact List.mem_append_left _ (List.mem_append_right _ hm) | exact List.mem_append_left _ (List.mem_append_left _ (List.mem_append_right _ hm)) | exact List.mem_append_left _ (List.mem_append_left _ (List.mem_append_left _ (List.mem_append_right _ hm)))))) ex_bad2 (fun w h => hE.2.2.2 w h _)
  exact vx_throwS (cls := "java/lang/IndexOutOfBoundsException") (names := ["java/lang/RuntimeException", "java/lang/Exception"]) hx hb hfl hown (by decide +kernel) (by decide +kernel) (hts (.classLink RX0 142 "java/lang/IndexOutOfBoundsException") (by decide +kernel)) (hts (.initialized "java/lang/IndexOutOfBoundsException") (by decide +kernel)) hsa hat (by decide +kernel) hE.2.1 hE.2.2.1 va_S.rf (hl.1.trans hml.symm) dX0_requirePeg_7 dX0_requirePeg_10 dX0_requirePeg_11 dX0_requirePeg_13 dX0_requirePeg_16 (fun x h => (hT x h).elim) (Nat.le_of_ble_eq_true rfl) (Nat.le_of_ble_eq_true rfl) (Nat.le_of_ble_eq_true rfl) (Nat.le_of_ble_eq_true rfl) hlk (fun t _ h1 h2 => ⟨rfl, h1, h2⟩) (fun z h => nomatch h) (Nat.le_refl _) (Nat.le_refl _)
set_option maxRecDepth 100000 in
set_option maxHeartbeats 4000000 in
theorem c_X0_requireNumber_ok (l : Launch) (pp : Int) (h : 0 ≤ pp ∧ pp < 32768) : pg_ro l yX0_requireNumber wsX0_requireNumber (rm 1 20) pT [.int (iI pp)] (none) := by
  refine pg_ro_of (cc := cX0_requireNumber) (maxL := 1) (ret := none) (by decide) rfl (Nat.le_of_ble_eq_true rfl) ?_
  intro p e s m below meth c ls SC hr hlk hB hl
  obtain ⟨hx, hb, hml, hown, hts⟩ := id SC
  have hown : s.vm.findClass RX0 = some m.cls := hown
  have hl : lv_has ls 1 [(0, .int (iI pp))] := hl
  refine lv_iload_n hx hb dX0_requireNumber_0 rfl (lv_at hl 0 rfl) ?_
  refine pg_callS (As := [.int (iI pp)]) (rest := []) SC (c_X0_isNumber l pp 1 ⟨by omega, by omega⟩ (by omega)) pT_st pT_h (va_cwS 1 hts gX0_requireNumber_X0_isNumber rfl rfl rfl (by decide +kernel) ⟨Nat.le_of_ble_eq_true rfl, Nat.le_of_ble_eq_true rfl⟩) rfl hl.1 rfl (Nat.le_of_ble_eq_true rfl) dX0_requireNumber_1 ⟨Nat.zero_le _, Nat.zero_le _⟩ ?_
  refine pg_if_ne (tgt := 17) hx hb dX0_requireNumber_4 (by decide) (⟨by omega, by omega⟩) (fun hc1 => ?_) (fun hc1 => absurd hc1 (by omega))
  exact pg_vret hx hb hr hlk  rfl dX0_requireNumber_17
set_option maxRecDepth 100000 in
set_option maxHeartbeats 4000000 in
theorem c_X0_requireNumber_th (l : Launch) (hfl : l.stackTraces = false) (N : Nat) (pp : Int) (hp : inI pp) (h : pp < 0 ∨ 32768 ≤ pp) : pg_th l yX0_requireNumber wsX0_requireNumber (rmx 6 82) (exB N) [.int (iI pp)] "java/lang/IllegalArgumentException" := by
  refine pg_th_of (cc := cX0_requireNumber) (maxL := 1) (ret := none) (by decide) rfl (Nat.le_of_ble_eq_true rfl) ?_
  intro p e s m below meth c ls SC hT hlk hB hl
  obtain ⟨hx, hb, hml, hown, hts⟩ := id SC
  have hown : s.vm.findClass RX0 = some m.cls := hown
  have hE := hB
  have hl : lv_has ls 1 [(0, .int (iI pp))] := hl
  refine lv_iload_n hx hb dX0_requireNumber_0 rfl (lv_at hl 0 rfl) ?_
  refine pg_callS (As := [.int (iI pp)]) (rest := []) SC (c_X0_isNumber l pp 0 hp (by omega)) pT_st pT_h (va_cwS 1 hts gX0_requireNumber_X0_isNumber rfl rfl rfl (by decide +kernel) ⟨Nat.le_of_ble_eq_true rfl, Nat.le_of_ble_eq_true rfl⟩) rfl hl.1 rfl (Nat.le_of_ble_eq_true rfl) dX0_requireNumber_1 ⟨Nat.zero_le _, Nat.zero_le _⟩ ?_
  refine pg_if_ne (tgt := 17) hx hb dX0_requireNumber_4 (by decide) (⟨by omega, by omega⟩) (fun hc1 => absurd hc1 (by omega)) (fun hc1 => ?_)
  obtain ⟨sa, hsa⟩ := hE.1 (219, "no such number") (by decide)
  have hat : ∀ w ∈ (vx_atS RX0 43 "java/lang/IllegalArgumentException" ["java/lang/RuntimeException", "java/lang/Exception"]), w.before _ s = true := vx_hat (fun w hm => hts w (List.mem_cons_of_mem _ (by first | exact List.mem_append_right _ hm | exact List.mem_append_left _ (List.mem_append_right _ hm) | exact List.mem_append_left _ (List.mem_append_left _ (List.mem_append_right _ hm)) | exact List.mem_append_left _ (List.mem_append_left _ (List.mem_append_left _ (List.mem_append_right _ hm)))))) ex_bad1 (fun w h => hE.2.2.2 w h _)
  exact vx_throwS (cls := "java/lang/IllegalArgumentException") (names := ["java/lang/RuntimeException", "java/lang/Exception"]) hx hb hfl hown (by decide +kernel) (by decide +kernel) (hts (.classLink RX0 39 "java/lang/IllegalArgumentException") (by decide +kernel)) (hts (.initialized "java/lang/IllegalArgumentException") (by decide +kernel)) hsa hat (by decide +kernel) hE.2.1 hE.2.2.1 va_S.rf (hl.1.trans hml.symm) dX0_requireNumber_7 dX0_requireNumber_10 dX0_requireNumber_11 dX0_requireNumber_13 dX0_requireNumber_16 (fun x h => (hT x h).elim) (Nat.le_of_ble_eq_true rfl) (Nat.le_of_ble_eq_true rfl) (Nat.le_of_ble_eq_true rfl) (Nat.le_of_ble_eq_true rfl) hlk (fun t _ h1 h2 => ⟨rfl, h1, h2⟩) (fun z h => nomatch h) (Nat.le_refl _) (Nat.le_refl _)
set_option maxRecDepth 100000 in
set_option maxHeartbeats 4000000 in
theorem c_X0_stands (l : Launch) (X : pgX) (S : pgS) (k : Nat) (hk : k < 12) (h1 : sS S k ≤ 1) : pg_ro l yX0_stands wsX0_stands (rm 1 20) (xB X S) [.ref ((xa X 0)), .int (iI (((k : Nat) : Int)))] (some (.int (iI (((sS S k : Nat) : Int))))) := by
  refine pg_ro_of (cc := cX0_stands) (maxL := 2) (ret := (some .boolean)) (by decide) rfl (Nat.le_of_ble_eq_true rfl) ?_
  intro p e s m below meth c ls SC hr hlk hB hl
  obtain ⟨hx, hb, hml, hown, hts⟩ := id SC
  have hown : s.vm.findClass RX0 = some m.cls := hown
  obtain ⟨hP, hK⟩ := id hB
  have hl : lv_has ls 2 [(0, .ref ((xa X 0))), (1, .int (iI (((k : Nat) : Int))))] := hl
  have hin : ∀ w ∈ u_ws RX0 TX0 6, w ∈ wsX0_stands := by decide +kernel
  refine lv_iload_n hx hb dX0_stands_0 rfl (lv_at hl 1 rfl) ?_
  refine pg_callS (As := [.int (iI (((k : Nat) : Int)))]) (rest := []) SC (c_X0_isPeg l (((k : Nat) : Int)) 1 ⟨by omega, by omega⟩ (by omega)) pT_st pT_h (va_cwS 1 hts gX0_stands_X0_isPeg rfl rfl rfl (by decide +kernel) ⟨Nat.le_of_ble_eq_true rfl, Nat.le_of_ble_eq_true rfl⟩) rfl hl.1 rfl (Nat.le_of_ble_eq_true rfl) dX0_stands_1 ⟨Nat.zero_le _, Nat.zero_le _⟩ ?_
  refine pg_if_eq (tgt := 20) hx hb dX0_stands_4 (by decide) (⟨by omega, by omega⟩) (fun hc1 => absurd hc1 (by omega)) (fun hc1 => ?_)
  refine lv_aload_n hx hb dX0_stands_7 rfl (lv_at hl 0 rfl) ?_
  refine va_get (D := xG X) (ci := 0) (v := .ref ((xa X 1))) (C := RX0) (T := TX0) (N := 6) hx hb hts hin hown hK hP 0 rfl rfl 0 (by decide) (hts (.fieldLink RX0 9 "Pegfield" "standing" "[Z") (by decide +kernel)) (fun _ h9 => h9) rfl dX0_stands_8 ?_
  refine lv_iload_n hx hb dX0_stands_11 rfl (lv_at hl 1 rfl) ?_
  refine pg_zald hx hb hK hP 1 0 (f := (sS S)) rfl rfl k (rfl) (by omega) (by decide) dX0_stands_12 ?_
  refine pg_if_eq (tgt := 20) hx hb dX0_stands_13 (by decide) (⟨by omega, by omega⟩) (fun hc2 => ?_) (fun hc2 => ?_)
  · refine lv_iconst (v := iI 0) hx hb dX0_stands_20 rfl ?_
    exact pg_zret hx hb hr hlk  (iI_bool (by omega)) (congrArg (fun z : Int => some (Value.int (iI z))) (show ((sS S k : Nat) : Int) = 0 by omega)) dX0_stands_21
  · refine lv_iconst (v := iI 1) hx hb dX0_stands_16 rfl ?_
    refine lv_goto (tgt := 21) hx hb dX0_stands_17 (by decide) ?_
    exact pg_zret hx hb hr hlk  (iI_bool (by omega)) (congrArg (fun z : Int => some (Value.int (iI z))) (show ((sS S k : Nat) : Int) = 1 by omega)) dX0_stands_21
set_option maxRecDepth 100000 in
set_option maxHeartbeats 4000000 in
theorem c_X0_across (l : Launch) (X : pgX) (S : pgS) (k : Nat) (hk : k < 12)  : pg_ro l yX0_across wsX0_across (rm 1 20) (xB X S) [.ref ((xa X 0)), .int (iI (((k : Nat) : Int)))] (some (.int (iI (((sA S k : Nat) : Int))))) := by
  refine pg_ro_of (cc := cX0_across) (maxL := 2) (ret := (some .int)) (by decide) rfl (Nat.le_of_ble_eq_true rfl) ?_
  intro p e s m below meth c ls SC hr hlk hB hl
  obtain ⟨hx, hb, hml, hown, hts⟩ := id SC
  have hown : s.vm.findClass RX0 = some m.cls := hown
  obtain ⟨hP, hK⟩ := id hB
  have hl : lv_has ls 2 [(0, .ref ((xa X 0))), (1, .int (iI (((k : Nat) : Int))))] := hl
  have hin : ∀ w ∈ u_ws RX0 TX0 6, w ∈ wsX0_across := by decide +kernel
  refine lv_iload_n hx hb dX0_across_0 rfl (lv_at hl 1 rfl) ?_
  refine pg_callS (As := [.int (iI (((k : Nat) : Int)))]) (rest := []) SC (c_X0_isPeg l (((k : Nat) : Int)) 1 ⟨by omega, by omega⟩ (by omega)) pT_st pT_h (va_cwS 1 hts gX0_across_X0_isPeg rfl rfl rfl (by decide +kernel) ⟨Nat.le_of_ble_eq_true rfl, Nat.le_of_ble_eq_true rfl⟩) rfl hl.1 rfl (Nat.le_of_ble_eq_true rfl) dX0_across_1 ⟨Nat.zero_le _, Nat.zero_le _⟩ ?_
  refine pg_if_eq (tgt := 16) hx hb dX0_across_4 (by decide) (⟨by omega, by omega⟩) (fun hc1 => absurd hc1 (by omega)) (fun hc1 => ?_)
  refine lv_aload_n hx hb dX0_across_7 rfl (lv_at hl 0 rfl) ?_
  refine va_get (D := xG X) (ci := 0) (v := .ref ((xa X 2))) (C := RX0) (T := TX0) (N := 6) hx hb hts hin hown hK hP 0 rfl rfl 1 (by decide) (hts (.fieldLink RX0 13 "Pegfield" "acrossOf" "[I") (by decide +kernel)) (fun _ h9 => h9) rfl dX0_across_8 ?_
  refine lv_iload_n hx hb dX0_across_11 rfl (lv_at hl 1 rfl) ?_
  refine pg_iald hx hb hK hP 2 1 (f := (sA S)) rfl rfl k (rfl) (by omega) (by decide) dX0_across_12 ?_
  refine lv_goto (tgt := 17) hx hb dX0_across_13 (by decide) ?_
  exact pg_iret hx hb hr hlk  (congrArg (fun z : Int => some (Value.int (iI z))) (show ((sA S k : Nat) : Int) = (((sA S) k : Nat) : Int) by rfl)) dX0_across_17
set_option maxRecDepth 100000 in
set_option maxHeartbeats 4000000 in
theorem c_X0_up (l : Launch) (X : pgX) (S : pgS) (k : Nat) (hk : k < 12)  : pg_ro l yX0_up wsX0_up (rm 1 20) (xB X S) [.ref ((xa X 0)), .int (iI (((k : Nat) : Int)))] (some (.int (iI (((sU S k : Nat) : Int))))) := by
  refine pg_ro_of (cc := cX0_up) (maxL := 2) (ret := (some .int)) (by decide) rfl (Nat.le_of_ble_eq_true rfl) ?_
  intro p e s m below meth c ls SC hr hlk hB hl
  obtain ⟨hx, hb, hml, hown, hts⟩ := id SC
  have hown : s.vm.findClass RX0 = some m.cls := hown
  obtain ⟨hP, hK⟩ := id hB
  have hl : lv_has ls 2 [(0, .ref ((xa X 0))), (1, .int (iI (((k : Nat) : Int))))] := hl
  have hin : ∀ w ∈ u_ws RX0 TX0 6, w ∈ wsX0_up := by decide +kernel
  refine lv_iload_n hx hb dX0_up_0 rfl (lv_at hl 1 rfl) ?_
  refine pg_callS (As := [.int (iI (((k : Nat) : Int)))]) (rest := []) SC (c_X0_isPeg l (((k : Nat) : Int)) 1 ⟨by omega, by omega⟩ (by omega)) pT_st pT_h (va_cwS 1 hts gX0_up_X0_isPeg rfl rfl rfl (by decide +kernel) ⟨Nat.le_of_ble_eq_true rfl, Nat.le_of_ble_eq_true rfl⟩) rfl hl.1 rfl (Nat.le_of_ble_eq_true rfl) dX0_up_1 ⟨Nat.zero_le _, Nat.zero_le _⟩ ?_
  refine pg_if_eq (tgt := 16) hx hb dX0_up_4 (by decide) (⟨by omega, by omega⟩) (fun hc1 => absurd hc1 (by omega)) (fun hc1 => ?_)
  refine lv_aload_n hx hb dX0_up_7 rfl (lv_at hl 0 rfl) ?_
  refine va_get (D := xG X) (ci := 0) (v := .ref ((xa X 3))) (C := RX0) (T := TX0) (N := 6) hx hb hts hin hown hK hP 0 rfl rfl 2 (by decide) (hts (.fieldLink RX0 17 "Pegfield" "upOf" "[I") (by decide +kernel)) (fun _ h9 => h9) rfl dX0_up_8 ?_
  refine lv_iload_n hx hb dX0_up_11 rfl (lv_at hl 1 rfl) ?_
  refine pg_iald hx hb hK hP 3 1 (f := (sU S)) rfl rfl k (rfl) (by omega) (by decide) dX0_up_12 ?_
  refine lv_goto (tgt := 17) hx hb dX0_up_13 (by decide) ?_
  exact pg_iret hx hb hr hlk  (congrArg (fun z : Int => some (Value.int (iI z))) (show ((sU S k : Nat) : Int) = (((sU S) k : Nat) : Int) by rfl)) dX0_up_17
set_option maxRecDepth 100000 in
set_option maxHeartbeats 4000000 in
theorem c_X0_requireStanding_ok (l : Launch) (X : pgX) (S : pgS) (k : Nat) (hk : k < 12) (h1 : sS S k = 1) : pg_ro l yX0_requireStanding wsX0_requireStanding (rm 2 41) (xB X S) [.ref ((xa X 0)), .int (iI (((k : Nat) : Int)))] (none) := by
  refine pg_ro_of (cc := cX0_requireStanding) (maxL := 2) (ret := none) (by decide) rfl (Nat.le_of_ble_eq_true rfl) ?_
  intro p e s m below meth c ls SC hr hlk hB hl
  obtain ⟨hx, hb, hml, hown, hts⟩ := id SC
  have hown : s.vm.findClass RX0 = some m.cls := hown
  obtain ⟨hP, hK⟩ := id hB
  have hl : lv_has ls 2 [(0, .ref ((xa X 0))), (1, .int (iI (((k : Nat) : Int))))] := hl
  refine lv_aload_n hx hb dX0_requireStanding_0 rfl (lv_at hl 0 rfl) ?_
  refine lv_iload_n hx hb dX0_requireStanding_1 rfl (lv_at hl 1 rfl) ?_
  refine pg_callV (As := [.int (iI (((k : Nat) : Int)))]) (rest := []) SC (c_X0_stands l X S k hk (by omega)) xB_st (xB_h hP hK) (cwV 1 hts gX0_requireStanding_X0_stands rfl rfl rfl (by decide +kernel) ⟨Nat.le_of_ble_eq_true rfl, Nat.le_of_ble_eq_true rfl⟩) (va_recv hK hP (ci := 0) (q0 := 0) rfl rfl) rfl hl.1 rfl (Nat.le_of_ble_eq_true rfl) dX0_requireStanding_2 ⟨Nat.zero_le _, Nat.zero_le _⟩ ?_
  refine pg_if_ne (tgt := 18) hx hb dX0_requireStanding_5 (by decide) (⟨by omega, by omega⟩) (fun hc1 => ?_) (fun hc1 => absurd hc1 (by omega))
  exact pg_vret hx hb hr hlk  rfl dX0_requireStanding_18
set_option maxRecDepth 100000 in
set_option maxHeartbeats 4000000 in
theorem c_X0_requireStanding_th (l : Launch) (hfl : l.stackTraces = false) (N : Nat) (X : pgX) (S : pgS) (k : Nat) (hk : k < 12) (h1 : sS S k = 0) : pg_th l yX0_requireStanding wsX0_requireStanding (rmx 6 82) (xE N X S) [.ref ((xa X 0)), .int (iI (((k : Nat) : Int)))] "java/util/NoSuchElementException" := by
  refine pg_th_of (cc := cX0_requireStanding) (maxL := 2) (ret := none) (by decide) rfl (Nat.le_of_ble_eq_true rfl) ?_
  intro p e s m below meth c ls SC hT hlk hB hl
  obtain ⟨hx, hb, hml, hown, hts⟩ := id SC
  have hown : s.vm.findClass RX0 = some m.cls := hown
  obtain ⟨⟨hP, hK⟩, hE⟩ := id hB
  have hl : lv_has ls 2 [(0, .ref ((xa X 0))), (1, .int (iI (((k : Nat) : Int))))] := hl
  refine lv_aload_n hx hb dX0_requireStanding_0 rfl (lv_at hl 0 rfl) ?_
  refine lv_iload_n hx hb dX0_requireStanding_1 rfl (lv_at hl 1 rfl) ?_
  refine pg_callV (As := [.int (iI (((k : Nat) : Int)))]) (rest := []) SC (c_X0_stands l X S k hk (by omega)) xB_st (xB_h hP hK) (cwV 1 hts gX0_requireStanding_X0_stands rfl rfl rfl (by decide +kernel) ⟨Nat.le_of_ble_eq_true rfl, Nat.le_of_ble_eq_true rfl⟩) (va_recv hK hP (ci := 0) (q0 := 0) rfl rfl) rfl hl.1 rfl (Nat.le_of_ble_eq_true rfl) dX0_requireStanding_2 ⟨Nat.zero_le _, Nat.zero_le _⟩ ?_
  refine pg_if_ne (tgt := 18) hx hb dX0_requireStanding_5 (by decide) (⟨by omega, by omega⟩) (fun hc1 => absurd hc1 (by omega)) (fun hc1 => ?_)
  obtain ⟨sa, hsa⟩ := hE.1 (216, "the peg does not stand") (by decide)
  have hat : ∀ w ∈ (pg_atX RX0 218 "java/util/NoSuchElementException" 13 prog_13_method_4_code "java/lang/RuntimeException" ["java/lang/Exception"]), w.before _ s = true := vx_hat (fun w hm => hts w (List.mem_cons_of_mem _ (by first | exact List.mem_append_right _ hm | exact List.mem_append_left _ (List.mem_append_right _ hm) | exact List.mem_append_left _ (List.mem_append_left _ (List.mem_append_right _ hm)) | exact List.mem_append_left _ (List.mem_append_left _ (List.mem_append_left _ (List.mem_append_right _ hm)))))) ex_bad4 (fun w h => hE.2.2.2 w h _)
  exact pg_throwSX (cls := "java/util/NoSuchElementException") (names := ["java/lang/Exception"]) (Y1 := "java/lang/RuntimeException") hx hb hfl nse_0 nse_1 nse_2 nse_5 (by decide +kernel) hown (by decide +kernel) (by decide +kernel) (hts (.classLink RX0 214 "java/util/NoSuchElementException") (by decide +kernel)) (hts (.initialized "java/util/NoSuchElementException") (by decide +kernel)) hsa hat (by decide +kernel) hE.2.1 hE.2.2.1 va_S.rf (hl.1.trans hml.symm) dX0_requireStanding_8 dX0_requireStanding_11 dX0_requireStanding_12 dX0_requireStanding_14 dX0_requireStanding_17 (fun x h => (hT x h).elim) (Nat.le_of_ble_eq_true rfl) (Nat.le_of_ble_eq_true rfl) (Nat.le_of_ble_eq_true rfl) (Nat.le_of_ble_eq_true rfl) hlk (fun t _ h1 h2 => ⟨rfl, h1, h2⟩) (fun z h => nomatch h) (Nat.le_refl _) (Nat.le_refl _)
set_option maxRecDepth 100000 in
set_option maxHeartbeats 4000000 in
theorem c_X0_requireTwo_ok (l : Launch) (X : pgX) (S : pgS) (a b : Nat) (ha : a < 12) (hb2 : b < 12) (sa : sS S a = 1) (sb : sS S b = 1) : pg_ro l yX0_requireTwo wsX0_requireTwo (rm 3 62) (xB X S) [.ref ((xa X 0)), .int (iI (((a : Nat) : Int))), .int (iI (((b : Nat) : Int)))] (none) := by
  refine pg_ro_of (cc := cX0_requireTwo) (maxL := 3) (ret := none) (by decide) rfl (Nat.le_of_ble_eq_true rfl) ?_
  intro p e s m below meth c ls SC hr hlk hB hl
  obtain ⟨hx, hb, hml, hown, hts⟩ := id SC
  have hown : s.vm.findClass RX0 = some m.cls := hown
  obtain ⟨hP, hK⟩ := id hB
  have hl : lv_has ls 3 [(0, .ref ((xa X 0))), (1, .int (iI (((a : Nat) : Int)))), (2, .int (iI (((b : Nat) : Int))))] := hl
  refine lv_iload_n hx hb dX0_requireTwo_0 rfl (lv_at hl 1 rfl) ?_
  refine pg_callSv (As := [.int (iI (((a : Nat) : Int)))]) (rest := []) SC (c_X0_requirePeg_ok l (((a : Nat) : Int)) ⟨by omega, by omega⟩) pT_st pT_h (va_cwS 1 hts gX0_requireTwo_X0_requirePeg rfl rfl rfl (by decide +kernel) ⟨Nat.le_of_ble_eq_true rfl, Nat.le_of_ble_eq_true rfl⟩) rfl hl.1 rfl (Nat.le_of_ble_eq_true rfl) dX0_requireTwo_1 ⟨Nat.zero_le _, Nat.zero_le _⟩ ?_
  refine lv_iload_n hx hb dX0_requireTwo_4 rfl (lv_at hl 2 rfl) ?_
  refine pg_callSv (As := [.int (iI (((b : Nat) : Int)))]) (rest := []) SC (c_X0_requirePeg_ok l (((b : Nat) : Int)) ⟨by omega, by omega⟩) pT_st pT_h (va_cwS 1 hts gX0_requireTwo_X0_requirePeg rfl rfl rfl (by decide +kernel) ⟨Nat.le_of_ble_eq_true rfl, Nat.le_of_ble_eq_true rfl⟩) rfl hl.1 rfl (Nat.le_of_ble_eq_true rfl) dX0_requireTwo_5 ⟨Nat.zero_le _, Nat.zero_le _⟩ ?_
  refine lv_aload_n hx hb dX0_requireTwo_8 rfl (lv_at hl 0 rfl) ?_
  refine lv_iload_n hx hb dX0_requireTwo_9 rfl (lv_at hl 1 rfl) ?_
  refine pg_callVv (As := [.int (iI (((a : Nat) : Int)))]) (rest := []) SC (c_X0_requireStanding_ok l X S a ha sa) xB_st (xB_h hP hK) (cwV 1 hts gX0_requireTwo_X0_requireStanding rfl rfl rfl (by decide +kernel) ⟨Nat.le_of_ble_eq_true rfl, Nat.le_of_ble_eq_true rfl⟩) (va_recv hK hP (ci := 0) (q0 := 0) rfl rfl) rfl hl.1 rfl (Nat.le_of_ble_eq_true rfl) dX0_requireTwo_10 ⟨Nat.zero_le _, Nat.zero_le _⟩ ?_
  refine lv_aload_n hx hb dX0_requireTwo_13 rfl (lv_at hl 0 rfl) ?_
  refine lv_iload_n hx hb dX0_requireTwo_14 rfl (lv_at hl 2 rfl) ?_
  refine pg_callVv (As := [.int (iI (((b : Nat) : Int)))]) (rest := []) SC (c_X0_requireStanding_ok l X S b hb2 sb) xB_st (xB_h hP hK) (cwV 1 hts gX0_requireTwo_X0_requireStanding rfl rfl rfl (by decide +kernel) ⟨Nat.le_of_ble_eq_true rfl, Nat.le_of_ble_eq_true rfl⟩) (va_recv hK hP (ci := 0) (q0 := 0) rfl rfl) rfl hl.1 rfl (Nat.le_of_ble_eq_true rfl) dX0_requireTwo_15 ⟨Nat.zero_le _, Nat.zero_le _⟩ ?_
  exact pg_vret hx hb hr hlk  rfl dX0_requireTwo_18
set_option maxRecDepth 100000 in
set_option maxHeartbeats 4000000 in
theorem c_X0_requireTwo_th1 (l : Launch) (hfl : l.stackTraces = false) (N : Nat) (X : pgX) (S : pgS) (pp qq : Int) (hp : inI pp) (hq : inI qq) (h : pp < 0 ∨ 12 ≤ pp ∨ qq < 0 ∨ 12 ≤ qq) : pg_th l yX0_requireTwo wsX0_requireTwo (rmx 7 102) (xE N X S) [.ref ((xa X 0)), .int (iI pp), .int (iI qq)] "java/lang/IndexOutOfBoundsException" := by
  refine pg_th_of (cc := cX0_requireTwo) (maxL := 3) (ret := none) (by decide) rfl (Nat.le_of_ble_eq_true rfl) ?_
  intro p e s m below meth c ls SC hT hlk hB hl
  obtain ⟨hx, hb, hml, hown, hts⟩ := id SC
  have hown : s.vm.findClass RX0 = some m.cls := hown
  obtain ⟨⟨hP, hK⟩, hE⟩ := id hB
  have hl : lv_has ls 3 [(0, .ref ((xa X 0))), (1, .int (iI pp)), (2, .int (iI qq))] := hl
  refine lv_iload_n hx hb dX0_requireTwo_0 rfl (lv_at hl 1 rfl) ?_
  by_cases hs1 : 0 ≤ pp ∧ pp < 12
  · refine pg_callSv (As := [.int (iI pp)]) (rest := []) SC (c_X0_requirePeg_ok l pp ⟨by omega, by omega⟩) pT_st pT_h (va_cwS 1 hts gX0_requireTwo_X0_requirePeg rfl rfl rfl (by decide +kernel) ⟨Nat.le_of_ble_eq_true rfl, Nat.le_of_ble_eq_true rfl⟩) rfl hl.1 rfl (Nat.le_of_ble_eq_true rfl) dX0_requireTwo_1 ⟨Nat.zero_le _, Nat.zero_le _⟩ ?_
    refine lv_iload_n hx hb dX0_requireTwo_4 rfl (lv_at hl 2 rfl) ?_
    exact pg_thS (As := [.int (iI qq)]) (rest := []) SC (c_X0_requirePeg_th l hfl N qq ⟨by omega, by omega⟩ (by omega)) exB_st (pg_h_of exB_st hE) (va_cwS 1 hts gX0_requireTwo_X0_requirePeg rfl rfl rfl (by decide +kernel) ⟨Nat.le_of_ble_eq_true rfl, Nat.le_of_ble_eq_true rfl⟩) hT hlk rfl hl.1 rfl (Nat.le_of_ble_eq_true rfl) dX0_requireTwo_5 ⟨Nat.le_of_ble_eq_true rfl, Nat.le_of_ble_eq_true rfl⟩
  · exact pg_thS (As := [.int (iI pp)]) (rest := []) SC (c_X0_requirePeg_th l hfl N pp ⟨by omega, by omega⟩ (by omega)) exB_st (pg_h_of exB_st hE) (va_cwS 1 hts gX0_requireTwo_X0_requirePeg rfl rfl rfl (by decide +kernel) ⟨Nat.le_of_ble_eq_true rfl, Nat.le_of_ble_eq_true rfl⟩) hT hlk rfl hl.1 rfl (Nat.le_of_ble_eq_true rfl) dX0_requireTwo_1 ⟨Nat.le_of_ble_eq_true rfl, Nat.le_of_ble_eq_true rfl⟩
set_option maxRecDepth 100000 in
set_option maxHeartbeats 4000000 in
theorem c_X0_requireTwo_th2 (l : Launch) (hfl : l.stackTraces = false) (N : Nat) (X : pgX) (S : pgS) (a b : Nat) (ha : a < 12) (hb2 : b < 12) (h : sS S a = 0 ∨ sS S b = 0) (h1 : sS S a ≤ 1) (h2 : sS S b ≤ 1) : pg_th l yX0_requireTwo wsX0_requireTwo (rmx 7 103) (xE N X S) [.ref ((xa X 0)), .int (iI (((a : Nat) : Int))), .int (iI (((b : Nat) : Int)))] "java/util/NoSuchElementException" := by
  refine pg_th_of (cc := cX0_requireTwo) (maxL := 3) (ret := none) (by decide) rfl (Nat.le_of_ble_eq_true rfl) ?_
  intro p e s m below meth c ls SC hT hlk hB hl
  obtain ⟨hx, hb, hml, hown, hts⟩ := id SC
  have hown : s.vm.findClass RX0 = some m.cls := hown
  obtain ⟨⟨hP, hK⟩, hE⟩ := id hB
  have hl : lv_has ls 3 [(0, .ref ((xa X 0))), (1, .int (iI (((a : Nat) : Int)))), (2, .int (iI (((b : Nat) : Int))))] := hl
  refine lv_iload_n hx hb dX0_requireTwo_0 rfl (lv_at hl 1 rfl) ?_
  refine pg_callSv (As := [.int (iI (((a : Nat) : Int)))]) (rest := []) SC (c_X0_requirePeg_ok l (((a : Nat) : Int)) ⟨by omega, by omega⟩) pT_st pT_h (va_cwS 1 hts gX0_requireTwo_X0_requirePeg rfl rfl rfl (by decide +kernel) ⟨Nat.le_of_ble_eq_true rfl, Nat.le_of_ble_eq_true rfl⟩) rfl hl.1 rfl (Nat.le_of_ble_eq_true rfl) dX0_requireTwo_1 ⟨Nat.zero_le _, Nat.zero_le _⟩ ?_
  refine lv_iload_n hx hb dX0_requireTwo_4 rfl (lv_at hl 2 rfl) ?_
  refine pg_callSv (As := [.int (iI (((b : Nat) : Int)))]) (rest := []) SC (c_X0_requirePeg_ok l (((b : Nat) : Int)) ⟨by omega, by omega⟩) pT_st pT_h (va_cwS 1 hts gX0_requireTwo_X0_requirePeg rfl rfl rfl (by decide +kernel) ⟨Nat.le_of_ble_eq_true rfl, Nat.le_of_ble_eq_true rfl⟩) rfl hl.1 rfl (Nat.le_of_ble_eq_true rfl) dX0_requireTwo_5 ⟨Nat.zero_le _, Nat.zero_le _⟩ ?_
  refine lv_aload_n hx hb dX0_requireTwo_8 rfl (lv_at hl 0 rfl) ?_
  refine lv_iload_n hx hb dX0_requireTwo_9 rfl (lv_at hl 1 rfl) ?_
  by_cases hs1 : sS S a = 1
  · refine pg_callVv (As := [.int (iI (((a : Nat) : Int)))]) (rest := []) SC (c_X0_requireStanding_ok l X S a ha (by omega)) xB_st (xB_h hP hK) (cwV 1 hts gX0_requireTwo_X0_requireStanding rfl rfl rfl (by decide +kernel) ⟨Nat.le_of_ble_eq_true rfl, Nat.le_of_ble_eq_true rfl⟩) (va_recv hK hP (ci := 0) (q0 := 0) rfl rfl) rfl hl.1 rfl (Nat.le_of_ble_eq_true rfl) dX0_requireTwo_10 ⟨Nat.zero_le _, Nat.zero_le _⟩ ?_
    refine lv_aload_n hx hb dX0_requireTwo_13 rfl (lv_at hl 0 rfl) ?_
    refine lv_iload_n hx hb dX0_requireTwo_14 rfl (lv_at hl 2 rfl) ?_
    exact pg_thV (As := [.int (iI (((b : Nat) : Int)))]) (rest := []) SC (c_X0_requireStanding_th l hfl N X S b hb2 (by omega)) xE_st (pg_h_of xE_st hB) (cwV 1 hts gX0_requireTwo_X0_requireStanding rfl rfl rfl (by decide +kernel) ⟨Nat.le_of_ble_eq_true rfl, Nat.le_of_ble_eq_true rfl⟩) (va_recv hK hP (ci := 0) (q0 := 0) rfl rfl) hT hlk rfl hl.1 rfl (Nat.le_of_ble_eq_true rfl) dX0_requireTwo_15 ⟨Nat.le_of_ble_eq_true rfl, Nat.le_of_ble_eq_true rfl⟩
  · exact pg_thV (As := [.int (iI (((a : Nat) : Int)))]) (rest := []) SC (c_X0_requireStanding_th l hfl N X S a ha (by omega)) xE_st (pg_h_of xE_st hB) (cwV 1 hts gX0_requireTwo_X0_requireStanding rfl rfl rfl (by decide +kernel) ⟨Nat.le_of_ble_eq_true rfl, Nat.le_of_ble_eq_true rfl⟩) (va_recv hK hP (ci := 0) (q0 := 0) rfl rfl) hT hlk rfl hl.1 rfl (Nat.le_of_ble_eq_true rfl) dX0_requireTwo_10 ⟨Nat.le_of_ble_eq_true rfl, Nat.le_of_ble_eq_true rfl⟩
set_option maxRecDepth 100000 in
set_option maxHeartbeats 4000000 in
theorem c_X0_pegInRing (l : Launch) (X : pgX) (S : pgS) (k : Nat) (hk : k < 12)  : pg_ro l yX0_pegInRing wsX0_pegInRing (rm 0 0) (xB X S) [.ref ((xa X 0)), .int (iI (((k : Nat) : Int)))] (some (.int (iI (((sR S k : Nat) : Int))))) := by
  refine pg_ro_of (cc := cX0_pegInRing) (maxL := 2) (ret := (some .int)) (by decide) rfl (Nat.le_of_ble_eq_true rfl) ?_
  intro p e s m below meth c ls SC hr hlk hB hl
  obtain ⟨hx, hb, hml, hown, hts⟩ := id SC
  have hown : s.vm.findClass RX0 = some m.cls := hown
  obtain ⟨hP, hK⟩ := id hB
  have hl : lv_has ls 2 [(0, .ref ((xa X 0))), (1, .int (iI (((k : Nat) : Int))))] := hl
  have hin : ∀ w ∈ u_ws RX0 TX0 6, w ∈ wsX0_pegInRing := by decide +kernel
  refine lv_iload_n hx hb dX0_pegInRing_0 rfl (lv_at hl 1 rfl) ?_
  refine pg_if_lt (tgt := 19) hx hb dX0_pegInRing_1 (by decide) (⟨by omega, by omega⟩) (fun hc1 => absurd hc1 (by omega)) (fun hc1 => ?_)
  refine lv_iload_n hx hb dX0_pegInRing_4 rfl (lv_at hl 1 rfl) ?_
  refine lv_bipush (v := iI 12) hx hb dX0_pegInRing_5 (by decide +kernel) ?_
  refine pg_icmp_ge (tgt := 19) hx hb dX0_pegInRing_7 (by decide) (⟨by omega, by omega⟩) (⟨by omega, by omega⟩) (fun hc2 => absurd hc2 (by omega)) (fun hc2 => ?_)
  refine lv_aload_n hx hb dX0_pegInRing_10 rfl (lv_at hl 0 rfl) ?_
  refine va_get (D := xG X) (ci := 0) (v := .ref ((xa X 4))) (C := RX0) (T := TX0) (N := 6) hx hb hts hin hown hK hP 0 rfl rfl 3 (by decide) (hts (.fieldLink RX0 20 "Pegfield" "ring" "[I") (by decide +kernel)) (fun _ h9 => h9) rfl dX0_pegInRing_11 ?_
  refine lv_iload_n hx hb dX0_pegInRing_14 rfl (lv_at hl 1 rfl) ?_
  refine pg_iald hx hb hK hP 4 1 (f := (sR S)) rfl rfl k (rfl) (by omega) (by decide) dX0_pegInRing_15 ?_
  refine lv_goto (tgt := 20) hx hb dX0_pegInRing_16 (by decide) ?_
  exact pg_iret hx hb hr hlk  (congrArg (fun z : Int => some (Value.int (iI z))) (show ((sR S k : Nat) : Int) = (((sR S) k : Nat) : Int) by rfl)) dX0_pegInRing_20
set_option maxRecDepth 100000 in
set_option maxHeartbeats 4000000 in
theorem c_X0_placeAfter (l : Launch) (X : pgX) (S : pgS) (k : Nat) (hk : k < 12) (hn : sN S ≤ 12) : pg_ro l yX0_placeAfter wsX0_placeAfter (rm 0 0) (xB X S) [.ref ((xa X 0)), .int (iI (((k : Nat) : Int)))] (some (.int (iI (((nx S k : Nat) : Int))))) := by
  refine pg_ro_of (cc := cX0_placeAfter) (maxL := 2) (ret := (some .int)) (by decide) rfl (Nat.le_of_ble_eq_true rfl) ?_
  intro p e s m below meth c ls SC hr hlk hB hl
  obtain ⟨hx, hb, hml, hown, hts⟩ := id SC
  have hown : s.vm.findClass RX0 = some m.cls := hown
  obtain ⟨hP, hK⟩ := id hB
  have hl : lv_has ls 2 [(0, .ref ((xa X 0))), (1, .int (iI (((k : Nat) : Int))))] := hl
  have hin : ∀ w ∈ u_ws RX0 TX0 6, w ∈ wsX0_placeAfter := by decide +kernel
  refine lv_iload_n hx hb dX0_placeAfter_0 rfl (lv_at hl 1 rfl) ?_
  refine lv_iconst (v := iI 1) hx hb dX0_placeAfter_1 rfl ?_
  refine pg_iadd (z := ((k + 1 : Nat) : Int)) hx hb dX0_placeAfter_2 (by omega) ?_
  refine lv_aload_n hx hb dX0_placeAfter_3 rfl (lv_at hl 0 rfl) ?_
  refine va_get (D := xG X) (ci := 0) (v := .int (iI (((sN S : Nat) : Int)))) (C := RX0) (T := TX0) (N := 6) hx hb hts hin hown hK hP 0 rfl rfl 4 (by decide) (hts (.fieldLink RX0 23 "Pegfield" "ringSize" "I") (by decide +kernel)) (fun _ h9 => h9) rfl dX0_placeAfter_4 ?_
  refine pg_icmp_ge (tgt := 16) hx hb dX0_placeAfter_7 (by decide) (⟨by omega, by omega⟩) (⟨by omega, by omega⟩) (fun hc1 => ?_) (fun hc1 => ?_)
  · refine lv_iconst (v := iI 0) hx hb dX0_placeAfter_16 rfl ?_
    exact pg_iret hx hb hr hlk  (congrArg (fun z : Int => some (Value.int (iI z))) (show ((nx S k : Nat) : Int) = 0 by unfold nx; split <;> omega)) dX0_placeAfter_17
  · refine lv_iload_n hx hb dX0_placeAfter_10 rfl (lv_at hl 1 rfl) ?_
    refine lv_iconst (v := iI 1) hx hb dX0_placeAfter_11 rfl ?_
    refine pg_iadd (z := ((k + 1 : Nat) : Int)) hx hb dX0_placeAfter_12 (by omega) ?_
    refine lv_goto (tgt := 17) hx hb dX0_placeAfter_13 (by decide) ?_
    exact pg_iret hx hb hr hlk  (congrArg (fun z : Int => some (Value.int (iI z))) (show ((nx S k : Nat) : Int) = ((k + 1 : Nat) : Int) by unfold nx; split <;> omega)) dX0_placeAfter_17
set_option maxRecDepth 100000 in
set_option maxHeartbeats 4000000 in
theorem c_X0_stretchGrains (l : Launch) (X : pgX) (S : pgS) (hok : pgOk S) (a b : Nat) (ha : a < 12) (hb2 : b < 12)  : pg_ro l yX0_stretchGrains wsX0_stretchGrains (rm 2 48) (xB X S) [.ref ((xa X 0)), .int (iI (((a : Nat) : Int))), .int (iI (((b : Nat) : Int)))] (some (.int (iI (((gN S a b : Nat) : Int))))) := by
  refine pg_ro_of (cc := cX0_stretchGrains) (maxL := 3) (ret := (some .int)) (by decide) rfl (Nat.le_of_ble_eq_true rfl) ?_
  intro p e s m below meth c ls SC hr hlk hB hl
  obtain ⟨hx, hb, hml, hown, hts⟩ := id SC
  have hown : s.vm.findClass RX0 = some m.cls := hown
  obtain ⟨hP, hK⟩ := id hB
  have hl : lv_has ls 3 [(0, .ref ((xa X 0))), (1, .int (iI (((a : Nat) : Int)))), (2, .int (iI (((b : Nat) : Int))))] := hl
  have hin : ∀ w ∈ u_ws RX0 TX0 6, w ∈ wsX0_stretchGrains := by decide +kernel
  have hW : sW S ≤ 1 := hok.2.2.2.2.2
  obtain ⟨M, hMe⟩ : ∃ M, M = sq S a b := ⟨_, rfl⟩
  have hM : M < 2 ^ 20 := by have h9 := (sqw_spec hok hW a b).2; have h8 : M = sqw S (sW S) a b := hMe; omega
  refine lv_aload_n hx hb dX0_stretchGrains_0 rfl (lv_at hl 0 rfl) ?_
  refine lv_iload_n hx hb dX0_stretchGrains_1 rfl (lv_at hl 2 rfl) ?_
  refine pg_callV (As := [.int (iI (((b : Nat) : Int)))]) (rest := []) SC (c_X0_across l X S b hb2) xB_st (xB_h hP hK) (cwV 1 hts gX0_stretchGrains_X0_across rfl rfl rfl (by decide +kernel) ⟨Nat.le_of_ble_eq_true rfl, Nat.le_of_ble_eq_true rfl⟩) (va_recv hK hP (ci := 0) (q0 := 0) rfl rfl) rfl hl.1 rfl (Nat.le_of_ble_eq_true rfl) dX0_stretchGrains_2 ⟨Nat.zero_le _, Nat.zero_le _⟩ ?_
  refine lv_aload_n hx hb dX0_stretchGrains_5 rfl (lv_at hl 0 rfl) ?_
  refine lv_iload_n hx hb dX0_stretchGrains_6 rfl (lv_at hl 1 rfl) ?_
  refine pg_callV (As := [.int (iI (((a : Nat) : Int)))]) (rest := [.int (iI (((sA S b : Nat) : Int)))]) SC (c_X0_across l X S a ha) xB_st (xB_h hP hK) (cwV 1 hts gX0_stretchGrains_X0_across rfl rfl rfl (by decide +kernel) ⟨Nat.le_of_ble_eq_true rfl, Nat.le_of_ble_eq_true rfl⟩) (va_recv hK hP (ci := 0) (q0 := 0) rfl rfl) rfl hl.1 rfl (Nat.le_of_ble_eq_true rfl) dX0_stretchGrains_7 ⟨Nat.zero_le _, Nat.zero_le _⟩ ?_
  refine pg_isub (z := dA S a b) hx hb dX0_stretchGrains_10 (rfl) ?_
  refine lv_aload_n hx hb dX0_stretchGrains_11 rfl (lv_at hl 0 rfl) ?_
  refine lv_iload_n hx hb dX0_stretchGrains_12 rfl (lv_at hl 2 rfl) ?_
  refine pg_callV (As := [.int (iI (((b : Nat) : Int)))]) (rest := [.int (iI (dA S a b))]) SC (c_X0_up l X S b hb2) xB_st (xB_h hP hK) (cwV 1 hts gX0_stretchGrains_X0_up rfl rfl rfl (by decide +kernel) ⟨Nat.le_of_ble_eq_true rfl, Nat.le_of_ble_eq_true rfl⟩) (va_recv hK hP (ci := 0) (q0 := 0) rfl rfl) rfl hl.1 rfl (Nat.le_of_ble_eq_true rfl) dX0_stretchGrains_13 ⟨Nat.zero_le _, Nat.zero_le _⟩ ?_
  refine lv_aload_n hx hb dX0_stretchGrains_16 rfl (lv_at hl 0 rfl) ?_
  refine lv_iload_n hx hb dX0_stretchGrains_17 rfl (lv_at hl 1 rfl) ?_
  refine pg_callV (As := [.int (iI (((a : Nat) : Int)))]) (rest := [.int (iI (((sU S b : Nat) : Int))), .int (iI (dA S a b))]) SC (c_X0_up l X S a ha) xB_st (xB_h hP hK) (cwV 1 hts gX0_stretchGrains_X0_up rfl rfl rfl (by decide +kernel) ⟨Nat.le_of_ble_eq_true rfl, Nat.le_of_ble_eq_true rfl⟩) (va_recv hK hP (ci := 0) (q0 := 0) rfl rfl) rfl hl.1 rfl (Nat.le_of_ble_eq_true rfl) dX0_stretchGrains_18 ⟨Nat.zero_le _, Nat.zero_le _⟩ ?_
  refine pg_isub (z := dU S a b) hx hb dX0_stretchGrains_21 (rfl) ?_
  refine lv_aload_n hx hb dX0_stretchGrains_22 rfl (lv_at hl 0 rfl) ?_
  refine va_get (D := xG X) (ci := 0) (v := .int (iI (((sW S : Nat) : Int)))) (C := RX0) (T := TX0) (N := 6) hx hb hts hin hown hK hP 0 rfl rfl 5 (by decide) (hts (.fieldLink RX0 27 "Pegfield" "wide" "Z") (by decide +kernel)) (fun _ h9 => h9) rfl dX0_stretchGrains_23 ?_
  refine pg_callS (As := [.int (iI (dA S a b)), .int (iI (dU S a b)), .int (iI (((sW S : Nat) : Int)))]) (rest := []) SC (c_X0_squareSum l (dA S a b) (dU S a b) (sW S) M ⟨by omega, by omega⟩ (sq_any hok hW a b hMe rfl)) pT_st pT_h (va_cwS 3 hts gX0_stretchGrains_X0_squareSum rfl rfl rfl (by decide +kernel) ⟨Nat.le_of_ble_eq_true rfl, Nat.le_of_ble_eq_true rfl⟩) rfl hl.1 rfl (Nat.le_of_ble_eq_true rfl) dX0_stretchGrains_26 ⟨Nat.zero_le _, Nat.zero_le _⟩ ?_
  refine pg_callS (As := [.int (iI (((M : Nat) : Int)))]) (rest := []) SC (c_X0_grainsOfRoot l M hM) pT_st pT_h (va_cwS 1 hts gX0_stretchGrains_X0_grainsOfRoot rfl rfl rfl (by decide +kernel) ⟨Nat.le_of_ble_eq_true rfl, Nat.le_of_ble_eq_true rfl⟩) rfl hl.1 rfl (Nat.le_of_ble_eq_true rfl) dX0_stretchGrains_29 ⟨Nat.zero_le _, Nat.zero_le _⟩ ?_
  exact pg_iret hx hb hr hlk  (congrArg (fun z : Int => some (Value.int (iI z))) (show ((gN S a b : Nat) : Int) = ((gr M : Nat) : Int) by rw [hMe]; rfl)) dX0_stretchGrains_32
set_option maxRecDepth 100000 in
set_option maxHeartbeats 4000000 in
theorem c_X0_isSteady_ok (l : Launch) (X : pgX) (S : pgS) (hok : pgOk S) (a b : Nat) (ha : a < 12) (hb2 : b < 12) (sa : sS S a = 1) (sb : sS S b = 1) : pg_ro l yX0_isSteady wsX0_isSteady (rm 4 84) (xB X S) [.ref ((xa X 0)), .int (iI (((a : Nat) : Int))), .int (iI (((b : Nat) : Int)))] (some (.int (iI 1))) := by
  refine pg_ro_of (cc := cX0_isSteady) (maxL := 10) (ret := (some .boolean)) (by decide) rfl (Nat.le_of_ble_eq_true rfl) ?_
  intro p e s m below meth c ls SC hr hlk hB hl
  obtain ⟨hx, hb, hml, hown, hts⟩ := id SC
  have hown : s.vm.findClass RX0 = some m.cls := hown
  obtain ⟨hP, hK⟩ := id hB
  have hl : lv_has ls 10 [(0, .ref ((xa X 0))), (1, .int (iI (((a : Nat) : Int)))), (2, .int (iI (((b : Nat) : Int))))] := hl
  have hin : ∀ w ∈ u_ws RX0 TX0 6, w ∈ wsX0_isSteady := by decide +kernel
  have hW : sW S ≤ 1 := hok.2.2.2.2.2
  obtain ⟨M, hMe⟩ : ∃ M, M = sq S a b := ⟨_, rfl⟩
  have hM : M < 2 ^ 20 := by have h9 := (sqw_spec hok hW a b).2; have h8 : M = sqw S (sW S) a b := hMe; omega
  have hbx := bx_lt hM
  refine lv_aload_n hx hb dX0_isSteady_0 rfl (lv_at hl 0 rfl) ?_
  refine lv_iload_n hx hb dX0_isSteady_1 rfl (lv_at hl 1 rfl) ?_
  refine lv_iload_n hx hb dX0_isSteady_2 rfl (lv_at hl 2 rfl) ?_
  refine pg_callVv (As := [.int (iI (((a : Nat) : Int))), .int (iI (((b : Nat) : Int)))]) (rest := []) SC (c_X0_requireTwo_ok l X S a b ha hb2 sa sb) xB_st (xB_h hP hK) (cwV 2 hts gX0_isSteady_X0_requireTwo rfl rfl rfl (by decide +kernel) ⟨Nat.le_of_ble_eq_true rfl, Nat.le_of_ble_eq_true rfl⟩) (va_recv hK hP (ci := 0) (q0 := 0) rfl rfl) rfl hl.1 rfl (Nat.le_of_ble_eq_true rfl) dX0_isSteady_3 ⟨Nat.zero_le _, Nat.zero_le _⟩ ?_
  refine lv_aload_n hx hb dX0_isSteady_6 rfl (lv_at hl 0 rfl) ?_
  refine lv_iload_n hx hb dX0_isSteady_7 rfl (lv_at hl 2 rfl) ?_
  refine pg_callV (As := [.int (iI (((b : Nat) : Int)))]) (rest := []) SC (c_X0_across l X S b hb2) xB_st (xB_h hP hK) (cwV 1 hts gX0_isSteady_X0_across rfl rfl rfl (by decide +kernel) ⟨Nat.le_of_ble_eq_true rfl, Nat.le_of_ble_eq_true rfl⟩) (va_recv hK hP (ci := 0) (q0 := 0) rfl rfl) rfl hl.1 rfl (Nat.le_of_ble_eq_true rfl) dX0_isSteady_8 ⟨Nat.zero_le _, Nat.zero_le _⟩ ?_
  refine lv_aload_n hx hb dX0_isSteady_11 rfl (lv_at hl 0 rfl) ?_
  refine lv_iload_n hx hb dX0_isSteady_12 rfl (lv_at hl 1 rfl) ?_
  refine pg_callV (As := [.int (iI (((a : Nat) : Int)))]) (rest := [.int (iI (((sA S b : Nat) : Int)))]) SC (c_X0_across l X S a ha) xB_st (xB_h hP hK) (cwV 1 hts gX0_isSteady_X0_across rfl rfl rfl (by decide +kernel) ⟨Nat.le_of_ble_eq_true rfl, Nat.le_of_ble_eq_true rfl⟩) (va_recv hK hP (ci := 0) (q0 := 0) rfl rfl) rfl hl.1 rfl (Nat.le_of_ble_eq_true rfl) dX0_isSteady_13 ⟨Nat.zero_le _, Nat.zero_le _⟩ ?_
  refine pg_isub (z := dA S a b) hx hb dX0_isSteady_16 (rfl) ?_
  refine lv_istore_n (lv' := [(3, .int (iI (dA S a b))), (0, .ref ((xa X 0))), (1, .int (iI (((a : Nat) : Int)))), (2, .int (iI (((b : Nat) : Int))))]) hx hb dX0_isSteady_17 rfl hl (by decide) rfl (fun ls hl => ?_)
  refine lv_aload_n hx hb dX0_isSteady_18 rfl (lv_at hl 1 rfl) ?_
  refine lv_iload_n hx hb dX0_isSteady_19 rfl (lv_at hl 3 rfl) ?_
  refine pg_callV (As := [.int (iI (((b : Nat) : Int)))]) (rest := []) SC (c_X0_up l X S b hb2) xB_st (xB_h hP hK) (cwV 1 hts gX0_isSteady_X0_up rfl rfl rfl (by decide +kernel) ⟨Nat.le_of_ble_eq_true rfl, Nat.le_of_ble_eq_true rfl⟩) (va_recv hK hP (ci := 0) (q0 := 0) rfl rfl) rfl hl.1 rfl (Nat.le_of_ble_eq_true rfl) dX0_isSteady_20 ⟨Nat.zero_le _, Nat.zero_le _⟩ ?_
  refine lv_aload_n hx hb dX0_isSteady_23 rfl (lv_at hl 1 rfl) ?_
  refine lv_iload_n hx hb dX0_isSteady_24 rfl (lv_at hl 2 rfl) ?_
  refine pg_callV (As := [.int (iI (((a : Nat) : Int)))]) (rest := [.int (iI (((sU S b : Nat) : Int)))]) SC (c_X0_up l X S a ha) xB_st (xB_h hP hK) (cwV 1 hts gX0_isSteady_X0_up rfl rfl rfl (by decide +kernel) ⟨Nat.le_of_ble_eq_true rfl, Nat.le_of_ble_eq_true rfl⟩) (va_recv hK hP (ci := 0) (q0 := 0) rfl rfl) rfl hl.1 rfl (Nat.le_of_ble_eq_true rfl) dX0_isSteady_25 ⟨Nat.zero_le _, Nat.zero_le _⟩ ?_
  refine pg_isub (z := dU S a b) hx hb dX0_isSteady_28 (rfl) ?_
  refine lv_istore (lv' := [(4, .int (iI (dU S a b))), (3, .int (iI (dA S a b))), (0, .ref ((xa X 0))), (1, .int (iI (((a : Nat) : Int)))), (2, .int (iI (((b : Nat) : Int))))]) hx hb dX0_isSteady_29 hl (by decide) rfl (fun ls hl => ?_)
  refine lv_iload_n hx hb dX0_isSteady_31 rfl (lv_at hl 1 rfl) ?_
  refine lv_iload hx hb dX0_isSteady_32 (lv_at hl 0 rfl) ?_
  refine lv_aload_n hx hb dX0_isSteady_34 rfl (lv_at hl 2 rfl) ?_
  refine va_get (D := xG X) (ci := 0) (v := .int (iI (((sW S : Nat) : Int)))) (C := RX0) (T := TX0) (N := 6) hx hb hts hin hown hK hP 0 rfl rfl 5 (by decide) (hts (.fieldLink RX0 27 "Pegfield" "wide" "Z") (by decide +kernel)) (fun _ h9 => h9) rfl dX0_isSteady_35 ?_
  refine pg_callS (As := [.int (iI (dA S a b)), .int (iI (dU S a b)), .int (iI (((sW S : Nat) : Int)))]) (rest := []) SC (c_X0_hypotenuseBits l (dA S a b) (dU S a b) (sW S) M hM ⟨by omega, by omega⟩ (sq_any hok hW a b hMe (by first | rfl | exact Int.add_comm _ _ | (simp only [Int.neg_mul_neg]; done) | (simp only [Int.neg_mul_neg]; exact Int.add_comm _ _)))) pT_st pT_h (va_cwS 3 hts gX0_isSteady_X0_hypotenuseBits rfl rfl rfl (by decide +kernel) ⟨Nat.le_of_ble_eq_true rfl, Nat.le_of_ble_eq_true rfl⟩) rfl hl.1 rfl (Nat.le_of_ble_eq_true rfl) dX0_isSteady_38 ⟨Nat.zero_le _, Nat.zero_le _⟩ ?_
  refine lv_lstore (lv' := [(5, .long (lI (((bx M : Nat) : Int)))), (4, .int (iI (dU S a b))), (3, .int (iI (dA S a b))), (0, .ref ((xa X 0))), (1, .int (iI (((a : Nat) : Int)))), (2, .int (iI (((b : Nat) : Int))))]) hx hb dX0_isSteady_41 hl (by decide) rfl (fun ls hl => ?_)
  refine lv_iconst (v := iI 0) hx hb dX0_isSteady_43 rfl ?_
  refine lv_istore (lv' := [(7, .int (iI 0)), (5, .long (lI (((bx M : Nat) : Int)))), (4, .int (iI (dU S a b))), (3, .int (iI (dA S a b))), (0, .ref ((xa X 0))), (1, .int (iI (((a : Nat) : Int)))), (2, .int (iI (((b : Nat) : Int))))]) hx hb dX0_isSteady_44 hl (by decide) rfl (fun ls hl => ?_)
  refine lv_iload hx hb dX0_isSteady_46 (lv_at hl 0 rfl) ?_
  refine lv_iconst (v := iI 4) hx hb dX0_isSteady_48 rfl ?_
  refine pg_icmp_ge (tgt := 126) hx hb dX0_isSteady_49 (by decide) (⟨by omega, by omega⟩) (⟨by omega, by omega⟩) (fun hc1 => absurd hc1 (by omega)) (fun hc1 => ?_)
  refine lv_iload hx hb dX0_isSteady_52 (lv_at hl 0 rfl) ?_
  refine lv_iconst (v := iI 1) hx hb dX0_isSteady_54 rfl ?_
  refine pg_iand (z := 0) (a := 0) (b := 1) hx hb dX0_isSteady_55 (by decide) (by decide) (by decide) (by decide) (by decide) ?_
  refine pg_if_ne (tgt := 63) hx hb dX0_isSteady_56 (by decide) (⟨by omega, by omega⟩) (fun hc2 => absurd hc2 (by omega)) (fun hc2 => ?_)
  refine lv_iload_n hx hb dX0_isSteady_59 rfl (lv_at hl 3 rfl) ?_
  refine lv_goto (tgt := 65) hx hb dX0_isSteady_60 (by decide) ?_
  refine lv_istore (lv' := [(8, .int (iI (dA S a b))), (7, .int (iI 0)), (5, .long (lI (((bx M : Nat) : Int)))), (4, .int (iI (dU S a b))), (3, .int (iI (dA S a b))), (0, .ref ((xa X 0))), (1, .int (iI (((a : Nat) : Int)))), (2, .int (iI (((b : Nat) : Int))))]) hx hb dX0_isSteady_65 hl (by decide) rfl (fun ls hl => ?_)
  refine lv_iload hx hb dX0_isSteady_67 (lv_at hl 1 rfl) ?_
  refine lv_iconst (v := iI 2) hx hb dX0_isSteady_69 rfl ?_
  refine pg_iand (z := 0) (a := 0) (b := 2) hx hb dX0_isSteady_70 (by decide) (by decide) (by decide) (by decide) (by decide) ?_
  refine pg_if_ne (tgt := 79) hx hb dX0_isSteady_71 (by decide) (⟨by omega, by omega⟩) (fun hc3 => absurd hc3 (by omega)) (fun hc3 => ?_)
  refine lv_iload hx hb dX0_isSteady_74 (lv_at hl 3 rfl) ?_
  refine lv_goto (tgt := 82) hx hb dX0_isSteady_76 (by decide) ?_
  refine lv_istore (lv' := [(9, .int (iI (dU S a b))), (8, .int (iI (dA S a b))), (7, .int (iI 0)), (5, .long (lI (((bx M : Nat) : Int)))), (4, .int (iI (dU S a b))), (3, .int (iI (dA S a b))), (0, .ref ((xa X 0))), (1, .int (iI (((a : Nat) : Int)))), (2, .int (iI (((b : Nat) : Int))))]) hx hb dX0_isSteady_82 hl (by decide) rfl (fun ls hl => ?_)
  refine lv_iload hx hb dX0_isSteady_84 (lv_at hl 1 rfl) ?_
  refine lv_iload hx hb dX0_isSteady_86 (lv_at hl 0 rfl) ?_
  refine lv_aload_n hx hb dX0_isSteady_88 rfl (lv_at hl 6 rfl) ?_
  refine va_get (D := xG X) (ci := 0) (v := .int (iI (((sW S : Nat) : Int)))) (C := RX0) (T := TX0) (N := 6) hx hb hts hin hown hK hP 0 rfl rfl 5 (by decide) (hts (.fieldLink RX0 27 "Pegfield" "wide" "Z") (by decide +kernel)) (fun _ h9 => h9) rfl dX0_isSteady_89 ?_
  refine pg_callS (As := [.int (iI (dA S a b)), .int (iI (dU S a b)), .int (iI (((sW S : Nat) : Int)))]) (rest := []) SC (c_X0_hypotenuseBits l (dA S a b) (dU S a b) (sW S) M hM ⟨by omega, by omega⟩ (sq_any hok hW a b hMe (by first | rfl | exact Int.add_comm _ _ | (simp only [Int.neg_mul_neg]; done) | (simp only [Int.neg_mul_neg]; exact Int.add_comm _ _)))) pT_st pT_h (va_cwS 3 hts gX0_isSteady_X0_hypotenuseBits rfl rfl rfl (by decide +kernel) ⟨Nat.le_of_ble_eq_true rfl, Nat.le_of_ble_eq_true rfl⟩) rfl hl.1 rfl (Nat.le_of_ble_eq_true rfl) dX0_isSteady_92 ⟨Nat.zero_le _, Nat.zero_le _⟩ ?_
  refine lv_lload hx hb dX0_isSteady_95 (lv_at hl 3 rfl) ?_
  refine pg_lcmp hx hb dX0_isSteady_97 (⟨by omega, by omega⟩) (⟨by omega, by omega⟩) (fun z4 hz4 => ?_)
  refine pg_if_ne (tgt := 118) hx hb dX0_isSteady_98 (by decide) (⟨by omega, by omega⟩) (fun hc5 => absurd hc5 (by omega)) (fun hc5 => ?_)
  refine lv_iload hx hb dX0_isSteady_101 (lv_at hl 0 rfl) ?_
  refine lv_iload hx hb dX0_isSteady_103 (lv_at hl 1 rfl) ?_
  refine lv_aload_n hx hb dX0_isSteady_105 rfl (lv_at hl 6 rfl) ?_
  refine va_get (D := xG X) (ci := 0) (v := .int (iI (((sW S : Nat) : Int)))) (C := RX0) (T := TX0) (N := 6) hx hb hts hin hown hK hP 0 rfl rfl 5 (by decide) (hts (.fieldLink RX0 27 "Pegfield" "wide" "Z") (by decide +kernel)) (fun _ h9 => h9) rfl dX0_isSteady_106 ?_
  refine pg_callS (As := [.int (iI (dU S a b)), .int (iI (dA S a b)), .int (iI (((sW S : Nat) : Int)))]) (rest := []) SC (c_X0_hypotenuseBits l (dU S a b) (dA S a b) (sW S) M hM ⟨by omega, by omega⟩ (sq_any hok hW a b hMe (by first | rfl | exact Int.add_comm _ _ | (simp only [Int.neg_mul_neg]; done) | (simp only [Int.neg_mul_neg]; exact Int.add_comm _ _)))) pT_st pT_h (va_cwS 3 hts gX0_isSteady_X0_hypotenuseBits rfl rfl rfl (by decide +kernel) ⟨Nat.le_of_ble_eq_true rfl, Nat.le_of_ble_eq_true rfl⟩) rfl hl.1 rfl (Nat.le_of_ble_eq_true rfl) dX0_isSteady_109 ⟨Nat.zero_le _, Nat.zero_le _⟩ ?_
  refine lv_lload hx hb dX0_isSteady_112 (lv_at hl 3 rfl) ?_
  refine pg_lcmp hx hb dX0_isSteady_114 (⟨by omega, by omega⟩) (⟨by omega, by omega⟩) (fun z6 hz6 => ?_)
  refine pg_if_eq (tgt := 120) hx hb dX0_isSteady_115 (by decide) (⟨by omega, by omega⟩) (fun hc7 => ?_) (fun hc7 => absurd hc7 (by omega))
  refine lv_iinc (v := iI 1) (lv' := [(7, .int (iI 1)), (9, .int (iI (dU S a b))), (8, .int (iI (dA S a b))), (5, .long (lI (((bx M : Nat) : Int)))), (4, .int (iI (dU S a b))), (3, .int (iI (dA S a b))), (0, .ref ((xa X 0))), (1, .int (iI (((a : Nat) : Int)))), (2, .int (iI (((b : Nat) : Int))))]) hx hb dX0_isSteady_120 hl (k := 2) rfl (iI_addp (by omega)) (by decide) rfl (fun ls hl => ?_)
  refine lv_goto (tgt := 46) hx hb dX0_isSteady_123 (by decide) ?_
  refine lv_iload hx hb dX0_isSteady_46 (lv_at hl 0 rfl) ?_
  refine lv_iconst (v := iI 4) hx hb dX0_isSteady_48 rfl ?_
  refine pg_icmp_ge (tgt := 126) hx hb dX0_isSteady_49 (by decide) (⟨by omega, by omega⟩) (⟨by omega, by omega⟩) (fun hc8 => absurd hc8 (by omega)) (fun hc8 => ?_)
  refine lv_iload hx hb dX0_isSteady_52 (lv_at hl 0 rfl) ?_
  refine lv_iconst (v := iI 1) hx hb dX0_isSteady_54 rfl ?_
  refine pg_iand (z := 1) (a := 1) (b := 1) hx hb dX0_isSteady_55 (by decide) (by decide) (by decide) (by decide) (by decide) ?_
  refine pg_if_ne (tgt := 63) hx hb dX0_isSteady_56 (by decide) (⟨by omega, by omega⟩) (fun hc9 => ?_) (fun hc9 => absurd hc9 (by omega))
  refine lv_iload_n hx hb dX0_isSteady_63 rfl (lv_at hl 5 rfl) ?_
  refine pg_ineg (z := -(dA S a b)) hx hb dX0_isSteady_64 (rfl) ?_
  refine lv_istore (lv' := [(8, .int (iI (-(dA S a b)))), (7, .int (iI 1)), (9, .int (iI (dU S a b))), (5, .long (lI (((bx M : Nat) : Int)))), (4, .int (iI (dU S a b))), (3, .int (iI (dA S a b))), (0, .ref ((xa X 0))), (1, .int (iI (((a : Nat) : Int)))), (2, .int (iI (((b : Nat) : Int))))]) hx hb dX0_isSteady_65 hl (by decide) rfl (fun ls hl => ?_)
  refine lv_iload hx hb dX0_isSteady_67 (lv_at hl 1 rfl) ?_
  refine lv_iconst (v := iI 2) hx hb dX0_isSteady_69 rfl ?_
  refine pg_iand (z := 0) (a := 1) (b := 2) hx hb dX0_isSteady_70 (by decide) (by decide) (by decide) (by decide) (by decide) ?_
  refine pg_if_ne (tgt := 79) hx hb dX0_isSteady_71 (by decide) (⟨by omega, by omega⟩) (fun hc10 => absurd hc10 (by omega)) (fun hc10 => ?_)
  refine lv_iload hx hb dX0_isSteady_74 (lv_at hl 4 rfl) ?_
  refine lv_goto (tgt := 82) hx hb dX0_isSteady_76 (by decide) ?_
  refine lv_istore (lv' := [(9, .int (iI (dU S a b))), (8, .int (iI (-(dA S a b)))), (7, .int (iI 1)), (5, .long (lI (((bx M : Nat) : Int)))), (4, .int (iI (dU S a b))), (3, .int (iI (dA S a b))), (0, .ref ((xa X 0))), (1, .int (iI (((a : Nat) : Int)))), (2, .int (iI (((b : Nat) : Int))))]) hx hb dX0_isSteady_82 hl (by decide) rfl (fun ls hl => ?_)
  refine lv_iload hx hb dX0_isSteady_84 (lv_at hl 1 rfl) ?_
  refine lv_iload hx hb dX0_isSteady_86 (lv_at hl 0 rfl) ?_
  refine lv_aload_n hx hb dX0_isSteady_88 rfl (lv_at hl 6 rfl) ?_
  refine va_get (D := xG X) (ci := 0) (v := .int (iI (((sW S : Nat) : Int)))) (C := RX0) (T := TX0) (N := 6) hx hb hts hin hown hK hP 0 rfl rfl 5 (by decide) (hts (.fieldLink RX0 27 "Pegfield" "wide" "Z") (by decide +kernel)) (fun _ h9 => h9) rfl dX0_isSteady_89 ?_
  refine pg_callS (As := [.int (iI (-(dA S a b))), .int (iI (dU S a b)), .int (iI (((sW S : Nat) : Int)))]) (rest := []) SC (c_X0_hypotenuseBits l (-(dA S a b)) (dU S a b) (sW S) M hM ⟨by omega, by omega⟩ (sq_any hok hW a b hMe (by first | rfl | exact Int.add_comm _ _ | (simp only [Int.neg_mul_neg]; done) | (simp only [Int.neg_mul_neg]; exact Int.add_comm _ _)))) pT_st pT_h (va_cwS 3 hts gX0_isSteady_X0_hypotenuseBits rfl rfl rfl (by decide +kernel) ⟨Nat.le_of_ble_eq_true rfl, Nat.le_of_ble_eq_true rfl⟩) rfl hl.1 rfl (Nat.le_of_ble_eq_true rfl) dX0_isSteady_92 ⟨Nat.zero_le _, Nat.zero_le _⟩ ?_
  refine lv_lload hx hb dX0_isSteady_95 (lv_at hl 3 rfl) ?_
  refine pg_lcmp hx hb dX0_isSteady_97 (⟨by omega, by omega⟩) (⟨by omega, by omega⟩) (fun z11 hz11 => ?_)
  refine pg_if_ne (tgt := 118) hx hb dX0_isSteady_98 (by decide) (⟨by omega, by omega⟩) (fun hc12 => absurd hc12 (by omega)) (fun hc12 => ?_)
  refine lv_iload hx hb dX0_isSteady_101 (lv_at hl 0 rfl) ?_
  refine lv_iload hx hb dX0_isSteady_103 (lv_at hl 1 rfl) ?_
  refine lv_aload_n hx hb dX0_isSteady_105 rfl (lv_at hl 6 rfl) ?_
  refine va_get (D := xG X) (ci := 0) (v := .int (iI (((sW S : Nat) : Int)))) (C := RX0) (T := TX0) (N := 6) hx hb hts hin hown hK hP 0 rfl rfl 5 (by decide) (hts (.fieldLink RX0 27 "Pegfield" "wide" "Z") (by decide +kernel)) (fun _ h9 => h9) rfl dX0_isSteady_106 ?_
  refine pg_callS (As := [.int (iI (dU S a b)), .int (iI (-(dA S a b))), .int (iI (((sW S : Nat) : Int)))]) (rest := []) SC (c_X0_hypotenuseBits l (dU S a b) (-(dA S a b)) (sW S) M hM ⟨by omega, by omega⟩ (sq_any hok hW a b hMe (by first | rfl | exact Int.add_comm _ _ | (simp only [Int.neg_mul_neg]; done) | (simp only [Int.neg_mul_neg]; exact Int.add_comm _ _)))) pT_st pT_h (va_cwS 3 hts gX0_isSteady_X0_hypotenuseBits rfl rfl rfl (by decide +kernel) ⟨Nat.le_of_ble_eq_true rfl, Nat.le_of_ble_eq_true rfl⟩) rfl hl.1 rfl (Nat.le_of_ble_eq_true rfl) dX0_isSteady_109 ⟨Nat.zero_le _, Nat.zero_le _⟩ ?_
  refine lv_lload hx hb dX0_isSteady_112 (lv_at hl 3 rfl) ?_
  refine pg_lcmp hx hb dX0_isSteady_114 (⟨by omega, by omega⟩) (⟨by omega, by omega⟩) (fun z13 hz13 => ?_)
  refine pg_if_eq (tgt := 120) hx hb dX0_isSteady_115 (by decide) (⟨by omega, by omega⟩) (fun hc14 => ?_) (fun hc14 => absurd hc14 (by omega))
  refine lv_iinc (v := iI 2) (lv' := [(7, .int (iI 2)), (9, .int (iI (dU S a b))), (8, .int (iI (-(dA S a b)))), (5, .long (lI (((bx M : Nat) : Int)))), (4, .int (iI (dU S a b))), (3, .int (iI (dA S a b))), (0, .ref ((xa X 0))), (1, .int (iI (((a : Nat) : Int)))), (2, .int (iI (((b : Nat) : Int))))]) hx hb dX0_isSteady_120 hl (k := 2) rfl (iI_addp (by omega)) (by decide) rfl (fun ls hl => ?_)
  refine lv_goto (tgt := 46) hx hb dX0_isSteady_123 (by decide) ?_
  refine lv_iload hx hb dX0_isSteady_46 (lv_at hl 0 rfl) ?_
  refine lv_iconst (v := iI 4) hx hb dX0_isSteady_48 rfl ?_
  refine pg_icmp_ge (tgt := 126) hx hb dX0_isSteady_49 (by decide) (⟨by omega, by omega⟩) (⟨by omega, by omega⟩) (fun hc15 => absurd hc15 (by omega)) (fun hc15 => ?_)
  refine lv_iload hx hb dX0_isSteady_52 (lv_at hl 0 rfl) ?_
  refine lv_iconst (v := iI 1) hx hb dX0_isSteady_54 rfl ?_
  refine pg_iand (z := 0) (a := 2) (b := 1) hx hb dX0_isSteady_55 (by decide) (by decide) (by decide) (by decide) (by decide) ?_
  refine pg_if_ne (tgt := 63) hx hb dX0_isSteady_56 (by decide) (⟨by omega, by omega⟩) (fun hc16 => absurd hc16 (by omega)) (fun hc16 => ?_)
  refine lv_iload_n hx hb dX0_isSteady_59 rfl (lv_at hl 5 rfl) ?_
  refine lv_goto (tgt := 65) hx hb dX0_isSteady_60 (by decide) ?_
  refine lv_istore (lv' := [(8, .int (iI (dA S a b))), (7, .int (iI 2)), (9, .int (iI (dU S a b))), (5, .long (lI (((bx M : Nat) : Int)))), (4, .int (iI (dU S a b))), (3, .int (iI (dA S a b))), (0, .ref ((xa X 0))), (1, .int (iI (((a : Nat) : Int)))), (2, .int (iI (((b : Nat) : Int))))]) hx hb dX0_isSteady_65 hl (by decide) rfl (fun ls hl => ?_)
  refine lv_iload hx hb dX0_isSteady_67 (lv_at hl 1 rfl) ?_
  refine lv_iconst (v := iI 2) hx hb dX0_isSteady_69 rfl ?_
  refine pg_iand (z := 2) (a := 2) (b := 2) hx hb dX0_isSteady_70 (by decide) (by decide) (by decide) (by decide) (by decide) ?_
  refine pg_if_ne (tgt := 79) hx hb dX0_isSteady_71 (by decide) (⟨by omega, by omega⟩) (fun hc17 => ?_) (fun hc17 => absurd hc17 (by omega))
  refine lv_iload hx hb dX0_isSteady_79 (lv_at hl 4 rfl) ?_
  refine pg_ineg (z := -(dU S a b)) hx hb dX0_isSteady_81 (rfl) ?_
  refine lv_istore (lv' := [(9, .int (iI (-(dU S a b)))), (8, .int (iI (dA S a b))), (7, .int (iI 2)), (5, .long (lI (((bx M : Nat) : Int)))), (4, .int (iI (dU S a b))), (3, .int (iI (dA S a b))), (0, .ref ((xa X 0))), (1, .int (iI (((a : Nat) : Int)))), (2, .int (iI (((b : Nat) : Int))))]) hx hb dX0_isSteady_82 hl (by decide) rfl (fun ls hl => ?_)
  refine lv_iload hx hb dX0_isSteady_84 (lv_at hl 1 rfl) ?_
  refine lv_iload hx hb dX0_isSteady_86 (lv_at hl 0 rfl) ?_
  refine lv_aload_n hx hb dX0_isSteady_88 rfl (lv_at hl 6 rfl) ?_
  refine va_get (D := xG X) (ci := 0) (v := .int (iI (((sW S : Nat) : Int)))) (C := RX0) (T := TX0) (N := 6) hx hb hts hin hown hK hP 0 rfl rfl 5 (by decide) (hts (.fieldLink RX0 27 "Pegfield" "wide" "Z") (by decide +kernel)) (fun _ h9 => h9) rfl dX0_isSteady_89 ?_
  refine pg_callS (As := [.int (iI (dA S a b)), .int (iI (-(dU S a b))), .int (iI (((sW S : Nat) : Int)))]) (rest := []) SC (c_X0_hypotenuseBits l (dA S a b) (-(dU S a b)) (sW S) M hM ⟨by omega, by omega⟩ (sq_any hok hW a b hMe (by first | rfl | exact Int.add_comm _ _ | (simp only [Int.neg_mul_neg]; done) | (simp only [Int.neg_mul_neg]; exact Int.add_comm _ _)))) pT_st pT_h (va_cwS 3 hts gX0_isSteady_X0_hypotenuseBits rfl rfl rfl (by decide +kernel) ⟨Nat.le_of_ble_eq_true rfl, Nat.le_of_ble_eq_true rfl⟩) rfl hl.1 rfl (Nat.le_of_ble_eq_true rfl) dX0_isSteady_92 ⟨Nat.zero_le _, Nat.zero_le _⟩ ?_
  refine lv_lload hx hb dX0_isSteady_95 (lv_at hl 3 rfl) ?_
  refine pg_lcmp hx hb dX0_isSteady_97 (⟨by omega, by omega⟩) (⟨by omega, by omega⟩) (fun z18 hz18 => ?_)
  refine pg_if_ne (tgt := 118) hx hb dX0_isSteady_98 (by decide) (⟨by omega, by omega⟩) (fun hc19 => absurd hc19 (by omega)) (fun hc19 => ?_)
  refine lv_iload hx hb dX0_isSteady_101 (lv_at hl 0 rfl) ?_
  refine lv_iload hx hb dX0_isSteady_103 (lv_at hl 1 rfl) ?_
  refine lv_aload_n hx hb dX0_isSteady_105 rfl (lv_at hl 6 rfl) ?_
  refine va_get (D := xG X) (ci := 0) (v := .int (iI (((sW S : Nat) : Int)))) (C := RX0) (T := TX0) (N := 6) hx hb hts hin hown hK hP 0 rfl rfl 5 (by decide) (hts (.fieldLink RX0 27 "Pegfield" "wide" "Z") (by decide +kernel)) (fun _ h9 => h9) rfl dX0_isSteady_106 ?_
  refine pg_callS (As := [.int (iI (-(dU S a b))), .int (iI (dA S a b)), .int (iI (((sW S : Nat) : Int)))]) (rest := []) SC (c_X0_hypotenuseBits l (-(dU S a b)) (dA S a b) (sW S) M hM ⟨by omega, by omega⟩ (sq_any hok hW a b hMe (by first | rfl | exact Int.add_comm _ _ | (simp only [Int.neg_mul_neg]; done) | (simp only [Int.neg_mul_neg]; exact Int.add_comm _ _)))) pT_st pT_h (va_cwS 3 hts gX0_isSteady_X0_hypotenuseBits rfl rfl rfl (by decide +kernel) ⟨Nat.le_of_ble_eq_true rfl, Nat.le_of_ble_eq_true rfl⟩) rfl hl.1 rfl (Nat.le_of_ble_eq_true rfl) dX0_isSteady_109 ⟨Nat.zero_le _, Nat.zero_le _⟩ ?_
  refine lv_lload hx hb dX0_isSteady_112 (lv_at hl 3 rfl) ?_
  refine pg_lcmp hx hb dX0_isSteady_114 (⟨by omega, by omega⟩) (⟨by omega, by omega⟩) (fun z20 hz20 => ?_)
  refine pg_if_eq (tgt := 120) hx hb dX0_isSteady_115 (by decide) (⟨by omega, by omega⟩) (fun hc21 => ?_) (fun hc21 => absurd hc21 (by omega))
  refine lv_iinc (v := iI 3) (lv' := [(7, .int (iI 3)), (9, .int (iI (-(dU S a b)))), (8, .int (iI (dA S a b))), (5, .long (lI (((bx M : Nat) : Int)))), (4, .int (iI (dU S a b))), (3, .int (iI (dA S a b))), (0, .ref ((xa X 0))), (1, .int (iI (((a : Nat) : Int)))), (2, .int (iI (((b : Nat) : Int))))]) hx hb dX0_isSteady_120 hl (k := 2) rfl (iI_addp (by omega)) (by decide) rfl (fun ls hl => ?_)
  refine lv_goto (tgt := 46) hx hb dX0_isSteady_123 (by decide) ?_
  refine lv_iload hx hb dX0_isSteady_46 (lv_at hl 0 rfl) ?_
  refine lv_iconst (v := iI 4) hx hb dX0_isSteady_48 rfl ?_
  refine pg_icmp_ge (tgt := 126) hx hb dX0_isSteady_49 (by decide) (⟨by omega, by omega⟩) (⟨by omega, by omega⟩) (fun hc22 => absurd hc22 (by omega)) (fun hc22 => ?_)
  refine lv_iload hx hb dX0_isSteady_52 (lv_at hl 0 rfl) ?_
  refine lv_iconst (v := iI 1) hx hb dX0_isSteady_54 rfl ?_
  refine pg_iand (z := 1) (a := 3) (b := 1) hx hb dX0_isSteady_55 (by decide) (by decide) (by decide) (by decide) (by decide) ?_
  refine pg_if_ne (tgt := 63) hx hb dX0_isSteady_56 (by decide) (⟨by omega, by omega⟩) (fun hc23 => ?_) (fun hc23 => absurd hc23 (by omega))
  refine lv_iload_n hx hb dX0_isSteady_63 rfl (lv_at hl 5 rfl) ?_
  refine pg_ineg (z := -(dA S a b)) hx hb dX0_isSteady_64 (rfl) ?_
  refine lv_istore (lv' := [(8, .int (iI (-(dA S a b)))), (7, .int (iI 3)), (9, .int (iI (-(dU S a b)))), (5, .long (lI (((bx M : Nat) : Int)))), (4, .int (iI (dU S a b))), (3, .int (iI (dA S a b))), (0, .ref ((xa X 0))), (1, .int (iI (((a : Nat) : Int)))), (2, .int (iI (((b : Nat) : Int))))]) hx hb dX0_isSteady_65 hl (by decide) rfl (fun ls hl => ?_)
  refine lv_iload hx hb dX0_isSteady_67 (lv_at hl 1 rfl) ?_
  refine lv_iconst (v := iI 2) hx hb dX0_isSteady_69 rfl ?_
  refine pg_iand (z := 2) (a := 3) (b := 2) hx hb dX0_isSteady_70 (by decide) (by decide) (by decide) (by decide) (by decide) ?_
  refine pg_if_ne (tgt := 79) hx hb dX0_isSteady_71 (by decide) (⟨by omega, by omega⟩) (fun hc24 => ?_) (fun hc24 => absurd hc24 (by omega))
  refine lv_iload hx hb dX0_isSteady_79 (lv_at hl 4 rfl) ?_
  refine pg_ineg (z := -(dU S a b)) hx hb dX0_isSteady_81 (rfl) ?_
  refine lv_istore (lv' := [(9, .int (iI (-(dU S a b)))), (8, .int (iI (-(dA S a b)))), (7, .int (iI 3)), (5, .long (lI (((bx M : Nat) : Int)))), (4, .int (iI (dU S a b))), (3, .int (iI (dA S a b))), (0, .ref ((xa X 0))), (1, .int (iI (((a : Nat) : Int)))), (2, .int (iI (((b : Nat) : Int))))]) hx hb dX0_isSteady_82 hl (by decide) rfl (fun ls hl => ?_)
  refine lv_iload hx hb dX0_isSteady_84 (lv_at hl 1 rfl) ?_
  refine lv_iload hx hb dX0_isSteady_86 (lv_at hl 0 rfl) ?_
  refine lv_aload_n hx hb dX0_isSteady_88 rfl (lv_at hl 6 rfl) ?_
  refine va_get (D := xG X) (ci := 0) (v := .int (iI (((sW S : Nat) : Int)))) (C := RX0) (T := TX0) (N := 6) hx hb hts hin hown hK hP 0 rfl rfl 5 (by decide) (hts (.fieldLink RX0 27 "Pegfield" "wide" "Z") (by decide +kernel)) (fun _ h9 => h9) rfl dX0_isSteady_89 ?_
  refine pg_callS (As := [.int (iI (-(dA S a b))), .int (iI (-(dU S a b))), .int (iI (((sW S : Nat) : Int)))]) (rest := []) SC (c_X0_hypotenuseBits l (-(dA S a b)) (-(dU S a b)) (sW S) M hM ⟨by omega, by omega⟩ (sq_any hok hW a b hMe (by first | rfl | exact Int.add_comm _ _ | (simp only [Int.neg_mul_neg]; done) | (simp only [Int.neg_mul_neg]; exact Int.add_comm _ _)))) pT_st pT_h (va_cwS 3 hts gX0_isSteady_X0_hypotenuseBits rfl rfl rfl (by decide +kernel) ⟨Nat.le_of_ble_eq_true rfl, Nat.le_of_ble_eq_true rfl⟩) rfl hl.1 rfl (Nat.le_of_ble_eq_true rfl) dX0_isSteady_92 ⟨Nat.zero_le _, Nat.zero_le _⟩ ?_
  refine lv_lload hx hb dX0_isSteady_95 (lv_at hl 3 rfl) ?_
  refine pg_lcmp hx hb dX0_isSteady_97 (⟨by omega, by omega⟩) (⟨by omega, by omega⟩) (fun z25 hz25 => ?_)
  refine pg_if_ne (tgt := 118) hx hb dX0_isSteady_98 (by decide) (⟨by omega, by omega⟩) (fun hc26 => absurd hc26 (by omega)) (fun hc26 => ?_)
  refine lv_iload hx hb dX0_isSteady_101 (lv_at hl 0 rfl) ?_
  refine lv_iload hx hb dX0_isSteady_103 (lv_at hl 1 rfl) ?_
  refine lv_aload_n hx hb dX0_isSteady_105 rfl (lv_at hl 6 rfl) ?_
  refine va_get (D := xG X) (ci := 0) (v := .int (iI (((sW S : Nat) : Int)))) (C := RX0) (T := TX0) (N := 6) hx hb hts hin hown hK hP 0 rfl rfl 5 (by decide) (hts (.fieldLink RX0 27 "Pegfield" "wide" "Z") (by decide +kernel)) (fun _ h9 => h9) rfl dX0_isSteady_106 ?_
  refine pg_callS (As := [.int (iI (-(dU S a b))), .int (iI (-(dA S a b))), .int (iI (((sW S : Nat) : Int)))]) (rest := []) SC (c_X0_hypotenuseBits l (-(dU S a b)) (-(dA S a b)) (sW S) M hM ⟨by omega, by omega⟩ (sq_any hok hW a b hMe (by first | rfl | exact Int.add_comm _ _ | (simp only [Int.neg_mul_neg]; done) | (simp only [Int.neg_mul_neg]; exact Int.add_comm _ _)))) pT_st pT_h (va_cwS 3 hts gX0_isSteady_X0_hypotenuseBits rfl rfl rfl (by decide +kernel) ⟨Nat.le_of_ble_eq_true rfl, Nat.le_of_ble_eq_true rfl⟩) rfl hl.1 rfl (Nat.le_of_ble_eq_true rfl) dX0_isSteady_109 ⟨Nat.zero_le _, Nat.zero_le _⟩ ?_
  refine lv_lload hx hb dX0_isSteady_112 (lv_at hl 3 rfl) ?_
  refine pg_lcmp hx hb dX0_isSteady_114 (⟨by omega, by omega⟩) (⟨by omega, by omega⟩) (fun z27 hz27 => ?_)
  refine pg_if_eq (tgt := 120) hx hb dX0_isSteady_115 (by decide) (⟨by omega, by omega⟩) (fun hc28 => ?_) (fun hc28 => absurd hc28 (by omega))
  refine lv_iinc (v := iI 4) (lv' := [(7, .int (iI 4)), (9, .int (iI (-(dU S a b)))), (8, .int (iI (-(dA S a b)))), (5, .long (lI (((bx M : Nat) : Int)))), (4, .int (iI (dU S a b))), (3, .int (iI (dA S a b))), (0, .ref ((xa X 0))), (1, .int (iI (((a : Nat) : Int)))), (2, .int (iI (((b : Nat) : Int))))]) hx hb dX0_isSteady_120 hl (k := 2) rfl (iI_addp (by omega)) (by decide) rfl (fun ls hl => ?_)
  refine lv_goto (tgt := 46) hx hb dX0_isSteady_123 (by decide) ?_
  refine lv_iload hx hb dX0_isSteady_46 (lv_at hl 0 rfl) ?_
  refine lv_iconst (v := iI 4) hx hb dX0_isSteady_48 rfl ?_
  refine pg_icmp_ge (tgt := 126) hx hb dX0_isSteady_49 (by decide) (⟨by omega, by omega⟩) (⟨by omega, by omega⟩) (fun hc29 => ?_) (fun hc29 => absurd hc29 (by omega))
  refine lv_iconst (v := iI 1) hx hb dX0_isSteady_126 rfl ?_
  exact pg_zret hx hb hr hlk  (iI_bool (by omega)) (congrArg (fun z : Int => some (Value.int (iI z))) (show 1 = 1 by omega)) dX0_isSteady_127
set_option maxRecDepth 100000 in
set_option maxHeartbeats 4000000 in
theorem c_X0_isDoubled_ok (l : Launch) (X : pgX) (S : pgS) (hok : pgOk S) (a b : Nat) (ha : a < 12) (hb2 : b < 12) (sa : sS S a = 1) (sb : sS S b = 1) : pg_ro l yX0_isDoubled wsX0_isDoubled (rm 4 84) (xB X S) [.ref ((xa X 0)), .int (iI (((a : Nat) : Int))), .int (iI (((b : Nat) : Int)))] (some (.int (iI 1))) := by
  refine pg_ro_of (cc := cX0_isDoubled) (maxL := 5) (ret := (some .boolean)) (by decide) rfl (Nat.le_of_ble_eq_true rfl) ?_
  intro p e s m below meth c ls SC hr hlk hB hl
  obtain ⟨hx, hb, hml, hown, hts⟩ := id SC
  have hown : s.vm.findClass RX0 = some m.cls := hown
  obtain ⟨hP, hK⟩ := id hB
  have hl : lv_has ls 5 [(0, .ref ((xa X 0))), (1, .int (iI (((a : Nat) : Int)))), (2, .int (iI (((b : Nat) : Int))))] := hl
  obtain ⟨M, hMe⟩ : ∃ M, M = sqw S 0 a b := ⟨_, rfl⟩
  have hM : M < 2 ^ 18 := by have h9 := (sqw_spec hok (w := 0) (by decide) a b).2; have h7 := sq_sum hok a b; have h8 := sqw_int S 0 a b; rw [if_pos rfl, ← hMe] at h8; omega
  have hM4 : 4 * M = sqw S 1 a b := by rw [sqw_1, hMe]
  have hbx := bx_lt (M := M) (by omega)
  have hbx4 := bx_lt (M := 4 * M) (by omega)
  refine lv_aload_n hx hb dX0_isDoubled_0 rfl (lv_at hl 0 rfl) ?_
  refine lv_iload_n hx hb dX0_isDoubled_1 rfl (lv_at hl 1 rfl) ?_
  refine lv_iload_n hx hb dX0_isDoubled_2 rfl (lv_at hl 2 rfl) ?_
  refine pg_callVv (As := [.int (iI (((a : Nat) : Int))), .int (iI (((b : Nat) : Int)))]) (rest := []) SC (c_X0_requireTwo_ok l X S a b ha hb2 sa sb) xB_st (xB_h hP hK) (cwV 2 hts gX0_isDoubled_X0_requireTwo rfl rfl rfl (by decide +kernel) ⟨Nat.le_of_ble_eq_true rfl, Nat.le_of_ble_eq_true rfl⟩) (va_recv hK hP (ci := 0) (q0 := 0) rfl rfl) rfl hl.1 rfl (Nat.le_of_ble_eq_true rfl) dX0_isDoubled_3 ⟨Nat.zero_le _, Nat.zero_le _⟩ ?_
  refine lv_aload_n hx hb dX0_isDoubled_6 rfl (lv_at hl 0 rfl) ?_
  refine lv_iload_n hx hb dX0_isDoubled_7 rfl (lv_at hl 2 rfl) ?_
  refine pg_callV (As := [.int (iI (((b : Nat) : Int)))]) (rest := []) SC (c_X0_across l X S b hb2) xB_st (xB_h hP hK) (cwV 1 hts gX0_isDoubled_X0_across rfl rfl rfl (by decide +kernel) ⟨Nat.le_of_ble_eq_true rfl, Nat.le_of_ble_eq_true rfl⟩) (va_recv hK hP (ci := 0) (q0 := 0) rfl rfl) rfl hl.1 rfl (Nat.le_of_ble_eq_true rfl) dX0_isDoubled_8 ⟨Nat.zero_le _, Nat.zero_le _⟩ ?_
  refine lv_aload_n hx hb dX0_isDoubled_11 rfl (lv_at hl 0 rfl) ?_
  refine lv_iload_n hx hb dX0_isDoubled_12 rfl (lv_at hl 1 rfl) ?_
  refine pg_callV (As := [.int (iI (((a : Nat) : Int)))]) (rest := [.int (iI (((sA S b : Nat) : Int)))]) SC (c_X0_across l X S a ha) xB_st (xB_h hP hK) (cwV 1 hts gX0_isDoubled_X0_across rfl rfl rfl (by decide +kernel) ⟨Nat.le_of_ble_eq_true rfl, Nat.le_of_ble_eq_true rfl⟩) (va_recv hK hP (ci := 0) (q0 := 0) rfl rfl) rfl hl.1 rfl (Nat.le_of_ble_eq_true rfl) dX0_isDoubled_13 ⟨Nat.zero_le _, Nat.zero_le _⟩ ?_
  refine pg_isub (z := dA S a b) hx hb dX0_isDoubled_16 (rfl) ?_
  refine lv_istore_n (lv' := [(3, .int (iI (dA S a b))), (0, .ref ((xa X 0))), (1, .int (iI (((a : Nat) : Int)))), (2, .int (iI (((b : Nat) : Int))))]) hx hb dX0_isDoubled_17 rfl hl (by decide) rfl (fun ls hl => ?_)
  refine lv_aload_n hx hb dX0_isDoubled_18 rfl (lv_at hl 1 rfl) ?_
  refine lv_iload_n hx hb dX0_isDoubled_19 rfl (lv_at hl 3 rfl) ?_
  refine pg_callV (As := [.int (iI (((b : Nat) : Int)))]) (rest := []) SC (c_X0_up l X S b hb2) xB_st (xB_h hP hK) (cwV 1 hts gX0_isDoubled_X0_up rfl rfl rfl (by decide +kernel) ⟨Nat.le_of_ble_eq_true rfl, Nat.le_of_ble_eq_true rfl⟩) (va_recv hK hP (ci := 0) (q0 := 0) rfl rfl) rfl hl.1 rfl (Nat.le_of_ble_eq_true rfl) dX0_isDoubled_20 ⟨Nat.zero_le _, Nat.zero_le _⟩ ?_
  refine lv_aload_n hx hb dX0_isDoubled_23 rfl (lv_at hl 1 rfl) ?_
  refine lv_iload_n hx hb dX0_isDoubled_24 rfl (lv_at hl 2 rfl) ?_
  refine pg_callV (As := [.int (iI (((a : Nat) : Int)))]) (rest := [.int (iI (((sU S b : Nat) : Int)))]) SC (c_X0_up l X S a ha) xB_st (xB_h hP hK) (cwV 1 hts gX0_isDoubled_X0_up rfl rfl rfl (by decide +kernel) ⟨Nat.le_of_ble_eq_true rfl, Nat.le_of_ble_eq_true rfl⟩) (va_recv hK hP (ci := 0) (q0 := 0) rfl rfl) rfl hl.1 rfl (Nat.le_of_ble_eq_true rfl) dX0_isDoubled_25 ⟨Nat.zero_le _, Nat.zero_le _⟩ ?_
  refine pg_isub (z := dU S a b) hx hb dX0_isDoubled_28 (rfl) ?_
  refine lv_istore (lv' := [(4, .int (iI (dU S a b))), (3, .int (iI (dA S a b))), (0, .ref ((xa X 0))), (1, .int (iI (((a : Nat) : Int)))), (2, .int (iI (((b : Nat) : Int))))]) hx hb dX0_isDoubled_29 hl (by decide) rfl (fun ls hl => ?_)
  refine lv_iload_n hx hb dX0_isDoubled_31 rfl (lv_at hl 1 rfl) ?_
  refine lv_iload hx hb dX0_isDoubled_32 (lv_at hl 0 rfl) ?_
  refine lv_iconst (v := iI 1) hx hb dX0_isDoubled_34 rfl ?_
  refine pg_callS (As := [.int (iI (dA S a b)), .int (iI (dU S a b)), .int (iI 1)]) (rest := []) SC (c_X0_hypotenuseBits l (dA S a b) (dU S a b) 1 (4 * M) (by omega) ⟨by decide, by decide⟩ (sq_any hok (w := 1) (by decide) a b hM4 rfl)) pT_st pT_h (va_cwS 3 hts gX0_isDoubled_X0_hypotenuseBits rfl rfl rfl (by decide +kernel) ⟨Nat.le_of_ble_eq_true rfl, Nat.le_of_ble_eq_true rfl⟩) rfl hl.1 rfl (Nat.le_of_ble_eq_true rfl) dX0_isDoubled_35 ⟨Nat.zero_le _, Nat.zero_le _⟩ ?_
  refine lv_iload_n hx hb dX0_isDoubled_38 rfl (lv_at hl 1 rfl) ?_
  refine lv_iload hx hb dX0_isDoubled_39 (lv_at hl 0 rfl) ?_
  refine lv_iconst (v := iI 0) hx hb dX0_isDoubled_41 rfl ?_
  refine pg_callS (As := [.int (iI (dA S a b)), .int (iI (dU S a b)), .int (iI 0)]) (rest := [.long (lI (((bx (4 * M) : Nat) : Int)))]) SC (c_X0_hypotenuseBits l (dA S a b) (dU S a b) 0 M (by omega) ⟨by decide, by decide⟩ (sq_any hok (w := 0) (by decide) a b hMe rfl)) pT_st pT_h (va_cwS 3 hts gX0_isDoubled_X0_hypotenuseBits rfl rfl rfl (by decide +kernel) ⟨Nat.le_of_ble_eq_true rfl, Nat.le_of_ble_eq_true rfl⟩) rfl hl.1 rfl (Nat.le_of_ble_eq_true rfl) dX0_isDoubled_42 ⟨Nat.zero_le _, Nat.zero_le _⟩ ?_
  refine pg_callS (As := [.long (lI (((bx M : Nat) : Int)))]) (rest := [.long (lI (((bx (4 * M) : Nat) : Int)))]) SC (c_X0_twice l (bx M) (bx (4 * M)) (by omega) (by omega) (tw hM)) pT_st pT_h (va_cwS 1 hts gX0_isDoubled_X0_twice rfl rfl rfl (by decide +kernel) ⟨Nat.le_of_ble_eq_true rfl, Nat.le_of_ble_eq_true rfl⟩) rfl hl.1 rfl (Nat.le_of_ble_eq_true rfl) dX0_isDoubled_45 ⟨Nat.zero_le _, Nat.zero_le _⟩ ?_
  refine pg_lcmp hx hb dX0_isDoubled_48 (⟨by omega, by omega⟩) (⟨by omega, by omega⟩) (fun z1 hz1 => ?_)
  refine pg_if_ne (tgt := 56) hx hb dX0_isDoubled_49 (by decide) (⟨by omega, by omega⟩) (fun hc2 => absurd hc2 (by omega)) (fun hc2 => ?_)
  refine lv_iconst (v := iI 1) hx hb dX0_isDoubled_52 rfl ?_
  refine lv_goto (tgt := 57) hx hb dX0_isDoubled_53 (by decide) ?_
  exact pg_zret hx hb hr hlk  (iI_bool (by omega)) (congrArg (fun z : Int => some (Value.int (iI z))) (show 1 = 1 by omega)) dX0_isDoubled_57
theorem bx_dN {M : Nat} (h0 : M ≠ 0) : bx M = (1021 + pw M) * 2 ^ 52 + (un M - 2 ^ 52) := bx_eq h0
theorem c_X0_unitsM (l : Launch) (M : Nat) (hM : M < 2 ^ 20) (h0 : M ≠ 0) : pg_ro l yX0_unitsOf wsX0_unitsOf (rm 0 0) pT [.long (lI ((bx M : Nat) : Int))] (some (.long (lI ((un M : Nat) : Int)))) := by
  have hp : pw M ≤ 9 := pw_small (by omega)
  obtain ⟨u1, u2, -, -⟩ := un_spec h0 hM
  have h := c_X0_unitsOf l (1021 + pw M) (un M - 2 ^ 52) (by omega) (by omega)
  rwa [← bx_eq h0, show 2 ^ 52 + (un M - 2 ^ 52) = un M by omega] at h
theorem c_X0_placesM (l : Launch) (M : Nat) (hM : M < 2 ^ 20) (h0 : M ≠ 0) : pg_ro l yX0_placesAfterPoint wsX0_placesAfterPoint (rm 0 0) pT [.long (lI ((bx M : Nat) : Int))] (some (.int (iI (54 - (pw M : Int))))) := by
  have hp : pw M ≤ 9 := pw_small (by omega)
  obtain ⟨u1, u2, -, -⟩ := un_spec h0 hM
  have h := c_X0_placesAfterPoint l (1021 + pw M) (un M - 2 ^ 52) (by omega) (by omega)
  rwa [← bx_eq h0, show (1075 - ((1021 + pw M : Nat) : Int)) = 54 - (pw M : Int) by omega] at h
set_option maxRecDepth 100000 in
set_option maxHeartbeats 4000000 in
theorem c_X0_isClose_ok (l : Launch) (X : pgX) (S : pgS) (hok : pgOk S) (a b : Nat) (ha : a < 12) (hb2 : b < 12) (sa : sS S a = 1) (sb : sS S b = 1) : pg_ro l yX0_isClose wsX0_isClose (rm 4 84) (xB X S) [.ref ((xa X 0)), .int (iI (((a : Nat) : Int))), .int (iI (((b : Nat) : Int)))] (some (.int (iI 1))) := by
  refine pg_ro_of (cc := cX0_isClose) (maxL := 11) (ret := (some .boolean)) (by decide) rfl (Nat.le_of_ble_eq_true rfl) ?_
  intro p e s m below meth c ls SC hr hlk hB hl
  obtain ⟨hx, hb, hml, hown, hts⟩ := id SC
  have hown : s.vm.findClass RX0 = some m.cls := hown
  obtain ⟨hP, hK⟩ := id hB
  have hl : lv_has ls 11 [(0, .ref ((xa X 0))), (1, .int (iI (((a : Nat) : Int)))), (2, .int (iI (((b : Nat) : Int))))] := hl
  have hin : ∀ w ∈ u_ws RX0 TX0 6, w ∈ wsX0_isClose := by decide +kernel
  have hW : sW S ≤ 1 := hok.2.2.2.2.2
  obtain ⟨M, hMe⟩ : ∃ M, M = sq S a b := ⟨_, rfl⟩
  have hM : M < 2 ^ 20 := by have h9 := (sqw_spec hok hW a b).2; have h8 : M = sqw S (sW S) a b := hMe; omega
  have hbx := bx_lt hM
  refine lv_aload_n hx hb dX0_isClose_0 rfl (lv_at hl 0 rfl) ?_
  refine lv_iload_n hx hb dX0_isClose_1 rfl (lv_at hl 1 rfl) ?_
  refine lv_iload_n hx hb dX0_isClose_2 rfl (lv_at hl 2 rfl) ?_
  refine pg_callVv (As := [.int (iI (((a : Nat) : Int))), .int (iI (((b : Nat) : Int)))]) (rest := []) SC (c_X0_requireTwo_ok l X S a b ha hb2 sa sb) xB_st (xB_h hP hK) (cwV 2 hts gX0_isClose_X0_requireTwo rfl rfl rfl (by decide +kernel) ⟨Nat.le_of_ble_eq_true rfl, Nat.le_of_ble_eq_true rfl⟩) (va_recv hK hP (ci := 0) (q0 := 0) rfl rfl) rfl hl.1 rfl (Nat.le_of_ble_eq_true rfl) dX0_isClose_3 ⟨Nat.zero_le _, Nat.zero_le _⟩ ?_
  refine lv_aload_n hx hb dX0_isClose_6 rfl (lv_at hl 0 rfl) ?_
  refine lv_iload_n hx hb dX0_isClose_7 rfl (lv_at hl 2 rfl) ?_
  refine pg_callV (As := [.int (iI (((b : Nat) : Int)))]) (rest := []) SC (c_X0_across l X S b hb2) xB_st (xB_h hP hK) (cwV 1 hts gX0_isClose_X0_across rfl rfl rfl (by decide +kernel) ⟨Nat.le_of_ble_eq_true rfl, Nat.le_of_ble_eq_true rfl⟩) (va_recv hK hP (ci := 0) (q0 := 0) rfl rfl) rfl hl.1 rfl (Nat.le_of_ble_eq_true rfl) dX0_isClose_8 ⟨Nat.zero_le _, Nat.zero_le _⟩ ?_
  refine lv_aload_n hx hb dX0_isClose_11 rfl (lv_at hl 0 rfl) ?_
  refine lv_iload_n hx hb dX0_isClose_12 rfl (lv_at hl 1 rfl) ?_
  refine pg_callV (As := [.int (iI (((a : Nat) : Int)))]) (rest := [.int (iI (((sA S b : Nat) : Int)))]) SC (c_X0_across l X S a ha) xB_st (xB_h hP hK) (cwV 1 hts gX0_isClose_X0_across rfl rfl rfl (by decide +kernel) ⟨Nat.le_of_ble_eq_true rfl, Nat.le_of_ble_eq_true rfl⟩) (va_recv hK hP (ci := 0) (q0 := 0) rfl rfl) rfl hl.1 rfl (Nat.le_of_ble_eq_true rfl) dX0_isClose_13 ⟨Nat.zero_le _, Nat.zero_le _⟩ ?_
  refine pg_isub (z := dA S a b) hx hb dX0_isClose_16 (rfl) ?_
  refine lv_istore_n (lv' := [(3, .int (iI (dA S a b))), (0, .ref ((xa X 0))), (1, .int (iI (((a : Nat) : Int)))), (2, .int (iI (((b : Nat) : Int))))]) hx hb dX0_isClose_17 rfl hl (by decide) rfl (fun ls hl => ?_)
  refine lv_aload_n hx hb dX0_isClose_18 rfl (lv_at hl 1 rfl) ?_
  refine lv_iload_n hx hb dX0_isClose_19 rfl (lv_at hl 3 rfl) ?_
  refine pg_callV (As := [.int (iI (((b : Nat) : Int)))]) (rest := []) SC (c_X0_up l X S b hb2) xB_st (xB_h hP hK) (cwV 1 hts gX0_isClose_X0_up rfl rfl rfl (by decide +kernel) ⟨Nat.le_of_ble_eq_true rfl, Nat.le_of_ble_eq_true rfl⟩) (va_recv hK hP (ci := 0) (q0 := 0) rfl rfl) rfl hl.1 rfl (Nat.le_of_ble_eq_true rfl) dX0_isClose_20 ⟨Nat.zero_le _, Nat.zero_le _⟩ ?_
  refine lv_aload_n hx hb dX0_isClose_23 rfl (lv_at hl 1 rfl) ?_
  refine lv_iload_n hx hb dX0_isClose_24 rfl (lv_at hl 2 rfl) ?_
  refine pg_callV (As := [.int (iI (((a : Nat) : Int)))]) (rest := [.int (iI (((sU S b : Nat) : Int)))]) SC (c_X0_up l X S a ha) xB_st (xB_h hP hK) (cwV 1 hts gX0_isClose_X0_up rfl rfl rfl (by decide +kernel) ⟨Nat.le_of_ble_eq_true rfl, Nat.le_of_ble_eq_true rfl⟩) (va_recv hK hP (ci := 0) (q0 := 0) rfl rfl) rfl hl.1 rfl (Nat.le_of_ble_eq_true rfl) dX0_isClose_25 ⟨Nat.zero_le _, Nat.zero_le _⟩ ?_
  refine pg_isub (z := dU S a b) hx hb dX0_isClose_28 (rfl) ?_
  refine lv_istore (lv' := [(4, .int (iI (dU S a b))), (3, .int (iI (dA S a b))), (0, .ref ((xa X 0))), (1, .int (iI (((a : Nat) : Int)))), (2, .int (iI (((b : Nat) : Int))))]) hx hb dX0_isClose_29 hl (by decide) rfl (fun ls hl => ?_)
  refine lv_iload_n hx hb dX0_isClose_31 rfl (lv_at hl 1 rfl) ?_
  refine lv_iload hx hb dX0_isClose_32 (lv_at hl 0 rfl) ?_
  refine lv_aload_n hx hb dX0_isClose_34 rfl (lv_at hl 2 rfl) ?_
  refine va_get (D := xG X) (ci := 0) (v := .int (iI (((sW S : Nat) : Int)))) (C := RX0) (T := TX0) (N := 6) hx hb hts hin hown hK hP 0 rfl rfl 5 (by decide) (hts (.fieldLink RX0 27 "Pegfield" "wide" "Z") (by decide +kernel)) (fun _ h9 => h9) rfl dX0_isClose_35 ?_
  refine pg_callS (As := [.int (iI (dA S a b)), .int (iI (dU S a b)), .int (iI (((sW S : Nat) : Int)))]) (rest := []) SC (c_X0_hypotenuseBits l (dA S a b) (dU S a b) (sW S) M hM ⟨by omega, by omega⟩ (sq_any hok hW a b hMe (by first | rfl | exact Int.add_comm _ _ | (simp only [Int.neg_mul_neg]; done) | (simp only [Int.neg_mul_neg]; exact Int.add_comm _ _)))) pT_st pT_h (va_cwS 3 hts gX0_isClose_X0_hypotenuseBits rfl rfl rfl (by decide +kernel) ⟨Nat.le_of_ble_eq_true rfl, Nat.le_of_ble_eq_true rfl⟩) rfl hl.1 rfl (Nat.le_of_ble_eq_true rfl) dX0_isClose_38 ⟨Nat.zero_le _, Nat.zero_le _⟩ ?_
  refine lv_lstore (lv' := [(5, .long (lI (((bx M : Nat) : Int)))), (4, .int (iI (dU S a b))), (3, .int (iI (dA S a b))), (0, .ref ((xa X 0))), (1, .int (iI (((a : Nat) : Int)))), (2, .int (iI (((b : Nat) : Int))))]) hx hb dX0_isClose_41 hl (by decide) rfl (fun ls hl => ?_)
  refine lv_iload_n hx hb dX0_isClose_43 rfl (lv_at hl 2 rfl) ?_
  refine lv_iload hx hb dX0_isClose_44 (lv_at hl 1 rfl) ?_
  refine lv_aload_n hx hb dX0_isClose_46 rfl (lv_at hl 3 rfl) ?_
  refine va_get (D := xG X) (ci := 0) (v := .int (iI (((sW S : Nat) : Int)))) (C := RX0) (T := TX0) (N := 6) hx hb hts hin hown hK hP 0 rfl rfl 5 (by decide) (hts (.fieldLink RX0 27 "Pegfield" "wide" "Z") (by decide +kernel)) (fun _ h9 => h9) rfl dX0_isClose_47 ?_
  refine pg_callS (As := [.int (iI (dA S a b)), .int (iI (dU S a b)), .int (iI (((sW S : Nat) : Int)))]) (rest := []) SC (c_X0_squareSum l (dA S a b) (dU S a b) (sW S) M ⟨by omega, by omega⟩ (sq_any hok hW a b hMe rfl)) pT_st pT_h (va_cwS 3 hts gX0_isClose_X0_squareSum rfl rfl rfl (by decide +kernel) ⟨Nat.le_of_ble_eq_true rfl, Nat.le_of_ble_eq_true rfl⟩) rfl hl.1 rfl (Nat.le_of_ble_eq_true rfl) dX0_isClose_50 ⟨Nat.zero_le _, Nat.zero_le _⟩ ?_
  refine lv_istore (lv' := [(7, .int (iI (((M : Nat) : Int)))), (5, .long (lI (((bx M : Nat) : Int)))), (4, .int (iI (dU S a b))), (3, .int (iI (dA S a b))), (0, .ref ((xa X 0))), (1, .int (iI (((a : Nat) : Int)))), (2, .int (iI (((b : Nat) : Int))))]) hx hb dX0_isClose_53 hl (by decide) rfl (fun ls hl => ?_)
  refine lv_iload hx hb dX0_isClose_55 (lv_at hl 0 rfl) ?_
  refine pg_if_eq (tgt := 67) hx hb dX0_isClose_57 (by decide) (⟨by omega, by omega⟩) (fun hc1 => ?_) (fun hc1 => ?_)
  · refine lv_iload hx hb dX0_isClose_67 (lv_at hl 0 rfl) ?_
    refine pg_if_ne (tgt := 83) hx hb dX0_isClose_69 (by decide) (⟨by omega, by omega⟩) (fun hc2 => absurd hc2 (by omega)) (fun hc2 => ?_)
    have hbz : bx M = 0 := by rw [show M = 0 by omega]; rfl
    refine lv_lload hx hb dX0_isClose_72 (lv_at hl 1 rfl) ?_
    refine lv_lconst (v := lI 0) hx hb dX0_isClose_74 rfl ?_
    refine pg_lcmp hx hb dX0_isClose_75 (⟨by omega, by omega⟩) (⟨by omega, by omega⟩) (fun z3 hz3 => ?_)
    refine pg_if_ne (tgt := 83) hx hb dX0_isClose_76 (by decide) (⟨by omega, by omega⟩) (fun hc4 => absurd hc4 (by omega)) (fun hc4 => ?_)
    refine lv_iconst (v := iI 1) hx hb dX0_isClose_79 rfl ?_
    refine lv_goto (tgt := 84) hx hb dX0_isClose_80 (by decide) ?_
    exact pg_zret hx hb hr hlk  (iI_bool (by omega)) (congrArg (fun z : Int => some (Value.int (iI z))) (show 1 = 1 by omega)) dX0_isClose_84
  · have hM0 : M ≠ 0 := by omega
    have hbp := bx_pos hM0
    refine lv_lload hx hb dX0_isClose_60 (lv_at hl 1 rfl) ?_
    refine lv_lconst (v := lI 0) hx hb dX0_isClose_62 rfl ?_
    refine pg_lcmp hx hb dX0_isClose_63 (⟨by omega, by omega⟩) (⟨by omega, by omega⟩) (fun z5 hz5 => ?_)
    refine pg_if_ne (tgt := 85) hx hb dX0_isClose_64 (by decide) (⟨by omega, by omega⟩) (fun hc6 => ?_) (fun hc6 => absurd hc6 (by omega))
    have hpw : pw M ≤ 9 := pw_small (by omega)
    obtain ⟨u1, u2, -, -⟩ := un_spec hM0 hM
    have hcl := un_close hM0 hM
    rw [← mk_50 hM] at hcl
    obtain ⟨r1, hr1⟩ := cmp_ex ((un M - 1) * (un M - 1)) (M * 2 ^ (50 - 2 * pw M) * 2 ^ 54)
    obtain ⟨r2, hr2⟩ := cmp_ex ((un M + 1) * (un M + 1)) (M * 2 ^ (50 - 2 * pw M) * 2 ^ 54)
    have hmk := mk_lt (k := 50 - 2 * pw M) hM (by omega)
    refine lv_lload hx hb dX0_isClose_85 (lv_at hl 1 rfl) ?_
    refine pg_callS (As := [.long (lI (((bx M : Nat) : Int)))]) (rest := []) SC (c_X0_unitsM l M hM hM0) pT_st pT_h (va_cwS 1 hts gX0_isClose_X0_unitsOf rfl rfl rfl (by decide +kernel) ⟨Nat.le_of_ble_eq_true rfl, Nat.le_of_ble_eq_true rfl⟩) rfl hl.1 rfl (Nat.le_of_ble_eq_true rfl) dX0_isClose_87 ⟨Nat.zero_le _, Nat.zero_le _⟩ ?_
    refine lv_lstore (lv' := [(8, .long (lI (((un M : Nat) : Int)))), (7, .int (iI (((M : Nat) : Int)))), (5, .long (lI (((bx M : Nat) : Int)))), (4, .int (iI (dU S a b))), (3, .int (iI (dA S a b))), (0, .ref ((xa X 0))), (1, .int (iI (((a : Nat) : Int)))), (2, .int (iI (((b : Nat) : Int))))]) hx hb dX0_isClose_90 hl (by decide) rfl (fun ls hl => ?_)
    refine lv_lload hx hb dX0_isClose_92 (lv_at hl 2 rfl) ?_
    refine pg_callS (As := [.long (lI (((bx M : Nat) : Int)))]) (rest := []) SC (c_X0_placesM l M hM hM0) pT_st pT_h (va_cwS 1 hts gX0_isClose_X0_placesAfterPoint rfl rfl rfl (by decide +kernel) ⟨Nat.le_of_ble_eq_true rfl, Nat.le_of_ble_eq_true rfl⟩) rfl hl.1 rfl (Nat.le_of_ble_eq_true rfl) dX0_isClose_94 ⟨Nat.zero_le _, Nat.zero_le _⟩ ?_
    refine lv_istore (lv' := [(10, .int (iI (54 - (pw M : Int)))), (8, .long (lI (((un M : Nat) : Int)))), (7, .int (iI (((M : Nat) : Int)))), (5, .long (lI (((bx M : Nat) : Int)))), (4, .int (iI (dU S a b))), (3, .int (iI (dA S a b))), (0, .ref ((xa X 0))), (1, .int (iI (((a : Nat) : Int)))), (2, .int (iI (((b : Nat) : Int))))]) hx hb dX0_isClose_97 hl (by decide) rfl (fun ls hl => ?_)
    refine lv_lload hx hb dX0_isClose_99 (lv_at hl 1 rfl) ?_
    refine lv_lconst (v := lI 1) hx hb dX0_isClose_101 rfl ?_
    refine pg_lsub (z := ((un M - 1 : Nat) : Int)) hx hb dX0_isClose_102 (by omega) ?_
    refine lv_iload hx hb dX0_isClose_103 (lv_at hl 0 rfl) ?_
    refine lv_iload hx hb dX0_isClose_105 (lv_at hl 2 rfl) ?_
    refine pg_callS (As := [.long (lI (((un M - 1 : Nat) : Int))), .int (iI (54 - (pw M : Int))), .int (iI (((M : Nat) : Int)))]) (rest := []) SC (c_X0_compareSquare l (un M - 1) (50 - 2 * pw M) M (54 - (pw M : Int)) r1 (by omega) (by omega) (by omega) hmk hM hr1) pT_st pT_h (va_cwS 3 hts gX0_isClose_X0_compareSquare rfl rfl rfl (by decide +kernel) ⟨Nat.le_of_ble_eq_true rfl, Nat.le_of_ble_eq_true rfl⟩) rfl hl.1 rfl (Nat.le_of_ble_eq_true rfl) dX0_isClose_107 ⟨Nat.zero_le _, Nat.zero_le _⟩ ?_
    refine pg_if_gt (tgt := 131) hx hb dX0_isClose_110 (by decide) (⟨by omega, by omega⟩) (fun hc7 => absurd hc7 (by omega)) (fun hc7 => ?_)
    refine lv_lload hx hb dX0_isClose_113 (lv_at hl 1 rfl) ?_
    refine lv_lconst (v := lI 1) hx hb dX0_isClose_115 rfl ?_
    refine pg_ladd (z := ((un M + 1 : Nat) : Int)) hx hb dX0_isClose_116 (by omega) ?_
    refine lv_iload hx hb dX0_isClose_117 (lv_at hl 0 rfl) ?_
    refine lv_iload hx hb dX0_isClose_119 (lv_at hl 2 rfl) ?_
    refine pg_callS (As := [.long (lI (((un M + 1 : Nat) : Int))), .int (iI (54 - (pw M : Int))), .int (iI (((M : Nat) : Int)))]) (rest := []) SC (c_X0_compareSquare l (un M + 1) (50 - 2 * pw M) M (54 - (pw M : Int)) r2 (by omega) (by omega) (by omega) hmk hM hr2) pT_st pT_h (va_cwS 3 hts gX0_isClose_X0_compareSquare rfl rfl rfl (by decide +kernel) ⟨Nat.le_of_ble_eq_true rfl, Nat.le_of_ble_eq_true rfl⟩) rfl hl.1 rfl (Nat.le_of_ble_eq_true rfl) dX0_isClose_121 ⟨Nat.zero_le _, Nat.zero_le _⟩ ?_
    refine pg_if_lt (tgt := 131) hx hb dX0_isClose_124 (by decide) (⟨by omega, by omega⟩) (fun hc8 => absurd hc8 (by omega)) (fun hc8 => ?_)
    refine lv_iconst (v := iI 1) hx hb dX0_isClose_127 rfl ?_
    refine lv_goto (tgt := 132) hx hb dX0_isClose_128 (by decide) ?_
    exact pg_zret hx hb hr hlk  (iI_bool (by omega)) (congrArg (fun z : Int => some (Value.int (iI z))) (show 1 = 1 by omega)) dX0_isClose_132
set_option maxRecDepth 100000 in
set_option maxHeartbeats 4000000 in
theorem c_X0_isStraight_ok (l : Launch) (X : pgX) (S : pgS) (hok : pgOk S) (a b c2 : Nat) (ha : a < 12) (hb2 : b < 12) (hc2 : c2 < 12) (sa : sS S a = 1) (sb : sS S b = 1) (sc : sS S c2 = 1) : pg_ro l yX0_isStraight wsX0_isStraight (rm 3 70) (xB X S) [.ref ((xa X 0)), .int (iI (((a : Nat) : Int))), .int (iI (((b : Nat) : Int))), .int (iI (((c2 : Nat) : Int)))] (some (.int (iI 1))) := by
  refine pg_ro_of (cc := cX0_isStraight) (maxL := 4) (ret := (some .boolean)) (by decide) rfl (Nat.le_of_ble_eq_true rfl) ?_
  intro p e s m below meth c ls SC hr hlk hB hl
  obtain ⟨hx, hb, hml, hown, hts⟩ := id SC
  have hown : s.vm.findClass RX0 = some m.cls := hown
  obtain ⟨hP, hK⟩ := id hB
  have hl : lv_has ls 4 [(0, .ref ((xa X 0))), (1, .int (iI (((a : Nat) : Int)))), (2, .int (iI (((b : Nat) : Int)))), (3, .int (iI (((c2 : Nat) : Int))))] := hl
  have t1 := gN_lt hok a c2
  have t2 := gN_lt hok a b
  have t3 := gN_lt hok b c2
  have t4 := gN_tri S a b c2
  refine lv_iload_n hx hb dX0_isStraight_0 rfl (lv_at hl 1 rfl) ?_
  refine pg_callSv (As := [.int (iI (((a : Nat) : Int)))]) (rest := []) SC (c_X0_requirePeg_ok l (((a : Nat) : Int)) ⟨by omega, by omega⟩) pT_st pT_h (va_cwS 1 hts gX0_isStraight_X0_requirePeg rfl rfl rfl (by decide +kernel) ⟨Nat.le_of_ble_eq_true rfl, Nat.le_of_ble_eq_true rfl⟩) rfl hl.1 rfl (Nat.le_of_ble_eq_true rfl) dX0_isStraight_1 ⟨Nat.zero_le _, Nat.zero_le _⟩ ?_
  refine lv_iload_n hx hb dX0_isStraight_4 rfl (lv_at hl 2 rfl) ?_
  refine pg_callSv (As := [.int (iI (((b : Nat) : Int)))]) (rest := []) SC (c_X0_requirePeg_ok l (((b : Nat) : Int)) ⟨by omega, by omega⟩) pT_st pT_h (va_cwS 1 hts gX0_isStraight_X0_requirePeg rfl rfl rfl (by decide +kernel) ⟨Nat.le_of_ble_eq_true rfl, Nat.le_of_ble_eq_true rfl⟩) rfl hl.1 rfl (Nat.le_of_ble_eq_true rfl) dX0_isStraight_5 ⟨Nat.zero_le _, Nat.zero_le _⟩ ?_
  refine lv_iload_n hx hb dX0_isStraight_8 rfl (lv_at hl 3 rfl) ?_
  refine pg_callSv (As := [.int (iI (((c2 : Nat) : Int)))]) (rest := []) SC (c_X0_requirePeg_ok l (((c2 : Nat) : Int)) ⟨by omega, by omega⟩) pT_st pT_h (va_cwS 1 hts gX0_isStraight_X0_requirePeg rfl rfl rfl (by decide +kernel) ⟨Nat.le_of_ble_eq_true rfl, Nat.le_of_ble_eq_true rfl⟩) rfl hl.1 rfl (Nat.le_of_ble_eq_true rfl) dX0_isStraight_9 ⟨Nat.zero_le _, Nat.zero_le _⟩ ?_
  refine lv_aload_n hx hb dX0_isStraight_12 rfl (lv_at hl 0 rfl) ?_
  refine lv_iload_n hx hb dX0_isStraight_13 rfl (lv_at hl 1 rfl) ?_
  refine pg_callVv (As := [.int (iI (((a : Nat) : Int)))]) (rest := []) SC (c_X0_requireStanding_ok l X S a ha sa) xB_st (xB_h hP hK) (cwV 1 hts gX0_isStraight_X0_requireStanding rfl rfl rfl (by decide +kernel) ⟨Nat.le_of_ble_eq_true rfl, Nat.le_of_ble_eq_true rfl⟩) (va_recv hK hP (ci := 0) (q0 := 0) rfl rfl) rfl hl.1 rfl (Nat.le_of_ble_eq_true rfl) dX0_isStraight_14 ⟨Nat.zero_le _, Nat.zero_le _⟩ ?_
  refine lv_aload_n hx hb dX0_isStraight_17 rfl (lv_at hl 0 rfl) ?_
  refine lv_iload_n hx hb dX0_isStraight_18 rfl (lv_at hl 2 rfl) ?_
  refine pg_callVv (As := [.int (iI (((b : Nat) : Int)))]) (rest := []) SC (c_X0_requireStanding_ok l X S b hb2 sb) xB_st (xB_h hP hK) (cwV 1 hts gX0_isStraight_X0_requireStanding rfl rfl rfl (by decide +kernel) ⟨Nat.le_of_ble_eq_true rfl, Nat.le_of_ble_eq_true rfl⟩) (va_recv hK hP (ci := 0) (q0 := 0) rfl rfl) rfl hl.1 rfl (Nat.le_of_ble_eq_true rfl) dX0_isStraight_19 ⟨Nat.zero_le _, Nat.zero_le _⟩ ?_
  refine lv_aload_n hx hb dX0_isStraight_22 rfl (lv_at hl 0 rfl) ?_
  refine lv_iload_n hx hb dX0_isStraight_23 rfl (lv_at hl 3 rfl) ?_
  refine pg_callVv (As := [.int (iI (((c2 : Nat) : Int)))]) (rest := []) SC (c_X0_requireStanding_ok l X S c2 hc2 sc) xB_st (xB_h hP hK) (cwV 1 hts gX0_isStraight_X0_requireStanding rfl rfl rfl (by decide +kernel) ⟨Nat.le_of_ble_eq_true rfl, Nat.le_of_ble_eq_true rfl⟩) (va_recv hK hP (ci := 0) (q0 := 0) rfl rfl) rfl hl.1 rfl (Nat.le_of_ble_eq_true rfl) dX0_isStraight_24 ⟨Nat.zero_le _, Nat.zero_le _⟩ ?_
  refine lv_aload_n hx hb dX0_isStraight_27 rfl (lv_at hl 0 rfl) ?_
  refine lv_iload_n hx hb dX0_isStraight_28 rfl (lv_at hl 1 rfl) ?_
  refine lv_iload_n hx hb dX0_isStraight_29 rfl (lv_at hl 3 rfl) ?_
  refine pg_callV (As := [.int (iI (((a : Nat) : Int))), .int (iI (((c2 : Nat) : Int)))]) (rest := []) SC (c_X0_stretchGrains l X S hok a c2 ha hc2) xB_st (xB_h hP hK) (cwV 2 hts gX0_isStraight_X0_stretchGrains rfl rfl rfl (by decide +kernel) ⟨Nat.le_of_ble_eq_true rfl, Nat.le_of_ble_eq_true rfl⟩) (va_recv hK hP (ci := 0) (q0 := 0) rfl rfl) rfl hl.1 rfl (Nat.le_of_ble_eq_true rfl) dX0_isStraight_30 ⟨Nat.zero_le _, Nat.zero_le _⟩ ?_
  refine lv_aload_n hx hb dX0_isStraight_33 rfl (lv_at hl 0 rfl) ?_
  refine lv_iload_n hx hb dX0_isStraight_34 rfl (lv_at hl 1 rfl) ?_
  refine lv_iload_n hx hb dX0_isStraight_35 rfl (lv_at hl 2 rfl) ?_
  refine pg_callV (As := [.int (iI (((a : Nat) : Int))), .int (iI (((b : Nat) : Int)))]) (rest := [.int (iI (((gN S a c2 : Nat) : Int)))]) SC (c_X0_stretchGrains l X S hok a b ha hb2) xB_st (xB_h hP hK) (cwV 2 hts gX0_isStraight_X0_stretchGrains rfl rfl rfl (by decide +kernel) ⟨Nat.le_of_ble_eq_true rfl, Nat.le_of_ble_eq_true rfl⟩) (va_recv hK hP (ci := 0) (q0 := 0) rfl rfl) rfl hl.1 rfl (Nat.le_of_ble_eq_true rfl) dX0_isStraight_36 ⟨Nat.zero_le _, Nat.zero_le _⟩ ?_
  refine lv_aload_n hx hb dX0_isStraight_39 rfl (lv_at hl 0 rfl) ?_
  refine lv_iload_n hx hb dX0_isStraight_40 rfl (lv_at hl 2 rfl) ?_
  refine lv_iload_n hx hb dX0_isStraight_41 rfl (lv_at hl 3 rfl) ?_
  refine pg_callV (As := [.int (iI (((b : Nat) : Int))), .int (iI (((c2 : Nat) : Int)))]) (rest := [.int (iI (((gN S a b : Nat) : Int))), .int (iI (((gN S a c2 : Nat) : Int)))]) SC (c_X0_stretchGrains l X S hok b c2 hb2 hc2) xB_st (xB_h hP hK) (cwV 2 hts gX0_isStraight_X0_stretchGrains rfl rfl rfl (by decide +kernel) ⟨Nat.le_of_ble_eq_true rfl, Nat.le_of_ble_eq_true rfl⟩) (va_recv hK hP (ci := 0) (q0 := 0) rfl rfl) rfl hl.1 rfl (Nat.le_of_ble_eq_true rfl) dX0_isStraight_42 ⟨Nat.zero_le _, Nat.zero_le _⟩ ?_
  refine pg_iadd (z := (((gN S a b : Nat) : Int)) + (((gN S b c2 : Nat) : Int))) hx hb dX0_isStraight_45 (rfl) ?_
  refine lv_iconst (v := iI 1) hx hb dX0_isStraight_46 rfl ?_
  refine pg_iadd (z := ((((gN S a b : Nat) : Int)) + (((gN S b c2 : Nat) : Int))) + 1) hx hb dX0_isStraight_47 (rfl) ?_
  refine pg_icmp_gt (tgt := 55) hx hb dX0_isStraight_48 (by decide) (⟨by omega, by omega⟩) (⟨by omega, by omega⟩) (fun hc1 => absurd hc1 (by omega)) (fun hc1 => ?_)
  refine lv_iconst (v := iI 1) hx hb dX0_isStraight_51 rfl ?_
  refine lv_goto (tgt := 56) hx hb dX0_isStraight_52 (by decide) ?_
  exact pg_zret hx hb hr hlk  (iI_bool (by omega)) (congrArg (fun z : Int => some (Value.int (iI z))) (show 1 = 1 by omega)) dX0_isStraight_56
set_option maxRecDepth 100000 in
set_option maxHeartbeats 4000000 in
theorem c_X0_isThere_ok (l : Launch) (X : pgX) (S : pgS) (hok : pgOk S) (k : Nat) (hk : k < 12)  : pg_ro l yX0_isThere wsX0_isThere (rm 2 41) (xB X S) [.ref ((xa X 0)), .int (iI (((k : Nat) : Int)))] (some (.int (iI (((sS S k : Nat) : Int))))) := by
  refine pg_ro_of (cc := cX0_isThere) (maxL := 2) (ret := (some .boolean)) (by decide) rfl (Nat.le_of_ble_eq_true rfl) ?_
  intro p e s m below meth c ls SC hr hlk hB hl
  obtain ⟨hx, hb, hml, hown, hts⟩ := id SC
  have hown : s.vm.findClass RX0 = some m.cls := hown
  obtain ⟨hP, hK⟩ := id hB
  have hl : lv_has ls 2 [(0, .ref ((xa X 0))), (1, .int (iI (((k : Nat) : Int))))] := hl
  have h1 := hok.1 k
  refine lv_iload_n hx hb dX0_isThere_0 rfl (lv_at hl 1 rfl) ?_
  refine pg_callSv (As := [.int (iI (((k : Nat) : Int)))]) (rest := []) SC (c_X0_requirePeg_ok l (((k : Nat) : Int)) ⟨by omega, by omega⟩) pT_st pT_h (va_cwS 1 hts gX0_isThere_X0_requirePeg rfl rfl rfl (by decide +kernel) ⟨Nat.le_of_ble_eq_true rfl, Nat.le_of_ble_eq_true rfl⟩) rfl hl.1 rfl (Nat.le_of_ble_eq_true rfl) dX0_isThere_1 ⟨Nat.zero_le _, Nat.zero_le _⟩ ?_
  refine lv_aload_n hx hb dX0_isThere_4 rfl (lv_at hl 0 rfl) ?_
  refine lv_iload_n hx hb dX0_isThere_5 rfl (lv_at hl 1 rfl) ?_
  refine pg_callV (As := [.int (iI (((k : Nat) : Int)))]) (rest := []) SC (c_X0_stands l X S k hk h1) xB_st (xB_h hP hK) (cwV 1 hts gX0_isThere_X0_stands rfl rfl rfl (by decide +kernel) ⟨Nat.le_of_ble_eq_true rfl, Nat.le_of_ble_eq_true rfl⟩) (va_recv hK hP (ci := 0) (q0 := 0) rfl rfl) rfl hl.1 rfl (Nat.le_of_ble_eq_true rfl) dX0_isThere_6 ⟨Nat.zero_le _, Nat.zero_le _⟩ ?_
  exact pg_zret hx hb hr hlk  (iI_bool (by omega)) (congrArg (fun z : Int => some (Value.int (iI z))) (show ((sS S k : Nat) : Int) = ((sS S k : Nat) : Int) by rfl)) dX0_isThere_9
set_option maxRecDepth 100000 in
set_option maxHeartbeats 4000000 in
theorem c_X0_placeOf_ok (l : Launch) (X : pgX) (S : pgS) (k : Nat) (hk : k < 12) (h1 : sS S k = 1) : pg_ro l yX0_placeOf wsX0_placeOf (rm 3 62) (xB X S) [.ref ((xa X 0)), .int (iI (((k : Nat) : Int)))] (some (.int (iI (((sU S k * 91 + sA S k : Nat) : Int))))) := by
  refine pg_ro_of (cc := cX0_placeOf) (maxL := 2) (ret := (some .int)) (by decide) rfl (Nat.le_of_ble_eq_true rfl) ?_
  intro p e s m below meth c ls SC hr hlk hB hl
  obtain ⟨hx, hb, hml, hown, hts⟩ := id SC
  have hown : s.vm.findClass RX0 = some m.cls := hown
  obtain ⟨hP, hK⟩ := id hB
  have hl : lv_has ls 2 [(0, .ref ((xa X 0))), (1, .int (iI (((k : Nat) : Int))))] := hl
  refine lv_iload_n hx hb dX0_placeOf_0 rfl (lv_at hl 1 rfl) ?_
  refine pg_callSv (As := [.int (iI (((k : Nat) : Int)))]) (rest := []) SC (c_X0_requirePeg_ok l (((k : Nat) : Int)) ⟨by omega, by omega⟩) pT_st pT_h (va_cwS 1 hts gX0_placeOf_X0_requirePeg rfl rfl rfl (by decide +kernel) ⟨Nat.le_of_ble_eq_true rfl, Nat.le_of_ble_eq_true rfl⟩) rfl hl.1 rfl (Nat.le_of_ble_eq_true rfl) dX0_placeOf_1 ⟨Nat.zero_le _, Nat.zero_le _⟩ ?_
  refine lv_aload_n hx hb dX0_placeOf_4 rfl (lv_at hl 0 rfl) ?_
  refine lv_iload_n hx hb dX0_placeOf_5 rfl (lv_at hl 1 rfl) ?_
  refine pg_callVv (As := [.int (iI (((k : Nat) : Int)))]) (rest := []) SC (c_X0_requireStanding_ok l X S k hk h1) xB_st (xB_h hP hK) (cwV 1 hts gX0_placeOf_X0_requireStanding rfl rfl rfl (by decide +kernel) ⟨Nat.le_of_ble_eq_true rfl, Nat.le_of_ble_eq_true rfl⟩) (va_recv hK hP (ci := 0) (q0 := 0) rfl rfl) rfl hl.1 rfl (Nat.le_of_ble_eq_true rfl) dX0_placeOf_6 ⟨Nat.zero_le _, Nat.zero_le _⟩ ?_
  refine lv_aload_n hx hb dX0_placeOf_9 rfl (lv_at hl 0 rfl) ?_
  refine lv_iload_n hx hb dX0_placeOf_10 rfl (lv_at hl 1 rfl) ?_
  refine pg_callV (As := [.int (iI (((k : Nat) : Int)))]) (rest := []) SC (c_X0_up l X S k hk) xB_st (xB_h hP hK) (cwV 1 hts gX0_placeOf_X0_up rfl rfl rfl (by decide +kernel) ⟨Nat.le_of_ble_eq_true rfl, Nat.le_of_ble_eq_true rfl⟩) (va_recv hK hP (ci := 0) (q0 := 0) rfl rfl) rfl hl.1 rfl (Nat.le_of_ble_eq_true rfl) dX0_placeOf_11 ⟨Nat.zero_le _, Nat.zero_le _⟩ ?_
  refine lv_bipush (v := iI 91) hx hb dX0_placeOf_14 (by decide +kernel) ?_
  refine pg_imul (z := (((sU S k : Nat) : Int)) * 91) hx hb dX0_placeOf_16 (rfl) ?_
  refine lv_aload_n hx hb dX0_placeOf_17 rfl (lv_at hl 0 rfl) ?_
  refine lv_iload_n hx hb dX0_placeOf_18 rfl (lv_at hl 1 rfl) ?_
  refine pg_callV (As := [.int (iI (((k : Nat) : Int)))]) (rest := [.int (iI ((((sU S k : Nat) : Int)) * 91))]) SC (c_X0_across l X S k hk) xB_st (xB_h hP hK) (cwV 1 hts gX0_placeOf_X0_across rfl rfl rfl (by decide +kernel) ⟨Nat.le_of_ble_eq_true rfl, Nat.le_of_ble_eq_true rfl⟩) (va_recv hK hP (ci := 0) (q0 := 0) rfl rfl) rfl hl.1 rfl (Nat.le_of_ble_eq_true rfl) dX0_placeOf_19 ⟨Nat.zero_le _, Nat.zero_le _⟩ ?_
  refine pg_iadd (z := ((((sU S k : Nat) : Int)) * 91) + (((sA S k : Nat) : Int))) hx hb dX0_placeOf_22 (rfl) ?_
  exact pg_iret hx hb hr hlk  (congrArg (fun z : Int => some (Value.int (iI z))) (show ((sU S k * 91 + sA S k : Nat) : Int) = ((((sU S k : Nat) : Int)) * 91) + (((sA S k : Nat) : Int)) by omega)) dX0_placeOf_23
set_option maxRecDepth 100000 in
set_option maxHeartbeats 4000000 in
theorem c_X0_stretch_ok (l : Launch) (X : pgX) (S : pgS) (hok : pgOk S) (a b : Nat) (ha : a < 12) (hb2 : b < 12) (sa : sS S a = 1) (sb : sS S b = 1) : pg_ro l yX0_stretch wsX0_stretch (rm 4 84) (xB X S) [.ref ((xa X 0)), .int (iI (((a : Nat) : Int))), .int (iI (((b : Nat) : Int)))] (some (.int (iI (((gN S a b : Nat) : Int))))) := by
  refine pg_ro_of (cc := cX0_stretch) (maxL := 3) (ret := (some .int)) (by decide) rfl (Nat.le_of_ble_eq_true rfl) ?_
  intro p e s m below meth c ls SC hr hlk hB hl
  obtain ⟨hx, hb, hml, hown, hts⟩ := id SC
  have hown : s.vm.findClass RX0 = some m.cls := hown
  obtain ⟨hP, hK⟩ := id hB
  have hl : lv_has ls 3 [(0, .ref ((xa X 0))), (1, .int (iI (((a : Nat) : Int)))), (2, .int (iI (((b : Nat) : Int))))] := hl
  refine lv_aload_n hx hb dX0_stretch_0 rfl (lv_at hl 0 rfl) ?_
  refine lv_iload_n hx hb dX0_stretch_1 rfl (lv_at hl 1 rfl) ?_
  refine lv_iload_n hx hb dX0_stretch_2 rfl (lv_at hl 2 rfl) ?_
  refine pg_callVv (As := [.int (iI (((a : Nat) : Int))), .int (iI (((b : Nat) : Int)))]) (rest := []) SC (c_X0_requireTwo_ok l X S a b ha hb2 sa sb) xB_st (xB_h hP hK) (cwV 2 hts gX0_stretch_X0_requireTwo rfl rfl rfl (by decide +kernel) ⟨Nat.le_of_ble_eq_true rfl, Nat.le_of_ble_eq_true rfl⟩) (va_recv hK hP (ci := 0) (q0 := 0) rfl rfl) rfl hl.1 rfl (Nat.le_of_ble_eq_true rfl) dX0_stretch_3 ⟨Nat.zero_le _, Nat.zero_le _⟩ ?_
  refine lv_aload_n hx hb dX0_stretch_6 rfl (lv_at hl 0 rfl) ?_
  refine lv_iload_n hx hb dX0_stretch_7 rfl (lv_at hl 1 rfl) ?_
  refine lv_iload_n hx hb dX0_stretch_8 rfl (lv_at hl 2 rfl) ?_
  refine pg_callV (As := [.int (iI (((a : Nat) : Int))), .int (iI (((b : Nat) : Int)))]) (rest := []) SC (c_X0_stretchGrains l X S hok a b ha hb2) xB_st (xB_h hP hK) (cwV 2 hts gX0_stretch_X0_stretchGrains rfl rfl rfl (by decide +kernel) ⟨Nat.le_of_ble_eq_true rfl, Nat.le_of_ble_eq_true rfl⟩) (va_recv hK hP (ci := 0) (q0 := 0) rfl rfl) rfl hl.1 rfl (Nat.le_of_ble_eq_true rfl) dX0_stretch_9 ⟨Nat.zero_le _, Nat.zero_le _⟩ ?_
  exact pg_iret hx hb hr hlk  (congrArg (fun z : Int => some (Value.int (iI z))) (show ((gN S a b : Nat) : Int) = ((gN S a b : Nat) : Int) by rfl)) dX0_stretch_12
