set_option maxRecDepth 100000 in
set_option maxHeartbeats 4000000 in
theorem c_X1_isThrown (l : Launch) (X : pgX) (S : pgS) (t : Int) (b as9 t2 : Int) (hb9 : inI b) (h : (b = 0 ∧ t2 = 0) ∨ (b = 1 ∧ t2 = as9)) : pg_wr l yX1_isThrown wsX1_isThrown (rm 0 0) (xG X) (xTy X) pT (mC X S t) (mC X S t2) 0 0 [.ref ((xa X 0)), .int (iI b), .int (iI as9)] (some (.int (iI b))) := by
  refine pg_wr_of (cc := cX1_isThrown) (maxL := 3) (ret := (some .boolean)) (by decide) rfl (Nat.le_of_ble_eq_true rfl) ?_
  intro p e s m below meth c ls SC hr hlk hP hK hD hS hB hl
  obtain ⟨hx, hb, hml, hown, hts⟩ := id SC
  have hown : s.vm.findClass RX1 = some m.cls := hown
  have hl : lv_has ls 3 [(0, .ref ((xa X 0))), (1, .int (iI b)), (2, .int (iI as9))] := hl
  have hin : ∀ w ∈ u_ws RX1 TX1 7, w ∈ wsX1_isThrown := by decide +kernel
  refine lv_aload_n hx hb dX1_isThrown_0 rfl (lv_at hl 0 rfl) ?_
  refine lv_iload_n hx hb dX1_isThrown_1 rfl (lv_at hl 1 rfl) ?_
  refine pg_if_eq (tgt := 9) hx hb dX1_isThrown_2 (by decide) (⟨by omega, by omega⟩) (fun hc1 => ?_) (fun hc1 => ?_)
  · refine lv_iconst (v := iI 0) hx hb dX1_isThrown_9 rfl ?_
    refine va_put (D := xG X) (ci := 1) (v := .int (iI 0)) (ty := .int) (C := RX1) (T := TX1) (N := 7) hx hb hts hin tyX1 tyX1_ok nmX1 hown hK hP hD hS 0 rfl rfl 0 (by decide) (hts (.fieldLink RX1 23 "PegfieldModel" "thrown" "I") (by decide +kernel)) (fun _ h9 => h9) rfl (by decide +kernel) rfl rfl (Nat.le_of_ble_eq_true rfl) dX1_isThrown_10 (fun H locs hP hD hS => ?_)
    have hP : va_P (xG X) vwCl ([(xa X 0, .inr (1, [.int (iI 0), .ref ((xa X 1)), .ref ((xa X 2)), .ref ((xa X 3)), .ref ((xa X 4)), .int (iI (((sN S : Nat) : Int))), .int (iI (((sW S : Nat) : Int)))])), (xa X 1, .inl (xZ X, 12, .inl (fI (sS S)))), (xa X 2, .inl (xI X, 12, .inl (fI (sA S)))), (xa X 3, .inl (xI X, 12, .inl (fI (sU S)))), (xa X 4, .inl (xI X, 12, .inl (fI (sR S))))]) H := hP
    have hD : va_D (pg_in ((mC X S t))) ([(xa X 0, .inr (1, [.int (iI 0), .ref ((xa X 1)), .ref ((xa X 2)), .ref ((xa X 3)), .ref ((xa X 4)), .int (iI (((sN S : Nat) : Int))), .int (iI (((sW S : Nat) : Int)))])), (xa X 1, .inl (xZ X, 12, .inl (fI (sS S)))), (xa X 2, .inl (xI X, 12, .inl (fI (sA S)))), (xa X 3, .inl (xI X, 12, .inl (fI (sU S)))), (xa X 4, .inl (xI X, 12, .inl (fI (sR S))))]) := hD
    have hP : va_P (xG X) vwCl (mC X S t2) H := by first | exact hP | (rw [show t2 = as9 by omega]; exact hP) | (rw [show t2 = 0 by omega]; exact hP)
    refine lv_iload_n hx hb dX1_isThrown_13 rfl (lv_at hl 1 rfl) ?_
    exact pg_wzret hx hb hr hlk hP hS  (iI_bool (by omega)) (congrArg (fun z : Int => some (Value.int (iI z))) (show b = b by rfl)) dX1_isThrown_14
  · refine lv_iload_n hx hb dX1_isThrown_5 rfl (lv_at hl 2 rfl) ?_
    refine lv_goto (tgt := 10) hx hb dX1_isThrown_6 (by decide) ?_
    refine va_put (D := xG X) (ci := 1) (v := .int (iI as9)) (ty := .int) (C := RX1) (T := TX1) (N := 7) hx hb hts hin tyX1 tyX1_ok nmX1 hown hK hP hD hS 0 rfl rfl 0 (by decide) (hts (.fieldLink RX1 23 "PegfieldModel" "thrown" "I") (by decide +kernel)) (fun _ h9 => h9) rfl (by decide +kernel) rfl rfl (Nat.le_of_ble_eq_true rfl) dX1_isThrown_10 (fun H locs hP hD hS => ?_)
    have hP : va_P (xG X) vwCl ([(xa X 0, .inr (1, [.int (iI as9), .ref ((xa X 1)), .ref ((xa X 2)), .ref ((xa X 3)), .ref ((xa X 4)), .int (iI (((sN S : Nat) : Int))), .int (iI (((sW S : Nat) : Int)))])), (xa X 1, .inl (xZ X, 12, .inl (fI (sS S)))), (xa X 2, .inl (xI X, 12, .inl (fI (sA S)))), (xa X 3, .inl (xI X, 12, .inl (fI (sU S)))), (xa X 4, .inl (xI X, 12, .inl (fI (sR S))))]) H := hP
    have hD : va_D (pg_in ((mC X S t))) ([(xa X 0, .inr (1, [.int (iI as9), .ref ((xa X 1)), .ref ((xa X 2)), .ref ((xa X 3)), .ref ((xa X 4)), .int (iI (((sN S : Nat) : Int))), .int (iI (((sW S : Nat) : Int)))])), (xa X 1, .inl (xZ X, 12, .inl (fI (sS S)))), (xa X 2, .inl (xI X, 12, .inl (fI (sA S)))), (xa X 3, .inl (xI X, 12, .inl (fI (sU S)))), (xa X 4, .inl (xI X, 12, .inl (fI (sR S))))]) := hD
    have hP : va_P (xG X) vwCl (mC X S t2) H := by first | exact hP | (rw [show t2 = as9 by omega]; exact hP) | (rw [show t2 = 0 by omega]; exact hP)
    refine lv_iload_n hx hb dX1_isThrown_13 rfl (lv_at hl 1 rfl) ?_
    exact pg_wzret hx hb hr hlk hP hS  (iI_bool (by omega)) (congrArg (fun z : Int => some (Value.int (iI z))) (show b = b by rfl)) dX1_isThrown_14
set_option maxRecDepth 100000 in
set_option maxHeartbeats 4000000 in
theorem c_X1_isNoNumber_ok (l : Launch) (X : pgX) (S : pgS) (t : Int) (pp : Int) (h : 0 ≤ pp ∧ pp < 12) : pg_wr l yX1_isNoNumber wsX1_isNoNumber (rm 1 22) (xG X) (xTy X) pT (mC X S t) (mC X S 0) 0 0 [.ref ((xa X 0)), .int (iI pp)] (some (.int (iI 0))) := by
  refine pg_wr_of (cc := cX1_isNoNumber) (maxL := 2) (ret := (some .boolean)) (by decide) rfl (Nat.le_of_ble_eq_true rfl) ?_
  intro p e s m below meth c ls SC hr hlk hP hK hD hS hB hl
  obtain ⟨hx, hb, hml, hown, hts⟩ := id SC
  have hown : s.vm.findClass RX1 = some m.cls := hown
  have hl : lv_has ls 2 [(0, .ref ((xa X 0))), (1, .int (iI pp))] := hl
  refine lv_aload_n hx hb dX1_isNoNumber_0 rfl (lv_at hl 0 rfl) ?_
  refine lv_iload_n hx hb dX1_isNoNumber_1 rfl (lv_at hl 1 rfl) ?_
  refine lv_iconst (v := iI 0) hx hb dX1_isNoNumber_2 rfl ?_
  refine lv_bipush (v := iI 11) hx hb dX1_isNoNumber_3 (by decide +kernel) ?_
  refine pg_callS (As := [.int (iI pp), .int (iI 0), .int (iI 11)]) (rest := [.ref ((xa X 0))]) SC (c_X1_lies l pp 0 11 1 ⟨by omega, by omega⟩ ⟨by omega, by omega⟩ ⟨by omega, by omega⟩ (by omega)) pT_st pT_h (va_cwS 3 hts gX1_isNoNumber_X1_lies rfl rfl rfl (by decide +kernel) ⟨Nat.le_of_ble_eq_true rfl, Nat.le_of_ble_eq_true rfl⟩) rfl hl.1 rfl (Nat.le_of_ble_eq_true rfl) dX1_isNoNumber_5 ⟨Nat.zero_le _, Nat.zero_le _⟩ ?_
  refine pg_if_ne (tgt := 15) hx hb dX1_isNoNumber_8 (by decide) (⟨by omega, by omega⟩) (fun hc1 => ?_) (fun hc1 => absurd hc1 (by omega))
  refine lv_iconst (v := iI 0) hx hb dX1_isNoNumber_15 rfl ?_
  refine lv_iconst (v := iI 1) hx hb dX1_isNoNumber_16 rfl ?_
  refine pg_wcallV (As := [.int (iI 0), .int (iI 1)]) (rest := []) (l1 := []) (l2 := []) (w := [(xa X 0, .inr (1, [.int (iI t), .ref ((xa X 1)), .ref ((xa X 2)), .ref ((xa X 3)), .ref ((xa X 4)), .int (iI (((sN S : Nat) : Int))), .int (iI (((sW S : Nat) : Int)))])), (xa X 1, .inl (xZ X, 12, .inl (fI (sS S)))), (xa X 2, .inl (xI X, 12, .inl (fI (sA S)))), (xa X 3, .inl (xI X, 12, .inl (fI (sU S)))), (xa X 4, .inl (xI X, 12, .inl (fI (sR S))))]) (w' := [(xa X 0, .inr (1, [.int (iI 0), .ref ((xa X 1)), .ref ((xa X 2)), .ref ((xa X 3)), .ref ((xa X 4)), .int (iI (((sN S : Nat) : Int))), .int (iI (((sW S : Nat) : Int)))])), (xa X 1, .inl (xZ X, 12, .inl (fI (sS S)))), (xa X 2, .inl (xI X, 12, .inl (fI (sA S)))), (xa X 3, .inl (xI X, 12, .inl (fI (sU S)))), (xa X 4, .inl (xI X, 12, .inl (fI (sR S))))]) SC (c_X1_isThrown l X S t 0 1 0 ⟨by omega, by omega⟩ (by omega)) pT_st pT_h (cwV 2 hts gX1_isNoNumber_X1_isThrown rfl rfl rfl (by decide +kernel) ⟨Nat.le_of_ble_eq_true rfl, Nat.le_of_ble_eq_true rfl⟩) (va_recv hK hP (ci := 1) (q0 := 0) rfl rfl) hK hP hD hS rfl rfl hl.1 rfl (Nat.le_of_ble_eq_true rfl) dX1_isNoNumber_17 ⟨Nat.zero_le _, Nat.zero_le _⟩ (fun H locs hP hD hS => ?_)
  have hP : va_P (xG X) vwCl ([(xa X 0, .inr (1, [.int (iI 0), .ref ((xa X 1)), .ref ((xa X 2)), .ref ((xa X 3)), .ref ((xa X 4)), .int (iI (((sN S : Nat) : Int))), .int (iI (((sW S : Nat) : Int)))])), (xa X 1, .inl (xZ X, 12, .inl (fI (sS S)))), (xa X 2, .inl (xI X, 12, .inl (fI (sA S)))), (xa X 3, .inl (xI X, 12, .inl (fI (sU S)))), (xa X 4, .inl (xI X, 12, .inl (fI (sR S))))]) H := hP
  have hD : va_D (pg_in ((mC X S t))) ([(xa X 0, .inr (1, [.int (iI 0), .ref ((xa X 1)), .ref ((xa X 2)), .ref ((xa X 3)), .ref ((xa X 4)), .int (iI (((sN S : Nat) : Int))), .int (iI (((sW S : Nat) : Int)))])), (xa X 1, .inl (xZ X, 12, .inl (fI (sS S)))), (xa X 2, .inl (xI X, 12, .inl (fI (sA S)))), (xa X 3, .inl (xI X, 12, .inl (fI (sU S)))), (xa X 4, .inl (xI X, 12, .inl (fI (sR S))))]) := hD
  exact pg_wzret hx hb hr hlk hP hS  (iI_bool (by omega)) (congrArg (fun z : Int => some (Value.int (iI z))) (show 0 = 0 by omega)) dX1_isNoNumber_20
set_option maxRecDepth 100000 in
set_option maxHeartbeats 4000000 in
theorem c_X1_isNoNumber_1 (l : Launch) (X : pgX) (S : pgS) (t : Int) (pp : Int) (hp : inI pp) (h : pp < 0 ∨ 12 ≤ pp)  : pg_wr l yX1_isNoNumber wsX1_isNoNumber (rm 1 22) (xG X) (xTy X) pT (mC X S t) (mC X S 1) 0 0 [.ref ((xa X 0)), .int (iI pp)] (some (.int (iI 1))) := by
  refine pg_wr_of (cc := cX1_isNoNumber) (maxL := 2) (ret := (some .boolean)) (by decide) rfl (Nat.le_of_ble_eq_true rfl) ?_
  intro p e s m below meth c ls SC hr hlk hP hK hD hS hB hl
  obtain ⟨hx, hb, hml, hown, hts⟩ := id SC
  have hown : s.vm.findClass RX1 = some m.cls := hown
  have hl : lv_has ls 2 [(0, .ref ((xa X 0))), (1, .int (iI pp))] := hl
  refine lv_aload_n hx hb dX1_isNoNumber_0 rfl (lv_at hl 0 rfl) ?_
  refine lv_iload_n hx hb dX1_isNoNumber_1 rfl (lv_at hl 1 rfl) ?_
  refine lv_iconst (v := iI 0) hx hb dX1_isNoNumber_2 rfl ?_
  refine lv_bipush (v := iI 11) hx hb dX1_isNoNumber_3 (by decide +kernel) ?_
  refine pg_callS (As := [.int (iI pp), .int (iI 0), .int (iI 11)]) (rest := [.ref ((xa X 0))]) SC (c_X1_lies l pp 0 11 0 ⟨by omega, by omega⟩ ⟨by omega, by omega⟩ ⟨by omega, by omega⟩ (by omega)) pT_st pT_h (va_cwS 3 hts gX1_isNoNumber_X1_lies rfl rfl rfl (by decide +kernel) ⟨Nat.le_of_ble_eq_true rfl, Nat.le_of_ble_eq_true rfl⟩) rfl hl.1 rfl (Nat.le_of_ble_eq_true rfl) dX1_isNoNumber_5 ⟨Nat.zero_le _, Nat.zero_le _⟩ ?_
  refine pg_if_ne (tgt := 15) hx hb dX1_isNoNumber_8 (by decide) (⟨by omega, by omega⟩) (fun hc1 => absurd hc1 (by omega)) (fun hc1 => ?_)
  refine lv_iconst (v := iI 1) hx hb dX1_isNoNumber_11 rfl ?_
  refine lv_goto (tgt := 16) hx hb dX1_isNoNumber_12 (by decide) ?_
  refine lv_iconst (v := iI 1) hx hb dX1_isNoNumber_16 rfl ?_
  refine pg_wcallV (As := [.int (iI 1), .int (iI 1)]) (rest := []) (l1 := []) (l2 := []) (w := [(xa X 0, .inr (1, [.int (iI t), .ref ((xa X 1)), .ref ((xa X 2)), .ref ((xa X 3)), .ref ((xa X 4)), .int (iI (((sN S : Nat) : Int))), .int (iI (((sW S : Nat) : Int)))])), (xa X 1, .inl (xZ X, 12, .inl (fI (sS S)))), (xa X 2, .inl (xI X, 12, .inl (fI (sA S)))), (xa X 3, .inl (xI X, 12, .inl (fI (sU S)))), (xa X 4, .inl (xI X, 12, .inl (fI (sR S))))]) (w' := [(xa X 0, .inr (1, [.int (iI 1), .ref ((xa X 1)), .ref ((xa X 2)), .ref ((xa X 3)), .ref ((xa X 4)), .int (iI (((sN S : Nat) : Int))), .int (iI (((sW S : Nat) : Int)))])), (xa X 1, .inl (xZ X, 12, .inl (fI (sS S)))), (xa X 2, .inl (xI X, 12, .inl (fI (sA S)))), (xa X 3, .inl (xI X, 12, .inl (fI (sU S)))), (xa X 4, .inl (xI X, 12, .inl (fI (sR S))))]) SC (c_X1_isThrown l X S t 1 1 1 ⟨by omega, by omega⟩ (by omega)) pT_st pT_h (cwV 2 hts gX1_isNoNumber_X1_isThrown rfl rfl rfl (by decide +kernel) ⟨Nat.le_of_ble_eq_true rfl, Nat.le_of_ble_eq_true rfl⟩) (va_recv hK hP (ci := 1) (q0 := 0) rfl rfl) hK hP hD hS rfl rfl hl.1 rfl (Nat.le_of_ble_eq_true rfl) dX1_isNoNumber_17 ⟨Nat.zero_le _, Nat.zero_le _⟩ (fun H locs hP hD hS => ?_)
  have hP : va_P (xG X) vwCl ([(xa X 0, .inr (1, [.int (iI 1), .ref ((xa X 1)), .ref ((xa X 2)), .ref ((xa X 3)), .ref ((xa X 4)), .int (iI (((sN S : Nat) : Int))), .int (iI (((sW S : Nat) : Int)))])), (xa X 1, .inl (xZ X, 12, .inl (fI (sS S)))), (xa X 2, .inl (xI X, 12, .inl (fI (sA S)))), (xa X 3, .inl (xI X, 12, .inl (fI (sU S)))), (xa X 4, .inl (xI X, 12, .inl (fI (sR S))))]) H := hP
  have hD : va_D (pg_in ((mC X S t))) ([(xa X 0, .inr (1, [.int (iI 1), .ref ((xa X 1)), .ref ((xa X 2)), .ref ((xa X 3)), .ref ((xa X 4)), .int (iI (((sN S : Nat) : Int))), .int (iI (((sW S : Nat) : Int)))])), (xa X 1, .inl (xZ X, 12, .inl (fI (sS S)))), (xa X 2, .inl (xI X, 12, .inl (fI (sA S)))), (xa X 3, .inl (xI X, 12, .inl (fI (sU S)))), (xa X 4, .inl (xI X, 12, .inl (fI (sR S))))]) := hD
  exact pg_wzret hx hb hr hlk hP hS  (iI_bool (by omega)) (congrArg (fun z : Int => some (Value.int (iI z))) (show 1 = 1 by omega)) dX1_isNoNumber_20
set_option maxRecDepth 100000 in
set_option maxHeartbeats 4000000 in
theorem c_X1_isNoPeg_ok (l : Launch) (X : pgX) (S : pgS) (t : Int) (k : Nat) (hk : k < 12) (h1 : sS S k = 1)  : pg_wr l yX1_isNoPeg wsX1_isNoPeg (rm 2 43) (xG X) (xTy X) pT (mC X S t) (mC X S 0) 0 0 [.ref ((xa X 0)), .int (iI (((k : Nat) : Int)))] (some (.int (iI 0))) := by
  refine pg_wr_of (cc := cX1_isNoPeg) (maxL := 2) (ret := (some .boolean)) (by decide) rfl (Nat.le_of_ble_eq_true rfl) ?_
  intro p e s m below meth c ls SC hr hlk hP hK hD hS hB hl
  obtain ⟨hx, hb, hml, hown, hts⟩ := id SC
  have hown : s.vm.findClass RX1 = some m.cls := hown
  have hl : lv_has ls 2 [(0, .ref ((xa X 0))), (1, .int (iI (((k : Nat) : Int))))] := hl
  have hin : ∀ w ∈ u_ws RX1 TX1 7, w ∈ wsX1_isNoPeg := by decide +kernel
  refine lv_aload_n hx hb dX1_isNoPeg_0 rfl (lv_at hl 0 rfl) ?_
  refine lv_iload_n hx hb dX1_isNoPeg_1 rfl (lv_at hl 1 rfl) ?_
  refine pg_wcallV (As := [.int (iI (((k : Nat) : Int)))]) (rest := []) (l1 := []) (l2 := []) (w := [(xa X 0, .inr (1, [.int (iI t), .ref ((xa X 1)), .ref ((xa X 2)), .ref ((xa X 3)), .ref ((xa X 4)), .int (iI (((sN S : Nat) : Int))), .int (iI (((sW S : Nat) : Int)))])), (xa X 1, .inl (xZ X, 12, .inl (fI (sS S)))), (xa X 2, .inl (xI X, 12, .inl (fI (sA S)))), (xa X 3, .inl (xI X, 12, .inl (fI (sU S)))), (xa X 4, .inl (xI X, 12, .inl (fI (sR S))))]) (w' := [(xa X 0, .inr (1, [.int (iI 0), .ref ((xa X 1)), .ref ((xa X 2)), .ref ((xa X 3)), .ref ((xa X 4)), .int (iI (((sN S : Nat) : Int))), .int (iI (((sW S : Nat) : Int)))])), (xa X 1, .inl (xZ X, 12, .inl (fI (sS S)))), (xa X 2, .inl (xI X, 12, .inl (fI (sA S)))), (xa X 3, .inl (xI X, 12, .inl (fI (sU S)))), (xa X 4, .inl (xI X, 12, .inl (fI (sR S))))]) SC (c_X1_isNoNumber_ok l X S t (((k : Nat) : Int)) (by omega)) pT_st pT_h (cwV 1 hts gX1_isNoPeg_X1_isNoNumber rfl rfl rfl (by decide +kernel) ⟨Nat.le_of_ble_eq_true rfl, Nat.le_of_ble_eq_true rfl⟩) (va_recv hK hP (ci := 1) (q0 := 0) rfl rfl) hK hP hD hS rfl rfl hl.1 rfl (Nat.le_of_ble_eq_true rfl) dX1_isNoPeg_2 ⟨Nat.zero_le _, Nat.zero_le _⟩ (fun H locs hP hD hS => ?_)
  have hP : va_P (xG X) vwCl ([(xa X 0, .inr (1, [.int (iI 0), .ref ((xa X 1)), .ref ((xa X 2)), .ref ((xa X 3)), .ref ((xa X 4)), .int (iI (((sN S : Nat) : Int))), .int (iI (((sW S : Nat) : Int)))])), (xa X 1, .inl (xZ X, 12, .inl (fI (sS S)))), (xa X 2, .inl (xI X, 12, .inl (fI (sA S)))), (xa X 3, .inl (xI X, 12, .inl (fI (sU S)))), (xa X 4, .inl (xI X, 12, .inl (fI (sR S))))]) H := hP
  have hD : va_D (pg_in ((mC X S t))) ([(xa X 0, .inr (1, [.int (iI 0), .ref ((xa X 1)), .ref ((xa X 2)), .ref ((xa X 3)), .ref ((xa X 4)), .int (iI (((sN S : Nat) : Int))), .int (iI (((sW S : Nat) : Int)))])), (xa X 1, .inl (xZ X, 12, .inl (fI (sS S)))), (xa X 2, .inl (xI X, 12, .inl (fI (sA S)))), (xa X 3, .inl (xI X, 12, .inl (fI (sU S)))), (xa X 4, .inl (xI X, 12, .inl (fI (sR S))))]) := hD
  refine pg_if_ne (tgt := 30) hx hb dX1_isNoPeg_5 (by decide) (⟨by omega, by omega⟩) (fun hc1 => absurd hc1 (by omega)) (fun hc1 => ?_)
  refine lv_aload_n hx hb dX1_isNoPeg_8 rfl (lv_at hl 0 rfl) ?_
  refine lv_aload_n hx hb dX1_isNoPeg_9 rfl (lv_at hl 0 rfl) ?_
  refine va_get (D := xG X) (ci := 1) (v := .ref ((xa X 1))) (C := RX1) (T := TX1) (N := 7) hx hb hts hin hown hK hP 0 rfl rfl 1 (by decide) (hts (.fieldLink RX1 7 "PegfieldModel" "stands" "[Z") (by decide +kernel)) (fun _ h9 => h9) rfl dX1_isNoPeg_10 ?_
  refine lv_iload_n hx hb dX1_isNoPeg_13 rfl (lv_at hl 1 rfl) ?_
  refine pg_zald hx hb hK hP 1 0 (f := (sS S)) rfl rfl k (rfl) (by omega) (by decide) dX1_isNoPeg_14 ?_
  refine pg_if_ne (tgt := 22) hx hb dX1_isNoPeg_15 (by decide) (⟨by omega, by omega⟩) (fun hc2 => ?_) (fun hc2 => absurd hc2 (by omega))
  refine lv_iconst (v := iI 0) hx hb dX1_isNoPeg_22 rfl ?_
  refine lv_iconst (v := iI 2) hx hb dX1_isNoPeg_23 rfl ?_
  refine pg_wcallV (As := [.int (iI 0), .int (iI 2)]) (rest := []) (l1 := []) (l2 := []) (w := [(xa X 0, .inr (1, [.int (iI 0), .ref ((xa X 1)), .ref ((xa X 2)), .ref ((xa X 3)), .ref ((xa X 4)), .int (iI (((sN S : Nat) : Int))), .int (iI (((sW S : Nat) : Int)))])), (xa X 1, .inl (xZ X, 12, .inl (fI (sS S)))), (xa X 2, .inl (xI X, 12, .inl (fI (sA S)))), (xa X 3, .inl (xI X, 12, .inl (fI (sU S)))), (xa X 4, .inl (xI X, 12, .inl (fI (sR S))))]) (w' := [(xa X 0, .inr (1, [.int (iI 0), .ref ((xa X 1)), .ref ((xa X 2)), .ref ((xa X 3)), .ref ((xa X 4)), .int (iI (((sN S : Nat) : Int))), .int (iI (((sW S : Nat) : Int)))])), (xa X 1, .inl (xZ X, 12, .inl (fI (sS S)))), (xa X 2, .inl (xI X, 12, .inl (fI (sA S)))), (xa X 3, .inl (xI X, 12, .inl (fI (sU S)))), (xa X 4, .inl (xI X, 12, .inl (fI (sR S))))]) SC (c_X1_isThrown l X S 0 0 2 0 ⟨by omega, by omega⟩ (by omega)) pT_st pT_h (cwV 2 hts gX1_isNoPeg_X1_isThrown rfl rfl rfl (by decide +kernel) ⟨Nat.le_of_ble_eq_true rfl, Nat.le_of_ble_eq_true rfl⟩) (va_recv hK hP (ci := 1) (q0 := 0) rfl rfl) hK hP hD hS rfl rfl hl.1 rfl (Nat.le_of_ble_eq_true rfl) dX1_isNoPeg_24 ⟨Nat.zero_le _, Nat.zero_le _⟩ (fun H locs hP hD hS => ?_)
  have hP : va_P (xG X) vwCl ([(xa X 0, .inr (1, [.int (iI 0), .ref ((xa X 1)), .ref ((xa X 2)), .ref ((xa X 3)), .ref ((xa X 4)), .int (iI (((sN S : Nat) : Int))), .int (iI (((sW S : Nat) : Int)))])), (xa X 1, .inl (xZ X, 12, .inl (fI (sS S)))), (xa X 2, .inl (xI X, 12, .inl (fI (sA S)))), (xa X 3, .inl (xI X, 12, .inl (fI (sU S)))), (xa X 4, .inl (xI X, 12, .inl (fI (sR S))))]) H := hP
  have hD : va_D (pg_in ((mC X S t))) ([(xa X 0, .inr (1, [.int (iI 0), .ref ((xa X 1)), .ref ((xa X 2)), .ref ((xa X 3)), .ref ((xa X 4)), .int (iI (((sN S : Nat) : Int))), .int (iI (((sW S : Nat) : Int)))])), (xa X 1, .inl (xZ X, 12, .inl (fI (sS S)))), (xa X 2, .inl (xI X, 12, .inl (fI (sA S)))), (xa X 3, .inl (xI X, 12, .inl (fI (sU S)))), (xa X 4, .inl (xI X, 12, .inl (fI (sR S))))]) := hD
  refine pg_if_eq (tgt := 34) hx hb dX1_isNoPeg_27 (by decide) (⟨by omega, by omega⟩) (fun hc3 => ?_) (fun hc3 => absurd hc3 (by omega))
  refine lv_iconst (v := iI 0) hx hb dX1_isNoPeg_34 rfl ?_
  exact pg_wzret hx hb hr hlk hP hS  (iI_bool (by omega)) (congrArg (fun z : Int => some (Value.int (iI z))) (show 0 = 0 by omega)) dX1_isNoPeg_35
set_option maxRecDepth 100000 in
set_option maxHeartbeats 4000000 in
theorem c_X1_isNoPeg_1 (l : Launch) (X : pgX) (S : pgS) (t : Int) (pp : Int) (hp : inI pp) (h : pp < 0 ∨ 12 ≤ pp)  : pg_wr l yX1_isNoPeg wsX1_isNoPeg (rm 2 43) (xG X) (xTy X) pT (mC X S t) (mC X S 1) 0 0 [.ref ((xa X 0)), .int (iI pp)] (some (.int (iI 1))) := by
  refine pg_wr_of (cc := cX1_isNoPeg) (maxL := 2) (ret := (some .boolean)) (by decide) rfl (Nat.le_of_ble_eq_true rfl) ?_
  intro p e s m below meth c ls SC hr hlk hP hK hD hS hB hl
  obtain ⟨hx, hb, hml, hown, hts⟩ := id SC
  have hown : s.vm.findClass RX1 = some m.cls := hown
  have hl : lv_has ls 2 [(0, .ref ((xa X 0))), (1, .int (iI pp))] := hl
  refine lv_aload_n hx hb dX1_isNoPeg_0 rfl (lv_at hl 0 rfl) ?_
  refine lv_iload_n hx hb dX1_isNoPeg_1 rfl (lv_at hl 1 rfl) ?_
  refine pg_wcallV (As := [.int (iI pp)]) (rest := []) (l1 := []) (l2 := []) (w := [(xa X 0, .inr (1, [.int (iI t), .ref ((xa X 1)), .ref ((xa X 2)), .ref ((xa X 3)), .ref ((xa X 4)), .int (iI (((sN S : Nat) : Int))), .int (iI (((sW S : Nat) : Int)))])), (xa X 1, .inl (xZ X, 12, .inl (fI (sS S)))), (xa X 2, .inl (xI X, 12, .inl (fI (sA S)))), (xa X 3, .inl (xI X, 12, .inl (fI (sU S)))), (xa X 4, .inl (xI X, 12, .inl (fI (sR S))))]) (w' := [(xa X 0, .inr (1, [.int (iI 1), .ref ((xa X 1)), .ref ((xa X 2)), .ref ((xa X 3)), .ref ((xa X 4)), .int (iI (((sN S : Nat) : Int))), .int (iI (((sW S : Nat) : Int)))])), (xa X 1, .inl (xZ X, 12, .inl (fI (sS S)))), (xa X 2, .inl (xI X, 12, .inl (fI (sA S)))), (xa X 3, .inl (xI X, 12, .inl (fI (sU S)))), (xa X 4, .inl (xI X, 12, .inl (fI (sR S))))]) SC (c_X1_isNoNumber_1 l X S t pp ⟨by omega, by omega⟩ (by omega)) pT_st pT_h (cwV 1 hts gX1_isNoPeg_X1_isNoNumber rfl rfl rfl (by decide +kernel) ⟨Nat.le_of_ble_eq_true rfl, Nat.le_of_ble_eq_true rfl⟩) (va_recv hK hP (ci := 1) (q0 := 0) rfl rfl) hK hP hD hS rfl rfl hl.1 rfl (Nat.le_of_ble_eq_true rfl) dX1_isNoPeg_2 ⟨Nat.zero_le _, Nat.zero_le _⟩ (fun H locs hP hD hS => ?_)
  have hP : va_P (xG X) vwCl ([(xa X 0, .inr (1, [.int (iI 1), .ref ((xa X 1)), .ref ((xa X 2)), .ref ((xa X 3)), .ref ((xa X 4)), .int (iI (((sN S : Nat) : Int))), .int (iI (((sW S : Nat) : Int)))])), (xa X 1, .inl (xZ X, 12, .inl (fI (sS S)))), (xa X 2, .inl (xI X, 12, .inl (fI (sA S)))), (xa X 3, .inl (xI X, 12, .inl (fI (sU S)))), (xa X 4, .inl (xI X, 12, .inl (fI (sR S))))]) H := hP
  have hD : va_D (pg_in ((mC X S t))) ([(xa X 0, .inr (1, [.int (iI 1), .ref ((xa X 1)), .ref ((xa X 2)), .ref ((xa X 3)), .ref ((xa X 4)), .int (iI (((sN S : Nat) : Int))), .int (iI (((sW S : Nat) : Int)))])), (xa X 1, .inl (xZ X, 12, .inl (fI (sS S)))), (xa X 2, .inl (xI X, 12, .inl (fI (sA S)))), (xa X 3, .inl (xI X, 12, .inl (fI (sU S)))), (xa X 4, .inl (xI X, 12, .inl (fI (sR S))))]) := hD
  refine pg_if_ne (tgt := 30) hx hb dX1_isNoPeg_5 (by decide) (⟨by omega, by omega⟩) (fun hc1 => ?_) (fun hc1 => absurd hc1 (by omega))
  refine lv_iconst (v := iI 1) hx hb dX1_isNoPeg_30 rfl ?_
  refine lv_goto (tgt := 35) hx hb dX1_isNoPeg_31 (by decide) ?_
  exact pg_wzret hx hb hr hlk hP hS  (iI_bool (by omega)) (congrArg (fun z : Int => some (Value.int (iI z))) (show 1 = 1 by omega)) dX1_isNoPeg_35
set_option maxRecDepth 100000 in
set_option maxHeartbeats 4000000 in
theorem c_X1_isNoPeg_2 (l : Launch) (X : pgX) (S : pgS) (t : Int) (k : Nat) (hk : k < 12) (h1 : sS S k = 0)  : pg_wr l yX1_isNoPeg wsX1_isNoPeg (rm 2 43) (xG X) (xTy X) pT (mC X S t) (mC X S 2) 0 0 [.ref ((xa X 0)), .int (iI (((k : Nat) : Int)))] (some (.int (iI 1))) := by
  refine pg_wr_of (cc := cX1_isNoPeg) (maxL := 2) (ret := (some .boolean)) (by decide) rfl (Nat.le_of_ble_eq_true rfl) ?_
  intro p e s m below meth c ls SC hr hlk hP hK hD hS hB hl
  obtain ⟨hx, hb, hml, hown, hts⟩ := id SC
  have hown : s.vm.findClass RX1 = some m.cls := hown
  have hl : lv_has ls 2 [(0, .ref ((xa X 0))), (1, .int (iI (((k : Nat) : Int))))] := hl
  have hin : ∀ w ∈ u_ws RX1 TX1 7, w ∈ wsX1_isNoPeg := by decide +kernel
  refine lv_aload_n hx hb dX1_isNoPeg_0 rfl (lv_at hl 0 rfl) ?_
  refine lv_iload_n hx hb dX1_isNoPeg_1 rfl (lv_at hl 1 rfl) ?_
  refine pg_wcallV (As := [.int (iI (((k : Nat) : Int)))]) (rest := []) (l1 := []) (l2 := []) (w := [(xa X 0, .inr (1, [.int (iI t), .ref ((xa X 1)), .ref ((xa X 2)), .ref ((xa X 3)), .ref ((xa X 4)), .int (iI (((sN S : Nat) : Int))), .int (iI (((sW S : Nat) : Int)))])), (xa X 1, .inl (xZ X, 12, .inl (fI (sS S)))), (xa X 2, .inl (xI X, 12, .inl (fI (sA S)))), (xa X 3, .inl (xI X, 12, .inl (fI (sU S)))), (xa X 4, .inl (xI X, 12, .inl (fI (sR S))))]) (w' := [(xa X 0, .inr (1, [.int (iI 0), .ref ((xa X 1)), .ref ((xa X 2)), .ref ((xa X 3)), .ref ((xa X 4)), .int (iI (((sN S : Nat) : Int))), .int (iI (((sW S : Nat) : Int)))])), (xa X 1, .inl (xZ X, 12, .inl (fI (sS S)))), (xa X 2, .inl (xI X, 12, .inl (fI (sA S)))), (xa X 3, .inl (xI X, 12, .inl (fI (sU S)))), (xa X 4, .inl (xI X, 12, .inl (fI (sR S))))]) SC (c_X1_isNoNumber_ok l X S t (((k : Nat) : Int)) (by omega)) pT_st pT_h (cwV 1 hts gX1_isNoPeg_X1_isNoNumber rfl rfl rfl (by decide +kernel) ⟨Nat.le_of_ble_eq_true rfl, Nat.le_of_ble_eq_true rfl⟩) (va_recv hK hP (ci := 1) (q0 := 0) rfl rfl) hK hP hD hS rfl rfl hl.1 rfl (Nat.le_of_ble_eq_true rfl) dX1_isNoPeg_2 ⟨Nat.zero_le _, Nat.zero_le _⟩ (fun H locs hP hD hS => ?_)
  have hP : va_P (xG X) vwCl ([(xa X 0, .inr (1, [.int (iI 0), .ref ((xa X 1)), .ref ((xa X 2)), .ref ((xa X 3)), .ref ((xa X 4)), .int (iI (((sN S : Nat) : Int))), .int (iI (((sW S : Nat) : Int)))])), (xa X 1, .inl (xZ X, 12, .inl (fI (sS S)))), (xa X 2, .inl (xI X, 12, .inl (fI (sA S)))), (xa X 3, .inl (xI X, 12, .inl (fI (sU S)))), (xa X 4, .inl (xI X, 12, .inl (fI (sR S))))]) H := hP
  have hD : va_D (pg_in ((mC X S t))) ([(xa X 0, .inr (1, [.int (iI 0), .ref ((xa X 1)), .ref ((xa X 2)), .ref ((xa X 3)), .ref ((xa X 4)), .int (iI (((sN S : Nat) : Int))), .int (iI (((sW S : Nat) : Int)))])), (xa X 1, .inl (xZ X, 12, .inl (fI (sS S)))), (xa X 2, .inl (xI X, 12, .inl (fI (sA S)))), (xa X 3, .inl (xI X, 12, .inl (fI (sU S)))), (xa X 4, .inl (xI X, 12, .inl (fI (sR S))))]) := hD
  refine pg_if_ne (tgt := 30) hx hb dX1_isNoPeg_5 (by decide) (⟨by omega, by omega⟩) (fun hc1 => absurd hc1 (by omega)) (fun hc1 => ?_)
  refine lv_aload_n hx hb dX1_isNoPeg_8 rfl (lv_at hl 0 rfl) ?_
  refine lv_aload_n hx hb dX1_isNoPeg_9 rfl (lv_at hl 0 rfl) ?_
  refine va_get (D := xG X) (ci := 1) (v := .ref ((xa X 1))) (C := RX1) (T := TX1) (N := 7) hx hb hts hin hown hK hP 0 rfl rfl 1 (by decide) (hts (.fieldLink RX1 7 "PegfieldModel" "stands" "[Z") (by decide +kernel)) (fun _ h9 => h9) rfl dX1_isNoPeg_10 ?_
  refine lv_iload_n hx hb dX1_isNoPeg_13 rfl (lv_at hl 1 rfl) ?_
  refine pg_zald hx hb hK hP 1 0 (f := (sS S)) rfl rfl k (rfl) (by omega) (by decide) dX1_isNoPeg_14 ?_
  refine pg_if_ne (tgt := 22) hx hb dX1_isNoPeg_15 (by decide) (⟨by omega, by omega⟩) (fun hc2 => absurd hc2 (by omega)) (fun hc2 => ?_)
  refine lv_iconst (v := iI 1) hx hb dX1_isNoPeg_18 rfl ?_
  refine lv_goto (tgt := 23) hx hb dX1_isNoPeg_19 (by decide) ?_
  refine lv_iconst (v := iI 2) hx hb dX1_isNoPeg_23 rfl ?_
  refine pg_wcallV (As := [.int (iI 1), .int (iI 2)]) (rest := []) (l1 := []) (l2 := []) (w := [(xa X 0, .inr (1, [.int (iI 0), .ref ((xa X 1)), .ref ((xa X 2)), .ref ((xa X 3)), .ref ((xa X 4)), .int (iI (((sN S : Nat) : Int))), .int (iI (((sW S : Nat) : Int)))])), (xa X 1, .inl (xZ X, 12, .inl (fI (sS S)))), (xa X 2, .inl (xI X, 12, .inl (fI (sA S)))), (xa X 3, .inl (xI X, 12, .inl (fI (sU S)))), (xa X 4, .inl (xI X, 12, .inl (fI (sR S))))]) (w' := [(xa X 0, .inr (1, [.int (iI 2), .ref ((xa X 1)), .ref ((xa X 2)), .ref ((xa X 3)), .ref ((xa X 4)), .int (iI (((sN S : Nat) : Int))), .int (iI (((sW S : Nat) : Int)))])), (xa X 1, .inl (xZ X, 12, .inl (fI (sS S)))), (xa X 2, .inl (xI X, 12, .inl (fI (sA S)))), (xa X 3, .inl (xI X, 12, .inl (fI (sU S)))), (xa X 4, .inl (xI X, 12, .inl (fI (sR S))))]) SC (c_X1_isThrown l X S 0 1 2 2 ⟨by omega, by omega⟩ (by omega)) pT_st pT_h (cwV 2 hts gX1_isNoPeg_X1_isThrown rfl rfl rfl (by decide +kernel) ⟨Nat.le_of_ble_eq_true rfl, Nat.le_of_ble_eq_true rfl⟩) (va_recv hK hP (ci := 1) (q0 := 0) rfl rfl) hK hP hD hS rfl rfl hl.1 rfl (Nat.le_of_ble_eq_true rfl) dX1_isNoPeg_24 ⟨Nat.zero_le _, Nat.zero_le _⟩ (fun H locs hP hD hS => ?_)
  have hP : va_P (xG X) vwCl ([(xa X 0, .inr (1, [.int (iI 2), .ref ((xa X 1)), .ref ((xa X 2)), .ref ((xa X 3)), .ref ((xa X 4)), .int (iI (((sN S : Nat) : Int))), .int (iI (((sW S : Nat) : Int)))])), (xa X 1, .inl (xZ X, 12, .inl (fI (sS S)))), (xa X 2, .inl (xI X, 12, .inl (fI (sA S)))), (xa X 3, .inl (xI X, 12, .inl (fI (sU S)))), (xa X 4, .inl (xI X, 12, .inl (fI (sR S))))]) H := hP
  have hD : va_D (pg_in ((mC X S t))) ([(xa X 0, .inr (1, [.int (iI 2), .ref ((xa X 1)), .ref ((xa X 2)), .ref ((xa X 3)), .ref ((xa X 4)), .int (iI (((sN S : Nat) : Int))), .int (iI (((sW S : Nat) : Int)))])), (xa X 1, .inl (xZ X, 12, .inl (fI (sS S)))), (xa X 2, .inl (xI X, 12, .inl (fI (sA S)))), (xa X 3, .inl (xI X, 12, .inl (fI (sU S)))), (xa X 4, .inl (xI X, 12, .inl (fI (sR S))))]) := hD
  refine pg_if_eq (tgt := 34) hx hb dX1_isNoPeg_27 (by decide) (⟨by omega, by omega⟩) (fun hc3 => absurd hc3 (by omega)) (fun hc3 => ?_)
  refine lv_iconst (v := iI 1) hx hb dX1_isNoPeg_30 rfl ?_
  refine lv_goto (tgt := 35) hx hb dX1_isNoPeg_31 (by decide) ?_
  exact pg_wzret hx hb hr hlk hP hS  (iI_bool (by omega)) (congrArg (fun z : Int => some (Value.int (iI z))) (show 1 = 1 by omega)) dX1_isNoPeg_35
set_option maxRecDepth 100000 in
set_option maxHeartbeats 4000000 in
theorem c_X1_isNoPair_ok (l : Launch) (X : pgX) (S : pgS) (t : Int) (a b : Nat) (ha : a < 12) (hb2 : b < 12) (sa : sS S a = 1) (sb : sS S b = 1) : pg_wr l yX1_isNoPair wsX1_isNoPair (rm 2 43) (xG X) (xTy X) pT (mC X S t) (mC X S 0) 0 0 [.ref ((xa X 0)), .int (iI (((a : Nat) : Int))), .int (iI (((b : Nat) : Int)))] (some (.int (iI 0))) := by
  refine pg_wr_of (cc := cX1_isNoPair) (maxL := 3) (ret := (some .boolean)) (by decide) rfl (Nat.le_of_ble_eq_true rfl) ?_
  intro p e s m below meth c ls SC hr hlk hP hK hD hS hB hl
  obtain ⟨hx, hb, hml, hown, hts⟩ := id SC
  have hown : s.vm.findClass RX1 = some m.cls := hown
  have hl : lv_has ls 3 [(0, .ref ((xa X 0))), (1, .int (iI (((a : Nat) : Int)))), (2, .int (iI (((b : Nat) : Int))))] := hl
  have hin : ∀ w ∈ u_ws RX1 TX1 7, w ∈ wsX1_isNoPair := by decide +kernel
  refine lv_aload_n hx hb dX1_isNoPair_0 rfl (lv_at hl 0 rfl) ?_
  refine lv_iload_n hx hb dX1_isNoPair_1 rfl (lv_at hl 1 rfl) ?_
  refine pg_wcallV (As := [.int (iI (((a : Nat) : Int)))]) (rest := []) (l1 := []) (l2 := []) (w := [(xa X 0, .inr (1, [.int (iI t), .ref ((xa X 1)), .ref ((xa X 2)), .ref ((xa X 3)), .ref ((xa X 4)), .int (iI (((sN S : Nat) : Int))), .int (iI (((sW S : Nat) : Int)))])), (xa X 1, .inl (xZ X, 12, .inl (fI (sS S)))), (xa X 2, .inl (xI X, 12, .inl (fI (sA S)))), (xa X 3, .inl (xI X, 12, .inl (fI (sU S)))), (xa X 4, .inl (xI X, 12, .inl (fI (sR S))))]) (w' := [(xa X 0, .inr (1, [.int (iI 0), .ref ((xa X 1)), .ref ((xa X 2)), .ref ((xa X 3)), .ref ((xa X 4)), .int (iI (((sN S : Nat) : Int))), .int (iI (((sW S : Nat) : Int)))])), (xa X 1, .inl (xZ X, 12, .inl (fI (sS S)))), (xa X 2, .inl (xI X, 12, .inl (fI (sA S)))), (xa X 3, .inl (xI X, 12, .inl (fI (sU S)))), (xa X 4, .inl (xI X, 12, .inl (fI (sR S))))]) SC (c_X1_isNoNumber_ok l X S t (((a : Nat) : Int)) (by omega)) pT_st pT_h (cwV 1 hts gX1_isNoPair_X1_isNoNumber rfl rfl rfl (by decide +kernel) ⟨Nat.le_of_ble_eq_true rfl, Nat.le_of_ble_eq_true rfl⟩) (va_recv hK hP (ci := 1) (q0 := 0) rfl rfl) hK hP hD hS rfl rfl hl.1 rfl (Nat.le_of_ble_eq_true rfl) dX1_isNoPair_2 ⟨Nat.zero_le _, Nat.zero_le _⟩ (fun H locs hP hD hS => ?_)
  have hP : va_P (xG X) vwCl ([(xa X 0, .inr (1, [.int (iI 0), .ref ((xa X 1)), .ref ((xa X 2)), .ref ((xa X 3)), .ref ((xa X 4)), .int (iI (((sN S : Nat) : Int))), .int (iI (((sW S : Nat) : Int)))])), (xa X 1, .inl (xZ X, 12, .inl (fI (sS S)))), (xa X 2, .inl (xI X, 12, .inl (fI (sA S)))), (xa X 3, .inl (xI X, 12, .inl (fI (sU S)))), (xa X 4, .inl (xI X, 12, .inl (fI (sR S))))]) H := hP
  have hD : va_D (pg_in ((mC X S t))) ([(xa X 0, .inr (1, [.int (iI 0), .ref ((xa X 1)), .ref ((xa X 2)), .ref ((xa X 3)), .ref ((xa X 4)), .int (iI (((sN S : Nat) : Int))), .int (iI (((sW S : Nat) : Int)))])), (xa X 1, .inl (xZ X, 12, .inl (fI (sS S)))), (xa X 2, .inl (xI X, 12, .inl (fI (sA S)))), (xa X 3, .inl (xI X, 12, .inl (fI (sU S)))), (xa X 4, .inl (xI X, 12, .inl (fI (sR S))))]) := hD
  refine pg_if_ne (tgt := 47) hx hb dX1_isNoPair_5 (by decide) (⟨by omega, by omega⟩) (fun hc1 => absurd hc1 (by omega)) (fun hc1 => ?_)
  refine lv_aload_n hx hb dX1_isNoPair_8 rfl (lv_at hl 0 rfl) ?_
  refine lv_iload_n hx hb dX1_isNoPair_9 rfl (lv_at hl 2 rfl) ?_
  refine pg_wcallV (As := [.int (iI (((b : Nat) : Int)))]) (rest := []) (l1 := []) (l2 := []) (w := [(xa X 0, .inr (1, [.int (iI 0), .ref ((xa X 1)), .ref ((xa X 2)), .ref ((xa X 3)), .ref ((xa X 4)), .int (iI (((sN S : Nat) : Int))), .int (iI (((sW S : Nat) : Int)))])), (xa X 1, .inl (xZ X, 12, .inl (fI (sS S)))), (xa X 2, .inl (xI X, 12, .inl (fI (sA S)))), (xa X 3, .inl (xI X, 12, .inl (fI (sU S)))), (xa X 4, .inl (xI X, 12, .inl (fI (sR S))))]) (w' := [(xa X 0, .inr (1, [.int (iI 0), .ref ((xa X 1)), .ref ((xa X 2)), .ref ((xa X 3)), .ref ((xa X 4)), .int (iI (((sN S : Nat) : Int))), .int (iI (((sW S : Nat) : Int)))])), (xa X 1, .inl (xZ X, 12, .inl (fI (sS S)))), (xa X 2, .inl (xI X, 12, .inl (fI (sA S)))), (xa X 3, .inl (xI X, 12, .inl (fI (sU S)))), (xa X 4, .inl (xI X, 12, .inl (fI (sR S))))]) SC (c_X1_isNoNumber_ok l X S 0 (((b : Nat) : Int)) (by omega)) pT_st pT_h (cwV 1 hts gX1_isNoPair_X1_isNoNumber rfl rfl rfl (by decide +kernel) ⟨Nat.le_of_ble_eq_true rfl, Nat.le_of_ble_eq_true rfl⟩) (va_recv hK hP (ci := 1) (q0 := 0) rfl rfl) hK hP hD hS rfl rfl hl.1 rfl (Nat.le_of_ble_eq_true rfl) dX1_isNoPair_10 ⟨Nat.zero_le _, Nat.zero_le _⟩ (fun H locs hP hD hS => ?_)
  have hP : va_P (xG X) vwCl ([(xa X 0, .inr (1, [.int (iI 0), .ref ((xa X 1)), .ref ((xa X 2)), .ref ((xa X 3)), .ref ((xa X 4)), .int (iI (((sN S : Nat) : Int))), .int (iI (((sW S : Nat) : Int)))])), (xa X 1, .inl (xZ X, 12, .inl (fI (sS S)))), (xa X 2, .inl (xI X, 12, .inl (fI (sA S)))), (xa X 3, .inl (xI X, 12, .inl (fI (sU S)))), (xa X 4, .inl (xI X, 12, .inl (fI (sR S))))]) H := hP
  have hD : va_D (pg_in ((mC X S t))) ([(xa X 0, .inr (1, [.int (iI 0), .ref ((xa X 1)), .ref ((xa X 2)), .ref ((xa X 3)), .ref ((xa X 4)), .int (iI (((sN S : Nat) : Int))), .int (iI (((sW S : Nat) : Int)))])), (xa X 1, .inl (xZ X, 12, .inl (fI (sS S)))), (xa X 2, .inl (xI X, 12, .inl (fI (sA S)))), (xa X 3, .inl (xI X, 12, .inl (fI (sU S)))), (xa X 4, .inl (xI X, 12, .inl (fI (sR S))))]) := hD
  refine pg_if_ne (tgt := 47) hx hb dX1_isNoPair_13 (by decide) (⟨by omega, by omega⟩) (fun hc2 => absurd hc2 (by omega)) (fun hc2 => ?_)
  refine lv_aload_n hx hb dX1_isNoPair_16 rfl (lv_at hl 0 rfl) ?_
  refine lv_aload_n hx hb dX1_isNoPair_17 rfl (lv_at hl 0 rfl) ?_
  refine va_get (D := xG X) (ci := 1) (v := .ref ((xa X 1))) (C := RX1) (T := TX1) (N := 7) hx hb hts hin hown hK hP 0 rfl rfl 1 (by decide) (hts (.fieldLink RX1 7 "PegfieldModel" "stands" "[Z") (by decide +kernel)) (fun _ h9 => h9) rfl dX1_isNoPair_18 ?_
  refine lv_iload_n hx hb dX1_isNoPair_21 rfl (lv_at hl 1 rfl) ?_
  refine pg_zald hx hb hK hP 1 0 (f := (sS S)) rfl rfl a (rfl) (by omega) (by decide) dX1_isNoPair_22 ?_
  refine pg_if_eq (tgt := 35) hx hb dX1_isNoPair_23 (by decide) (⟨by omega, by omega⟩) (fun hc3 => absurd hc3 (by omega)) (fun hc3 => ?_)
  refine lv_aload_n hx hb dX1_isNoPair_26 rfl (lv_at hl 0 rfl) ?_
  refine va_get (D := xG X) (ci := 1) (v := .ref ((xa X 1))) (C := RX1) (T := TX1) (N := 7) hx hb hts hin hown hK hP 0 rfl rfl 1 (by decide) (hts (.fieldLink RX1 7 "PegfieldModel" "stands" "[Z") (by decide +kernel)) (fun _ h9 => h9) rfl dX1_isNoPair_27 ?_
  refine lv_iload_n hx hb dX1_isNoPair_30 rfl (lv_at hl 2 rfl) ?_
  refine pg_zald hx hb hK hP 1 0 (f := (sS S)) rfl rfl b (rfl) (by omega) (by decide) dX1_isNoPair_31 ?_
  refine pg_if_ne (tgt := 39) hx hb dX1_isNoPair_32 (by decide) (⟨by omega, by omega⟩) (fun hc4 => ?_) (fun hc4 => absurd hc4 (by omega))
  refine lv_iconst (v := iI 0) hx hb dX1_isNoPair_39 rfl ?_
  refine lv_iconst (v := iI 2) hx hb dX1_isNoPair_40 rfl ?_
  refine pg_wcallV (As := [.int (iI 0), .int (iI 2)]) (rest := []) (l1 := []) (l2 := []) (w := [(xa X 0, .inr (1, [.int (iI 0), .ref ((xa X 1)), .ref ((xa X 2)), .ref ((xa X 3)), .ref ((xa X 4)), .int (iI (((sN S : Nat) : Int))), .int (iI (((sW S : Nat) : Int)))])), (xa X 1, .inl (xZ X, 12, .inl (fI (sS S)))), (xa X 2, .inl (xI X, 12, .inl (fI (sA S)))), (xa X 3, .inl (xI X, 12, .inl (fI (sU S)))), (xa X 4, .inl (xI X, 12, .inl (fI (sR S))))]) (w' := [(xa X 0, .inr (1, [.int (iI 0), .ref ((xa X 1)), .ref ((xa X 2)), .ref ((xa X 3)), .ref ((xa X 4)), .int (iI (((sN S : Nat) : Int))), .int (iI (((sW S : Nat) : Int)))])), (xa X 1, .inl (xZ X, 12, .inl (fI (sS S)))), (xa X 2, .inl (xI X, 12, .inl (fI (sA S)))), (xa X 3, .inl (xI X, 12, .inl (fI (sU S)))), (xa X 4, .inl (xI X, 12, .inl (fI (sR S))))]) SC (c_X1_isThrown l X S 0 0 2 0 ⟨by omega, by omega⟩ (by omega)) pT_st pT_h (cwV 2 hts gX1_isNoPair_X1_isThrown rfl rfl rfl (by decide +kernel) ⟨Nat.le_of_ble_eq_true rfl, Nat.le_of_ble_eq_true rfl⟩) (va_recv hK hP (ci := 1) (q0 := 0) rfl rfl) hK hP hD hS rfl rfl hl.1 rfl (Nat.le_of_ble_eq_true rfl) dX1_isNoPair_41 ⟨Nat.zero_le _, Nat.zero_le _⟩ (fun H locs hP hD hS => ?_)
  have hP : va_P (xG X) vwCl ([(xa X 0, .inr (1, [.int (iI 0), .ref ((xa X 1)), .ref ((xa X 2)), .ref ((xa X 3)), .ref ((xa X 4)), .int (iI (((sN S : Nat) : Int))), .int (iI (((sW S : Nat) : Int)))])), (xa X 1, .inl (xZ X, 12, .inl (fI (sS S)))), (xa X 2, .inl (xI X, 12, .inl (fI (sA S)))), (xa X 3, .inl (xI X, 12, .inl (fI (sU S)))), (xa X 4, .inl (xI X, 12, .inl (fI (sR S))))]) H := hP
  have hD : va_D (pg_in ((mC X S t))) ([(xa X 0, .inr (1, [.int (iI 0), .ref ((xa X 1)), .ref ((xa X 2)), .ref ((xa X 3)), .ref ((xa X 4)), .int (iI (((sN S : Nat) : Int))), .int (iI (((sW S : Nat) : Int)))])), (xa X 1, .inl (xZ X, 12, .inl (fI (sS S)))), (xa X 2, .inl (xI X, 12, .inl (fI (sA S)))), (xa X 3, .inl (xI X, 12, .inl (fI (sU S)))), (xa X 4, .inl (xI X, 12, .inl (fI (sR S))))]) := hD
  refine pg_if_eq (tgt := 51) hx hb dX1_isNoPair_44 (by decide) (⟨by omega, by omega⟩) (fun hc5 => ?_) (fun hc5 => absurd hc5 (by omega))
  refine lv_iconst (v := iI 0) hx hb dX1_isNoPair_51 rfl ?_
  exact pg_wzret hx hb hr hlk hP hS  (iI_bool (by omega)) (congrArg (fun z : Int => some (Value.int (iI z))) (show 0 = 0 by omega)) dX1_isNoPair_52
set_option maxRecDepth 100000 in
set_option maxHeartbeats 4000000 in
theorem c_X1_isNoPair_1 (l : Launch) (X : pgX) (S : pgS) (t : Int) (pp qq : Int) (hp : inI pp) (hq : inI qq) (h : pp < 0 ∨ 12 ≤ pp ∨ qq < 0 ∨ 12 ≤ qq) : pg_wr l yX1_isNoPair wsX1_isNoPair (rm 2 43) (xG X) (xTy X) pT (mC X S t) (mC X S 1) 0 0 [.ref ((xa X 0)), .int (iI pp), .int (iI qq)] (some (.int (iI 1))) := by
  refine pg_wr_of (cc := cX1_isNoPair) (maxL := 3) (ret := (some .boolean)) (by decide) rfl (Nat.le_of_ble_eq_true rfl) ?_
  intro p e s m below meth c ls SC hr hlk hP hK hD hS hB hl
  obtain ⟨hx, hb, hml, hown, hts⟩ := id SC
  have hown : s.vm.findClass RX1 = some m.cls := hown
  have hl : lv_has ls 3 [(0, .ref ((xa X 0))), (1, .int (iI pp)), (2, .int (iI qq))] := hl
  refine lv_aload_n hx hb dX1_isNoPair_0 rfl (lv_at hl 0 rfl) ?_
  refine lv_iload_n hx hb dX1_isNoPair_1 rfl (lv_at hl 1 rfl) ?_
  by_cases hs1 : 0 ≤ pp ∧ pp < 12
  · refine pg_wcallV (As := [.int (iI pp)]) (rest := []) (l1 := []) (l2 := []) (w := [(xa X 0, .inr (1, [.int (iI t), .ref ((xa X 1)), .ref ((xa X 2)), .ref ((xa X 3)), .ref ((xa X 4)), .int (iI (((sN S : Nat) : Int))), .int (iI (((sW S : Nat) : Int)))])), (xa X 1, .inl (xZ X, 12, .inl (fI (sS S)))), (xa X 2, .inl (xI X, 12, .inl (fI (sA S)))), (xa X 3, .inl (xI X, 12, .inl (fI (sU S)))), (xa X 4, .inl (xI X, 12, .inl (fI (sR S))))]) (w' := [(xa X 0, .inr (1, [.int (iI 0), .ref ((xa X 1)), .ref ((xa X 2)), .ref ((xa X 3)), .ref ((xa X 4)), .int (iI (((sN S : Nat) : Int))), .int (iI (((sW S : Nat) : Int)))])), (xa X 1, .inl (xZ X, 12, .inl (fI (sS S)))), (xa X 2, .inl (xI X, 12, .inl (fI (sA S)))), (xa X 3, .inl (xI X, 12, .inl (fI (sU S)))), (xa X 4, .inl (xI X, 12, .inl (fI (sR S))))]) SC (c_X1_isNoNumber_ok l X S t pp (by omega)) pT_st pT_h (cwV 1 hts gX1_isNoPair_X1_isNoNumber rfl rfl rfl (by decide +kernel) ⟨Nat.le_of_ble_eq_true rfl, Nat.le_of_ble_eq_true rfl⟩) (va_recv hK hP (ci := 1) (q0 := 0) rfl rfl) hK hP hD hS rfl rfl hl.1 rfl (Nat.le_of_ble_eq_true rfl) dX1_isNoPair_2 ⟨Nat.zero_le _, Nat.zero_le _⟩ (fun H locs hP hD hS => ?_)
    have hP : va_P (xG X) vwCl ([(xa X 0, .inr (1, [.int (iI 0), .ref ((xa X 1)), .ref ((xa X 2)), .ref ((xa X 3)), .ref ((xa X 4)), .int (iI (((sN S : Nat) : Int))), .int (iI (((sW S : Nat) : Int)))])), (xa X 1, .inl (xZ X, 12, .inl (fI (sS S)))), (xa X 2, .inl (xI X, 12, .inl (fI (sA S)))), (xa X 3, .inl (xI X, 12, .inl (fI (sU S)))), (xa X 4, .inl (xI X, 12, .inl (fI (sR S))))]) H := hP
    have hD : va_D (pg_in ((mC X S t))) ([(xa X 0, .inr (1, [.int (iI 0), .ref ((xa X 1)), .ref ((xa X 2)), .ref ((xa X 3)), .ref ((xa X 4)), .int (iI (((sN S : Nat) : Int))), .int (iI (((sW S : Nat) : Int)))])), (xa X 1, .inl (xZ X, 12, .inl (fI (sS S)))), (xa X 2, .inl (xI X, 12, .inl (fI (sA S)))), (xa X 3, .inl (xI X, 12, .inl (fI (sU S)))), (xa X 4, .inl (xI X, 12, .inl (fI (sR S))))]) := hD
    refine pg_if_ne (tgt := 47) hx hb dX1_isNoPair_5 (by decide) (⟨by omega, by omega⟩) (fun hc2 => absurd hc2 (by omega)) (fun hc2 => ?_)
    refine lv_aload_n hx hb dX1_isNoPair_8 rfl (lv_at hl 0 rfl) ?_
    refine lv_iload_n hx hb dX1_isNoPair_9 rfl (lv_at hl 2 rfl) ?_
    refine pg_wcallV (As := [.int (iI qq)]) (rest := []) (l1 := []) (l2 := []) (w := [(xa X 0, .inr (1, [.int (iI 0), .ref ((xa X 1)), .ref ((xa X 2)), .ref ((xa X 3)), .ref ((xa X 4)), .int (iI (((sN S : Nat) : Int))), .int (iI (((sW S : Nat) : Int)))])), (xa X 1, .inl (xZ X, 12, .inl (fI (sS S)))), (xa X 2, .inl (xI X, 12, .inl (fI (sA S)))), (xa X 3, .inl (xI X, 12, .inl (fI (sU S)))), (xa X 4, .inl (xI X, 12, .inl (fI (sR S))))]) (w' := [(xa X 0, .inr (1, [.int (iI 1), .ref ((xa X 1)), .ref ((xa X 2)), .ref ((xa X 3)), .ref ((xa X 4)), .int (iI (((sN S : Nat) : Int))), .int (iI (((sW S : Nat) : Int)))])), (xa X 1, .inl (xZ X, 12, .inl (fI (sS S)))), (xa X 2, .inl (xI X, 12, .inl (fI (sA S)))), (xa X 3, .inl (xI X, 12, .inl (fI (sU S)))), (xa X 4, .inl (xI X, 12, .inl (fI (sR S))))]) SC (c_X1_isNoNumber_1 l X S 0 qq ⟨by omega, by omega⟩ (by omega)) pT_st pT_h (cwV 1 hts gX1_isNoPair_X1_isNoNumber rfl rfl rfl (by decide +kernel) ⟨Nat.le_of_ble_eq_true rfl, Nat.le_of_ble_eq_true rfl⟩) (va_recv hK hP (ci := 1) (q0 := 0) rfl rfl) hK hP hD hS rfl rfl hl.1 rfl (Nat.le_of_ble_eq_true rfl) dX1_isNoPair_10 ⟨Nat.zero_le _, Nat.zero_le _⟩ (fun H locs hP hD hS => ?_)
    have hP : va_P (xG X) vwCl ([(xa X 0, .inr (1, [.int (iI 1), .ref ((xa X 1)), .ref ((xa X 2)), .ref ((xa X 3)), .ref ((xa X 4)), .int (iI (((sN S : Nat) : Int))), .int (iI (((sW S : Nat) : Int)))])), (xa X 1, .inl (xZ X, 12, .inl (fI (sS S)))), (xa X 2, .inl (xI X, 12, .inl (fI (sA S)))), (xa X 3, .inl (xI X, 12, .inl (fI (sU S)))), (xa X 4, .inl (xI X, 12, .inl (fI (sR S))))]) H := hP
    have hD : va_D (pg_in ((mC X S t))) ([(xa X 0, .inr (1, [.int (iI 1), .ref ((xa X 1)), .ref ((xa X 2)), .ref ((xa X 3)), .ref ((xa X 4)), .int (iI (((sN S : Nat) : Int))), .int (iI (((sW S : Nat) : Int)))])), (xa X 1, .inl (xZ X, 12, .inl (fI (sS S)))), (xa X 2, .inl (xI X, 12, .inl (fI (sA S)))), (xa X 3, .inl (xI X, 12, .inl (fI (sU S)))), (xa X 4, .inl (xI X, 12, .inl (fI (sR S))))]) := hD
    refine pg_if_ne (tgt := 47) hx hb dX1_isNoPair_13 (by decide) (⟨by omega, by omega⟩) (fun hc3 => ?_) (fun hc3 => absurd hc3 (by omega))
    refine lv_iconst (v := iI 1) hx hb dX1_isNoPair_47 rfl ?_
    refine lv_goto (tgt := 52) hx hb dX1_isNoPair_48 (by decide) ?_
    exact pg_wzret hx hb hr hlk hP hS  (iI_bool (by omega)) (congrArg (fun z : Int => some (Value.int (iI z))) (show 1 = 1 by omega)) dX1_isNoPair_52
  · refine pg_wcallV (As := [.int (iI pp)]) (rest := []) (l1 := []) (l2 := []) (w := [(xa X 0, .inr (1, [.int (iI t), .ref ((xa X 1)), .ref ((xa X 2)), .ref ((xa X 3)), .ref ((xa X 4)), .int (iI (((sN S : Nat) : Int))), .int (iI (((sW S : Nat) : Int)))])), (xa X 1, .inl (xZ X, 12, .inl (fI (sS S)))), (xa X 2, .inl (xI X, 12, .inl (fI (sA S)))), (xa X 3, .inl (xI X, 12, .inl (fI (sU S)))), (xa X 4, .inl (xI X, 12, .inl (fI (sR S))))]) (w' := [(xa X 0, .inr (1, [.int (iI 1), .ref ((xa X 1)), .ref ((xa X 2)), .ref ((xa X 3)), .ref ((xa X 4)), .int (iI (((sN S : Nat) : Int))), .int (iI (((sW S : Nat) : Int)))])), (xa X 1, .inl (xZ X, 12, .inl (fI (sS S)))), (xa X 2, .inl (xI X, 12, .inl (fI (sA S)))), (xa X 3, .inl (xI X, 12, .inl (fI (sU S)))), (xa X 4, .inl (xI X, 12, .inl (fI (sR S))))]) SC (c_X1_isNoNumber_1 l X S t pp ⟨by omega, by omega⟩ (by omega)) pT_st pT_h (cwV 1 hts gX1_isNoPair_X1_isNoNumber rfl rfl rfl (by decide +kernel) ⟨Nat.le_of_ble_eq_true rfl, Nat.le_of_ble_eq_true rfl⟩) (va_recv hK hP (ci := 1) (q0 := 0) rfl rfl) hK hP hD hS rfl rfl hl.1 rfl (Nat.le_of_ble_eq_true rfl) dX1_isNoPair_2 ⟨Nat.zero_le _, Nat.zero_le _⟩ (fun H locs hP hD hS => ?_)
    have hP : va_P (xG X) vwCl ([(xa X 0, .inr (1, [.int (iI 1), .ref ((xa X 1)), .ref ((xa X 2)), .ref ((xa X 3)), .ref ((xa X 4)), .int (iI (((sN S : Nat) : Int))), .int (iI (((sW S : Nat) : Int)))])), (xa X 1, .inl (xZ X, 12, .inl (fI (sS S)))), (xa X 2, .inl (xI X, 12, .inl (fI (sA S)))), (xa X 3, .inl (xI X, 12, .inl (fI (sU S)))), (xa X 4, .inl (xI X, 12, .inl (fI (sR S))))]) H := hP
    have hD : va_D (pg_in ((mC X S t))) ([(xa X 0, .inr (1, [.int (iI 1), .ref ((xa X 1)), .ref ((xa X 2)), .ref ((xa X 3)), .ref ((xa X 4)), .int (iI (((sN S : Nat) : Int))), .int (iI (((sW S : Nat) : Int)))])), (xa X 1, .inl (xZ X, 12, .inl (fI (sS S)))), (xa X 2, .inl (xI X, 12, .inl (fI (sA S)))), (xa X 3, .inl (xI X, 12, .inl (fI (sU S)))), (xa X 4, .inl (xI X, 12, .inl (fI (sR S))))]) := hD
    refine pg_if_ne (tgt := 47) hx hb dX1_isNoPair_5 (by decide) (⟨by omega, by omega⟩) (fun hc4 => ?_) (fun hc4 => absurd hc4 (by omega))
    refine lv_iconst (v := iI 1) hx hb dX1_isNoPair_47 rfl ?_
    refine lv_goto (tgt := 52) hx hb dX1_isNoPair_48 (by decide) ?_
    exact pg_wzret hx hb hr hlk hP hS  (iI_bool (by omega)) (congrArg (fun z : Int => some (Value.int (iI z))) (show 1 = 1 by omega)) dX1_isNoPair_52
set_option maxRecDepth 100000 in
set_option maxHeartbeats 4000000 in
theorem c_X1_isNoPair_2 (l : Launch) (X : pgX) (S : pgS) (t : Int) (a b : Nat) (ha : a < 12) (hb2 : b < 12) (h : sS S a = 0 ∨ sS S b = 0) (h1 : sS S a ≤ 1) (h2 : sS S b ≤ 1) : pg_wr l yX1_isNoPair wsX1_isNoPair (rm 2 43) (xG X) (xTy X) pT (mC X S t) (mC X S 2) 0 0 [.ref ((xa X 0)), .int (iI (((a : Nat) : Int))), .int (iI (((b : Nat) : Int)))] (some (.int (iI 1))) := by
  refine pg_wr_of (cc := cX1_isNoPair) (maxL := 3) (ret := (some .boolean)) (by decide) rfl (Nat.le_of_ble_eq_true rfl) ?_
  intro p e s m below meth c ls SC hr hlk hP hK hD hS hB hl
  obtain ⟨hx, hb, hml, hown, hts⟩ := id SC
  have hown : s.vm.findClass RX1 = some m.cls := hown
  have hl : lv_has ls 3 [(0, .ref ((xa X 0))), (1, .int (iI (((a : Nat) : Int)))), (2, .int (iI (((b : Nat) : Int))))] := hl
  have hin : ∀ w ∈ u_ws RX1 TX1 7, w ∈ wsX1_isNoPair := by decide +kernel
  refine lv_aload_n hx hb dX1_isNoPair_0 rfl (lv_at hl 0 rfl) ?_
  refine lv_iload_n hx hb dX1_isNoPair_1 rfl (lv_at hl 1 rfl) ?_
  refine pg_wcallV (As := [.int (iI (((a : Nat) : Int)))]) (rest := []) (l1 := []) (l2 := []) (w := [(xa X 0, .inr (1, [.int (iI t), .ref ((xa X 1)), .ref ((xa X 2)), .ref ((xa X 3)), .ref ((xa X 4)), .int (iI (((sN S : Nat) : Int))), .int (iI (((sW S : Nat) : Int)))])), (xa X 1, .inl (xZ X, 12, .inl (fI (sS S)))), (xa X 2, .inl (xI X, 12, .inl (fI (sA S)))), (xa X 3, .inl (xI X, 12, .inl (fI (sU S)))), (xa X 4, .inl (xI X, 12, .inl (fI (sR S))))]) (w' := [(xa X 0, .inr (1, [.int (iI 0), .ref ((xa X 1)), .ref ((xa X 2)), .ref ((xa X 3)), .ref ((xa X 4)), .int (iI (((sN S : Nat) : Int))), .int (iI (((sW S : Nat) : Int)))])), (xa X 1, .inl (xZ X, 12, .inl (fI (sS S)))), (xa X 2, .inl (xI X, 12, .inl (fI (sA S)))), (xa X 3, .inl (xI X, 12, .inl (fI (sU S)))), (xa X 4, .inl (xI X, 12, .inl (fI (sR S))))]) SC (c_X1_isNoNumber_ok l X S t (((a : Nat) : Int)) (by omega)) pT_st pT_h (cwV 1 hts gX1_isNoPair_X1_isNoNumber rfl rfl rfl (by decide +kernel) ⟨Nat.le_of_ble_eq_true rfl, Nat.le_of_ble_eq_true rfl⟩) (va_recv hK hP (ci := 1) (q0 := 0) rfl rfl) hK hP hD hS rfl rfl hl.1 rfl (Nat.le_of_ble_eq_true rfl) dX1_isNoPair_2 ⟨Nat.zero_le _, Nat.zero_le _⟩ (fun H locs hP hD hS => ?_)
  have hP : va_P (xG X) vwCl ([(xa X 0, .inr (1, [.int (iI 0), .ref ((xa X 1)), .ref ((xa X 2)), .ref ((xa X 3)), .ref ((xa X 4)), .int (iI (((sN S : Nat) : Int))), .int (iI (((sW S : Nat) : Int)))])), (xa X 1, .inl (xZ X, 12, .inl (fI (sS S)))), (xa X 2, .inl (xI X, 12, .inl (fI (sA S)))), (xa X 3, .inl (xI X, 12, .inl (fI (sU S)))), (xa X 4, .inl (xI X, 12, .inl (fI (sR S))))]) H := hP
  have hD : va_D (pg_in ((mC X S t))) ([(xa X 0, .inr (1, [.int (iI 0), .ref ((xa X 1)), .ref ((xa X 2)), .ref ((xa X 3)), .ref ((xa X 4)), .int (iI (((sN S : Nat) : Int))), .int (iI (((sW S : Nat) : Int)))])), (xa X 1, .inl (xZ X, 12, .inl (fI (sS S)))), (xa X 2, .inl (xI X, 12, .inl (fI (sA S)))), (xa X 3, .inl (xI X, 12, .inl (fI (sU S)))), (xa X 4, .inl (xI X, 12, .inl (fI (sR S))))]) := hD
  refine pg_if_ne (tgt := 47) hx hb dX1_isNoPair_5 (by decide) (⟨by omega, by omega⟩) (fun hc1 => absurd hc1 (by omega)) (fun hc1 => ?_)
  refine lv_aload_n hx hb dX1_isNoPair_8 rfl (lv_at hl 0 rfl) ?_
  refine lv_iload_n hx hb dX1_isNoPair_9 rfl (lv_at hl 2 rfl) ?_
  refine pg_wcallV (As := [.int (iI (((b : Nat) : Int)))]) (rest := []) (l1 := []) (l2 := []) (w := [(xa X 0, .inr (1, [.int (iI 0), .ref ((xa X 1)), .ref ((xa X 2)), .ref ((xa X 3)), .ref ((xa X 4)), .int (iI (((sN S : Nat) : Int))), .int (iI (((sW S : Nat) : Int)))])), (xa X 1, .inl (xZ X, 12, .inl (fI (sS S)))), (xa X 2, .inl (xI X, 12, .inl (fI (sA S)))), (xa X 3, .inl (xI X, 12, .inl (fI (sU S)))), (xa X 4, .inl (xI X, 12, .inl (fI (sR S))))]) (w' := [(xa X 0, .inr (1, [.int (iI 0), .ref ((xa X 1)), .ref ((xa X 2)), .ref ((xa X 3)), .ref ((xa X 4)), .int (iI (((sN S : Nat) : Int))), .int (iI (((sW S : Nat) : Int)))])), (xa X 1, .inl (xZ X, 12, .inl (fI (sS S)))), (xa X 2, .inl (xI X, 12, .inl (fI (sA S)))), (xa X 3, .inl (xI X, 12, .inl (fI (sU S)))), (xa X 4, .inl (xI X, 12, .inl (fI (sR S))))]) SC (c_X1_isNoNumber_ok l X S 0 (((b : Nat) : Int)) (by omega)) pT_st pT_h (cwV 1 hts gX1_isNoPair_X1_isNoNumber rfl rfl rfl (by decide +kernel) ⟨Nat.le_of_ble_eq_true rfl, Nat.le_of_ble_eq_true rfl⟩) (va_recv hK hP (ci := 1) (q0 := 0) rfl rfl) hK hP hD hS rfl rfl hl.1 rfl (Nat.le_of_ble_eq_true rfl) dX1_isNoPair_10 ⟨Nat.zero_le _, Nat.zero_le _⟩ (fun H locs hP hD hS => ?_)
  have hP : va_P (xG X) vwCl ([(xa X 0, .inr (1, [.int (iI 0), .ref ((xa X 1)), .ref ((xa X 2)), .ref ((xa X 3)), .ref ((xa X 4)), .int (iI (((sN S : Nat) : Int))), .int (iI (((sW S : Nat) : Int)))])), (xa X 1, .inl (xZ X, 12, .inl (fI (sS S)))), (xa X 2, .inl (xI X, 12, .inl (fI (sA S)))), (xa X 3, .inl (xI X, 12, .inl (fI (sU S)))), (xa X 4, .inl (xI X, 12, .inl (fI (sR S))))]) H := hP
  have hD : va_D (pg_in ((mC X S t))) ([(xa X 0, .inr (1, [.int (iI 0), .ref ((xa X 1)), .ref ((xa X 2)), .ref ((xa X 3)), .ref ((xa X 4)), .int (iI (((sN S : Nat) : Int))), .int (iI (((sW S : Nat) : Int)))])), (xa X 1, .inl (xZ X, 12, .inl (fI (sS S)))), (xa X 2, .inl (xI X, 12, .inl (fI (sA S)))), (xa X 3, .inl (xI X, 12, .inl (fI (sU S)))), (xa X 4, .inl (xI X, 12, .inl (fI (sR S))))]) := hD
  refine pg_if_ne (tgt := 47) hx hb dX1_isNoPair_13 (by decide) (⟨by omega, by omega⟩) (fun hc2 => absurd hc2 (by omega)) (fun hc2 => ?_)
  refine lv_aload_n hx hb dX1_isNoPair_16 rfl (lv_at hl 0 rfl) ?_
  refine lv_aload_n hx hb dX1_isNoPair_17 rfl (lv_at hl 0 rfl) ?_
  refine va_get (D := xG X) (ci := 1) (v := .ref ((xa X 1))) (C := RX1) (T := TX1) (N := 7) hx hb hts hin hown hK hP 0 rfl rfl 1 (by decide) (hts (.fieldLink RX1 7 "PegfieldModel" "stands" "[Z") (by decide +kernel)) (fun _ h9 => h9) rfl dX1_isNoPair_18 ?_
  refine lv_iload_n hx hb dX1_isNoPair_21 rfl (lv_at hl 1 rfl) ?_
  refine pg_zald hx hb hK hP 1 0 (f := (sS S)) rfl rfl a (rfl) (by omega) (by decide) dX1_isNoPair_22 ?_
  refine pg_if_eq (tgt := 35) hx hb dX1_isNoPair_23 (by decide) (⟨by omega, by omega⟩) (fun hc3 => ?_) (fun hc3 => ?_)
  · refine lv_iconst (v := iI 1) hx hb dX1_isNoPair_35 rfl ?_
    refine lv_goto (tgt := 40) hx hb dX1_isNoPair_36 (by decide) ?_
    refine lv_iconst (v := iI 2) hx hb dX1_isNoPair_40 rfl ?_
    refine pg_wcallV (As := [.int (iI 1), .int (iI 2)]) (rest := []) (l1 := []) (l2 := []) (w := [(xa X 0, .inr (1, [.int (iI 0), .ref ((xa X 1)), .ref ((xa X 2)), .ref ((xa X 3)), .ref ((xa X 4)), .int (iI (((sN S : Nat) : Int))), .int (iI (((sW S : Nat) : Int)))])), (xa X 1, .inl (xZ X, 12, .inl (fI (sS S)))), (xa X 2, .inl (xI X, 12, .inl (fI (sA S)))), (xa X 3, .inl (xI X, 12, .inl (fI (sU S)))), (xa X 4, .inl (xI X, 12, .inl (fI (sR S))))]) (w' := [(xa X 0, .inr (1, [.int (iI 2), .ref ((xa X 1)), .ref ((xa X 2)), .ref ((xa X 3)), .ref ((xa X 4)), .int (iI (((sN S : Nat) : Int))), .int (iI (((sW S : Nat) : Int)))])), (xa X 1, .inl (xZ X, 12, .inl (fI (sS S)))), (xa X 2, .inl (xI X, 12, .inl (fI (sA S)))), (xa X 3, .inl (xI X, 12, .inl (fI (sU S)))), (xa X 4, .inl (xI X, 12, .inl (fI (sR S))))]) SC (c_X1_isThrown l X S 0 1 2 2 ⟨by omega, by omega⟩ (by omega)) pT_st pT_h (cwV 2 hts gX1_isNoPair_X1_isThrown rfl rfl rfl (by decide +kernel) ⟨Nat.le_of_ble_eq_true rfl, Nat.le_of_ble_eq_true rfl⟩) (va_recv hK hP (ci := 1) (q0 := 0) rfl rfl) hK hP hD hS rfl rfl hl.1 rfl (Nat.le_of_ble_eq_true rfl) dX1_isNoPair_41 ⟨Nat.zero_le _, Nat.zero_le _⟩ (fun H locs hP hD hS => ?_)
    have hP : va_P (xG X) vwCl ([(xa X 0, .inr (1, [.int (iI 2), .ref ((xa X 1)), .ref ((xa X 2)), .ref ((xa X 3)), .ref ((xa X 4)), .int (iI (((sN S : Nat) : Int))), .int (iI (((sW S : Nat) : Int)))])), (xa X 1, .inl (xZ X, 12, .inl (fI (sS S)))), (xa X 2, .inl (xI X, 12, .inl (fI (sA S)))), (xa X 3, .inl (xI X, 12, .inl (fI (sU S)))), (xa X 4, .inl (xI X, 12, .inl (fI (sR S))))]) H := hP
    have hD : va_D (pg_in ((mC X S t))) ([(xa X 0, .inr (1, [.int (iI 2), .ref ((xa X 1)), .ref ((xa X 2)), .ref ((xa X 3)), .ref ((xa X 4)), .int (iI (((sN S : Nat) : Int))), .int (iI (((sW S : Nat) : Int)))])), (xa X 1, .inl (xZ X, 12, .inl (fI (sS S)))), (xa X 2, .inl (xI X, 12, .inl (fI (sA S)))), (xa X 3, .inl (xI X, 12, .inl (fI (sU S)))), (xa X 4, .inl (xI X, 12, .inl (fI (sR S))))]) := hD
    refine pg_if_eq (tgt := 51) hx hb dX1_isNoPair_44 (by decide) (⟨by omega, by omega⟩) (fun hc4 => absurd hc4 (by omega)) (fun hc4 => ?_)
    refine lv_iconst (v := iI 1) hx hb dX1_isNoPair_47 rfl ?_
    refine lv_goto (tgt := 52) hx hb dX1_isNoPair_48 (by decide) ?_
    exact pg_wzret hx hb hr hlk hP hS  (iI_bool (by omega)) (congrArg (fun z : Int => some (Value.int (iI z))) (show 1 = 1 by omega)) dX1_isNoPair_52
  · refine lv_aload_n hx hb dX1_isNoPair_26 rfl (lv_at hl 0 rfl) ?_
    refine va_get (D := xG X) (ci := 1) (v := .ref ((xa X 1))) (C := RX1) (T := TX1) (N := 7) hx hb hts hin hown hK hP 0 rfl rfl 1 (by decide) (hts (.fieldLink RX1 7 "PegfieldModel" "stands" "[Z") (by decide +kernel)) (fun _ h9 => h9) rfl dX1_isNoPair_27 ?_
    refine lv_iload_n hx hb dX1_isNoPair_30 rfl (lv_at hl 2 rfl) ?_
    refine pg_zald hx hb hK hP 1 0 (f := (sS S)) rfl rfl b (rfl) (by omega) (by decide) dX1_isNoPair_31 ?_
    refine pg_if_ne (tgt := 39) hx hb dX1_isNoPair_32 (by decide) (⟨by omega, by omega⟩) (fun hc5 => absurd hc5 (by omega)) (fun hc5 => ?_)
    refine lv_iconst (v := iI 1) hx hb dX1_isNoPair_35 rfl ?_
    refine lv_goto (tgt := 40) hx hb dX1_isNoPair_36 (by decide) ?_
    refine lv_iconst (v := iI 2) hx hb dX1_isNoPair_40 rfl ?_
    refine pg_wcallV (As := [.int (iI 1), .int (iI 2)]) (rest := []) (l1 := []) (l2 := []) (w := [(xa X 0, .inr (1, [.int (iI 0), .ref ((xa X 1)), .ref ((xa X 2)), .ref ((xa X 3)), .ref ((xa X 4)), .int (iI (((sN S : Nat) : Int))), .int (iI (((sW S : Nat) : Int)))])), (xa X 1, .inl (xZ X, 12, .inl (fI (sS S)))), (xa X 2, .inl (xI X, 12, .inl (fI (sA S)))), (xa X 3, .inl (xI X, 12, .inl (fI (sU S)))), (xa X 4, .inl (xI X, 12, .inl (fI (sR S))))]) (w' := [(xa X 0, .inr (1, [.int (iI 2), .ref ((xa X 1)), .ref ((xa X 2)), .ref ((xa X 3)), .ref ((xa X 4)), .int (iI (((sN S : Nat) : Int))), .int (iI (((sW S : Nat) : Int)))])), (xa X 1, .inl (xZ X, 12, .inl (fI (sS S)))), (xa X 2, .inl (xI X, 12, .inl (fI (sA S)))), (xa X 3, .inl (xI X, 12, .inl (fI (sU S)))), (xa X 4, .inl (xI X, 12, .inl (fI (sR S))))]) SC (c_X1_isThrown l X S 0 1 2 2 ⟨by omega, by omega⟩ (by omega)) pT_st pT_h (cwV 2 hts gX1_isNoPair_X1_isThrown rfl rfl rfl (by decide +kernel) ⟨Nat.le_of_ble_eq_true rfl, Nat.le_of_ble_eq_true rfl⟩) (va_recv hK hP (ci := 1) (q0 := 0) rfl rfl) hK hP hD hS rfl rfl hl.1 rfl (Nat.le_of_ble_eq_true rfl) dX1_isNoPair_41 ⟨Nat.zero_le _, Nat.zero_le _⟩ (fun H locs hP hD hS => ?_)
    have hP : va_P (xG X) vwCl ([(xa X 0, .inr (1, [.int (iI 2), .ref ((xa X 1)), .ref ((xa X 2)), .ref ((xa X 3)), .ref ((xa X 4)), .int (iI (((sN S : Nat) : Int))), .int (iI (((sW S : Nat) : Int)))])), (xa X 1, .inl (xZ X, 12, .inl (fI (sS S)))), (xa X 2, .inl (xI X, 12, .inl (fI (sA S)))), (xa X 3, .inl (xI X, 12, .inl (fI (sU S)))), (xa X 4, .inl (xI X, 12, .inl (fI (sR S))))]) H := hP
    have hD : va_D (pg_in ((mC X S t))) ([(xa X 0, .inr (1, [.int (iI 2), .ref ((xa X 1)), .ref ((xa X 2)), .ref ((xa X 3)), .ref ((xa X 4)), .int (iI (((sN S : Nat) : Int))), .int (iI (((sW S : Nat) : Int)))])), (xa X 1, .inl (xZ X, 12, .inl (fI (sS S)))), (xa X 2, .inl (xI X, 12, .inl (fI (sA S)))), (xa X 3, .inl (xI X, 12, .inl (fI (sU S)))), (xa X 4, .inl (xI X, 12, .inl (fI (sR S))))]) := hD
    refine pg_if_eq (tgt := 51) hx hb dX1_isNoPair_44 (by decide) (⟨by omega, by omega⟩) (fun hc6 => absurd hc6 (by omega)) (fun hc6 => ?_)
    refine lv_iconst (v := iI 1) hx hb dX1_isNoPair_47 rfl ?_
    refine lv_goto (tgt := 52) hx hb dX1_isNoPair_48 (by decide) ?_
    exact pg_wzret hx hb hr hlk hP hS  (iI_bool (by omega)) (congrArg (fun z : Int => some (Value.int (iI z))) (show 1 = 1 by omega)) dX1_isNoPair_52
set_option maxRecDepth 100000 in
set_option maxHeartbeats 4000000 in
theorem c_X1_isNoAsked_ok (l : Launch) (X : pgX) (S : pgS) (t : Int) (n as9 : Int) (h : 0 ≤ n ∧ n < 32768) : pg_wr l yX1_isNoAsked wsX1_isNoAsked (rm 1 22) (xG X) (xTy X) pT (mC X S t) (mC X S 0) 0 0 [.ref ((xa X 0)), .int (iI n), .int (iI as9)] (some (.int (iI 0))) := by
  refine pg_wr_of (cc := cX1_isNoAsked) (maxL := 3) (ret := (some .boolean)) (by decide) rfl (Nat.le_of_ble_eq_true rfl) ?_
  intro p e s m below meth c ls SC hr hlk hP hK hD hS hB hl
  obtain ⟨hx, hb, hml, hown, hts⟩ := id SC
  have hown : s.vm.findClass RX1 = some m.cls := hown
  have hl : lv_has ls 3 [(0, .ref ((xa X 0))), (1, .int (iI n)), (2, .int (iI as9))] := hl
  refine lv_aload_n hx hb dX1_isNoAsked_0 rfl (lv_at hl 0 rfl) ?_
  refine lv_iload_n hx hb dX1_isNoAsked_1 rfl (lv_at hl 1 rfl) ?_
  refine lv_iconst (v := iI 0) hx hb dX1_isNoAsked_2 rfl ?_
  refine lv_sipush (v := iI 32767) hx hb dX1_isNoAsked_3 (by decide +kernel) ?_
  refine pg_callS (As := [.int (iI n), .int (iI 0), .int (iI 32767)]) (rest := [.ref ((xa X 0))]) SC (c_X1_lies l n 0 32767 1 ⟨by omega, by omega⟩ ⟨by omega, by omega⟩ ⟨by omega, by omega⟩ (by omega)) pT_st pT_h (va_cwS 3 hts gX1_isNoAsked_X1_lies rfl rfl rfl (by decide +kernel) ⟨Nat.le_of_ble_eq_true rfl, Nat.le_of_ble_eq_true rfl⟩) rfl hl.1 rfl (Nat.le_of_ble_eq_true rfl) dX1_isNoAsked_6 ⟨Nat.zero_le _, Nat.zero_le _⟩ ?_
  refine pg_if_ne (tgt := 16) hx hb dX1_isNoAsked_9 (by decide) (⟨by omega, by omega⟩) (fun hc1 => ?_) (fun hc1 => absurd hc1 (by omega))
  refine lv_iconst (v := iI 0) hx hb dX1_isNoAsked_16 rfl ?_
  refine lv_iload_n hx hb dX1_isNoAsked_17 rfl (lv_at hl 2 rfl) ?_
  refine pg_wcallV (As := [.int (iI 0), .int (iI as9)]) (rest := []) (l1 := []) (l2 := []) (w := [(xa X 0, .inr (1, [.int (iI t), .ref ((xa X 1)), .ref ((xa X 2)), .ref ((xa X 3)), .ref ((xa X 4)), .int (iI (((sN S : Nat) : Int))), .int (iI (((sW S : Nat) : Int)))])), (xa X 1, .inl (xZ X, 12, .inl (fI (sS S)))), (xa X 2, .inl (xI X, 12, .inl (fI (sA S)))), (xa X 3, .inl (xI X, 12, .inl (fI (sU S)))), (xa X 4, .inl (xI X, 12, .inl (fI (sR S))))]) (w' := [(xa X 0, .inr (1, [.int (iI 0), .ref ((xa X 1)), .ref ((xa X 2)), .ref ((xa X 3)), .ref ((xa X 4)), .int (iI (((sN S : Nat) : Int))), .int (iI (((sW S : Nat) : Int)))])), (xa X 1, .inl (xZ X, 12, .inl (fI (sS S)))), (xa X 2, .inl (xI X, 12, .inl (fI (sA S)))), (xa X 3, .inl (xI X, 12, .inl (fI (sU S)))), (xa X 4, .inl (xI X, 12, .inl (fI (sR S))))]) SC (c_X1_isThrown l X S t 0 as9 0 ⟨by omega, by omega⟩ (by omega)) pT_st pT_h (cwV 2 hts gX1_isNoAsked_X1_isThrown rfl rfl rfl (by decide +kernel) ⟨Nat.le_of_ble_eq_true rfl, Nat.le_of_ble_eq_true rfl⟩) (va_recv hK hP (ci := 1) (q0 := 0) rfl rfl) hK hP hD hS rfl rfl hl.1 rfl (Nat.le_of_ble_eq_true rfl) dX1_isNoAsked_18 ⟨Nat.zero_le _, Nat.zero_le _⟩ (fun H locs hP hD hS => ?_)
  have hP : va_P (xG X) vwCl ([(xa X 0, .inr (1, [.int (iI 0), .ref ((xa X 1)), .ref ((xa X 2)), .ref ((xa X 3)), .ref ((xa X 4)), .int (iI (((sN S : Nat) : Int))), .int (iI (((sW S : Nat) : Int)))])), (xa X 1, .inl (xZ X, 12, .inl (fI (sS S)))), (xa X 2, .inl (xI X, 12, .inl (fI (sA S)))), (xa X 3, .inl (xI X, 12, .inl (fI (sU S)))), (xa X 4, .inl (xI X, 12, .inl (fI (sR S))))]) H := hP
  have hD : va_D (pg_in ((mC X S t))) ([(xa X 0, .inr (1, [.int (iI 0), .ref ((xa X 1)), .ref ((xa X 2)), .ref ((xa X 3)), .ref ((xa X 4)), .int (iI (((sN S : Nat) : Int))), .int (iI (((sW S : Nat) : Int)))])), (xa X 1, .inl (xZ X, 12, .inl (fI (sS S)))), (xa X 2, .inl (xI X, 12, .inl (fI (sA S)))), (xa X 3, .inl (xI X, 12, .inl (fI (sU S)))), (xa X 4, .inl (xI X, 12, .inl (fI (sR S))))]) := hD
  exact pg_wzret hx hb hr hlk hP hS  (iI_bool (by omega)) (congrArg (fun z : Int => some (Value.int (iI z))) (show 0 = 0 by omega)) dX1_isNoAsked_21
set_option maxRecDepth 100000 in
set_option maxHeartbeats 4000000 in
theorem c_X1_isNoAsked_1 (l : Launch) (X : pgX) (S : pgS) (t : Int) (n as9 : Int) (hn : inI n) (h : n < 0 ∨ 32768 ≤ n) : pg_wr l yX1_isNoAsked wsX1_isNoAsked (rm 1 22) (xG X) (xTy X) pT (mC X S t) (mC X S as9) 0 0 [.ref ((xa X 0)), .int (iI n), .int (iI as9)] (some (.int (iI 1))) := by
  refine pg_wr_of (cc := cX1_isNoAsked) (maxL := 3) (ret := (some .boolean)) (by decide) rfl (Nat.le_of_ble_eq_true rfl) ?_
  intro p e s m below meth c ls SC hr hlk hP hK hD hS hB hl
  obtain ⟨hx, hb, hml, hown, hts⟩ := id SC
  have hown : s.vm.findClass RX1 = some m.cls := hown
  have hl : lv_has ls 3 [(0, .ref ((xa X 0))), (1, .int (iI n)), (2, .int (iI as9))] := hl
  refine lv_aload_n hx hb dX1_isNoAsked_0 rfl (lv_at hl 0 rfl) ?_
  refine lv_iload_n hx hb dX1_isNoAsked_1 rfl (lv_at hl 1 rfl) ?_
  refine lv_iconst (v := iI 0) hx hb dX1_isNoAsked_2 rfl ?_
  refine lv_sipush (v := iI 32767) hx hb dX1_isNoAsked_3 (by decide +kernel) ?_
  refine pg_callS (As := [.int (iI n), .int (iI 0), .int (iI 32767)]) (rest := [.ref ((xa X 0))]) SC (c_X1_lies l n 0 32767 0 ⟨by omega, by omega⟩ ⟨by omega, by omega⟩ ⟨by omega, by omega⟩ (by omega)) pT_st pT_h (va_cwS 3 hts gX1_isNoAsked_X1_lies rfl rfl rfl (by decide +kernel) ⟨Nat.le_of_ble_eq_true rfl, Nat.le_of_ble_eq_true rfl⟩) rfl hl.1 rfl (Nat.le_of_ble_eq_true rfl) dX1_isNoAsked_6 ⟨Nat.zero_le _, Nat.zero_le _⟩ ?_
  refine pg_if_ne (tgt := 16) hx hb dX1_isNoAsked_9 (by decide) (⟨by omega, by omega⟩) (fun hc1 => absurd hc1 (by omega)) (fun hc1 => ?_)
  refine lv_iconst (v := iI 1) hx hb dX1_isNoAsked_12 rfl ?_
  refine lv_goto (tgt := 17) hx hb dX1_isNoAsked_13 (by decide) ?_
  refine lv_iload_n hx hb dX1_isNoAsked_17 rfl (lv_at hl 2 rfl) ?_
  refine pg_wcallV (As := [.int (iI 1), .int (iI as9)]) (rest := []) (l1 := []) (l2 := []) (w := [(xa X 0, .inr (1, [.int (iI t), .ref ((xa X 1)), .ref ((xa X 2)), .ref ((xa X 3)), .ref ((xa X 4)), .int (iI (((sN S : Nat) : Int))), .int (iI (((sW S : Nat) : Int)))])), (xa X 1, .inl (xZ X, 12, .inl (fI (sS S)))), (xa X 2, .inl (xI X, 12, .inl (fI (sA S)))), (xa X 3, .inl (xI X, 12, .inl (fI (sU S)))), (xa X 4, .inl (xI X, 12, .inl (fI (sR S))))]) (w' := [(xa X 0, .inr (1, [.int (iI as9), .ref ((xa X 1)), .ref ((xa X 2)), .ref ((xa X 3)), .ref ((xa X 4)), .int (iI (((sN S : Nat) : Int))), .int (iI (((sW S : Nat) : Int)))])), (xa X 1, .inl (xZ X, 12, .inl (fI (sS S)))), (xa X 2, .inl (xI X, 12, .inl (fI (sA S)))), (xa X 3, .inl (xI X, 12, .inl (fI (sU S)))), (xa X 4, .inl (xI X, 12, .inl (fI (sR S))))]) SC (c_X1_isThrown l X S t 1 as9 as9 ⟨by omega, by omega⟩ (by omega)) pT_st pT_h (cwV 2 hts gX1_isNoAsked_X1_isThrown rfl rfl rfl (by decide +kernel) ⟨Nat.le_of_ble_eq_true rfl, Nat.le_of_ble_eq_true rfl⟩) (va_recv hK hP (ci := 1) (q0 := 0) rfl rfl) hK hP hD hS rfl rfl hl.1 rfl (Nat.le_of_ble_eq_true rfl) dX1_isNoAsked_18 ⟨Nat.zero_le _, Nat.zero_le _⟩ (fun H locs hP hD hS => ?_)
  have hP : va_P (xG X) vwCl ([(xa X 0, .inr (1, [.int (iI as9), .ref ((xa X 1)), .ref ((xa X 2)), .ref ((xa X 3)), .ref ((xa X 4)), .int (iI (((sN S : Nat) : Int))), .int (iI (((sW S : Nat) : Int)))])), (xa X 1, .inl (xZ X, 12, .inl (fI (sS S)))), (xa X 2, .inl (xI X, 12, .inl (fI (sA S)))), (xa X 3, .inl (xI X, 12, .inl (fI (sU S)))), (xa X 4, .inl (xI X, 12, .inl (fI (sR S))))]) H := hP
  have hD : va_D (pg_in ((mC X S t))) ([(xa X 0, .inr (1, [.int (iI as9), .ref ((xa X 1)), .ref ((xa X 2)), .ref ((xa X 3)), .ref ((xa X 4)), .int (iI (((sN S : Nat) : Int))), .int (iI (((sW S : Nat) : Int)))])), (xa X 1, .inl (xZ X, 12, .inl (fI (sS S)))), (xa X 2, .inl (xI X, 12, .inl (fI (sA S)))), (xa X 3, .inl (xI X, 12, .inl (fI (sU S)))), (xa X 4, .inl (xI X, 12, .inl (fI (sR S))))]) := hD
  exact pg_wzret hx hb hr hlk hP hS  (iI_bool (by omega)) (congrArg (fun z : Int => some (Value.int (iI z))) (show 1 = 1 by omega)) dX1_isNoAsked_21
set_option maxRecDepth 100000 in
set_option maxHeartbeats 4000000 in
theorem c_X1_put_ok (l : Launch) (X : pgX) (S : pgS) (t : Int) (k a u : Nat) (hk : k < 12) (ha : a < 91) (hu : u < 91) (h1 : sS S k ≤ 1) : pg_wr l yX1_put wsX1_put (rm 2 43) (xG X) (xTy X) pT (mC X S t) (mC X (upN (sS S) k 1, upN (sA S) k a, upN (sU S) k u, sR S, sN S, sW S) 0) 0 0 [.ref ((xa X 0)), .int (iI (((k : Nat) : Int))), .int (iI (((a : Nat) : Int))), .int (iI (((u : Nat) : Int)))] (some (.int (iI (1 - (sS S k : Int))))) := by
  refine pg_wr_of (cc := cX1_put) (maxL := 5) (ret := (some .boolean)) (by decide) rfl (Nat.le_of_ble_eq_true rfl) ?_
  intro p e s m below meth c ls SC hr hlk hP hK hD hS hB hl
  obtain ⟨hx, hb, hml, hown, hts⟩ := id SC
  have hown : s.vm.findClass RX1 = some m.cls := hown
  have hl : lv_has ls 5 [(0, .ref ((xa X 0))), (1, .int (iI (((k : Nat) : Int)))), (2, .int (iI (((a : Nat) : Int)))), (3, .int (iI (((u : Nat) : Int))))] := hl
  have hin : ∀ w ∈ u_ws RX1 TX1 7, w ∈ wsX1_put := by decide +kernel
  refine lv_aload_n hx hb dX1_put_0 rfl (lv_at hl 0 rfl) ?_
  refine lv_iload_n hx hb dX1_put_1 rfl (lv_at hl 1 rfl) ?_
  refine pg_wcallV (As := [.int (iI (((k : Nat) : Int)))]) (rest := []) (l1 := []) (l2 := []) (w := [(xa X 0, .inr (1, [.int (iI t), .ref ((xa X 1)), .ref ((xa X 2)), .ref ((xa X 3)), .ref ((xa X 4)), .int (iI (((sN S : Nat) : Int))), .int (iI (((sW S : Nat) : Int)))])), (xa X 1, .inl (xZ X, 12, .inl (fI (sS S)))), (xa X 2, .inl (xI X, 12, .inl (fI (sA S)))), (xa X 3, .inl (xI X, 12, .inl (fI (sU S)))), (xa X 4, .inl (xI X, 12, .inl (fI (sR S))))]) (w' := [(xa X 0, .inr (1, [.int (iI 0), .ref ((xa X 1)), .ref ((xa X 2)), .ref ((xa X 3)), .ref ((xa X 4)), .int (iI (((sN S : Nat) : Int))), .int (iI (((sW S : Nat) : Int)))])), (xa X 1, .inl (xZ X, 12, .inl (fI (sS S)))), (xa X 2, .inl (xI X, 12, .inl (fI (sA S)))), (xa X 3, .inl (xI X, 12, .inl (fI (sU S)))), (xa X 4, .inl (xI X, 12, .inl (fI (sR S))))]) SC (c_X1_isNoNumber_ok l X S t (((k : Nat) : Int)) (by omega)) pT_st pT_h (cwV 1 hts gX1_put_X1_isNoNumber rfl rfl rfl (by decide +kernel) ⟨Nat.le_of_ble_eq_true rfl, Nat.le_of_ble_eq_true rfl⟩) (va_recv hK hP (ci := 1) (q0 := 0) rfl rfl) hK hP hD hS rfl rfl hl.1 rfl (Nat.le_of_ble_eq_true rfl) dX1_put_2 ⟨Nat.zero_le _, Nat.zero_le _⟩ (fun H locs hP hD hS => ?_)
  have hP : va_P (xG X) vwCl ([(xa X 0, .inr (1, [.int (iI 0), .ref ((xa X 1)), .ref ((xa X 2)), .ref ((xa X 3)), .ref ((xa X 4)), .int (iI (((sN S : Nat) : Int))), .int (iI (((sW S : Nat) : Int)))])), (xa X 1, .inl (xZ X, 12, .inl (fI (sS S)))), (xa X 2, .inl (xI X, 12, .inl (fI (sA S)))), (xa X 3, .inl (xI X, 12, .inl (fI (sU S)))), (xa X 4, .inl (xI X, 12, .inl (fI (sR S))))]) H := hP
  have hD : va_D (pg_in ((mC X S t))) ([(xa X 0, .inr (1, [.int (iI 0), .ref ((xa X 1)), .ref ((xa X 2)), .ref ((xa X 3)), .ref ((xa X 4)), .int (iI (((sN S : Nat) : Int))), .int (iI (((sW S : Nat) : Int)))])), (xa X 1, .inl (xZ X, 12, .inl (fI (sS S)))), (xa X 2, .inl (xI X, 12, .inl (fI (sA S)))), (xa X 3, .inl (xI X, 12, .inl (fI (sU S)))), (xa X 4, .inl (xI X, 12, .inl (fI (sR S))))]) := hD
  refine pg_if_ne (tgt := 41) hx hb dX1_put_5 (by decide) (⟨by omega, by omega⟩) (fun hc1 => absurd hc1 (by omega)) (fun hc1 => ?_)
  refine lv_aload_n hx hb dX1_put_8 rfl (lv_at hl 0 rfl) ?_
  refine lv_iload_n hx hb dX1_put_9 rfl (lv_at hl 2 rfl) ?_
  refine lv_iconst (v := iI 0) hx hb dX1_put_10 rfl ?_
  refine lv_bipush (v := iI 90) hx hb dX1_put_11 (by decide +kernel) ?_
  refine pg_callS (As := [.int (iI (((a : Nat) : Int))), .int (iI 0), .int (iI 90)]) (rest := [.ref ((xa X 0))]) SC (c_X1_lies l (((a : Nat) : Int)) 0 90 1 ⟨by omega, by omega⟩ ⟨by omega, by omega⟩ ⟨by omega, by omega⟩ (by omega)) pT_st pT_h (va_cwS 3 hts gX1_put_X1_lies rfl rfl rfl (by decide +kernel) ⟨Nat.le_of_ble_eq_true rfl, Nat.le_of_ble_eq_true rfl⟩) rfl hl.1 rfl (Nat.le_of_ble_eq_true rfl) dX1_put_13 ⟨Nat.zero_le _, Nat.zero_le _⟩ ?_
  refine pg_if_eq (tgt := 29) hx hb dX1_put_16 (by decide) (⟨by omega, by omega⟩) (fun hc2 => absurd hc2 (by omega)) (fun hc2 => ?_)
  refine lv_iload_n hx hb dX1_put_19 rfl (lv_at hl 3 rfl) ?_
  refine lv_iconst (v := iI 0) hx hb dX1_put_20 rfl ?_
  refine lv_bipush (v := iI 90) hx hb dX1_put_21 (by decide +kernel) ?_
  refine pg_callS (As := [.int (iI (((u : Nat) : Int))), .int (iI 0), .int (iI 90)]) (rest := [.ref ((xa X 0))]) SC (c_X1_lies l (((u : Nat) : Int)) 0 90 1 ⟨by omega, by omega⟩ ⟨by omega, by omega⟩ ⟨by omega, by omega⟩ (by omega)) pT_st pT_h (va_cwS 3 hts gX1_put_X1_lies rfl rfl rfl (by decide +kernel) ⟨Nat.le_of_ble_eq_true rfl, Nat.le_of_ble_eq_true rfl⟩) rfl hl.1 rfl (Nat.le_of_ble_eq_true rfl) dX1_put_23 ⟨Nat.zero_le _, Nat.zero_le _⟩ ?_
  refine pg_if_ne (tgt := 33) hx hb dX1_put_26 (by decide) (⟨by omega, by omega⟩) (fun hc3 => ?_) (fun hc3 => absurd hc3 (by omega))
  refine lv_iconst (v := iI 0) hx hb dX1_put_33 rfl ?_
  refine lv_iconst (v := iI 2) hx hb dX1_put_34 rfl ?_
  refine pg_wcallV (As := [.int (iI 0), .int (iI 2)]) (rest := []) (l1 := []) (l2 := []) (w := [(xa X 0, .inr (1, [.int (iI 0), .ref ((xa X 1)), .ref ((xa X 2)), .ref ((xa X 3)), .ref ((xa X 4)), .int (iI (((sN S : Nat) : Int))), .int (iI (((sW S : Nat) : Int)))])), (xa X 1, .inl (xZ X, 12, .inl (fI (sS S)))), (xa X 2, .inl (xI X, 12, .inl (fI (sA S)))), (xa X 3, .inl (xI X, 12, .inl (fI (sU S)))), (xa X 4, .inl (xI X, 12, .inl (fI (sR S))))]) (w' := [(xa X 0, .inr (1, [.int (iI 0), .ref ((xa X 1)), .ref ((xa X 2)), .ref ((xa X 3)), .ref ((xa X 4)), .int (iI (((sN S : Nat) : Int))), .int (iI (((sW S : Nat) : Int)))])), (xa X 1, .inl (xZ X, 12, .inl (fI (sS S)))), (xa X 2, .inl (xI X, 12, .inl (fI (sA S)))), (xa X 3, .inl (xI X, 12, .inl (fI (sU S)))), (xa X 4, .inl (xI X, 12, .inl (fI (sR S))))]) SC (c_X1_isThrown l X S 0 0 2 0 ⟨by omega, by omega⟩ (by omega)) pT_st pT_h (cwV 2 hts gX1_put_X1_isThrown rfl rfl rfl (by decide +kernel) ⟨Nat.le_of_ble_eq_true rfl, Nat.le_of_ble_eq_true rfl⟩) (va_recv hK hP (ci := 1) (q0 := 0) rfl rfl) hK hP hD hS rfl rfl hl.1 rfl (Nat.le_of_ble_eq_true rfl) dX1_put_35 ⟨Nat.zero_le _, Nat.zero_le _⟩ (fun H locs hP hD hS => ?_)
  have hP : va_P (xG X) vwCl ([(xa X 0, .inr (1, [.int (iI 0), .ref ((xa X 1)), .ref ((xa X 2)), .ref ((xa X 3)), .ref ((xa X 4)), .int (iI (((sN S : Nat) : Int))), .int (iI (((sW S : Nat) : Int)))])), (xa X 1, .inl (xZ X, 12, .inl (fI (sS S)))), (xa X 2, .inl (xI X, 12, .inl (fI (sA S)))), (xa X 3, .inl (xI X, 12, .inl (fI (sU S)))), (xa X 4, .inl (xI X, 12, .inl (fI (sR S))))]) H := hP
  have hD : va_D (pg_in ((mC X S t))) ([(xa X 0, .inr (1, [.int (iI 0), .ref ((xa X 1)), .ref ((xa X 2)), .ref ((xa X 3)), .ref ((xa X 4)), .int (iI (((sN S : Nat) : Int))), .int (iI (((sW S : Nat) : Int)))])), (xa X 1, .inl (xZ X, 12, .inl (fI (sS S)))), (xa X 2, .inl (xI X, 12, .inl (fI (sA S)))), (xa X 3, .inl (xI X, 12, .inl (fI (sU S)))), (xa X 4, .inl (xI X, 12, .inl (fI (sR S))))]) := hD
  refine pg_if_eq (tgt := 43) hx hb dX1_put_38 (by decide) (⟨by omega, by omega⟩) (fun hc4 => ?_) (fun hc4 => absurd hc4 (by omega))
  refine lv_aload_n hx hb dX1_put_43 rfl (lv_at hl 0 rfl) ?_
  refine va_get (D := xG X) (ci := 1) (v := .ref ((xa X 1))) (C := RX1) (T := TX1) (N := 7) hx hb hts hin hown hK hP 0 rfl rfl 1 (by decide) (hts (.fieldLink RX1 7 "PegfieldModel" "stands" "[Z") (by decide +kernel)) (fun _ h9 => h9) rfl dX1_put_44 ?_
  refine lv_iload_n hx hb dX1_put_47 rfl (lv_at hl 1 rfl) ?_
  refine pg_zald hx hb hK hP 1 0 (f := (sS S)) rfl rfl k (rfl) (by omega) (by decide) dX1_put_48 ?_
  refine pg_if_ne (tgt := 56) hx hb dX1_put_49 (by decide) (⟨by omega, by omega⟩) (fun hc5 => ?_) (fun hc5 => ?_)
  · refine lv_iconst (v := iI 0) hx hb dX1_put_56 rfl ?_
    refine lv_istore (lv' := [(4, .int (iI 0)), (0, .ref ((xa X 0))), (1, .int (iI (((k : Nat) : Int)))), (2, .int (iI (((a : Nat) : Int)))), (3, .int (iI (((u : Nat) : Int))))]) hx hb dX1_put_57 hl (by decide) rfl (fun ls hl => ?_)
    refine lv_aload_n hx hb dX1_put_59 rfl (lv_at hl 1 rfl) ?_
    refine va_get (D := xG X) (ci := 1) (v := .ref ((xa X 1))) (C := RX1) (T := TX1) (N := 7) hx hb hts hin hown hK hP 0 rfl rfl 1 (by decide) (hts (.fieldLink RX1 7 "PegfieldModel" "stands" "[Z") (by decide +kernel)) (fun _ h9 => h9) rfl dX1_put_60 ?_
    refine lv_iload_n hx hb dX1_put_63 rfl (lv_at hl 2 rfl) ?_
    refine lv_iconst (v := iI 1) hx hb dX1_put_64 rfl ?_
    refine pg_zast hx hb hK hP hD hS 1 0 (f := (sS S)) rfl rfl k 1 (rfl) (rfl) (by omega) (by omega) (by decide) dX1_put_65 (fun H locs hP hD hS => ?_)
    have hP : va_P (xG X) vwCl ([(xa X 0, .inr (1, [.int (iI 0), .ref ((xa X 1)), .ref ((xa X 2)), .ref ((xa X 3)), .ref ((xa X 4)), .int (iI (((sN S : Nat) : Int))), .int (iI (((sW S : Nat) : Int)))])), (xa X 1, .inl (xZ X, 12, .inl (fI (upN (sS S) k 1)))), (xa X 2, .inl (xI X, 12, .inl (fI (sA S)))), (xa X 3, .inl (xI X, 12, .inl (fI (sU S)))), (xa X 4, .inl (xI X, 12, .inl (fI (sR S))))]) H := hP
    have hD : va_D (pg_in ((mC X S t))) ([(xa X 0, .inr (1, [.int (iI 0), .ref ((xa X 1)), .ref ((xa X 2)), .ref ((xa X 3)), .ref ((xa X 4)), .int (iI (((sN S : Nat) : Int))), .int (iI (((sW S : Nat) : Int)))])), (xa X 1, .inl (xZ X, 12, .inl (fI (upN (sS S) k 1)))), (xa X 2, .inl (xI X, 12, .inl (fI (sA S)))), (xa X 3, .inl (xI X, 12, .inl (fI (sU S)))), (xa X 4, .inl (xI X, 12, .inl (fI (sR S))))]) := hD
    refine lv_aload_n hx hb dX1_put_66 rfl (lv_at hl 1 rfl) ?_
    refine va_get (D := xG X) (ci := 1) (v := .ref ((xa X 2))) (C := RX1) (T := TX1) (N := 7) hx hb hts hin hown hK hP 0 rfl rfl 2 (by decide) (hts (.fieldLink RX1 13 "PegfieldModel" "across" "[I") (by decide +kernel)) (fun _ h9 => h9) rfl dX1_put_67 ?_
    refine lv_iload_n hx hb dX1_put_70 rfl (lv_at hl 2 rfl) ?_
    refine lv_iload_n hx hb dX1_put_71 rfl (lv_at hl 3 rfl) ?_
    refine pg_iast hx hb hK hP hD hS 2 1 (f := (sA S)) rfl rfl k a (rfl) (rfl) (by omega) (by decide) dX1_put_72 (fun H locs hP hD hS => ?_)
    have hP : va_P (xG X) vwCl ([(xa X 0, .inr (1, [.int (iI 0), .ref ((xa X 1)), .ref ((xa X 2)), .ref ((xa X 3)), .ref ((xa X 4)), .int (iI (((sN S : Nat) : Int))), .int (iI (((sW S : Nat) : Int)))])), (xa X 1, .inl (xZ X, 12, .inl (fI (upN (sS S) k 1)))), (xa X 2, .inl (xI X, 12, .inl (fI (upN (sA S) k a)))), (xa X 3, .inl (xI X, 12, .inl (fI (sU S)))), (xa X 4, .inl (xI X, 12, .inl (fI (sR S))))]) H := hP
    have hD : va_D (pg_in ((mC X S t))) ([(xa X 0, .inr (1, [.int (iI 0), .ref ((xa X 1)), .ref ((xa X 2)), .ref ((xa X 3)), .ref ((xa X 4)), .int (iI (((sN S : Nat) : Int))), .int (iI (((sW S : Nat) : Int)))])), (xa X 1, .inl (xZ X, 12, .inl (fI (upN (sS S) k 1)))), (xa X 2, .inl (xI X, 12, .inl (fI (upN (sA S) k a)))), (xa X 3, .inl (xI X, 12, .inl (fI (sU S)))), (xa X 4, .inl (xI X, 12, .inl (fI (sR S))))]) := hD
    refine lv_aload_n hx hb dX1_put_73 rfl (lv_at hl 1 rfl) ?_
    refine va_get (D := xG X) (ci := 1) (v := .ref ((xa X 3))) (C := RX1) (T := TX1) (N := 7) hx hb hts hin hown hK hP 0 rfl rfl 3 (by decide) (hts (.fieldLink RX1 17 "PegfieldModel" "up" "[I") (by decide +kernel)) (fun _ h9 => h9) rfl dX1_put_74 ?_
    refine lv_iload_n hx hb dX1_put_77 rfl (lv_at hl 2 rfl) ?_
    refine lv_iload_n hx hb dX1_put_78 rfl (lv_at hl 4 rfl) ?_
    refine pg_iast hx hb hK hP hD hS 3 1 (f := (sU S)) rfl rfl k u (rfl) (rfl) (by omega) (by decide) dX1_put_79 (fun H locs hP hD hS => ?_)
    have hP : va_P (xG X) vwCl ([(xa X 0, .inr (1, [.int (iI 0), .ref ((xa X 1)), .ref ((xa X 2)), .ref ((xa X 3)), .ref ((xa X 4)), .int (iI (((sN S : Nat) : Int))), .int (iI (((sW S : Nat) : Int)))])), (xa X 1, .inl (xZ X, 12, .inl (fI (upN (sS S) k 1)))), (xa X 2, .inl (xI X, 12, .inl (fI (upN (sA S) k a)))), (xa X 3, .inl (xI X, 12, .inl (fI (upN (sU S) k u)))), (xa X 4, .inl (xI X, 12, .inl (fI (sR S))))]) H := hP
    have hD : va_D (pg_in ((mC X S t))) ([(xa X 0, .inr (1, [.int (iI 0), .ref ((xa X 1)), .ref ((xa X 2)), .ref ((xa X 3)), .ref ((xa X 4)), .int (iI (((sN S : Nat) : Int))), .int (iI (((sW S : Nat) : Int)))])), (xa X 1, .inl (xZ X, 12, .inl (fI (upN (sS S) k 1)))), (xa X 2, .inl (xI X, 12, .inl (fI (upN (sA S) k a)))), (xa X 3, .inl (xI X, 12, .inl (fI (upN (sU S) k u)))), (xa X 4, .inl (xI X, 12, .inl (fI (sR S))))]) := hD
    refine lv_iload hx hb dX1_put_80 (lv_at hl 0 rfl) ?_
    exact pg_wzret hx hb hr hlk hP hS  (iI_bool (by omega)) (congrArg (fun z : Int => some (Value.int (iI z))) (show 1 - (sS S k : Int) = 0 by omega)) dX1_put_82
  · refine lv_iconst (v := iI 1) hx hb dX1_put_52 rfl ?_
    refine lv_goto (tgt := 57) hx hb dX1_put_53 (by decide) ?_
    refine lv_istore (lv' := [(4, .int (iI 1)), (0, .ref ((xa X 0))), (1, .int (iI (((k : Nat) : Int)))), (2, .int (iI (((a : Nat) : Int)))), (3, .int (iI (((u : Nat) : Int))))]) hx hb dX1_put_57 hl (by decide) rfl (fun ls hl => ?_)
    refine lv_aload_n hx hb dX1_put_59 rfl (lv_at hl 1 rfl) ?_
    refine va_get (D := xG X) (ci := 1) (v := .ref ((xa X 1))) (C := RX1) (T := TX1) (N := 7) hx hb hts hin hown hK hP 0 rfl rfl 1 (by decide) (hts (.fieldLink RX1 7 "PegfieldModel" "stands" "[Z") (by decide +kernel)) (fun _ h9 => h9) rfl dX1_put_60 ?_
    refine lv_iload_n hx hb dX1_put_63 rfl (lv_at hl 2 rfl) ?_
    refine lv_iconst (v := iI 1) hx hb dX1_put_64 rfl ?_
    refine pg_zast hx hb hK hP hD hS 1 0 (f := (sS S)) rfl rfl k 1 (rfl) (rfl) (by omega) (by omega) (by decide) dX1_put_65 (fun H locs hP hD hS => ?_)
    have hP : va_P (xG X) vwCl ([(xa X 0, .inr (1, [.int (iI 0), .ref ((xa X 1)), .ref ((xa X 2)), .ref ((xa X 3)), .ref ((xa X 4)), .int (iI (((sN S : Nat) : Int))), .int (iI (((sW S : Nat) : Int)))])), (xa X 1, .inl (xZ X, 12, .inl (fI (upN (sS S) k 1)))), (xa X 2, .inl (xI X, 12, .inl (fI (sA S)))), (xa X 3, .inl (xI X, 12, .inl (fI (sU S)))), (xa X 4, .inl (xI X, 12, .inl (fI (sR S))))]) H := hP
    have hD : va_D (pg_in ((mC X S t))) ([(xa X 0, .inr (1, [.int (iI 0), .ref ((xa X 1)), .ref ((xa X 2)), .ref ((xa X 3)), .ref ((xa X 4)), .int (iI (((sN S : Nat) : Int))), .int (iI (((sW S : Nat) : Int)))])), (xa X 1, .inl (xZ X, 12, .inl (fI (upN (sS S) k 1)))), (xa X 2, .inl (xI X, 12, .inl (fI (sA S)))), (xa X 3, .inl (xI X, 12, .inl (fI (sU S)))), (xa X 4, .inl (xI X, 12, .inl (fI (sR S))))]) := hD
    refine lv_aload_n hx hb dX1_put_66 rfl (lv_at hl 1 rfl) ?_
    refine va_get (D := xG X) (ci := 1) (v := .ref ((xa X 2))) (C := RX1) (T := TX1) (N := 7) hx hb hts hin hown hK hP 0 rfl rfl 2 (by decide) (hts (.fieldLink RX1 13 "PegfieldModel" "across" "[I") (by decide +kernel)) (fun _ h9 => h9) rfl dX1_put_67 ?_
    refine lv_iload_n hx hb dX1_put_70 rfl (lv_at hl 2 rfl) ?_
    refine lv_iload_n hx hb dX1_put_71 rfl (lv_at hl 3 rfl) ?_
    refine pg_iast hx hb hK hP hD hS 2 1 (f := (sA S)) rfl rfl k a (rfl) (rfl) (by omega) (by decide) dX1_put_72 (fun H locs hP hD hS => ?_)
    have hP : va_P (xG X) vwCl ([(xa X 0, .inr (1, [.int (iI 0), .ref ((xa X 1)), .ref ((xa X 2)), .ref ((xa X 3)), .ref ((xa X 4)), .int (iI (((sN S : Nat) : Int))), .int (iI (((sW S : Nat) : Int)))])), (xa X 1, .inl (xZ X, 12, .inl (fI (upN (sS S) k 1)))), (xa X 2, .inl (xI X, 12, .inl (fI (upN (sA S) k a)))), (xa X 3, .inl (xI X, 12, .inl (fI (sU S)))), (xa X 4, .inl (xI X, 12, .inl (fI (sR S))))]) H := hP
    have hD : va_D (pg_in ((mC X S t))) ([(xa X 0, .inr (1, [.int (iI 0), .ref ((xa X 1)), .ref ((xa X 2)), .ref ((xa X 3)), .ref ((xa X 4)), .int (iI (((sN S : Nat) : Int))), .int (iI (((sW S : Nat) : Int)))])), (xa X 1, .inl (xZ X, 12, .inl (fI (upN (sS S) k 1)))), (xa X 2, .inl (xI X, 12, .inl (fI (upN (sA S) k a)))), (xa X 3, .inl (xI X, 12, .inl (fI (sU S)))), (xa X 4, .inl (xI X, 12, .inl (fI (sR S))))]) := hD
    refine lv_aload_n hx hb dX1_put_73 rfl (lv_at hl 1 rfl) ?_
    refine va_get (D := xG X) (ci := 1) (v := .ref ((xa X 3))) (C := RX1) (T := TX1) (N := 7) hx hb hts hin hown hK hP 0 rfl rfl 3 (by decide) (hts (.fieldLink RX1 17 "PegfieldModel" "up" "[I") (by decide +kernel)) (fun _ h9 => h9) rfl dX1_put_74 ?_
    refine lv_iload_n hx hb dX1_put_77 rfl (lv_at hl 2 rfl) ?_
    refine lv_iload_n hx hb dX1_put_78 rfl (lv_at hl 4 rfl) ?_
    refine pg_iast hx hb hK hP hD hS 3 1 (f := (sU S)) rfl rfl k u (rfl) (rfl) (by omega) (by decide) dX1_put_79 (fun H locs hP hD hS => ?_)
    have hP : va_P (xG X) vwCl ([(xa X 0, .inr (1, [.int (iI 0), .ref ((xa X 1)), .ref ((xa X 2)), .ref ((xa X 3)), .ref ((xa X 4)), .int (iI (((sN S : Nat) : Int))), .int (iI (((sW S : Nat) : Int)))])), (xa X 1, .inl (xZ X, 12, .inl (fI (upN (sS S) k 1)))), (xa X 2, .inl (xI X, 12, .inl (fI (upN (sA S) k a)))), (xa X 3, .inl (xI X, 12, .inl (fI (upN (sU S) k u)))), (xa X 4, .inl (xI X, 12, .inl (fI (sR S))))]) H := hP
    have hD : va_D (pg_in ((mC X S t))) ([(xa X 0, .inr (1, [.int (iI 0), .ref ((xa X 1)), .ref ((xa X 2)), .ref ((xa X 3)), .ref ((xa X 4)), .int (iI (((sN S : Nat) : Int))), .int (iI (((sW S : Nat) : Int)))])), (xa X 1, .inl (xZ X, 12, .inl (fI (upN (sS S) k 1)))), (xa X 2, .inl (xI X, 12, .inl (fI (upN (sA S) k a)))), (xa X 3, .inl (xI X, 12, .inl (fI (upN (sU S) k u)))), (xa X 4, .inl (xI X, 12, .inl (fI (sR S))))]) := hD
    refine lv_iload hx hb dX1_put_80 (lv_at hl 0 rfl) ?_
    exact pg_wzret hx hb hr hlk hP hS  (iI_bool (by omega)) (congrArg (fun z : Int => some (Value.int (iI z))) (show 1 - (sS S k : Int) = 1 by omega)) dX1_put_82
set_option maxRecDepth 100000 in
set_option maxHeartbeats 4000000 in
theorem c_X1_put_1 (l : Launch) (X : pgX) (S : pgS) (t : Int) (pp : Int) (hp : inI pp) (h : pp < 0 ∨ 12 ≤ pp) (a u : Int) : pg_wr l yX1_put wsX1_put (rm 2 43) (xG X) (xTy X) pT (mC X S t) (mC X S 1) 0 0 [.ref ((xa X 0)), .int (iI pp), .int (iI a), .int (iI u)] (some (.int (iI 0))) := by
  refine pg_wr_of (cc := cX1_put) (maxL := 5) (ret := (some .boolean)) (by decide) rfl (Nat.le_of_ble_eq_true rfl) ?_
  intro p e s m below meth c ls SC hr hlk hP hK hD hS hB hl
  obtain ⟨hx, hb, hml, hown, hts⟩ := id SC
  have hown : s.vm.findClass RX1 = some m.cls := hown
  have hl : lv_has ls 5 [(0, .ref ((xa X 0))), (1, .int (iI pp)), (2, .int (iI a)), (3, .int (iI u))] := hl
  refine lv_aload_n hx hb dX1_put_0 rfl (lv_at hl 0 rfl) ?_
  refine lv_iload_n hx hb dX1_put_1 rfl (lv_at hl 1 rfl) ?_
  refine pg_wcallV (As := [.int (iI pp)]) (rest := []) (l1 := []) (l2 := []) (w := [(xa X 0, .inr (1, [.int (iI t), .ref ((xa X 1)), .ref ((xa X 2)), .ref ((xa X 3)), .ref ((xa X 4)), .int (iI (((sN S : Nat) : Int))), .int (iI (((sW S : Nat) : Int)))])), (xa X 1, .inl (xZ X, 12, .inl (fI (sS S)))), (xa X 2, .inl (xI X, 12, .inl (fI (sA S)))), (xa X 3, .inl (xI X, 12, .inl (fI (sU S)))), (xa X 4, .inl (xI X, 12, .inl (fI (sR S))))]) (w' := [(xa X 0, .inr (1, [.int (iI 1), .ref ((xa X 1)), .ref ((xa X 2)), .ref ((xa X 3)), .ref ((xa X 4)), .int (iI (((sN S : Nat) : Int))), .int (iI (((sW S : Nat) : Int)))])), (xa X 1, .inl (xZ X, 12, .inl (fI (sS S)))), (xa X 2, .inl (xI X, 12, .inl (fI (sA S)))), (xa X 3, .inl (xI X, 12, .inl (fI (sU S)))), (xa X 4, .inl (xI X, 12, .inl (fI (sR S))))]) SC (c_X1_isNoNumber_1 l X S t pp ⟨by omega, by omega⟩ (by omega)) pT_st pT_h (cwV 1 hts gX1_put_X1_isNoNumber rfl rfl rfl (by decide +kernel) ⟨Nat.le_of_ble_eq_true rfl, Nat.le_of_ble_eq_true rfl⟩) (va_recv hK hP (ci := 1) (q0 := 0) rfl rfl) hK hP hD hS rfl rfl hl.1 rfl (Nat.le_of_ble_eq_true rfl) dX1_put_2 ⟨Nat.zero_le _, Nat.zero_le _⟩ (fun H locs hP hD hS => ?_)
  have hP : va_P (xG X) vwCl ([(xa X 0, .inr (1, [.int (iI 1), .ref ((xa X 1)), .ref ((xa X 2)), .ref ((xa X 3)), .ref ((xa X 4)), .int (iI (((sN S : Nat) : Int))), .int (iI (((sW S : Nat) : Int)))])), (xa X 1, .inl (xZ X, 12, .inl (fI (sS S)))), (xa X 2, .inl (xI X, 12, .inl (fI (sA S)))), (xa X 3, .inl (xI X, 12, .inl (fI (sU S)))), (xa X 4, .inl (xI X, 12, .inl (fI (sR S))))]) H := hP
  have hD : va_D (pg_in ((mC X S t))) ([(xa X 0, .inr (1, [.int (iI 1), .ref ((xa X 1)), .ref ((xa X 2)), .ref ((xa X 3)), .ref ((xa X 4)), .int (iI (((sN S : Nat) : Int))), .int (iI (((sW S : Nat) : Int)))])), (xa X 1, .inl (xZ X, 12, .inl (fI (sS S)))), (xa X 2, .inl (xI X, 12, .inl (fI (sA S)))), (xa X 3, .inl (xI X, 12, .inl (fI (sU S)))), (xa X 4, .inl (xI X, 12, .inl (fI (sR S))))]) := hD
  refine pg_if_ne (tgt := 41) hx hb dX1_put_5 (by decide) (⟨by omega, by omega⟩) (fun hc1 => ?_) (fun hc1 => absurd hc1 (by omega))
  refine lv_iconst (v := iI 0) hx hb dX1_put_41 rfl ?_
  exact pg_wzret hx hb hr hlk hP hS  (iI_bool (by omega)) (congrArg (fun z : Int => some (Value.int (iI z))) (show 0 = 0 by omega)) dX1_put_42
set_option maxRecDepth 100000 in
set_option maxHeartbeats 4000000 in
theorem c_X1_put_2 (l : Launch) (X : pgX) (S : pgS) (t : Int) (k : Nat) (hk : k < 12) (a u : Int) (ha : inI a) (hu : inI u) (h : a < 0 ∨ 91 ≤ a ∨ u < 0 ∨ 91 ≤ u) : pg_wr l yX1_put wsX1_put (rm 2 43) (xG X) (xTy X) pT (mC X S t) (mC X S 2) 0 0 [.ref ((xa X 0)), .int (iI (((k : Nat) : Int))), .int (iI a), .int (iI u)] (some (.int (iI 0))) := by
  refine pg_wr_of (cc := cX1_put) (maxL := 5) (ret := (some .boolean)) (by decide) rfl (Nat.le_of_ble_eq_true rfl) ?_
  intro p e s m below meth c ls SC hr hlk hP hK hD hS hB hl
  obtain ⟨hx, hb, hml, hown, hts⟩ := id SC
  have hown : s.vm.findClass RX1 = some m.cls := hown
  have hl : lv_has ls 5 [(0, .ref ((xa X 0))), (1, .int (iI (((k : Nat) : Int)))), (2, .int (iI a)), (3, .int (iI u))] := hl
  refine lv_aload_n hx hb dX1_put_0 rfl (lv_at hl 0 rfl) ?_
  refine lv_iload_n hx hb dX1_put_1 rfl (lv_at hl 1 rfl) ?_
  refine pg_wcallV (As := [.int (iI (((k : Nat) : Int)))]) (rest := []) (l1 := []) (l2 := []) (w := [(xa X 0, .inr (1, [.int (iI t), .ref ((xa X 1)), .ref ((xa X 2)), .ref ((xa X 3)), .ref ((xa X 4)), .int (iI (((sN S : Nat) : Int))), .int (iI (((sW S : Nat) : Int)))])), (xa X 1, .inl (xZ X, 12, .inl (fI (sS S)))), (xa X 2, .inl (xI X, 12, .inl (fI (sA S)))), (xa X 3, .inl (xI X, 12, .inl (fI (sU S)))), (xa X 4, .inl (xI X, 12, .inl (fI (sR S))))]) (w' := [(xa X 0, .inr (1, [.int (iI 0), .ref ((xa X 1)), .ref ((xa X 2)), .ref ((xa X 3)), .ref ((xa X 4)), .int (iI (((sN S : Nat) : Int))), .int (iI (((sW S : Nat) : Int)))])), (xa X 1, .inl (xZ X, 12, .inl (fI (sS S)))), (xa X 2, .inl (xI X, 12, .inl (fI (sA S)))), (xa X 3, .inl (xI X, 12, .inl (fI (sU S)))), (xa X 4, .inl (xI X, 12, .inl (fI (sR S))))]) SC (c_X1_isNoNumber_ok l X S t (((k : Nat) : Int)) (by omega)) pT_st pT_h (cwV 1 hts gX1_put_X1_isNoNumber rfl rfl rfl (by decide +kernel) ⟨Nat.le_of_ble_eq_true rfl, Nat.le_of_ble_eq_true rfl⟩) (va_recv hK hP (ci := 1) (q0 := 0) rfl rfl) hK hP hD hS rfl rfl hl.1 rfl (Nat.le_of_ble_eq_true rfl) dX1_put_2 ⟨Nat.zero_le _, Nat.zero_le _⟩ (fun H locs hP hD hS => ?_)
  have hP : va_P (xG X) vwCl ([(xa X 0, .inr (1, [.int (iI 0), .ref ((xa X 1)), .ref ((xa X 2)), .ref ((xa X 3)), .ref ((xa X 4)), .int (iI (((sN S : Nat) : Int))), .int (iI (((sW S : Nat) : Int)))])), (xa X 1, .inl (xZ X, 12, .inl (fI (sS S)))), (xa X 2, .inl (xI X, 12, .inl (fI (sA S)))), (xa X 3, .inl (xI X, 12, .inl (fI (sU S)))), (xa X 4, .inl (xI X, 12, .inl (fI (sR S))))]) H := hP
  have hD : va_D (pg_in ((mC X S t))) ([(xa X 0, .inr (1, [.int (iI 0), .ref ((xa X 1)), .ref ((xa X 2)), .ref ((xa X 3)), .ref ((xa X 4)), .int (iI (((sN S : Nat) : Int))), .int (iI (((sW S : Nat) : Int)))])), (xa X 1, .inl (xZ X, 12, .inl (fI (sS S)))), (xa X 2, .inl (xI X, 12, .inl (fI (sA S)))), (xa X 3, .inl (xI X, 12, .inl (fI (sU S)))), (xa X 4, .inl (xI X, 12, .inl (fI (sR S))))]) := hD
  refine pg_if_ne (tgt := 41) hx hb dX1_put_5 (by decide) (⟨by omega, by omega⟩) (fun hc1 => absurd hc1 (by omega)) (fun hc1 => ?_)
  refine lv_aload_n hx hb dX1_put_8 rfl (lv_at hl 0 rfl) ?_
  refine lv_iload_n hx hb dX1_put_9 rfl (lv_at hl 2 rfl) ?_
  refine lv_iconst (v := iI 0) hx hb dX1_put_10 rfl ?_
  refine lv_bipush (v := iI 90) hx hb dX1_put_11 (by decide +kernel) ?_
  by_cases hs2 : 0 ≤ a ∧ a < 91
  · refine pg_callS (As := [.int (iI a), .int (iI 0), .int (iI 90)]) (rest := [.ref ((xa X 0))]) SC (c_X1_lies l a 0 90 1 ⟨by omega, by omega⟩ ⟨by omega, by omega⟩ ⟨by omega, by omega⟩ (by omega)) pT_st pT_h (va_cwS 3 hts gX1_put_X1_lies rfl rfl rfl (by decide +kernel) ⟨Nat.le_of_ble_eq_true rfl, Nat.le_of_ble_eq_true rfl⟩) rfl hl.1 rfl (Nat.le_of_ble_eq_true rfl) dX1_put_13 ⟨Nat.zero_le _, Nat.zero_le _⟩ ?_
    refine pg_if_eq (tgt := 29) hx hb dX1_put_16 (by decide) (⟨by omega, by omega⟩) (fun hc3 => absurd hc3 (by omega)) (fun hc3 => ?_)
    refine lv_iload_n hx hb dX1_put_19 rfl (lv_at hl 3 rfl) ?_
    refine lv_iconst (v := iI 0) hx hb dX1_put_20 rfl ?_
    refine lv_bipush (v := iI 90) hx hb dX1_put_21 (by decide +kernel) ?_
    refine pg_callS (As := [.int (iI u), .int (iI 0), .int (iI 90)]) (rest := [.ref ((xa X 0))]) SC (c_X1_lies l u 0 90 0 ⟨by omega, by omega⟩ ⟨by omega, by omega⟩ ⟨by omega, by omega⟩ (by omega)) pT_st pT_h (va_cwS 3 hts gX1_put_X1_lies rfl rfl rfl (by decide +kernel) ⟨Nat.le_of_ble_eq_true rfl, Nat.le_of_ble_eq_true rfl⟩) rfl hl.1 rfl (Nat.le_of_ble_eq_true rfl) dX1_put_23 ⟨Nat.zero_le _, Nat.zero_le _⟩ ?_
    refine pg_if_ne (tgt := 33) hx hb dX1_put_26 (by decide) (⟨by omega, by omega⟩) (fun hc4 => absurd hc4 (by omega)) (fun hc4 => ?_)
    refine lv_iconst (v := iI 1) hx hb dX1_put_29 rfl ?_
    refine lv_goto (tgt := 34) hx hb dX1_put_30 (by decide) ?_
    refine lv_iconst (v := iI 2) hx hb dX1_put_34 rfl ?_
    refine pg_wcallV (As := [.int (iI 1), .int (iI 2)]) (rest := []) (l1 := []) (l2 := []) (w := [(xa X 0, .inr (1, [.int (iI 0), .ref ((xa X 1)), .ref ((xa X 2)), .ref ((xa X 3)), .ref ((xa X 4)), .int (iI (((sN S : Nat) : Int))), .int (iI (((sW S : Nat) : Int)))])), (xa X 1, .inl (xZ X, 12, .inl (fI (sS S)))), (xa X 2, .inl (xI X, 12, .inl (fI (sA S)))), (xa X 3, .inl (xI X, 12, .inl (fI (sU S)))), (xa X 4, .inl (xI X, 12, .inl (fI (sR S))))]) (w' := [(xa X 0, .inr (1, [.int (iI 2), .ref ((xa X 1)), .ref ((xa X 2)), .ref ((xa X 3)), .ref ((xa X 4)), .int (iI (((sN S : Nat) : Int))), .int (iI (((sW S : Nat) : Int)))])), (xa X 1, .inl (xZ X, 12, .inl (fI (sS S)))), (xa X 2, .inl (xI X, 12, .inl (fI (sA S)))), (xa X 3, .inl (xI X, 12, .inl (fI (sU S)))), (xa X 4, .inl (xI X, 12, .inl (fI (sR S))))]) SC (c_X1_isThrown l X S 0 1 2 2 ⟨by omega, by omega⟩ (by omega)) pT_st pT_h (cwV 2 hts gX1_put_X1_isThrown rfl rfl rfl (by decide +kernel) ⟨Nat.le_of_ble_eq_true rfl, Nat.le_of_ble_eq_true rfl⟩) (va_recv hK hP (ci := 1) (q0 := 0) rfl rfl) hK hP hD hS rfl rfl hl.1 rfl (Nat.le_of_ble_eq_true rfl) dX1_put_35 ⟨Nat.zero_le _, Nat.zero_le _⟩ (fun H locs hP hD hS => ?_)
    have hP : va_P (xG X) vwCl ([(xa X 0, .inr (1, [.int (iI 2), .ref ((xa X 1)), .ref ((xa X 2)), .ref ((xa X 3)), .ref ((xa X 4)), .int (iI (((sN S : Nat) : Int))), .int (iI (((sW S : Nat) : Int)))])), (xa X 1, .inl (xZ X, 12, .inl (fI (sS S)))), (xa X 2, .inl (xI X, 12, .inl (fI (sA S)))), (xa X 3, .inl (xI X, 12, .inl (fI (sU S)))), (xa X 4, .inl (xI X, 12, .inl (fI (sR S))))]) H := hP
    have hD : va_D (pg_in ((mC X S t))) ([(xa X 0, .inr (1, [.int (iI 2), .ref ((xa X 1)), .ref ((xa X 2)), .ref ((xa X 3)), .ref ((xa X 4)), .int (iI (((sN S : Nat) : Int))), .int (iI (((sW S : Nat) : Int)))])), (xa X 1, .inl (xZ X, 12, .inl (fI (sS S)))), (xa X 2, .inl (xI X, 12, .inl (fI (sA S)))), (xa X 3, .inl (xI X, 12, .inl (fI (sU S)))), (xa X 4, .inl (xI X, 12, .inl (fI (sR S))))]) := hD
    refine pg_if_eq (tgt := 43) hx hb dX1_put_38 (by decide) (⟨by omega, by omega⟩) (fun hc5 => absurd hc5 (by omega)) (fun hc5 => ?_)
    refine lv_iconst (v := iI 0) hx hb dX1_put_41 rfl ?_
    exact pg_wzret hx hb hr hlk hP hS  (iI_bool (by omega)) (congrArg (fun z : Int => some (Value.int (iI z))) (show 0 = 0 by omega)) dX1_put_42
  · refine pg_callS (As := [.int (iI a), .int (iI 0), .int (iI 90)]) (rest := [.ref ((xa X 0))]) SC (c_X1_lies l a 0 90 0 ⟨by omega, by omega⟩ ⟨by omega, by omega⟩ ⟨by omega, by omega⟩ (by omega)) pT_st pT_h (va_cwS 3 hts gX1_put_X1_lies rfl rfl rfl (by decide +kernel) ⟨Nat.le_of_ble_eq_true rfl, Nat.le_of_ble_eq_true rfl⟩) rfl hl.1 rfl (Nat.le_of_ble_eq_true rfl) dX1_put_13 ⟨Nat.zero_le _, Nat.zero_le _⟩ ?_
    refine pg_if_eq (tgt := 29) hx hb dX1_put_16 (by decide) (⟨by omega, by omega⟩) (fun hc6 => ?_) (fun hc6 => absurd hc6 (by omega))
    refine lv_iconst (v := iI 1) hx hb dX1_put_29 rfl ?_
    refine lv_goto (tgt := 34) hx hb dX1_put_30 (by decide) ?_
    refine lv_iconst (v := iI 2) hx hb dX1_put_34 rfl ?_
    refine pg_wcallV (As := [.int (iI 1), .int (iI 2)]) (rest := []) (l1 := []) (l2 := []) (w := [(xa X 0, .inr (1, [.int (iI 0), .ref ((xa X 1)), .ref ((xa X 2)), .ref ((xa X 3)), .ref ((xa X 4)), .int (iI (((sN S : Nat) : Int))), .int (iI (((sW S : Nat) : Int)))])), (xa X 1, .inl (xZ X, 12, .inl (fI (sS S)))), (xa X 2, .inl (xI X, 12, .inl (fI (sA S)))), (xa X 3, .inl (xI X, 12, .inl (fI (sU S)))), (xa X 4, .inl (xI X, 12, .inl (fI (sR S))))]) (w' := [(xa X 0, .inr (1, [.int (iI 2), .ref ((xa X 1)), .ref ((xa X 2)), .ref ((xa X 3)), .ref ((xa X 4)), .int (iI (((sN S : Nat) : Int))), .int (iI (((sW S : Nat) : Int)))])), (xa X 1, .inl (xZ X, 12, .inl (fI (sS S)))), (xa X 2, .inl (xI X, 12, .inl (fI (sA S)))), (xa X 3, .inl (xI X, 12, .inl (fI (sU S)))), (xa X 4, .inl (xI X, 12, .inl (fI (sR S))))]) SC (c_X1_isThrown l X S 0 1 2 2 ⟨by omega, by omega⟩ (by omega)) pT_st pT_h (cwV 2 hts gX1_put_X1_isThrown rfl rfl rfl (by decide +kernel) ⟨Nat.le_of_ble_eq_true rfl, Nat.le_of_ble_eq_true rfl⟩) (va_recv hK hP (ci := 1) (q0 := 0) rfl rfl) hK hP hD hS rfl rfl hl.1 rfl (Nat.le_of_ble_eq_true rfl) dX1_put_35 ⟨Nat.zero_le _, Nat.zero_le _⟩ (fun H locs hP hD hS => ?_)
    have hP : va_P (xG X) vwCl ([(xa X 0, .inr (1, [.int (iI 2), .ref ((xa X 1)), .ref ((xa X 2)), .ref ((xa X 3)), .ref ((xa X 4)), .int (iI (((sN S : Nat) : Int))), .int (iI (((sW S : Nat) : Int)))])), (xa X 1, .inl (xZ X, 12, .inl (fI (sS S)))), (xa X 2, .inl (xI X, 12, .inl (fI (sA S)))), (xa X 3, .inl (xI X, 12, .inl (fI (sU S)))), (xa X 4, .inl (xI X, 12, .inl (fI (sR S))))]) H := hP
    have hD : va_D (pg_in ((mC X S t))) ([(xa X 0, .inr (1, [.int (iI 2), .ref ((xa X 1)), .ref ((xa X 2)), .ref ((xa X 3)), .ref ((xa X 4)), .int (iI (((sN S : Nat) : Int))), .int (iI (((sW S : Nat) : Int)))])), (xa X 1, .inl (xZ X, 12, .inl (fI (sS S)))), (xa X 2, .inl (xI X, 12, .inl (fI (sA S)))), (xa X 3, .inl (xI X, 12, .inl (fI (sU S)))), (xa X 4, .inl (xI X, 12, .inl (fI (sR S))))]) := hD
    refine pg_if_eq (tgt := 43) hx hb dX1_put_38 (by decide) (⟨by omega, by omega⟩) (fun hc7 => absurd hc7 (by omega)) (fun hc7 => ?_)
    refine lv_iconst (v := iI 0) hx hb dX1_put_41 rfl ?_
    exact pg_wzret hx hb hr hlk hP hS  (iI_bool (by omega)) (congrArg (fun z : Int => some (Value.int (iI z))) (show 0 = 0 by omega)) dX1_put_42
set_option maxRecDepth 100000 in
set_option maxHeartbeats 4000000 in
theorem c_X1_take_ok (l : Launch) (X : pgX) (S : pgS) (t : Int) (hok : pgOk S) (k : Nat) (hk : k < 12) (h1 : sS S k = 1) (hr9 : ∀ j, j < sN S → sR S j ≠ k) : pg_wr l yX1_take wsX1_take (rm 3 64) (xG X) (xTy X) pT (mC X S t) (mC X (upN (sS S) k 0, sA S, sU S, sR S, sN S, sW S) 0) 0 0 [.ref ((xa X 0)), .int (iI (((k : Nat) : Int)))] (none) := by
  refine pg_wr_of (cc := cX1_take) (maxL := 2) (ret := none) (by decide) rfl (Nat.le_of_ble_eq_true rfl) ?_
  intro p e s m below meth c ls SC hr hlk hP hK hD hS hB hl
  obtain ⟨hx, hb, hml, hown, hts⟩ := id SC
  have hown : s.vm.findClass RX1 = some m.cls := hown
  have hl : lv_has ls 2 [(0, .ref ((xa X 0))), (1, .int (iI (((k : Nat) : Int))))] := hl
  have hin : ∀ w ∈ u_ws RX1 TX1 7, w ∈ wsX1_take := by decide +kernel
  refine lv_aload_n hx hb dX1_take_0 rfl (lv_at hl 0 rfl) ?_
  refine lv_iload_n hx hb dX1_take_1 rfl (lv_at hl 1 rfl) ?_
  refine pg_wcallV (As := [.int (iI (((k : Nat) : Int)))]) (rest := []) (l1 := []) (l2 := []) (w := [(xa X 0, .inr (1, [.int (iI t), .ref ((xa X 1)), .ref ((xa X 2)), .ref ((xa X 3)), .ref ((xa X 4)), .int (iI (((sN S : Nat) : Int))), .int (iI (((sW S : Nat) : Int)))])), (xa X 1, .inl (xZ X, 12, .inl (fI (sS S)))), (xa X 2, .inl (xI X, 12, .inl (fI (sA S)))), (xa X 3, .inl (xI X, 12, .inl (fI (sU S)))), (xa X 4, .inl (xI X, 12, .inl (fI (sR S))))]) (w' := [(xa X 0, .inr (1, [.int (iI 0), .ref ((xa X 1)), .ref ((xa X 2)), .ref ((xa X 3)), .ref ((xa X 4)), .int (iI (((sN S : Nat) : Int))), .int (iI (((sW S : Nat) : Int)))])), (xa X 1, .inl (xZ X, 12, .inl (fI (sS S)))), (xa X 2, .inl (xI X, 12, .inl (fI (sA S)))), (xa X 3, .inl (xI X, 12, .inl (fI (sU S)))), (xa X 4, .inl (xI X, 12, .inl (fI (sR S))))]) SC (c_X1_isNoPeg_ok l X S t k hk h1) pT_st pT_h (cwV 1 hts gX1_take_X1_isNoPeg rfl rfl rfl (by decide +kernel) ⟨Nat.le_of_ble_eq_true rfl, Nat.le_of_ble_eq_true rfl⟩) (va_recv hK hP (ci := 1) (q0 := 0) rfl rfl) hK hP hD hS rfl rfl hl.1 rfl (Nat.le_of_ble_eq_true rfl) dX1_take_2 ⟨Nat.zero_le _, Nat.zero_le _⟩ (fun H locs hP hD hS => ?_)
  have hP : va_P (xG X) vwCl ([(xa X 0, .inr (1, [.int (iI 0), .ref ((xa X 1)), .ref ((xa X 2)), .ref ((xa X 3)), .ref ((xa X 4)), .int (iI (((sN S : Nat) : Int))), .int (iI (((sW S : Nat) : Int)))])), (xa X 1, .inl (xZ X, 12, .inl (fI (sS S)))), (xa X 2, .inl (xI X, 12, .inl (fI (sA S)))), (xa X 3, .inl (xI X, 12, .inl (fI (sU S)))), (xa X 4, .inl (xI X, 12, .inl (fI (sR S))))]) H := hP
  have hD : va_D (pg_in ((mC X S t))) ([(xa X 0, .inr (1, [.int (iI 0), .ref ((xa X 1)), .ref ((xa X 2)), .ref ((xa X 3)), .ref ((xa X 4)), .int (iI (((sN S : Nat) : Int))), .int (iI (((sW S : Nat) : Int)))])), (xa X 1, .inl (xZ X, 12, .inl (fI (sS S)))), (xa X 2, .inl (xI X, 12, .inl (fI (sA S)))), (xa X 3, .inl (xI X, 12, .inl (fI (sU S)))), (xa X 4, .inl (xI X, 12, .inl (fI (sR S))))]) := hD
  refine pg_if_ne (tgt := 28) hx hb dX1_take_5 (by decide) (⟨by omega, by omega⟩) (fun hc1 => absurd hc1 (by omega)) (fun hc1 => ?_)
  refine lv_aload_n hx hb dX1_take_8 rfl (lv_at hl 0 rfl) ?_
  refine lv_aload_n hx hb dX1_take_9 rfl (lv_at hl 0 rfl) ?_
  refine lv_iload_n hx hb dX1_take_10 rfl (lv_at hl 1 rfl) ?_
  refine pg_callV (As := [.int (iI (((k : Nat) : Int)))]) (rest := [.ref ((xa X 0))]) SC (c_X1_isInRing l X S 0 hok k hk 0 (Or.inr ⟨hr9, rfl⟩)) mB_st (mB_h hP hK) (cwV 1 hts gX1_take_X1_isInRing rfl rfl rfl (by decide +kernel) ⟨Nat.le_of_ble_eq_true rfl, Nat.le_of_ble_eq_true rfl⟩) (va_recv hK hP (ci := 1) (q0 := 0) rfl rfl) rfl hl.1 rfl (Nat.le_of_ble_eq_true rfl) dX1_take_11 ⟨Nat.zero_le _, Nat.zero_le _⟩ ?_
  refine lv_iconst (v := iI 3) hx hb dX1_take_14 rfl ?_
  refine pg_wcallV (As := [.int (iI 0), .int (iI 3)]) (rest := []) (l1 := []) (l2 := []) (w := [(xa X 0, .inr (1, [.int (iI 0), .ref ((xa X 1)), .ref ((xa X 2)), .ref ((xa X 3)), .ref ((xa X 4)), .int (iI (((sN S : Nat) : Int))), .int (iI (((sW S : Nat) : Int)))])), (xa X 1, .inl (xZ X, 12, .inl (fI (sS S)))), (xa X 2, .inl (xI X, 12, .inl (fI (sA S)))), (xa X 3, .inl (xI X, 12, .inl (fI (sU S)))), (xa X 4, .inl (xI X, 12, .inl (fI (sR S))))]) (w' := [(xa X 0, .inr (1, [.int (iI 0), .ref ((xa X 1)), .ref ((xa X 2)), .ref ((xa X 3)), .ref ((xa X 4)), .int (iI (((sN S : Nat) : Int))), .int (iI (((sW S : Nat) : Int)))])), (xa X 1, .inl (xZ X, 12, .inl (fI (sS S)))), (xa X 2, .inl (xI X, 12, .inl (fI (sA S)))), (xa X 3, .inl (xI X, 12, .inl (fI (sU S)))), (xa X 4, .inl (xI X, 12, .inl (fI (sR S))))]) SC (c_X1_isThrown l X S 0 0 3 0 ⟨by omega, by omega⟩ (by omega)) pT_st pT_h (cwV 2 hts gX1_take_X1_isThrown rfl rfl rfl (by decide +kernel) ⟨Nat.le_of_ble_eq_true rfl, Nat.le_of_ble_eq_true rfl⟩) (va_recv hK hP (ci := 1) (q0 := 0) rfl rfl) hK hP hD hS rfl rfl hl.1 rfl (Nat.le_of_ble_eq_true rfl) dX1_take_15 ⟨Nat.zero_le _, Nat.zero_le _⟩ (fun H locs hP hD hS => ?_)
  have hP : va_P (xG X) vwCl ([(xa X 0, .inr (1, [.int (iI 0), .ref ((xa X 1)), .ref ((xa X 2)), .ref ((xa X 3)), .ref ((xa X 4)), .int (iI (((sN S : Nat) : Int))), .int (iI (((sW S : Nat) : Int)))])), (xa X 1, .inl (xZ X, 12, .inl (fI (sS S)))), (xa X 2, .inl (xI X, 12, .inl (fI (sA S)))), (xa X 3, .inl (xI X, 12, .inl (fI (sU S)))), (xa X 4, .inl (xI X, 12, .inl (fI (sR S))))]) H := hP
  have hD : va_D (pg_in ((mC X S t))) ([(xa X 0, .inr (1, [.int (iI 0), .ref ((xa X 1)), .ref ((xa X 2)), .ref ((xa X 3)), .ref ((xa X 4)), .int (iI (((sN S : Nat) : Int))), .int (iI (((sW S : Nat) : Int)))])), (xa X 1, .inl (xZ X, 12, .inl (fI (sS S)))), (xa X 2, .inl (xI X, 12, .inl (fI (sA S)))), (xa X 3, .inl (xI X, 12, .inl (fI (sU S)))), (xa X 4, .inl (xI X, 12, .inl (fI (sR S))))]) := hD
  refine pg_if_ne (tgt := 28) hx hb dX1_take_18 (by decide) (⟨by omega, by omega⟩) (fun hc2 => absurd hc2 (by omega)) (fun hc2 => ?_)
  refine lv_aload_n hx hb dX1_take_21 rfl (lv_at hl 0 rfl) ?_
  refine va_get (D := xG X) (ci := 1) (v := .ref ((xa X 1))) (C := RX1) (T := TX1) (N := 7) hx hb hts hin hown hK hP 0 rfl rfl 1 (by decide) (hts (.fieldLink RX1 7 "PegfieldModel" "stands" "[Z") (by decide +kernel)) (fun _ h9 => h9) rfl dX1_take_22 ?_
  refine lv_iload_n hx hb dX1_take_25 rfl (lv_at hl 1 rfl) ?_
  refine lv_iconst (v := iI 0) hx hb dX1_take_26 rfl ?_
  refine pg_zast hx hb hK hP hD hS 1 0 (f := (sS S)) rfl rfl k 0 (rfl) (rfl) (by omega) (by omega) (by decide) dX1_take_27 (fun H locs hP hD hS => ?_)
  have hP : va_P (xG X) vwCl ([(xa X 0, .inr (1, [.int (iI 0), .ref ((xa X 1)), .ref ((xa X 2)), .ref ((xa X 3)), .ref ((xa X 4)), .int (iI (((sN S : Nat) : Int))), .int (iI (((sW S : Nat) : Int)))])), (xa X 1, .inl (xZ X, 12, .inl (fI (upN (sS S) k 0)))), (xa X 2, .inl (xI X, 12, .inl (fI (sA S)))), (xa X 3, .inl (xI X, 12, .inl (fI (sU S)))), (xa X 4, .inl (xI X, 12, .inl (fI (sR S))))]) H := hP
  have hD : va_D (pg_in ((mC X S t))) ([(xa X 0, .inr (1, [.int (iI 0), .ref ((xa X 1)), .ref ((xa X 2)), .ref ((xa X 3)), .ref ((xa X 4)), .int (iI (((sN S : Nat) : Int))), .int (iI (((sW S : Nat) : Int)))])), (xa X 1, .inl (xZ X, 12, .inl (fI (upN (sS S) k 0)))), (xa X 2, .inl (xI X, 12, .inl (fI (sA S)))), (xa X 3, .inl (xI X, 12, .inl (fI (sU S)))), (xa X 4, .inl (xI X, 12, .inl (fI (sR S))))]) := hD
  exact pg_wvret hx hb hr hlk hP hS  rfl dX1_take_28
set_option maxRecDepth 100000 in
set_option maxHeartbeats 4000000 in
theorem c_X1_take_1 (l : Launch) (X : pgX) (S : pgS) (t : Int) (pp : Int) (hp : inI pp) (h : pp < 0 ∨ 12 ≤ pp)  : pg_wr l yX1_take wsX1_take (rm 3 64) (xG X) (xTy X) pT (mC X S t) (mC X S 1) 0 0 [.ref ((xa X 0)), .int (iI pp)] (none) := by
  refine pg_wr_of (cc := cX1_take) (maxL := 2) (ret := none) (by decide) rfl (Nat.le_of_ble_eq_true rfl) ?_
  intro p e s m below meth c ls SC hr hlk hP hK hD hS hB hl
  obtain ⟨hx, hb, hml, hown, hts⟩ := id SC
  have hown : s.vm.findClass RX1 = some m.cls := hown
  have hl : lv_has ls 2 [(0, .ref ((xa X 0))), (1, .int (iI pp))] := hl
  refine lv_aload_n hx hb dX1_take_0 rfl (lv_at hl 0 rfl) ?_
  refine lv_iload_n hx hb dX1_take_1 rfl (lv_at hl 1 rfl) ?_
  refine pg_wcallV (As := [.int (iI pp)]) (rest := []) (l1 := []) (l2 := []) (w := [(xa X 0, .inr (1, [.int (iI t), .ref ((xa X 1)), .ref ((xa X 2)), .ref ((xa X 3)), .ref ((xa X 4)), .int (iI (((sN S : Nat) : Int))), .int (iI (((sW S : Nat) : Int)))])), (xa X 1, .inl (xZ X, 12, .inl (fI (sS S)))), (xa X 2, .inl (xI X, 12, .inl (fI (sA S)))), (xa X 3, .inl (xI X, 12, .inl (fI (sU S)))), (xa X 4, .inl (xI X, 12, .inl (fI (sR S))))]) (w' := [(xa X 0, .inr (1, [.int (iI 1), .ref ((xa X 1)), .ref ((xa X 2)), .ref ((xa X 3)), .ref ((xa X 4)), .int (iI (((sN S : Nat) : Int))), .int (iI (((sW S : Nat) : Int)))])), (xa X 1, .inl (xZ X, 12, .inl (fI (sS S)))), (xa X 2, .inl (xI X, 12, .inl (fI (sA S)))), (xa X 3, .inl (xI X, 12, .inl (fI (sU S)))), (xa X 4, .inl (xI X, 12, .inl (fI (sR S))))]) SC (c_X1_isNoPeg_1 l X S t pp ⟨by omega, by omega⟩ (by omega)) pT_st pT_h (cwV 1 hts gX1_take_X1_isNoPeg rfl rfl rfl (by decide +kernel) ⟨Nat.le_of_ble_eq_true rfl, Nat.le_of_ble_eq_true rfl⟩) (va_recv hK hP (ci := 1) (q0 := 0) rfl rfl) hK hP hD hS rfl rfl hl.1 rfl (Nat.le_of_ble_eq_true rfl) dX1_take_2 ⟨Nat.zero_le _, Nat.zero_le _⟩ (fun H locs hP hD hS => ?_)
  have hP : va_P (xG X) vwCl ([(xa X 0, .inr (1, [.int (iI 1), .ref ((xa X 1)), .ref ((xa X 2)), .ref ((xa X 3)), .ref ((xa X 4)), .int (iI (((sN S : Nat) : Int))), .int (iI (((sW S : Nat) : Int)))])), (xa X 1, .inl (xZ X, 12, .inl (fI (sS S)))), (xa X 2, .inl (xI X, 12, .inl (fI (sA S)))), (xa X 3, .inl (xI X, 12, .inl (fI (sU S)))), (xa X 4, .inl (xI X, 12, .inl (fI (sR S))))]) H := hP
  have hD : va_D (pg_in ((mC X S t))) ([(xa X 0, .inr (1, [.int (iI 1), .ref ((xa X 1)), .ref ((xa X 2)), .ref ((xa X 3)), .ref ((xa X 4)), .int (iI (((sN S : Nat) : Int))), .int (iI (((sW S : Nat) : Int)))])), (xa X 1, .inl (xZ X, 12, .inl (fI (sS S)))), (xa X 2, .inl (xI X, 12, .inl (fI (sA S)))), (xa X 3, .inl (xI X, 12, .inl (fI (sU S)))), (xa X 4, .inl (xI X, 12, .inl (fI (sR S))))]) := hD
  refine pg_if_ne (tgt := 28) hx hb dX1_take_5 (by decide) (⟨by omega, by omega⟩) (fun hc1 => ?_) (fun hc1 => absurd hc1 (by omega))
  exact pg_wvret hx hb hr hlk hP hS  rfl dX1_take_28
set_option maxRecDepth 100000 in
set_option maxHeartbeats 4000000 in
theorem c_X1_take_2 (l : Launch) (X : pgX) (S : pgS) (t : Int) (k : Nat) (hk : k < 12) (h1 : sS S k = 0)  : pg_wr l yX1_take wsX1_take (rm 3 64) (xG X) (xTy X) pT (mC X S t) (mC X S 2) 0 0 [.ref ((xa X 0)), .int (iI (((k : Nat) : Int)))] (none) := by
  refine pg_wr_of (cc := cX1_take) (maxL := 2) (ret := none) (by decide) rfl (Nat.le_of_ble_eq_true rfl) ?_
  intro p e s m below meth c ls SC hr hlk hP hK hD hS hB hl
  obtain ⟨hx, hb, hml, hown, hts⟩ := id SC
  have hown : s.vm.findClass RX1 = some m.cls := hown
  have hl : lv_has ls 2 [(0, .ref ((xa X 0))), (1, .int (iI (((k : Nat) : Int))))] := hl
  refine lv_aload_n hx hb dX1_take_0 rfl (lv_at hl 0 rfl) ?_
  refine lv_iload_n hx hb dX1_take_1 rfl (lv_at hl 1 rfl) ?_
  refine pg_wcallV (As := [.int (iI (((k : Nat) : Int)))]) (rest := []) (l1 := []) (l2 := []) (w := [(xa X 0, .inr (1, [.int (iI t), .ref ((xa X 1)), .ref ((xa X 2)), .ref ((xa X 3)), .ref ((xa X 4)), .int (iI (((sN S : Nat) : Int))), .int (iI (((sW S : Nat) : Int)))])), (xa X 1, .inl (xZ X, 12, .inl (fI (sS S)))), (xa X 2, .inl (xI X, 12, .inl (fI (sA S)))), (xa X 3, .inl (xI X, 12, .inl (fI (sU S)))), (xa X 4, .inl (xI X, 12, .inl (fI (sR S))))]) (w' := [(xa X 0, .inr (1, [.int (iI 2), .ref ((xa X 1)), .ref ((xa X 2)), .ref ((xa X 3)), .ref ((xa X 4)), .int (iI (((sN S : Nat) : Int))), .int (iI (((sW S : Nat) : Int)))])), (xa X 1, .inl (xZ X, 12, .inl (fI (sS S)))), (xa X 2, .inl (xI X, 12, .inl (fI (sA S)))), (xa X 3, .inl (xI X, 12, .inl (fI (sU S)))), (xa X 4, .inl (xI X, 12, .inl (fI (sR S))))]) SC (c_X1_isNoPeg_2 l X S t k hk h1) pT_st pT_h (cwV 1 hts gX1_take_X1_isNoPeg rfl rfl rfl (by decide +kernel) ⟨Nat.le_of_ble_eq_true rfl, Nat.le_of_ble_eq_true rfl⟩) (va_recv hK hP (ci := 1) (q0 := 0) rfl rfl) hK hP hD hS rfl rfl hl.1 rfl (Nat.le_of_ble_eq_true rfl) dX1_take_2 ⟨Nat.zero_le _, Nat.zero_le _⟩ (fun H locs hP hD hS => ?_)
  have hP : va_P (xG X) vwCl ([(xa X 0, .inr (1, [.int (iI 2), .ref ((xa X 1)), .ref ((xa X 2)), .ref ((xa X 3)), .ref ((xa X 4)), .int (iI (((sN S : Nat) : Int))), .int (iI (((sW S : Nat) : Int)))])), (xa X 1, .inl (xZ X, 12, .inl (fI (sS S)))), (xa X 2, .inl (xI X, 12, .inl (fI (sA S)))), (xa X 3, .inl (xI X, 12, .inl (fI (sU S)))), (xa X 4, .inl (xI X, 12, .inl (fI (sR S))))]) H := hP
  have hD : va_D (pg_in ((mC X S t))) ([(xa X 0, .inr (1, [.int (iI 2), .ref ((xa X 1)), .ref ((xa X 2)), .ref ((xa X 3)), .ref ((xa X 4)), .int (iI (((sN S : Nat) : Int))), .int (iI (((sW S : Nat) : Int)))])), (xa X 1, .inl (xZ X, 12, .inl (fI (sS S)))), (xa X 2, .inl (xI X, 12, .inl (fI (sA S)))), (xa X 3, .inl (xI X, 12, .inl (fI (sU S)))), (xa X 4, .inl (xI X, 12, .inl (fI (sR S))))]) := hD
  refine pg_if_ne (tgt := 28) hx hb dX1_take_5 (by decide) (⟨by omega, by omega⟩) (fun hc1 => ?_) (fun hc1 => absurd hc1 (by omega))
  exact pg_wvret hx hb hr hlk hP hS  rfl dX1_take_28
set_option maxRecDepth 100000 in
set_option maxHeartbeats 4000000 in
theorem c_X1_take_3 (l : Launch) (X : pgX) (S : pgS) (t : Int) (hok : pgOk S) (k : Nat) (hk : k < 12) (h1 : sS S k = 1) (hr9 : ∃ j, j < sN S ∧ sR S j = k) : pg_wr l yX1_take wsX1_take (rm 3 64) (xG X) (xTy X) pT (mC X S t) (mC X S 3) 0 0 [.ref ((xa X 0)), .int (iI (((k : Nat) : Int)))] (none) := by
  refine pg_wr_of (cc := cX1_take) (maxL := 2) (ret := none) (by decide) rfl (Nat.le_of_ble_eq_true rfl) ?_
  intro p e s m below meth c ls SC hr hlk hP hK hD hS hB hl
  obtain ⟨hx, hb, hml, hown, hts⟩ := id SC
  have hown : s.vm.findClass RX1 = some m.cls := hown
  have hl : lv_has ls 2 [(0, .ref ((xa X 0))), (1, .int (iI (((k : Nat) : Int))))] := hl
  refine lv_aload_n hx hb dX1_take_0 rfl (lv_at hl 0 rfl) ?_
  refine lv_iload_n hx hb dX1_take_1 rfl (lv_at hl 1 rfl) ?_
  refine pg_wcallV (As := [.int (iI (((k : Nat) : Int)))]) (rest := []) (l1 := []) (l2 := []) (w := [(xa X 0, .inr (1, [.int (iI t), .ref ((xa X 1)), .ref ((xa X 2)), .ref ((xa X 3)), .ref ((xa X 4)), .int (iI (((sN S : Nat) : Int))), .int (iI (((sW S : Nat) : Int)))])), (xa X 1, .inl (xZ X, 12, .inl (fI (sS S)))), (xa X 2, .inl (xI X, 12, .inl (fI (sA S)))), (xa X 3, .inl (xI X, 12, .inl (fI (sU S)))), (xa X 4, .inl (xI X, 12, .inl (fI (sR S))))]) (w' := [(xa X 0, .inr (1, [.int (iI 0), .ref ((xa X 1)), .ref ((xa X 2)), .ref ((xa X 3)), .ref ((xa X 4)), .int (iI (((sN S : Nat) : Int))), .int (iI (((sW S : Nat) : Int)))])), (xa X 1, .inl (xZ X, 12, .inl (fI (sS S)))), (xa X 2, .inl (xI X, 12, .inl (fI (sA S)))), (xa X 3, .inl (xI X, 12, .inl (fI (sU S)))), (xa X 4, .inl (xI X, 12, .inl (fI (sR S))))]) SC (c_X1_isNoPeg_ok l X S t k hk h1) pT_st pT_h (cwV 1 hts gX1_take_X1_isNoPeg rfl rfl rfl (by decide +kernel) ⟨Nat.le_of_ble_eq_true rfl, Nat.le_of_ble_eq_true rfl⟩) (va_recv hK hP (ci := 1) (q0 := 0) rfl rfl) hK hP hD hS rfl rfl hl.1 rfl (Nat.le_of_ble_eq_true rfl) dX1_take_2 ⟨Nat.zero_le _, Nat.zero_le _⟩ (fun H locs hP hD hS => ?_)
  have hP : va_P (xG X) vwCl ([(xa X 0, .inr (1, [.int (iI 0), .ref ((xa X 1)), .ref ((xa X 2)), .ref ((xa X 3)), .ref ((xa X 4)), .int (iI (((sN S : Nat) : Int))), .int (iI (((sW S : Nat) : Int)))])), (xa X 1, .inl (xZ X, 12, .inl (fI (sS S)))), (xa X 2, .inl (xI X, 12, .inl (fI (sA S)))), (xa X 3, .inl (xI X, 12, .inl (fI (sU S)))), (xa X 4, .inl (xI X, 12, .inl (fI (sR S))))]) H := hP
  have hD : va_D (pg_in ((mC X S t))) ([(xa X 0, .inr (1, [.int (iI 0), .ref ((xa X 1)), .ref ((xa X 2)), .ref ((xa X 3)), .ref ((xa X 4)), .int (iI (((sN S : Nat) : Int))), .int (iI (((sW S : Nat) : Int)))])), (xa X 1, .inl (xZ X, 12, .inl (fI (sS S)))), (xa X 2, .inl (xI X, 12, .inl (fI (sA S)))), (xa X 3, .inl (xI X, 12, .inl (fI (sU S)))), (xa X 4, .inl (xI X, 12, .inl (fI (sR S))))]) := hD
  refine pg_if_ne (tgt := 28) hx hb dX1_take_5 (by decide) (⟨by omega, by omega⟩) (fun hc1 => absurd hc1 (by omega)) (fun hc1 => ?_)
  refine lv_aload_n hx hb dX1_take_8 rfl (lv_at hl 0 rfl) ?_
  refine lv_aload_n hx hb dX1_take_9 rfl (lv_at hl 0 rfl) ?_
  refine lv_iload_n hx hb dX1_take_10 rfl (lv_at hl 1 rfl) ?_
  refine pg_callV (As := [.int (iI (((k : Nat) : Int)))]) (rest := [.ref ((xa X 0))]) SC (c_X1_isInRing l X S 0 hok k hk 1 (Or.inl ⟨hr9, rfl⟩)) mB_st (mB_h hP hK) (cwV 1 hts gX1_take_X1_isInRing rfl rfl rfl (by decide +kernel) ⟨Nat.le_of_ble_eq_true rfl, Nat.le_of_ble_eq_true rfl⟩) (va_recv hK hP (ci := 1) (q0 := 0) rfl rfl) rfl hl.1 rfl (Nat.le_of_ble_eq_true rfl) dX1_take_11 ⟨Nat.zero_le _, Nat.zero_le _⟩ ?_
  refine lv_iconst (v := iI 3) hx hb dX1_take_14 rfl ?_
  refine pg_wcallV (As := [.int (iI 1), .int (iI 3)]) (rest := []) (l1 := []) (l2 := []) (w := [(xa X 0, .inr (1, [.int (iI 0), .ref ((xa X 1)), .ref ((xa X 2)), .ref ((xa X 3)), .ref ((xa X 4)), .int (iI (((sN S : Nat) : Int))), .int (iI (((sW S : Nat) : Int)))])), (xa X 1, .inl (xZ X, 12, .inl (fI (sS S)))), (xa X 2, .inl (xI X, 12, .inl (fI (sA S)))), (xa X 3, .inl (xI X, 12, .inl (fI (sU S)))), (xa X 4, .inl (xI X, 12, .inl (fI (sR S))))]) (w' := [(xa X 0, .inr (1, [.int (iI 3), .ref ((xa X 1)), .ref ((xa X 2)), .ref ((xa X 3)), .ref ((xa X 4)), .int (iI (((sN S : Nat) : Int))), .int (iI (((sW S : Nat) : Int)))])), (xa X 1, .inl (xZ X, 12, .inl (fI (sS S)))), (xa X 2, .inl (xI X, 12, .inl (fI (sA S)))), (xa X 3, .inl (xI X, 12, .inl (fI (sU S)))), (xa X 4, .inl (xI X, 12, .inl (fI (sR S))))]) SC (c_X1_isThrown l X S 0 1 3 3 ⟨by omega, by omega⟩ (by omega)) pT_st pT_h (cwV 2 hts gX1_take_X1_isThrown rfl rfl rfl (by decide +kernel) ⟨Nat.le_of_ble_eq_true rfl, Nat.le_of_ble_eq_true rfl⟩) (va_recv hK hP (ci := 1) (q0 := 0) rfl rfl) hK hP hD hS rfl rfl hl.1 rfl (Nat.le_of_ble_eq_true rfl) dX1_take_15 ⟨Nat.zero_le _, Nat.zero_le _⟩ (fun H locs hP hD hS => ?_)
  have hP : va_P (xG X) vwCl ([(xa X 0, .inr (1, [.int (iI 3), .ref ((xa X 1)), .ref ((xa X 2)), .ref ((xa X 3)), .ref ((xa X 4)), .int (iI (((sN S : Nat) : Int))), .int (iI (((sW S : Nat) : Int)))])), (xa X 1, .inl (xZ X, 12, .inl (fI (sS S)))), (xa X 2, .inl (xI X, 12, .inl (fI (sA S)))), (xa X 3, .inl (xI X, 12, .inl (fI (sU S)))), (xa X 4, .inl (xI X, 12, .inl (fI (sR S))))]) H := hP
  have hD : va_D (pg_in ((mC X S t))) ([(xa X 0, .inr (1, [.int (iI 3), .ref ((xa X 1)), .ref ((xa X 2)), .ref ((xa X 3)), .ref ((xa X 4)), .int (iI (((sN S : Nat) : Int))), .int (iI (((sW S : Nat) : Int)))])), (xa X 1, .inl (xZ X, 12, .inl (fI (sS S)))), (xa X 2, .inl (xI X, 12, .inl (fI (sA S)))), (xa X 3, .inl (xI X, 12, .inl (fI (sU S)))), (xa X 4, .inl (xI X, 12, .inl (fI (sR S))))]) := hD
  refine pg_if_ne (tgt := 28) hx hb dX1_take_18 (by decide) (⟨by omega, by omega⟩) (fun hc2 => ?_) (fun hc2 => absurd hc2 (by omega))
  exact pg_wvret hx hb hr hlk hP hS  rfl dX1_take_28
set_option maxRecDepth 100000 in
set_option maxHeartbeats 4000000 in
theorem c_X1_step_n (l : Launch) (X : pgX) (S : pgS) (t : Int) (k a2 u2 : Nat) (hk : k < 12) (h1 : sS S k = 1) (ha9 : a2 < 91) (hu9 : u2 < 91) (ha : a2 = sA S k) (hu : u2 = sU S k + 1) : pg_wr l yX1_step wsX1_step (rm 3 64) (xG X) (xTy X) pT (mC X S t) (mC X (sS S, upN (sA S) k a2, upN (sU S) k u2, sR S, sN S, sW S) 0) 0 0 [.ref ((xa X 0)), .int (iI (((k : Nat) : Int))), .int (iI 110)] (some (.int (iI 1))) := by
  refine pg_wr_of (cc := cX1_step) (maxL := 5) (ret := (some .boolean)) (by decide) rfl (Nat.le_of_ble_eq_true rfl) ?_
  intro p e s m below meth c ls SC hr hlk hP hK hD hS hB hl
  obtain ⟨hx, hb, hml, hown, hts⟩ := id SC
  have hown : s.vm.findClass RX1 = some m.cls := hown
  have hl : lv_has ls 5 [(0, .ref ((xa X 0))), (1, .int (iI (((k : Nat) : Int)))), (2, .int (iI 110))] := hl
  have hin : ∀ w ∈ u_ws RX1 TX1 7, w ∈ wsX1_step := by decide +kernel
  refine lv_aload_n hx hb dX1_step_0 rfl (lv_at hl 0 rfl) ?_
  refine lv_iload_n hx hb dX1_step_1 rfl (lv_at hl 1 rfl) ?_
  refine pg_wcallV (As := [.int (iI (((k : Nat) : Int)))]) (rest := []) (l1 := []) (l2 := []) (w := [(xa X 0, .inr (1, [.int (iI t), .ref ((xa X 1)), .ref ((xa X 2)), .ref ((xa X 3)), .ref ((xa X 4)), .int (iI (((sN S : Nat) : Int))), .int (iI (((sW S : Nat) : Int)))])), (xa X 1, .inl (xZ X, 12, .inl (fI (sS S)))), (xa X 2, .inl (xI X, 12, .inl (fI (sA S)))), (xa X 3, .inl (xI X, 12, .inl (fI (sU S)))), (xa X 4, .inl (xI X, 12, .inl (fI (sR S))))]) (w' := [(xa X 0, .inr (1, [.int (iI 0), .ref ((xa X 1)), .ref ((xa X 2)), .ref ((xa X 3)), .ref ((xa X 4)), .int (iI (((sN S : Nat) : Int))), .int (iI (((sW S : Nat) : Int)))])), (xa X 1, .inl (xZ X, 12, .inl (fI (sS S)))), (xa X 2, .inl (xI X, 12, .inl (fI (sA S)))), (xa X 3, .inl (xI X, 12, .inl (fI (sU S)))), (xa X 4, .inl (xI X, 12, .inl (fI (sR S))))]) SC (c_X1_isNoPeg_ok l X S t k hk h1) pT_st pT_h (cwV 1 hts gX1_step_X1_isNoPeg rfl rfl rfl (by decide +kernel) ⟨Nat.le_of_ble_eq_true rfl, Nat.le_of_ble_eq_true rfl⟩) (va_recv hK hP (ci := 1) (q0 := 0) rfl rfl) hK hP hD hS rfl rfl hl.1 rfl (Nat.le_of_ble_eq_true rfl) dX1_step_2 ⟨Nat.zero_le _, Nat.zero_le _⟩ (fun H locs hP hD hS => ?_)
  have hP : va_P (xG X) vwCl ([(xa X 0, .inr (1, [.int (iI 0), .ref ((xa X 1)), .ref ((xa X 2)), .ref ((xa X 3)), .ref ((xa X 4)), .int (iI (((sN S : Nat) : Int))), .int (iI (((sW S : Nat) : Int)))])), (xa X 1, .inl (xZ X, 12, .inl (fI (sS S)))), (xa X 2, .inl (xI X, 12, .inl (fI (sA S)))), (xa X 3, .inl (xI X, 12, .inl (fI (sU S)))), (xa X 4, .inl (xI X, 12, .inl (fI (sR S))))]) H := hP
  have hD : va_D (pg_in ((mC X S t))) ([(xa X 0, .inr (1, [.int (iI 0), .ref ((xa X 1)), .ref ((xa X 2)), .ref ((xa X 3)), .ref ((xa X 4)), .int (iI (((sN S : Nat) : Int))), .int (iI (((sW S : Nat) : Int)))])), (xa X 1, .inl (xZ X, 12, .inl (fI (sS S)))), (xa X 2, .inl (xI X, 12, .inl (fI (sA S)))), (xa X 3, .inl (xI X, 12, .inl (fI (sU S)))), (xa X 4, .inl (xI X, 12, .inl (fI (sR S))))]) := hD
  refine pg_if_ne (tgt := 45) hx hb dX1_step_5 (by decide) (⟨by omega, by omega⟩) (fun hc1 => absurd hc1 (by omega)) (fun hc1 => ?_)
  refine lv_aload_n hx hb dX1_step_8 rfl (lv_at hl 0 rfl) ?_
  refine lv_iload_n hx hb dX1_step_9 rfl (lv_at hl 2 rfl) ?_
  refine lv_bipush (v := iI 110) hx hb dX1_step_10 (by decide +kernel) ?_
  refine pg_icmp_eq (tgt := 37) hx hb dX1_step_12 (by decide) (⟨by omega, by omega⟩) (⟨by omega, by omega⟩) (fun hc2 => ?_) (fun hc2 => absurd hc2 (by omega))
  refine lv_iconst (v := iI 0) hx hb dX1_step_37 rfl ?_
  refine lv_iconst (v := iI 3) hx hb dX1_step_38 rfl ?_
  refine pg_wcallV (As := [.int (iI 0), .int (iI 3)]) (rest := []) (l1 := []) (l2 := []) (w := [(xa X 0, .inr (1, [.int (iI 0), .ref ((xa X 1)), .ref ((xa X 2)), .ref ((xa X 3)), .ref ((xa X 4)), .int (iI (((sN S : Nat) : Int))), .int (iI (((sW S : Nat) : Int)))])), (xa X 1, .inl (xZ X, 12, .inl (fI (sS S)))), (xa X 2, .inl (xI X, 12, .inl (fI (sA S)))), (xa X 3, .inl (xI X, 12, .inl (fI (sU S)))), (xa X 4, .inl (xI X, 12, .inl (fI (sR S))))]) (w' := [(xa X 0, .inr (1, [.int (iI 0), .ref ((xa X 1)), .ref ((xa X 2)), .ref ((xa X 3)), .ref ((xa X 4)), .int (iI (((sN S : Nat) : Int))), .int (iI (((sW S : Nat) : Int)))])), (xa X 1, .inl (xZ X, 12, .inl (fI (sS S)))), (xa X 2, .inl (xI X, 12, .inl (fI (sA S)))), (xa X 3, .inl (xI X, 12, .inl (fI (sU S)))), (xa X 4, .inl (xI X, 12, .inl (fI (sR S))))]) SC (c_X1_isThrown l X S 0 0 3 0 ⟨by omega, by omega⟩ (by omega)) pT_st pT_h (cwV 2 hts gX1_step_X1_isThrown rfl rfl rfl (by decide +kernel) ⟨Nat.le_of_ble_eq_true rfl, Nat.le_of_ble_eq_true rfl⟩) (va_recv hK hP (ci := 1) (q0 := 0) rfl rfl) hK hP hD hS rfl rfl hl.1 rfl (Nat.le_of_ble_eq_true rfl) dX1_step_39 ⟨Nat.zero_le _, Nat.zero_le _⟩ (fun H locs hP hD hS => ?_)
  have hP : va_P (xG X) vwCl ([(xa X 0, .inr (1, [.int (iI 0), .ref ((xa X 1)), .ref ((xa X 2)), .ref ((xa X 3)), .ref ((xa X 4)), .int (iI (((sN S : Nat) : Int))), .int (iI (((sW S : Nat) : Int)))])), (xa X 1, .inl (xZ X, 12, .inl (fI (sS S)))), (xa X 2, .inl (xI X, 12, .inl (fI (sA S)))), (xa X 3, .inl (xI X, 12, .inl (fI (sU S)))), (xa X 4, .inl (xI X, 12, .inl (fI (sR S))))]) H := hP
  have hD : va_D (pg_in ((mC X S t))) ([(xa X 0, .inr (1, [.int (iI 0), .ref ((xa X 1)), .ref ((xa X 2)), .ref ((xa X 3)), .ref ((xa X 4)), .int (iI (((sN S : Nat) : Int))), .int (iI (((sW S : Nat) : Int)))])), (xa X 1, .inl (xZ X, 12, .inl (fI (sS S)))), (xa X 2, .inl (xI X, 12, .inl (fI (sA S)))), (xa X 3, .inl (xI X, 12, .inl (fI (sU S)))), (xa X 4, .inl (xI X, 12, .inl (fI (sR S))))]) := hD
  refine pg_if_eq (tgt := 47) hx hb dX1_step_42 (by decide) (⟨by omega, by omega⟩) (fun hc3 => ?_) (fun hc3 => absurd hc3 (by omega))
  refine lv_iload_n hx hb dX1_step_47 rfl (lv_at hl 2 rfl) ?_
  refine lv_bipush (v := iI 101) hx hb dX1_step_48 (by decide +kernel) ?_
  refine pg_icmp_ne (tgt := 57) hx hb dX1_step_50 (by decide) (⟨by omega, by omega⟩) (⟨by omega, by omega⟩) (fun hc4 => ?_) (fun hc4 => absurd hc4 (by omega))
  refine lv_iload_n hx hb dX1_step_57 rfl (lv_at hl 2 rfl) ?_
  refine lv_bipush (v := iI 119) hx hb dX1_step_58 (by decide +kernel) ?_
  refine pg_icmp_ne (tgt := 67) hx hb dX1_step_60 (by decide) (⟨by omega, by omega⟩) (⟨by omega, by omega⟩) (fun hc5 => ?_) (fun hc5 => absurd hc5 (by omega))
  refine lv_iconst (v := iI 0) hx hb dX1_step_67 rfl ?_
  refine lv_istore_n (lv' := [(3, .int (iI 0)), (0, .ref ((xa X 0))), (1, .int (iI (((k : Nat) : Int)))), (2, .int (iI 110))]) hx hb dX1_step_68 rfl hl (by decide) rfl (fun ls hl => ?_)
  refine lv_iload_n hx hb dX1_step_69 rfl (lv_at hl 3 rfl) ?_
  refine lv_bipush (v := iI 110) hx hb dX1_step_70 (by decide +kernel) ?_
  refine pg_icmp_ne (tgt := 79) hx hb dX1_step_72 (by decide) (⟨by omega, by omega⟩) (⟨by omega, by omega⟩) (fun hc6 => absurd hc6 (by omega)) (fun hc6 => ?_)
  refine lv_iconst (v := iI 1) hx hb dX1_step_75 rfl ?_
  refine lv_goto (tgt := 90) hx hb dX1_step_76 (by decide) ?_
  refine lv_istore (lv' := [(4, .int (iI 1)), (3, .int (iI 0)), (0, .ref ((xa X 0))), (1, .int (iI (((k : Nat) : Int)))), (2, .int (iI 110))]) hx hb dX1_step_90 hl (by decide) rfl (fun ls hl => ?_)
  refine lv_aload_n hx hb dX1_step_92 rfl (lv_at hl 2 rfl) ?_
  refine va_get (D := xG X) (ci := 1) (v := .ref ((xa X 2))) (C := RX1) (T := TX1) (N := 7) hx hb hts hin hown hK hP 0 rfl rfl 2 (by decide) (hts (.fieldLink RX1 13 "PegfieldModel" "across" "[I") (by decide +kernel)) (fun _ h9 => h9) rfl dX1_step_93 ?_
  refine lv_iload_n hx hb dX1_step_96 rfl (lv_at hl 3 rfl) ?_
  refine pg_iald hx hb hK hP 2 1 (f := (sA S)) rfl rfl k (rfl) (by omega) (by decide) dX1_step_97 ?_
  refine lv_iload_n hx hb dX1_step_98 rfl (lv_at hl 1 rfl) ?_
  refine pg_iadd (z := ((a2 : Nat) : Int)) hx hb dX1_step_99 (by omega) ?_
  refine lv_iconst (v := iI 0) hx hb dX1_step_100 rfl ?_
  refine lv_bipush (v := iI 90) hx hb dX1_step_101 (by decide +kernel) ?_
  refine pg_callS (As := [.int (iI (((a2 : Nat) : Int))), .int (iI 0), .int (iI 90)]) (rest := []) SC (c_X1_lies l (((a2 : Nat) : Int)) 0 90 1 ⟨by omega, by omega⟩ ⟨by omega, by omega⟩ ⟨by omega, by omega⟩ (by omega)) pT_st pT_h (va_cwS 3 hts gX1_step_X1_lies rfl rfl rfl (by decide +kernel) ⟨Nat.le_of_ble_eq_true rfl, Nat.le_of_ble_eq_true rfl⟩) rfl hl.1 rfl (Nat.le_of_ble_eq_true rfl) dX1_step_103 ⟨Nat.zero_le _, Nat.zero_le _⟩ ?_
  refine pg_if_eq (tgt := 127) hx hb dX1_step_106 (by decide) (⟨by omega, by omega⟩) (fun hc7 => absurd hc7 (by omega)) (fun hc7 => ?_)
  refine lv_aload_n hx hb dX1_step_109 rfl (lv_at hl 2 rfl) ?_
  refine va_get (D := xG X) (ci := 1) (v := .ref ((xa X 3))) (C := RX1) (T := TX1) (N := 7) hx hb hts hin hown hK hP 0 rfl rfl 3 (by decide) (hts (.fieldLink RX1 17 "PegfieldModel" "up" "[I") (by decide +kernel)) (fun _ h9 => h9) rfl dX1_step_110 ?_
  refine lv_iload_n hx hb dX1_step_113 rfl (lv_at hl 3 rfl) ?_
  refine pg_iald hx hb hK hP 3 1 (f := (sU S)) rfl rfl k (rfl) (by omega) (by decide) dX1_step_114 ?_
  refine lv_iload hx hb dX1_step_115 (lv_at hl 0 rfl) ?_
  refine pg_iadd (z := ((u2 : Nat) : Int)) hx hb dX1_step_117 (by omega) ?_
  refine lv_iconst (v := iI 0) hx hb dX1_step_118 rfl ?_
  refine lv_bipush (v := iI 90) hx hb dX1_step_119 (by decide +kernel) ?_
  refine pg_callS (As := [.int (iI (((u2 : Nat) : Int))), .int (iI 0), .int (iI 90)]) (rest := []) SC (c_X1_lies l (((u2 : Nat) : Int)) 0 90 1 ⟨by omega, by omega⟩ ⟨by omega, by omega⟩ ⟨by omega, by omega⟩ (by omega)) pT_st pT_h (va_cwS 3 hts gX1_step_X1_lies rfl rfl rfl (by decide +kernel) ⟨Nat.le_of_ble_eq_true rfl, Nat.le_of_ble_eq_true rfl⟩) rfl hl.1 rfl (Nat.le_of_ble_eq_true rfl) dX1_step_121 ⟨Nat.zero_le _, Nat.zero_le _⟩ ?_
  refine pg_if_ne (tgt := 129) hx hb dX1_step_124 (by decide) (⟨by omega, by omega⟩) (fun hc8 => ?_) (fun hc8 => absurd hc8 (by omega))
  refine lv_aload_n hx hb dX1_step_129 rfl (lv_at hl 2 rfl) ?_
  refine va_get (D := xG X) (ci := 1) (v := .ref ((xa X 2))) (C := RX1) (T := TX1) (N := 7) hx hb hts hin hown hK hP 0 rfl rfl 2 (by decide) (hts (.fieldLink RX1 13 "PegfieldModel" "across" "[I") (by decide +kernel)) (fun _ h9 => h9) rfl dX1_step_130 ?_
  refine lv_iload_n hx hb dX1_step_133 rfl (lv_at hl 3 rfl) ?_
  refine lv_dup2_11 hx hb dX1_step_134 rfl rfl ?_
  refine pg_iald hx hb hK hP 2 1 (f := (sA S)) rfl rfl k (rfl) (by omega) (by decide) dX1_step_135 ?_
  refine lv_iload_n hx hb dX1_step_136 rfl (lv_at hl 1 rfl) ?_
  refine pg_iadd (z := ((a2 : Nat) : Int)) hx hb dX1_step_137 (by omega) ?_
  refine pg_iast hx hb hK hP hD hS 2 1 (f := (sA S)) rfl rfl k a2 (rfl) (rfl) (by omega) (by decide) dX1_step_138 (fun H locs hP hD hS => ?_)
  have hP : va_P (xG X) vwCl ([(xa X 0, .inr (1, [.int (iI 0), .ref ((xa X 1)), .ref ((xa X 2)), .ref ((xa X 3)), .ref ((xa X 4)), .int (iI (((sN S : Nat) : Int))), .int (iI (((sW S : Nat) : Int)))])), (xa X 1, .inl (xZ X, 12, .inl (fI (sS S)))), (xa X 2, .inl (xI X, 12, .inl (fI (upN (sA S) k a2)))), (xa X 3, .inl (xI X, 12, .inl (fI (sU S)))), (xa X 4, .inl (xI X, 12, .inl (fI (sR S))))]) H := hP
  have hD : va_D (pg_in ((mC X S t))) ([(xa X 0, .inr (1, [.int (iI 0), .ref ((xa X 1)), .ref ((xa X 2)), .ref ((xa X 3)), .ref ((xa X 4)), .int (iI (((sN S : Nat) : Int))), .int (iI (((sW S : Nat) : Int)))])), (xa X 1, .inl (xZ X, 12, .inl (fI (sS S)))), (xa X 2, .inl (xI X, 12, .inl (fI (upN (sA S) k a2)))), (xa X 3, .inl (xI X, 12, .inl (fI (sU S)))), (xa X 4, .inl (xI X, 12, .inl (fI (sR S))))]) := hD
  refine lv_aload_n hx hb dX1_step_139 rfl (lv_at hl 2 rfl) ?_
  refine va_get (D := xG X) (ci := 1) (v := .ref ((xa X 3))) (C := RX1) (T := TX1) (N := 7) hx hb hts hin hown hK hP 0 rfl rfl 3 (by decide) (hts (.fieldLink RX1 17 "PegfieldModel" "up" "[I") (by decide +kernel)) (fun _ h9 => h9) rfl dX1_step_140 ?_
  refine lv_iload_n hx hb dX1_step_143 rfl (lv_at hl 3 rfl) ?_
  refine lv_dup2_11 hx hb dX1_step_144 rfl rfl ?_
  refine pg_iald hx hb hK hP 3 1 (f := (sU S)) rfl rfl k (rfl) (by omega) (by decide) dX1_step_145 ?_
  refine lv_iload hx hb dX1_step_146 (lv_at hl 0 rfl) ?_
  refine pg_iadd (z := ((u2 : Nat) : Int)) hx hb dX1_step_148 (by omega) ?_
  refine pg_iast hx hb hK hP hD hS 3 1 (f := (sU S)) rfl rfl k u2 (rfl) (rfl) (by omega) (by decide) dX1_step_149 (fun H locs hP hD hS => ?_)
  have hP : va_P (xG X) vwCl ([(xa X 0, .inr (1, [.int (iI 0), .ref ((xa X 1)), .ref ((xa X 2)), .ref ((xa X 3)), .ref ((xa X 4)), .int (iI (((sN S : Nat) : Int))), .int (iI (((sW S : Nat) : Int)))])), (xa X 1, .inl (xZ X, 12, .inl (fI (sS S)))), (xa X 2, .inl (xI X, 12, .inl (fI (upN (sA S) k a2)))), (xa X 3, .inl (xI X, 12, .inl (fI (upN (sU S) k u2)))), (xa X 4, .inl (xI X, 12, .inl (fI (sR S))))]) H := hP
  have hD : va_D (pg_in ((mC X S t))) ([(xa X 0, .inr (1, [.int (iI 0), .ref ((xa X 1)), .ref ((xa X 2)), .ref ((xa X 3)), .ref ((xa X 4)), .int (iI (((sN S : Nat) : Int))), .int (iI (((sW S : Nat) : Int)))])), (xa X 1, .inl (xZ X, 12, .inl (fI (sS S)))), (xa X 2, .inl (xI X, 12, .inl (fI (upN (sA S) k a2)))), (xa X 3, .inl (xI X, 12, .inl (fI (upN (sU S) k u2)))), (xa X 4, .inl (xI X, 12, .inl (fI (sR S))))]) := hD
  refine lv_iconst (v := iI 1) hx hb dX1_step_150 rfl ?_
  exact pg_wzret hx hb hr hlk hP hS  (iI_bool (by omega)) (congrArg (fun z : Int => some (Value.int (iI z))) (show 1 = 1 by omega)) dX1_step_151
set_option maxRecDepth 100000 in
set_option maxHeartbeats 4000000 in
theorem c_X1_stepno_n (l : Launch) (X : pgX) (S : pgS) (t : Int) (hok : pgOk S) (k : Nat) (hk : k < 12) (h1 : sS S k = 1) (hed : sU S k = 90) : pg_wr l yX1_step wsX1_step (rm 3 64) (xG X) (xTy X) pT (mC X S t) (mC X S 0) 0 0 [.ref ((xa X 0)), .int (iI (((k : Nat) : Int))), .int (iI 110)] (some (.int (iI 0))) := by
  refine pg_wr_of (cc := cX1_step) (maxL := 5) (ret := (some .boolean)) (by decide) rfl (Nat.le_of_ble_eq_true rfl) ?_
  intro p e s m below meth c ls SC hr hlk hP hK hD hS hB hl
  obtain ⟨hx, hb, hml, hown, hts⟩ := id SC
  have hown : s.vm.findClass RX1 = some m.cls := hown
  have hl : lv_has ls 5 [(0, .ref ((xa X 0))), (1, .int (iI (((k : Nat) : Int)))), (2, .int (iI 110))] := hl
  have hin : ∀ w ∈ u_ws RX1 TX1 7, w ∈ wsX1_step := by decide +kernel
  have q2 := hok.2.1 k
  have q3 := hok.2.2.1 k
  refine lv_aload_n hx hb dX1_step_0 rfl (lv_at hl 0 rfl) ?_
  refine lv_iload_n hx hb dX1_step_1 rfl (lv_at hl 1 rfl) ?_
  refine pg_wcallV (As := [.int (iI (((k : Nat) : Int)))]) (rest := []) (l1 := []) (l2 := []) (w := [(xa X 0, .inr (1, [.int (iI t), .ref ((xa X 1)), .ref ((xa X 2)), .ref ((xa X 3)), .ref ((xa X 4)), .int (iI (((sN S : Nat) : Int))), .int (iI (((sW S : Nat) : Int)))])), (xa X 1, .inl (xZ X, 12, .inl (fI (sS S)))), (xa X 2, .inl (xI X, 12, .inl (fI (sA S)))), (xa X 3, .inl (xI X, 12, .inl (fI (sU S)))), (xa X 4, .inl (xI X, 12, .inl (fI (sR S))))]) (w' := [(xa X 0, .inr (1, [.int (iI 0), .ref ((xa X 1)), .ref ((xa X 2)), .ref ((xa X 3)), .ref ((xa X 4)), .int (iI (((sN S : Nat) : Int))), .int (iI (((sW S : Nat) : Int)))])), (xa X 1, .inl (xZ X, 12, .inl (fI (sS S)))), (xa X 2, .inl (xI X, 12, .inl (fI (sA S)))), (xa X 3, .inl (xI X, 12, .inl (fI (sU S)))), (xa X 4, .inl (xI X, 12, .inl (fI (sR S))))]) SC (c_X1_isNoPeg_ok l X S t k hk h1) pT_st pT_h (cwV 1 hts gX1_step_X1_isNoPeg rfl rfl rfl (by decide +kernel) ⟨Nat.le_of_ble_eq_true rfl, Nat.le_of_ble_eq_true rfl⟩) (va_recv hK hP (ci := 1) (q0 := 0) rfl rfl) hK hP hD hS rfl rfl hl.1 rfl (Nat.le_of_ble_eq_true rfl) dX1_step_2 ⟨Nat.zero_le _, Nat.zero_le _⟩ (fun H locs hP hD hS => ?_)
  have hP : va_P (xG X) vwCl ([(xa X 0, .inr (1, [.int (iI 0), .ref ((xa X 1)), .ref ((xa X 2)), .ref ((xa X 3)), .ref ((xa X 4)), .int (iI (((sN S : Nat) : Int))), .int (iI (((sW S : Nat) : Int)))])), (xa X 1, .inl (xZ X, 12, .inl (fI (sS S)))), (xa X 2, .inl (xI X, 12, .inl (fI (sA S)))), (xa X 3, .inl (xI X, 12, .inl (fI (sU S)))), (xa X 4, .inl (xI X, 12, .inl (fI (sR S))))]) H := hP
  have hD : va_D (pg_in ((mC X S t))) ([(xa X 0, .inr (1, [.int (iI 0), .ref ((xa X 1)), .ref ((xa X 2)), .ref ((xa X 3)), .ref ((xa X 4)), .int (iI (((sN S : Nat) : Int))), .int (iI (((sW S : Nat) : Int)))])), (xa X 1, .inl (xZ X, 12, .inl (fI (sS S)))), (xa X 2, .inl (xI X, 12, .inl (fI (sA S)))), (xa X 3, .inl (xI X, 12, .inl (fI (sU S)))), (xa X 4, .inl (xI X, 12, .inl (fI (sR S))))]) := hD
  refine pg_if_ne (tgt := 45) hx hb dX1_step_5 (by decide) (⟨by omega, by omega⟩) (fun hc1 => absurd hc1 (by omega)) (fun hc1 => ?_)
  refine lv_aload_n hx hb dX1_step_8 rfl (lv_at hl 0 rfl) ?_
  refine lv_iload_n hx hb dX1_step_9 rfl (lv_at hl 2 rfl) ?_
  refine lv_bipush (v := iI 110) hx hb dX1_step_10 (by decide +kernel) ?_
  refine pg_icmp_eq (tgt := 37) hx hb dX1_step_12 (by decide) (⟨by omega, by omega⟩) (⟨by omega, by omega⟩) (fun hc2 => ?_) (fun hc2 => absurd hc2 (by omega))
  refine lv_iconst (v := iI 0) hx hb dX1_step_37 rfl ?_
  refine lv_iconst (v := iI 3) hx hb dX1_step_38 rfl ?_
  refine pg_wcallV (As := [.int (iI 0), .int (iI 3)]) (rest := []) (l1 := []) (l2 := []) (w := [(xa X 0, .inr (1, [.int (iI 0), .ref ((xa X 1)), .ref ((xa X 2)), .ref ((xa X 3)), .ref ((xa X 4)), .int (iI (((sN S : Nat) : Int))), .int (iI (((sW S : Nat) : Int)))])), (xa X 1, .inl (xZ X, 12, .inl (fI (sS S)))), (xa X 2, .inl (xI X, 12, .inl (fI (sA S)))), (xa X 3, .inl (xI X, 12, .inl (fI (sU S)))), (xa X 4, .inl (xI X, 12, .inl (fI (sR S))))]) (w' := [(xa X 0, .inr (1, [.int (iI 0), .ref ((xa X 1)), .ref ((xa X 2)), .ref ((xa X 3)), .ref ((xa X 4)), .int (iI (((sN S : Nat) : Int))), .int (iI (((sW S : Nat) : Int)))])), (xa X 1, .inl (xZ X, 12, .inl (fI (sS S)))), (xa X 2, .inl (xI X, 12, .inl (fI (sA S)))), (xa X 3, .inl (xI X, 12, .inl (fI (sU S)))), (xa X 4, .inl (xI X, 12, .inl (fI (sR S))))]) SC (c_X1_isThrown l X S 0 0 3 0 ⟨by omega, by omega⟩ (by omega)) pT_st pT_h (cwV 2 hts gX1_step_X1_isThrown rfl rfl rfl (by decide +kernel) ⟨Nat.le_of_ble_eq_true rfl, Nat.le_of_ble_eq_true rfl⟩) (va_recv hK hP (ci := 1) (q0 := 0) rfl rfl) hK hP hD hS rfl rfl hl.1 rfl (Nat.le_of_ble_eq_true rfl) dX1_step_39 ⟨Nat.zero_le _, Nat.zero_le _⟩ (fun H locs hP hD hS => ?_)
  have hP : va_P (xG X) vwCl ([(xa X 0, .inr (1, [.int (iI 0), .ref ((xa X 1)), .ref ((xa X 2)), .ref ((xa X 3)), .ref ((xa X 4)), .int (iI (((sN S : Nat) : Int))), .int (iI (((sW S : Nat) : Int)))])), (xa X 1, .inl (xZ X, 12, .inl (fI (sS S)))), (xa X 2, .inl (xI X, 12, .inl (fI (sA S)))), (xa X 3, .inl (xI X, 12, .inl (fI (sU S)))), (xa X 4, .inl (xI X, 12, .inl (fI (sR S))))]) H := hP
  have hD : va_D (pg_in ((mC X S t))) ([(xa X 0, .inr (1, [.int (iI 0), .ref ((xa X 1)), .ref ((xa X 2)), .ref ((xa X 3)), .ref ((xa X 4)), .int (iI (((sN S : Nat) : Int))), .int (iI (((sW S : Nat) : Int)))])), (xa X 1, .inl (xZ X, 12, .inl (fI (sS S)))), (xa X 2, .inl (xI X, 12, .inl (fI (sA S)))), (xa X 3, .inl (xI X, 12, .inl (fI (sU S)))), (xa X 4, .inl (xI X, 12, .inl (fI (sR S))))]) := hD
  refine pg_if_eq (tgt := 47) hx hb dX1_step_42 (by decide) (⟨by omega, by omega⟩) (fun hc3 => ?_) (fun hc3 => absurd hc3 (by omega))
  refine lv_iload_n hx hb dX1_step_47 rfl (lv_at hl 2 rfl) ?_
  refine lv_bipush (v := iI 101) hx hb dX1_step_48 (by decide +kernel) ?_
  refine pg_icmp_ne (tgt := 57) hx hb dX1_step_50 (by decide) (⟨by omega, by omega⟩) (⟨by omega, by omega⟩) (fun hc4 => ?_) (fun hc4 => absurd hc4 (by omega))
  refine lv_iload_n hx hb dX1_step_57 rfl (lv_at hl 2 rfl) ?_
  refine lv_bipush (v := iI 119) hx hb dX1_step_58 (by decide +kernel) ?_
  refine pg_icmp_ne (tgt := 67) hx hb dX1_step_60 (by decide) (⟨by omega, by omega⟩) (⟨by omega, by omega⟩) (fun hc5 => ?_) (fun hc5 => absurd hc5 (by omega))
  refine lv_iconst (v := iI 0) hx hb dX1_step_67 rfl ?_
  refine lv_istore_n (lv' := [(3, .int (iI 0)), (0, .ref ((xa X 0))), (1, .int (iI (((k : Nat) : Int)))), (2, .int (iI 110))]) hx hb dX1_step_68 rfl hl (by decide) rfl (fun ls hl => ?_)
  refine lv_iload_n hx hb dX1_step_69 rfl (lv_at hl 3 rfl) ?_
  refine lv_bipush (v := iI 110) hx hb dX1_step_70 (by decide +kernel) ?_
  refine pg_icmp_ne (tgt := 79) hx hb dX1_step_72 (by decide) (⟨by omega, by omega⟩) (⟨by omega, by omega⟩) (fun hc6 => absurd hc6 (by omega)) (fun hc6 => ?_)
  refine lv_iconst (v := iI 1) hx hb dX1_step_75 rfl ?_
  refine lv_goto (tgt := 90) hx hb dX1_step_76 (by decide) ?_
  refine lv_istore (lv' := [(4, .int (iI 1)), (3, .int (iI 0)), (0, .ref ((xa X 0))), (1, .int (iI (((k : Nat) : Int)))), (2, .int (iI 110))]) hx hb dX1_step_90 hl (by decide) rfl (fun ls hl => ?_)
  refine lv_aload_n hx hb dX1_step_92 rfl (lv_at hl 2 rfl) ?_
  refine va_get (D := xG X) (ci := 1) (v := .ref ((xa X 2))) (C := RX1) (T := TX1) (N := 7) hx hb hts hin hown hK hP 0 rfl rfl 2 (by decide) (hts (.fieldLink RX1 13 "PegfieldModel" "across" "[I") (by decide +kernel)) (fun _ h9 => h9) rfl dX1_step_93 ?_
  refine lv_iload_n hx hb dX1_step_96 rfl (lv_at hl 3 rfl) ?_
  refine pg_iald hx hb hK hP 2 1 (f := (sA S)) rfl rfl k (rfl) (by omega) (by decide) dX1_step_97 ?_
  refine lv_iload_n hx hb dX1_step_98 rfl (lv_at hl 1 rfl) ?_
  refine pg_iadd (z := (sA S k : Int)) hx hb dX1_step_99 (by omega) ?_
  refine lv_iconst (v := iI 0) hx hb dX1_step_100 rfl ?_
  refine lv_bipush (v := iI 90) hx hb dX1_step_101 (by decide +kernel) ?_
  refine pg_callS (As := [.int (iI ((sA S k : Int))), .int (iI 0), .int (iI 90)]) (rest := []) SC (c_X1_lies l ((sA S k : Int)) 0 90 1 ⟨by omega, by omega⟩ ⟨by omega, by omega⟩ ⟨by omega, by omega⟩ (by omega)) pT_st pT_h (va_cwS 3 hts gX1_step_X1_lies rfl rfl rfl (by decide +kernel) ⟨Nat.le_of_ble_eq_true rfl, Nat.le_of_ble_eq_true rfl⟩) rfl hl.1 rfl (Nat.le_of_ble_eq_true rfl) dX1_step_103 ⟨Nat.zero_le _, Nat.zero_le _⟩ ?_
  refine pg_if_eq (tgt := 127) hx hb dX1_step_106 (by decide) (⟨by omega, by omega⟩) (fun hc7 => absurd hc7 (by omega)) (fun hc7 => ?_)
  refine lv_aload_n hx hb dX1_step_109 rfl (lv_at hl 2 rfl) ?_
  refine va_get (D := xG X) (ci := 1) (v := .ref ((xa X 3))) (C := RX1) (T := TX1) (N := 7) hx hb hts hin hown hK hP 0 rfl rfl 3 (by decide) (hts (.fieldLink RX1 17 "PegfieldModel" "up" "[I") (by decide +kernel)) (fun _ h9 => h9) rfl dX1_step_110 ?_
  refine lv_iload_n hx hb dX1_step_113 rfl (lv_at hl 3 rfl) ?_
  refine pg_iald hx hb hK hP 3 1 (f := (sU S)) rfl rfl k (rfl) (by omega) (by decide) dX1_step_114 ?_
  refine lv_iload hx hb dX1_step_115 (lv_at hl 0 rfl) ?_
  refine pg_iadd (z := (sU S k : Int) + 1) hx hb dX1_step_117 (by omega) ?_
  refine lv_iconst (v := iI 0) hx hb dX1_step_118 rfl ?_
  refine lv_bipush (v := iI 90) hx hb dX1_step_119 (by decide +kernel) ?_
  refine pg_callS (As := [.int (iI ((sU S k : Int) + 1)), .int (iI 0), .int (iI 90)]) (rest := []) SC (c_X1_lies l ((sU S k : Int) + 1) 0 90 0 ⟨by omega, by omega⟩ ⟨by omega, by omega⟩ ⟨by omega, by omega⟩ (by omega)) pT_st pT_h (va_cwS 3 hts gX1_step_X1_lies rfl rfl rfl (by decide +kernel) ⟨Nat.le_of_ble_eq_true rfl, Nat.le_of_ble_eq_true rfl⟩) rfl hl.1 rfl (Nat.le_of_ble_eq_true rfl) dX1_step_121 ⟨Nat.zero_le _, Nat.zero_le _⟩ ?_
  refine pg_if_ne (tgt := 129) hx hb dX1_step_124 (by decide) (⟨by omega, by omega⟩) (fun hc8 => absurd hc8 (by omega)) (fun hc8 => ?_)
  refine lv_iconst (v := iI 0) hx hb dX1_step_127 rfl ?_
  exact pg_wzret hx hb hr hlk hP hS  (iI_bool (by omega)) (congrArg (fun z : Int => some (Value.int (iI z))) (show 0 = 0 by omega)) dX1_step_128
set_option maxRecDepth 100000 in
set_option maxHeartbeats 4000000 in
theorem c_X1_step_s (l : Launch) (X : pgX) (S : pgS) (t : Int) (k a2 u2 : Nat) (hk : k < 12) (h1 : sS S k = 1) (ha9 : a2 < 91) (hu9 : u2 < 91) (ha : a2 = sA S k) (hu : u2 + 1 = sU S k) : pg_wr l yX1_step wsX1_step (rm 3 64) (xG X) (xTy X) pT (mC X S t) (mC X (sS S, upN (sA S) k a2, upN (sU S) k u2, sR S, sN S, sW S) 0) 0 0 [.ref ((xa X 0)), .int (iI (((k : Nat) : Int))), .int (iI 115)] (some (.int (iI 1))) := by
  refine pg_wr_of (cc := cX1_step) (maxL := 5) (ret := (some .boolean)) (by decide) rfl (Nat.le_of_ble_eq_true rfl) ?_
  intro p e s m below meth c ls SC hr hlk hP hK hD hS hB hl
  obtain ⟨hx, hb, hml, hown, hts⟩ := id SC
  have hown : s.vm.findClass RX1 = some m.cls := hown
  have hl : lv_has ls 5 [(0, .ref ((xa X 0))), (1, .int (iI (((k : Nat) : Int)))), (2, .int (iI 115))] := hl
  have hin : ∀ w ∈ u_ws RX1 TX1 7, w ∈ wsX1_step := by decide +kernel
  refine lv_aload_n hx hb dX1_step_0 rfl (lv_at hl 0 rfl) ?_
  refine lv_iload_n hx hb dX1_step_1 rfl (lv_at hl 1 rfl) ?_
  refine pg_wcallV (As := [.int (iI (((k : Nat) : Int)))]) (rest := []) (l1 := []) (l2 := []) (w := [(xa X 0, .inr (1, [.int (iI t), .ref ((xa X 1)), .ref ((xa X 2)), .ref ((xa X 3)), .ref ((xa X 4)), .int (iI (((sN S : Nat) : Int))), .int (iI (((sW S : Nat) : Int)))])), (xa X 1, .inl (xZ X, 12, .inl (fI (sS S)))), (xa X 2, .inl (xI X, 12, .inl (fI (sA S)))), (xa X 3, .inl (xI X, 12, .inl (fI (sU S)))), (xa X 4, .inl (xI X, 12, .inl (fI (sR S))))]) (w' := [(xa X 0, .inr (1, [.int (iI 0), .ref ((xa X 1)), .ref ((xa X 2)), .ref ((xa X 3)), .ref ((xa X 4)), .int (iI (((sN S : Nat) : Int))), .int (iI (((sW S : Nat) : Int)))])), (xa X 1, .inl (xZ X, 12, .inl (fI (sS S)))), (xa X 2, .inl (xI X, 12, .inl (fI (sA S)))), (xa X 3, .inl (xI X, 12, .inl (fI (sU S)))), (xa X 4, .inl (xI X, 12, .inl (fI (sR S))))]) SC (c_X1_isNoPeg_ok l X S t k hk h1) pT_st pT_h (cwV 1 hts gX1_step_X1_isNoPeg rfl rfl rfl (by decide +kernel) ⟨Nat.le_of_ble_eq_true rfl, Nat.le_of_ble_eq_true rfl⟩) (va_recv hK hP (ci := 1) (q0 := 0) rfl rfl) hK hP hD hS rfl rfl hl.1 rfl (Nat.le_of_ble_eq_true rfl) dX1_step_2 ⟨Nat.zero_le _, Nat.zero_le _⟩ (fun H locs hP hD hS => ?_)
  have hP : va_P (xG X) vwCl ([(xa X 0, .inr (1, [.int (iI 0), .ref ((xa X 1)), .ref ((xa X 2)), .ref ((xa X 3)), .ref ((xa X 4)), .int (iI (((sN S : Nat) : Int))), .int (iI (((sW S : Nat) : Int)))])), (xa X 1, .inl (xZ X, 12, .inl (fI (sS S)))), (xa X 2, .inl (xI X, 12, .inl (fI (sA S)))), (xa X 3, .inl (xI X, 12, .inl (fI (sU S)))), (xa X 4, .inl (xI X, 12, .inl (fI (sR S))))]) H := hP
  have hD : va_D (pg_in ((mC X S t))) ([(xa X 0, .inr (1, [.int (iI 0), .ref ((xa X 1)), .ref ((xa X 2)), .ref ((xa X 3)), .ref ((xa X 4)), .int (iI (((sN S : Nat) : Int))), .int (iI (((sW S : Nat) : Int)))])), (xa X 1, .inl (xZ X, 12, .inl (fI (sS S)))), (xa X 2, .inl (xI X, 12, .inl (fI (sA S)))), (xa X 3, .inl (xI X, 12, .inl (fI (sU S)))), (xa X 4, .inl (xI X, 12, .inl (fI (sR S))))]) := hD
  refine pg_if_ne (tgt := 45) hx hb dX1_step_5 (by decide) (⟨by omega, by omega⟩) (fun hc1 => absurd hc1 (by omega)) (fun hc1 => ?_)
  refine lv_aload_n hx hb dX1_step_8 rfl (lv_at hl 0 rfl) ?_
  refine lv_iload_n hx hb dX1_step_9 rfl (lv_at hl 2 rfl) ?_
  refine lv_bipush (v := iI 110) hx hb dX1_step_10 (by decide +kernel) ?_
  refine pg_icmp_eq (tgt := 37) hx hb dX1_step_12 (by decide) (⟨by omega, by omega⟩) (⟨by omega, by omega⟩) (fun hc2 => absurd hc2 (by omega)) (fun hc2 => ?_)
  refine lv_iload_n hx hb dX1_step_15 rfl (lv_at hl 2 rfl) ?_
  refine lv_bipush (v := iI 115) hx hb dX1_step_16 (by decide +kernel) ?_
  refine pg_icmp_eq (tgt := 37) hx hb dX1_step_18 (by decide) (⟨by omega, by omega⟩) (⟨by omega, by omega⟩) (fun hc3 => ?_) (fun hc3 => absurd hc3 (by omega))
  refine lv_iconst (v := iI 0) hx hb dX1_step_37 rfl ?_
  refine lv_iconst (v := iI 3) hx hb dX1_step_38 rfl ?_
  refine pg_wcallV (As := [.int (iI 0), .int (iI 3)]) (rest := []) (l1 := []) (l2 := []) (w := [(xa X 0, .inr (1, [.int (iI 0), .ref ((xa X 1)), .ref ((xa X 2)), .ref ((xa X 3)), .ref ((xa X 4)), .int (iI (((sN S : Nat) : Int))), .int (iI (((sW S : Nat) : Int)))])), (xa X 1, .inl (xZ X, 12, .inl (fI (sS S)))), (xa X 2, .inl (xI X, 12, .inl (fI (sA S)))), (xa X 3, .inl (xI X, 12, .inl (fI (sU S)))), (xa X 4, .inl (xI X, 12, .inl (fI (sR S))))]) (w' := [(xa X 0, .inr (1, [.int (iI 0), .ref ((xa X 1)), .ref ((xa X 2)), .ref ((xa X 3)), .ref ((xa X 4)), .int (iI (((sN S : Nat) : Int))), .int (iI (((sW S : Nat) : Int)))])), (xa X 1, .inl (xZ X, 12, .inl (fI (sS S)))), (xa X 2, .inl (xI X, 12, .inl (fI (sA S)))), (xa X 3, .inl (xI X, 12, .inl (fI (sU S)))), (xa X 4, .inl (xI X, 12, .inl (fI (sR S))))]) SC (c_X1_isThrown l X S 0 0 3 0 ⟨by omega, by omega⟩ (by omega)) pT_st pT_h (cwV 2 hts gX1_step_X1_isThrown rfl rfl rfl (by decide +kernel) ⟨Nat.le_of_ble_eq_true rfl, Nat.le_of_ble_eq_true rfl⟩) (va_recv hK hP (ci := 1) (q0 := 0) rfl rfl) hK hP hD hS rfl rfl hl.1 rfl (Nat.le_of_ble_eq_true rfl) dX1_step_39 ⟨Nat.zero_le _, Nat.zero_le _⟩ (fun H locs hP hD hS => ?_)
  have hP : va_P (xG X) vwCl ([(xa X 0, .inr (1, [.int (iI 0), .ref ((xa X 1)), .ref ((xa X 2)), .ref ((xa X 3)), .ref ((xa X 4)), .int (iI (((sN S : Nat) : Int))), .int (iI (((sW S : Nat) : Int)))])), (xa X 1, .inl (xZ X, 12, .inl (fI (sS S)))), (xa X 2, .inl (xI X, 12, .inl (fI (sA S)))), (xa X 3, .inl (xI X, 12, .inl (fI (sU S)))), (xa X 4, .inl (xI X, 12, .inl (fI (sR S))))]) H := hP
  have hD : va_D (pg_in ((mC X S t))) ([(xa X 0, .inr (1, [.int (iI 0), .ref ((xa X 1)), .ref ((xa X 2)), .ref ((xa X 3)), .ref ((xa X 4)), .int (iI (((sN S : Nat) : Int))), .int (iI (((sW S : Nat) : Int)))])), (xa X 1, .inl (xZ X, 12, .inl (fI (sS S)))), (xa X 2, .inl (xI X, 12, .inl (fI (sA S)))), (xa X 3, .inl (xI X, 12, .inl (fI (sU S)))), (xa X 4, .inl (xI X, 12, .inl (fI (sR S))))]) := hD
  refine pg_if_eq (tgt := 47) hx hb dX1_step_42 (by decide) (⟨by omega, by omega⟩) (fun hc4 => ?_) (fun hc4 => absurd hc4 (by omega))
  refine lv_iload_n hx hb dX1_step_47 rfl (lv_at hl 2 rfl) ?_
  refine lv_bipush (v := iI 101) hx hb dX1_step_48 (by decide +kernel) ?_
  refine pg_icmp_ne (tgt := 57) hx hb dX1_step_50 (by decide) (⟨by omega, by omega⟩) (⟨by omega, by omega⟩) (fun hc5 => ?_) (fun hc5 => absurd hc5 (by omega))
  refine lv_iload_n hx hb dX1_step_57 rfl (lv_at hl 2 rfl) ?_
  refine lv_bipush (v := iI 119) hx hb dX1_step_58 (by decide +kernel) ?_
  refine pg_icmp_ne (tgt := 67) hx hb dX1_step_60 (by decide) (⟨by omega, by omega⟩) (⟨by omega, by omega⟩) (fun hc6 => ?_) (fun hc6 => absurd hc6 (by omega))
  refine lv_iconst (v := iI 0) hx hb dX1_step_67 rfl ?_
  refine lv_istore_n (lv' := [(3, .int (iI 0)), (0, .ref ((xa X 0))), (1, .int (iI (((k : Nat) : Int)))), (2, .int (iI 115))]) hx hb dX1_step_68 rfl hl (by decide) rfl (fun ls hl => ?_)
  refine lv_iload_n hx hb dX1_step_69 rfl (lv_at hl 3 rfl) ?_
  refine lv_bipush (v := iI 110) hx hb dX1_step_70 (by decide +kernel) ?_
  refine pg_icmp_ne (tgt := 79) hx hb dX1_step_72 (by decide) (⟨by omega, by omega⟩) (⟨by omega, by omega⟩) (fun hc7 => ?_) (fun hc7 => absurd hc7 (by omega))
  refine lv_iload_n hx hb dX1_step_79 rfl (lv_at hl 3 rfl) ?_
  refine lv_bipush (v := iI 115) hx hb dX1_step_80 (by decide +kernel) ?_
  refine pg_icmp_ne (tgt := 89) hx hb dX1_step_82 (by decide) (⟨by omega, by omega⟩) (⟨by omega, by omega⟩) (fun hc8 => absurd hc8 (by omega)) (fun hc8 => ?_)
  refine lv_iconst (v := iI (-1)) hx hb dX1_step_85 rfl ?_
  refine lv_goto (tgt := 90) hx hb dX1_step_86 (by decide) ?_
  refine lv_istore (lv' := [(4, .int (iI ((-1)))), (3, .int (iI 0)), (0, .ref ((xa X 0))), (1, .int (iI (((k : Nat) : Int)))), (2, .int (iI 115))]) hx hb dX1_step_90 hl (by decide) rfl (fun ls hl => ?_)
  refine lv_aload_n hx hb dX1_step_92 rfl (lv_at hl 2 rfl) ?_
  refine va_get (D := xG X) (ci := 1) (v := .ref ((xa X 2))) (C := RX1) (T := TX1) (N := 7) hx hb hts hin hown hK hP 0 rfl rfl 2 (by decide) (hts (.fieldLink RX1 13 "PegfieldModel" "across" "[I") (by decide +kernel)) (fun _ h9 => h9) rfl dX1_step_93 ?_
  refine lv_iload_n hx hb dX1_step_96 rfl (lv_at hl 3 rfl) ?_
  refine pg_iald hx hb hK hP 2 1 (f := (sA S)) rfl rfl k (rfl) (by omega) (by decide) dX1_step_97 ?_
  refine lv_iload_n hx hb dX1_step_98 rfl (lv_at hl 1 rfl) ?_
  refine pg_iadd (z := ((a2 : Nat) : Int)) hx hb dX1_step_99 (by omega) ?_
  refine lv_iconst (v := iI 0) hx hb dX1_step_100 rfl ?_
  refine lv_bipush (v := iI 90) hx hb dX1_step_101 (by decide +kernel) ?_
  refine pg_callS (As := [.int (iI (((a2 : Nat) : Int))), .int (iI 0), .int (iI 90)]) (rest := []) SC (c_X1_lies l (((a2 : Nat) : Int)) 0 90 1 ⟨by omega, by omega⟩ ⟨by omega, by omega⟩ ⟨by omega, by omega⟩ (by omega)) pT_st pT_h (va_cwS 3 hts gX1_step_X1_lies rfl rfl rfl (by decide +kernel) ⟨Nat.le_of_ble_eq_true rfl, Nat.le_of_ble_eq_true rfl⟩) rfl hl.1 rfl (Nat.le_of_ble_eq_true rfl) dX1_step_103 ⟨Nat.zero_le _, Nat.zero_le _⟩ ?_
  refine pg_if_eq (tgt := 127) hx hb dX1_step_106 (by decide) (⟨by omega, by omega⟩) (fun hc9 => absurd hc9 (by omega)) (fun hc9 => ?_)
  refine lv_aload_n hx hb dX1_step_109 rfl (lv_at hl 2 rfl) ?_
  refine va_get (D := xG X) (ci := 1) (v := .ref ((xa X 3))) (C := RX1) (T := TX1) (N := 7) hx hb hts hin hown hK hP 0 rfl rfl 3 (by decide) (hts (.fieldLink RX1 17 "PegfieldModel" "up" "[I") (by decide +kernel)) (fun _ h9 => h9) rfl dX1_step_110 ?_
  refine lv_iload_n hx hb dX1_step_113 rfl (lv_at hl 3 rfl) ?_
  refine pg_iald hx hb hK hP 3 1 (f := (sU S)) rfl rfl k (rfl) (by omega) (by decide) dX1_step_114 ?_
  refine lv_iload hx hb dX1_step_115 (lv_at hl 0 rfl) ?_
  refine pg_iadd (z := ((u2 : Nat) : Int)) hx hb dX1_step_117 (by omega) ?_
  refine lv_iconst (v := iI 0) hx hb dX1_step_118 rfl ?_
  refine lv_bipush (v := iI 90) hx hb dX1_step_119 (by decide +kernel) ?_
  refine pg_callS (As := [.int (iI (((u2 : Nat) : Int))), .int (iI 0), .int (iI 90)]) (rest := []) SC (c_X1_lies l (((u2 : Nat) : Int)) 0 90 1 ⟨by omega, by omega⟩ ⟨by omega, by omega⟩ ⟨by omega, by omega⟩ (by omega)) pT_st pT_h (va_cwS 3 hts gX1_step_X1_lies rfl rfl rfl (by decide +kernel) ⟨Nat.le_of_ble_eq_true rfl, Nat.le_of_ble_eq_true rfl⟩) rfl hl.1 rfl (Nat.le_of_ble_eq_true rfl) dX1_step_121 ⟨Nat.zero_le _, Nat.zero_le _⟩ ?_
  refine pg_if_ne (tgt := 129) hx hb dX1_step_124 (by decide) (⟨by omega, by omega⟩) (fun hc10 => ?_) (fun hc10 => absurd hc10 (by omega))
  refine lv_aload_n hx hb dX1_step_129 rfl (lv_at hl 2 rfl) ?_
  refine va_get (D := xG X) (ci := 1) (v := .ref ((xa X 2))) (C := RX1) (T := TX1) (N := 7) hx hb hts hin hown hK hP 0 rfl rfl 2 (by decide) (hts (.fieldLink RX1 13 "PegfieldModel" "across" "[I") (by decide +kernel)) (fun _ h9 => h9) rfl dX1_step_130 ?_
  refine lv_iload_n hx hb dX1_step_133 rfl (lv_at hl 3 rfl) ?_
  refine lv_dup2_11 hx hb dX1_step_134 rfl rfl ?_
  refine pg_iald hx hb hK hP 2 1 (f := (sA S)) rfl rfl k (rfl) (by omega) (by decide) dX1_step_135 ?_
  refine lv_iload_n hx hb dX1_step_136 rfl (lv_at hl 1 rfl) ?_
  refine pg_iadd (z := ((a2 : Nat) : Int)) hx hb dX1_step_137 (by omega) ?_
  refine pg_iast hx hb hK hP hD hS 2 1 (f := (sA S)) rfl rfl k a2 (rfl) (rfl) (by omega) (by decide) dX1_step_138 (fun H locs hP hD hS => ?_)
  have hP : va_P (xG X) vwCl ([(xa X 0, .inr (1, [.int (iI 0), .ref ((xa X 1)), .ref ((xa X 2)), .ref ((xa X 3)), .ref ((xa X 4)), .int (iI (((sN S : Nat) : Int))), .int (iI (((sW S : Nat) : Int)))])), (xa X 1, .inl (xZ X, 12, .inl (fI (sS S)))), (xa X 2, .inl (xI X, 12, .inl (fI (upN (sA S) k a2)))), (xa X 3, .inl (xI X, 12, .inl (fI (sU S)))), (xa X 4, .inl (xI X, 12, .inl (fI (sR S))))]) H := hP
  have hD : va_D (pg_in ((mC X S t))) ([(xa X 0, .inr (1, [.int (iI 0), .ref ((xa X 1)), .ref ((xa X 2)), .ref ((xa X 3)), .ref ((xa X 4)), .int (iI (((sN S : Nat) : Int))), .int (iI (((sW S : Nat) : Int)))])), (xa X 1, .inl (xZ X, 12, .inl (fI (sS S)))), (xa X 2, .inl (xI X, 12, .inl (fI (upN (sA S) k a2)))), (xa X 3, .inl (xI X, 12, .inl (fI (sU S)))), (xa X 4, .inl (xI X, 12, .inl (fI (sR S))))]) := hD
  refine lv_aload_n hx hb dX1_step_139 rfl (lv_at hl 2 rfl) ?_
  refine va_get (D := xG X) (ci := 1) (v := .ref ((xa X 3))) (C := RX1) (T := TX1) (N := 7) hx hb hts hin hown hK hP 0 rfl rfl 3 (by decide) (hts (.fieldLink RX1 17 "PegfieldModel" "up" "[I") (by decide +kernel)) (fun _ h9 => h9) rfl dX1_step_140 ?_
  refine lv_iload_n hx hb dX1_step_143 rfl (lv_at hl 3 rfl) ?_
  refine lv_dup2_11 hx hb dX1_step_144 rfl rfl ?_
  refine pg_iald hx hb hK hP 3 1 (f := (sU S)) rfl rfl k (rfl) (by omega) (by decide) dX1_step_145 ?_
  refine lv_iload hx hb dX1_step_146 (lv_at hl 0 rfl) ?_
  refine pg_iadd (z := ((u2 : Nat) : Int)) hx hb dX1_step_148 (by omega) ?_
  refine pg_iast hx hb hK hP hD hS 3 1 (f := (sU S)) rfl rfl k u2 (rfl) (rfl) (by omega) (by decide) dX1_step_149 (fun H locs hP hD hS => ?_)
  have hP : va_P (xG X) vwCl ([(xa X 0, .inr (1, [.int (iI 0), .ref ((xa X 1)), .ref ((xa X 2)), .ref ((xa X 3)), .ref ((xa X 4)), .int (iI (((sN S : Nat) : Int))), .int (iI (((sW S : Nat) : Int)))])), (xa X 1, .inl (xZ X, 12, .inl (fI (sS S)))), (xa X 2, .inl (xI X, 12, .inl (fI (upN (sA S) k a2)))), (xa X 3, .inl (xI X, 12, .inl (fI (upN (sU S) k u2)))), (xa X 4, .inl (xI X, 12, .inl (fI (sR S))))]) H := hP
  have hD : va_D (pg_in ((mC X S t))) ([(xa X 0, .inr (1, [.int (iI 0), .ref ((xa X 1)), .ref ((xa X 2)), .ref ((xa X 3)), .ref ((xa X 4)), .int (iI (((sN S : Nat) : Int))), .int (iI (((sW S : Nat) : Int)))])), (xa X 1, .inl (xZ X, 12, .inl (fI (sS S)))), (xa X 2, .inl (xI X, 12, .inl (fI (upN (sA S) k a2)))), (xa X 3, .inl (xI X, 12, .inl (fI (upN (sU S) k u2)))), (xa X 4, .inl (xI X, 12, .inl (fI (sR S))))]) := hD
  refine lv_iconst (v := iI 1) hx hb dX1_step_150 rfl ?_
  exact pg_wzret hx hb hr hlk hP hS  (iI_bool (by omega)) (congrArg (fun z : Int => some (Value.int (iI z))) (show 1 = 1 by omega)) dX1_step_151
set_option maxRecDepth 100000 in
set_option maxHeartbeats 4000000 in
theorem c_X1_stepno_s (l : Launch) (X : pgX) (S : pgS) (t : Int) (hok : pgOk S) (k : Nat) (hk : k < 12) (h1 : sS S k = 1) (hed : sU S k = 0) : pg_wr l yX1_step wsX1_step (rm 3 64) (xG X) (xTy X) pT (mC X S t) (mC X S 0) 0 0 [.ref ((xa X 0)), .int (iI (((k : Nat) : Int))), .int (iI 115)] (some (.int (iI 0))) := by
  refine pg_wr_of (cc := cX1_step) (maxL := 5) (ret := (some .boolean)) (by decide) rfl (Nat.le_of_ble_eq_true rfl) ?_
  intro p e s m below meth c ls SC hr hlk hP hK hD hS hB hl
  obtain ⟨hx, hb, hml, hown, hts⟩ := id SC
  have hown : s.vm.findClass RX1 = some m.cls := hown
  have hl : lv_has ls 5 [(0, .ref ((xa X 0))), (1, .int (iI (((k : Nat) : Int)))), (2, .int (iI 115))] := hl
  have hin : ∀ w ∈ u_ws RX1 TX1 7, w ∈ wsX1_step := by decide +kernel
  have q2 := hok.2.1 k
  have q3 := hok.2.2.1 k
  refine lv_aload_n hx hb dX1_step_0 rfl (lv_at hl 0 rfl) ?_
  refine lv_iload_n hx hb dX1_step_1 rfl (lv_at hl 1 rfl) ?_
  refine pg_wcallV (As := [.int (iI (((k : Nat) : Int)))]) (rest := []) (l1 := []) (l2 := []) (w := [(xa X 0, .inr (1, [.int (iI t), .ref ((xa X 1)), .ref ((xa X 2)), .ref ((xa X 3)), .ref ((xa X 4)), .int (iI (((sN S : Nat) : Int))), .int (iI (((sW S : Nat) : Int)))])), (xa X 1, .inl (xZ X, 12, .inl (fI (sS S)))), (xa X 2, .inl (xI X, 12, .inl (fI (sA S)))), (xa X 3, .inl (xI X, 12, .inl (fI (sU S)))), (xa X 4, .inl (xI X, 12, .inl (fI (sR S))))]) (w' := [(xa X 0, .inr (1, [.int (iI 0), .ref ((xa X 1)), .ref ((xa X 2)), .ref ((xa X 3)), .ref ((xa X 4)), .int (iI (((sN S : Nat) : Int))), .int (iI (((sW S : Nat) : Int)))])), (xa X 1, .inl (xZ X, 12, .inl (fI (sS S)))), (xa X 2, .inl (xI X, 12, .inl (fI (sA S)))), (xa X 3, .inl (xI X, 12, .inl (fI (sU S)))), (xa X 4, .inl (xI X, 12, .inl (fI (sR S))))]) SC (c_X1_isNoPeg_ok l X S t k hk h1) pT_st pT_h (cwV 1 hts gX1_step_X1_isNoPeg rfl rfl rfl (by decide +kernel) ⟨Nat.le_of_ble_eq_true rfl, Nat.le_of_ble_eq_true rfl⟩) (va_recv hK hP (ci := 1) (q0 := 0) rfl rfl) hK hP hD hS rfl rfl hl.1 rfl (Nat.le_of_ble_eq_true rfl) dX1_step_2 ⟨Nat.zero_le _, Nat.zero_le _⟩ (fun H locs hP hD hS => ?_)
  have hP : va_P (xG X) vwCl ([(xa X 0, .inr (1, [.int (iI 0), .ref ((xa X 1)), .ref ((xa X 2)), .ref ((xa X 3)), .ref ((xa X 4)), .int (iI (((sN S : Nat) : Int))), .int (iI (((sW S : Nat) : Int)))])), (xa X 1, .inl (xZ X, 12, .inl (fI (sS S)))), (xa X 2, .inl (xI X, 12, .inl (fI (sA S)))), (xa X 3, .inl (xI X, 12, .inl (fI (sU S)))), (xa X 4, .inl (xI X, 12, .inl (fI (sR S))))]) H := hP
  have hD : va_D (pg_in ((mC X S t))) ([(xa X 0, .inr (1, [.int (iI 0), .ref ((xa X 1)), .ref ((xa X 2)), .ref ((xa X 3)), .ref ((xa X 4)), .int (iI (((sN S : Nat) : Int))), .int (iI (((sW S : Nat) : Int)))])), (xa X 1, .inl (xZ X, 12, .inl (fI (sS S)))), (xa X 2, .inl (xI X, 12, .inl (fI (sA S)))), (xa X 3, .inl (xI X, 12, .inl (fI (sU S)))), (xa X 4, .inl (xI X, 12, .inl (fI (sR S))))]) := hD
  refine pg_if_ne (tgt := 45) hx hb dX1_step_5 (by decide) (⟨by omega, by omega⟩) (fun hc1 => absurd hc1 (by omega)) (fun hc1 => ?_)
  refine lv_aload_n hx hb dX1_step_8 rfl (lv_at hl 0 rfl) ?_
  refine lv_iload_n hx hb dX1_step_9 rfl (lv_at hl 2 rfl) ?_
  refine lv_bipush (v := iI 110) hx hb dX1_step_10 (by decide +kernel) ?_
  refine pg_icmp_eq (tgt := 37) hx hb dX1_step_12 (by decide) (⟨by omega, by omega⟩) (⟨by omega, by omega⟩) (fun hc2 => absurd hc2 (by omega)) (fun hc2 => ?_)
  refine lv_iload_n hx hb dX1_step_15 rfl (lv_at hl 2 rfl) ?_
  refine lv_bipush (v := iI 115) hx hb dX1_step_16 (by decide +kernel) ?_
  refine pg_icmp_eq (tgt := 37) hx hb dX1_step_18 (by decide) (⟨by omega, by omega⟩) (⟨by omega, by omega⟩) (fun hc3 => ?_) (fun hc3 => absurd hc3 (by omega))
  refine lv_iconst (v := iI 0) hx hb dX1_step_37 rfl ?_
  refine lv_iconst (v := iI 3) hx hb dX1_step_38 rfl ?_
  refine pg_wcallV (As := [.int (iI 0), .int (iI 3)]) (rest := []) (l1 := []) (l2 := []) (w := [(xa X 0, .inr (1, [.int (iI 0), .ref ((xa X 1)), .ref ((xa X 2)), .ref ((xa X 3)), .ref ((xa X 4)), .int (iI (((sN S : Nat) : Int))), .int (iI (((sW S : Nat) : Int)))])), (xa X 1, .inl (xZ X, 12, .inl (fI (sS S)))), (xa X 2, .inl (xI X, 12, .inl (fI (sA S)))), (xa X 3, .inl (xI X, 12, .inl (fI (sU S)))), (xa X 4, .inl (xI X, 12, .inl (fI (sR S))))]) (w' := [(xa X 0, .inr (1, [.int (iI 0), .ref ((xa X 1)), .ref ((xa X 2)), .ref ((xa X 3)), .ref ((xa X 4)), .int (iI (((sN S : Nat) : Int))), .int (iI (((sW S : Nat) : Int)))])), (xa X 1, .inl (xZ X, 12, .inl (fI (sS S)))), (xa X 2, .inl (xI X, 12, .inl (fI (sA S)))), (xa X 3, .inl (xI X, 12, .inl (fI (sU S)))), (xa X 4, .inl (xI X, 12, .inl (fI (sR S))))]) SC (c_X1_isThrown l X S 0 0 3 0 ⟨by omega, by omega⟩ (by omega)) pT_st pT_h (cwV 2 hts gX1_step_X1_isThrown rfl rfl rfl (by decide +kernel) ⟨Nat.le_of_ble_eq_true rfl, Nat.le_of_ble_eq_true rfl⟩) (va_recv hK hP (ci := 1) (q0 := 0) rfl rfl) hK hP hD hS rfl rfl hl.1 rfl (Nat.le_of_ble_eq_true rfl) dX1_step_39 ⟨Nat.zero_le _, Nat.zero_le _⟩ (fun H locs hP hD hS => ?_)
  have hP : va_P (xG X) vwCl ([(xa X 0, .inr (1, [.int (iI 0), .ref ((xa X 1)), .ref ((xa X 2)), .ref ((xa X 3)), .ref ((xa X 4)), .int (iI (((sN S : Nat) : Int))), .int (iI (((sW S : Nat) : Int)))])), (xa X 1, .inl (xZ X, 12, .inl (fI (sS S)))), (xa X 2, .inl (xI X, 12, .inl (fI (sA S)))), (xa X 3, .inl (xI X, 12, .inl (fI (sU S)))), (xa X 4, .inl (xI X, 12, .inl (fI (sR S))))]) H := hP
  have hD : va_D (pg_in ((mC X S t))) ([(xa X 0, .inr (1, [.int (iI 0), .ref ((xa X 1)), .ref ((xa X 2)), .ref ((xa X 3)), .ref ((xa X 4)), .int (iI (((sN S : Nat) : Int))), .int (iI (((sW S : Nat) : Int)))])), (xa X 1, .inl (xZ X, 12, .inl (fI (sS S)))), (xa X 2, .inl (xI X, 12, .inl (fI (sA S)))), (xa X 3, .inl (xI X, 12, .inl (fI (sU S)))), (xa X 4, .inl (xI X, 12, .inl (fI (sR S))))]) := hD
  refine pg_if_eq (tgt := 47) hx hb dX1_step_42 (by decide) (⟨by omega, by omega⟩) (fun hc4 => ?_) (fun hc4 => absurd hc4 (by omega))
  refine lv_iload_n hx hb dX1_step_47 rfl (lv_at hl 2 rfl) ?_
  refine lv_bipush (v := iI 101) hx hb dX1_step_48 (by decide +kernel) ?_
  refine pg_icmp_ne (tgt := 57) hx hb dX1_step_50 (by decide) (⟨by omega, by omega⟩) (⟨by omega, by omega⟩) (fun hc5 => ?_) (fun hc5 => absurd hc5 (by omega))
  refine lv_iload_n hx hb dX1_step_57 rfl (lv_at hl 2 rfl) ?_
  refine lv_bipush (v := iI 119) hx hb dX1_step_58 (by decide +kernel) ?_
  refine pg_icmp_ne (tgt := 67) hx hb dX1_step_60 (by decide) (⟨by omega, by omega⟩) (⟨by omega, by omega⟩) (fun hc6 => ?_) (fun hc6 => absurd hc6 (by omega))
  refine lv_iconst (v := iI 0) hx hb dX1_step_67 rfl ?_
  refine lv_istore_n (lv' := [(3, .int (iI 0)), (0, .ref ((xa X 0))), (1, .int (iI (((k : Nat) : Int)))), (2, .int (iI 115))]) hx hb dX1_step_68 rfl hl (by decide) rfl (fun ls hl => ?_)
  refine lv_iload_n hx hb dX1_step_69 rfl (lv_at hl 3 rfl) ?_
  refine lv_bipush (v := iI 110) hx hb dX1_step_70 (by decide +kernel) ?_
  refine pg_icmp_ne (tgt := 79) hx hb dX1_step_72 (by decide) (⟨by omega, by omega⟩) (⟨by omega, by omega⟩) (fun hc7 => ?_) (fun hc7 => absurd hc7 (by omega))
  refine lv_iload_n hx hb dX1_step_79 rfl (lv_at hl 3 rfl) ?_
  refine lv_bipush (v := iI 115) hx hb dX1_step_80 (by decide +kernel) ?_
  refine pg_icmp_ne (tgt := 89) hx hb dX1_step_82 (by decide) (⟨by omega, by omega⟩) (⟨by omega, by omega⟩) (fun hc8 => absurd hc8 (by omega)) (fun hc8 => ?_)
  refine lv_iconst (v := iI (-1)) hx hb dX1_step_85 rfl ?_
  refine lv_goto (tgt := 90) hx hb dX1_step_86 (by decide) ?_
  refine lv_istore (lv' := [(4, .int (iI ((-1)))), (3, .int (iI 0)), (0, .ref ((xa X 0))), (1, .int (iI (((k : Nat) : Int)))), (2, .int (iI 115))]) hx hb dX1_step_90 hl (by decide) rfl (fun ls hl => ?_)
  refine lv_aload_n hx hb dX1_step_92 rfl (lv_at hl 2 rfl) ?_
  refine va_get (D := xG X) (ci := 1) (v := .ref ((xa X 2))) (C := RX1) (T := TX1) (N := 7) hx hb hts hin hown hK hP 0 rfl rfl 2 (by decide) (hts (.fieldLink RX1 13 "PegfieldModel" "across" "[I") (by decide +kernel)) (fun _ h9 => h9) rfl dX1_step_93 ?_
  refine lv_iload_n hx hb dX1_step_96 rfl (lv_at hl 3 rfl) ?_
  refine pg_iald hx hb hK hP 2 1 (f := (sA S)) rfl rfl k (rfl) (by omega) (by decide) dX1_step_97 ?_
  refine lv_iload_n hx hb dX1_step_98 rfl (lv_at hl 1 rfl) ?_
  refine pg_iadd (z := (sA S k : Int)) hx hb dX1_step_99 (by omega) ?_
  refine lv_iconst (v := iI 0) hx hb dX1_step_100 rfl ?_
  refine lv_bipush (v := iI 90) hx hb dX1_step_101 (by decide +kernel) ?_
  refine pg_callS (As := [.int (iI ((sA S k : Int))), .int (iI 0), .int (iI 90)]) (rest := []) SC (c_X1_lies l ((sA S k : Int)) 0 90 1 ⟨by omega, by omega⟩ ⟨by omega, by omega⟩ ⟨by omega, by omega⟩ (by omega)) pT_st pT_h (va_cwS 3 hts gX1_step_X1_lies rfl rfl rfl (by decide +kernel) ⟨Nat.le_of_ble_eq_true rfl, Nat.le_of_ble_eq_true rfl⟩) rfl hl.1 rfl (Nat.le_of_ble_eq_true rfl) dX1_step_103 ⟨Nat.zero_le _, Nat.zero_le _⟩ ?_
  refine pg_if_eq (tgt := 127) hx hb dX1_step_106 (by decide) (⟨by omega, by omega⟩) (fun hc9 => absurd hc9 (by omega)) (fun hc9 => ?_)
  refine lv_aload_n hx hb dX1_step_109 rfl (lv_at hl 2 rfl) ?_
  refine va_get (D := xG X) (ci := 1) (v := .ref ((xa X 3))) (C := RX1) (T := TX1) (N := 7) hx hb hts hin hown hK hP 0 rfl rfl 3 (by decide) (hts (.fieldLink RX1 17 "PegfieldModel" "up" "[I") (by decide +kernel)) (fun _ h9 => h9) rfl dX1_step_110 ?_
  refine lv_iload_n hx hb dX1_step_113 rfl (lv_at hl 3 rfl) ?_
  refine pg_iald hx hb hK hP 3 1 (f := (sU S)) rfl rfl k (rfl) (by omega) (by decide) dX1_step_114 ?_
  refine lv_iload hx hb dX1_step_115 (lv_at hl 0 rfl) ?_
  refine pg_iadd (z := (sU S k : Int) - 1) hx hb dX1_step_117 (by omega) ?_
  refine lv_iconst (v := iI 0) hx hb dX1_step_118 rfl ?_
  refine lv_bipush (v := iI 90) hx hb dX1_step_119 (by decide +kernel) ?_
  refine pg_callS (As := [.int (iI ((sU S k : Int) - 1)), .int (iI 0), .int (iI 90)]) (rest := []) SC (c_X1_lies l ((sU S k : Int) - 1) 0 90 0 ⟨by omega, by omega⟩ ⟨by omega, by omega⟩ ⟨by omega, by omega⟩ (by omega)) pT_st pT_h (va_cwS 3 hts gX1_step_X1_lies rfl rfl rfl (by decide +kernel) ⟨Nat.le_of_ble_eq_true rfl, Nat.le_of_ble_eq_true rfl⟩) rfl hl.1 rfl (Nat.le_of_ble_eq_true rfl) dX1_step_121 ⟨Nat.zero_le _, Nat.zero_le _⟩ ?_
  refine pg_if_ne (tgt := 129) hx hb dX1_step_124 (by decide) (⟨by omega, by omega⟩) (fun hc10 => absurd hc10 (by omega)) (fun hc10 => ?_)
  refine lv_iconst (v := iI 0) hx hb dX1_step_127 rfl ?_
  exact pg_wzret hx hb hr hlk hP hS  (iI_bool (by omega)) (congrArg (fun z : Int => some (Value.int (iI z))) (show 0 = 0 by omega)) dX1_step_128
set_option maxRecDepth 100000 in
set_option maxHeartbeats 4000000 in
theorem c_X1_step_e (l : Launch) (X : pgX) (S : pgS) (t : Int) (k a2 u2 : Nat) (hk : k < 12) (h1 : sS S k = 1) (ha9 : a2 < 91) (hu9 : u2 < 91) (ha : a2 = sA S k + 1) (hu : u2 = sU S k) : pg_wr l yX1_step wsX1_step (rm 3 64) (xG X) (xTy X) pT (mC X S t) (mC X (sS S, upN (sA S) k a2, upN (sU S) k u2, sR S, sN S, sW S) 0) 0 0 [.ref ((xa X 0)), .int (iI (((k : Nat) : Int))), .int (iI 101)] (some (.int (iI 1))) := by
  refine pg_wr_of (cc := cX1_step) (maxL := 5) (ret := (some .boolean)) (by decide) rfl (Nat.le_of_ble_eq_true rfl) ?_
  intro p e s m below meth c ls SC hr hlk hP hK hD hS hB hl
  obtain ⟨hx, hb, hml, hown, hts⟩ := id SC
  have hown : s.vm.findClass RX1 = some m.cls := hown
  have hl : lv_has ls 5 [(0, .ref ((xa X 0))), (1, .int (iI (((k : Nat) : Int)))), (2, .int (iI 101))] := hl
  have hin : ∀ w ∈ u_ws RX1 TX1 7, w ∈ wsX1_step := by decide +kernel
  refine lv_aload_n hx hb dX1_step_0 rfl (lv_at hl 0 rfl) ?_
  refine lv_iload_n hx hb dX1_step_1 rfl (lv_at hl 1 rfl) ?_
  refine pg_wcallV (As := [.int (iI (((k : Nat) : Int)))]) (rest := []) (l1 := []) (l2 := []) (w := [(xa X 0, .inr (1, [.int (iI t), .ref ((xa X 1)), .ref ((xa X 2)), .ref ((xa X 3)), .ref ((xa X 4)), .int (iI (((sN S : Nat) : Int))), .int (iI (((sW S : Nat) : Int)))])), (xa X 1, .inl (xZ X, 12, .inl (fI (sS S)))), (xa X 2, .inl (xI X, 12, .inl (fI (sA S)))), (xa X 3, .inl (xI X, 12, .inl (fI (sU S)))), (xa X 4, .inl (xI X, 12, .inl (fI (sR S))))]) (w' := [(xa X 0, .inr (1, [.int (iI 0), .ref ((xa X 1)), .ref ((xa X 2)), .ref ((xa X 3)), .ref ((xa X 4)), .int (iI (((sN S : Nat) : Int))), .int (iI (((sW S : Nat) : Int)))])), (xa X 1, .inl (xZ X, 12, .inl (fI (sS S)))), (xa X 2, .inl (xI X, 12, .inl (fI (sA S)))), (xa X 3, .inl (xI X, 12, .inl (fI (sU S)))), (xa X 4, .inl (xI X, 12, .inl (fI (sR S))))]) SC (c_X1_isNoPeg_ok l X S t k hk h1) pT_st pT_h (cwV 1 hts gX1_step_X1_isNoPeg rfl rfl rfl (by decide +kernel) ⟨Nat.le_of_ble_eq_true rfl, Nat.le_of_ble_eq_true rfl⟩) (va_recv hK hP (ci := 1) (q0 := 0) rfl rfl) hK hP hD hS rfl rfl hl.1 rfl (Nat.le_of_ble_eq_true rfl) dX1_step_2 ⟨Nat.zero_le _, Nat.zero_le _⟩ (fun H locs hP hD hS => ?_)
  have hP : va_P (xG X) vwCl ([(xa X 0, .inr (1, [.int (iI 0), .ref ((xa X 1)), .ref ((xa X 2)), .ref ((xa X 3)), .ref ((xa X 4)), .int (iI (((sN S : Nat) : Int))), .int (iI (((sW S : Nat) : Int)))])), (xa X 1, .inl (xZ X, 12, .inl (fI (sS S)))), (xa X 2, .inl (xI X, 12, .inl (fI (sA S)))), (xa X 3, .inl (xI X, 12, .inl (fI (sU S)))), (xa X 4, .inl (xI X, 12, .inl (fI (sR S))))]) H := hP
  have hD : va_D (pg_in ((mC X S t))) ([(xa X 0, .inr (1, [.int (iI 0), .ref ((xa X 1)), .ref ((xa X 2)), .ref ((xa X 3)), .ref ((xa X 4)), .int (iI (((sN S : Nat) : Int))), .int (iI (((sW S : Nat) : Int)))])), (xa X 1, .inl (xZ X, 12, .inl (fI (sS S)))), (xa X 2, .inl (xI X, 12, .inl (fI (sA S)))), (xa X 3, .inl (xI X, 12, .inl (fI (sU S)))), (xa X 4, .inl (xI X, 12, .inl (fI (sR S))))]) := hD
  refine pg_if_ne (tgt := 45) hx hb dX1_step_5 (by decide) (⟨by omega, by omega⟩) (fun hc1 => absurd hc1 (by omega)) (fun hc1 => ?_)
  refine lv_aload_n hx hb dX1_step_8 rfl (lv_at hl 0 rfl) ?_
  refine lv_iload_n hx hb dX1_step_9 rfl (lv_at hl 2 rfl) ?_
  refine lv_bipush (v := iI 110) hx hb dX1_step_10 (by decide +kernel) ?_
  refine pg_icmp_eq (tgt := 37) hx hb dX1_step_12 (by decide) (⟨by omega, by omega⟩) (⟨by omega, by omega⟩) (fun hc2 => absurd hc2 (by omega)) (fun hc2 => ?_)
  refine lv_iload_n hx hb dX1_step_15 rfl (lv_at hl 2 rfl) ?_
  refine lv_bipush (v := iI 115) hx hb dX1_step_16 (by decide +kernel) ?_
  refine pg_icmp_eq (tgt := 37) hx hb dX1_step_18 (by decide) (⟨by omega, by omega⟩) (⟨by omega, by omega⟩) (fun hc3 => absurd hc3 (by omega)) (fun hc3 => ?_)
  refine lv_iload_n hx hb dX1_step_21 rfl (lv_at hl 2 rfl) ?_
  refine lv_bipush (v := iI 101) hx hb dX1_step_22 (by decide +kernel) ?_
  refine pg_icmp_eq (tgt := 37) hx hb dX1_step_24 (by decide) (⟨by omega, by omega⟩) (⟨by omega, by omega⟩) (fun hc4 => ?_) (fun hc4 => absurd hc4 (by omega))
  refine lv_iconst (v := iI 0) hx hb dX1_step_37 rfl ?_
  refine lv_iconst (v := iI 3) hx hb dX1_step_38 rfl ?_
  refine pg_wcallV (As := [.int (iI 0), .int (iI 3)]) (rest := []) (l1 := []) (l2 := []) (w := [(xa X 0, .inr (1, [.int (iI 0), .ref ((xa X 1)), .ref ((xa X 2)), .ref ((xa X 3)), .ref ((xa X 4)), .int (iI (((sN S : Nat) : Int))), .int (iI (((sW S : Nat) : Int)))])), (xa X 1, .inl (xZ X, 12, .inl (fI (sS S)))), (xa X 2, .inl (xI X, 12, .inl (fI (sA S)))), (xa X 3, .inl (xI X, 12, .inl (fI (sU S)))), (xa X 4, .inl (xI X, 12, .inl (fI (sR S))))]) (w' := [(xa X 0, .inr (1, [.int (iI 0), .ref ((xa X 1)), .ref ((xa X 2)), .ref ((xa X 3)), .ref ((xa X 4)), .int (iI (((sN S : Nat) : Int))), .int (iI (((sW S : Nat) : Int)))])), (xa X 1, .inl (xZ X, 12, .inl (fI (sS S)))), (xa X 2, .inl (xI X, 12, .inl (fI (sA S)))), (xa X 3, .inl (xI X, 12, .inl (fI (sU S)))), (xa X 4, .inl (xI X, 12, .inl (fI (sR S))))]) SC (c_X1_isThrown l X S 0 0 3 0 ⟨by omega, by omega⟩ (by omega)) pT_st pT_h (cwV 2 hts gX1_step_X1_isThrown rfl rfl rfl (by decide +kernel) ⟨Nat.le_of_ble_eq_true rfl, Nat.le_of_ble_eq_true rfl⟩) (va_recv hK hP (ci := 1) (q0 := 0) rfl rfl) hK hP hD hS rfl rfl hl.1 rfl (Nat.le_of_ble_eq_true rfl) dX1_step_39 ⟨Nat.zero_le _, Nat.zero_le _⟩ (fun H locs hP hD hS => ?_)
  have hP : va_P (xG X) vwCl ([(xa X 0, .inr (1, [.int (iI 0), .ref ((xa X 1)), .ref ((xa X 2)), .ref ((xa X 3)), .ref ((xa X 4)), .int (iI (((sN S : Nat) : Int))), .int (iI (((sW S : Nat) : Int)))])), (xa X 1, .inl (xZ X, 12, .inl (fI (sS S)))), (xa X 2, .inl (xI X, 12, .inl (fI (sA S)))), (xa X 3, .inl (xI X, 12, .inl (fI (sU S)))), (xa X 4, .inl (xI X, 12, .inl (fI (sR S))))]) H := hP
  have hD : va_D (pg_in ((mC X S t))) ([(xa X 0, .inr (1, [.int (iI 0), .ref ((xa X 1)), .ref ((xa X 2)), .ref ((xa X 3)), .ref ((xa X 4)), .int (iI (((sN S : Nat) : Int))), .int (iI (((sW S : Nat) : Int)))])), (xa X 1, .inl (xZ X, 12, .inl (fI (sS S)))), (xa X 2, .inl (xI X, 12, .inl (fI (sA S)))), (xa X 3, .inl (xI X, 12, .inl (fI (sU S)))), (xa X 4, .inl (xI X, 12, .inl (fI (sR S))))]) := hD
  refine pg_if_eq (tgt := 47) hx hb dX1_step_42 (by decide) (⟨by omega, by omega⟩) (fun hc5 => ?_) (fun hc5 => absurd hc5 (by omega))
  refine lv_iload_n hx hb dX1_step_47 rfl (lv_at hl 2 rfl) ?_
  refine lv_bipush (v := iI 101) hx hb dX1_step_48 (by decide +kernel) ?_
  refine pg_icmp_ne (tgt := 57) hx hb dX1_step_50 (by decide) (⟨by omega, by omega⟩) (⟨by omega, by omega⟩) (fun hc6 => absurd hc6 (by omega)) (fun hc6 => ?_)
  refine lv_iconst (v := iI 1) hx hb dX1_step_53 rfl ?_
  refine lv_goto (tgt := 68) hx hb dX1_step_54 (by decide) ?_
  refine lv_istore_n (lv' := [(3, .int (iI 1)), (0, .ref ((xa X 0))), (1, .int (iI (((k : Nat) : Int)))), (2, .int (iI 101))]) hx hb dX1_step_68 rfl hl (by decide) rfl (fun ls hl => ?_)
  refine lv_iload_n hx hb dX1_step_69 rfl (lv_at hl 3 rfl) ?_
  refine lv_bipush (v := iI 110) hx hb dX1_step_70 (by decide +kernel) ?_
  refine pg_icmp_ne (tgt := 79) hx hb dX1_step_72 (by decide) (⟨by omega, by omega⟩) (⟨by omega, by omega⟩) (fun hc7 => ?_) (fun hc7 => absurd hc7 (by omega))
  refine lv_iload_n hx hb dX1_step_79 rfl (lv_at hl 3 rfl) ?_
  refine lv_bipush (v := iI 115) hx hb dX1_step_80 (by decide +kernel) ?_
  refine pg_icmp_ne (tgt := 89) hx hb dX1_step_82 (by decide) (⟨by omega, by omega⟩) (⟨by omega, by omega⟩) (fun hc8 => ?_) (fun hc8 => absurd hc8 (by omega))
  refine lv_iconst (v := iI 0) hx hb dX1_step_89 rfl ?_
  refine lv_istore (lv' := [(4, .int (iI 0)), (3, .int (iI 1)), (0, .ref ((xa X 0))), (1, .int (iI (((k : Nat) : Int)))), (2, .int (iI 101))]) hx hb dX1_step_90 hl (by decide) rfl (fun ls hl => ?_)
  refine lv_aload_n hx hb dX1_step_92 rfl (lv_at hl 2 rfl) ?_
  refine va_get (D := xG X) (ci := 1) (v := .ref ((xa X 2))) (C := RX1) (T := TX1) (N := 7) hx hb hts hin hown hK hP 0 rfl rfl 2 (by decide) (hts (.fieldLink RX1 13 "PegfieldModel" "across" "[I") (by decide +kernel)) (fun _ h9 => h9) rfl dX1_step_93 ?_
  refine lv_iload_n hx hb dX1_step_96 rfl (lv_at hl 3 rfl) ?_
  refine pg_iald hx hb hK hP 2 1 (f := (sA S)) rfl rfl k (rfl) (by omega) (by decide) dX1_step_97 ?_
  refine lv_iload_n hx hb dX1_step_98 rfl (lv_at hl 1 rfl) ?_
  refine pg_iadd (z := ((a2 : Nat) : Int)) hx hb dX1_step_99 (by omega) ?_
  refine lv_iconst (v := iI 0) hx hb dX1_step_100 rfl ?_
  refine lv_bipush (v := iI 90) hx hb dX1_step_101 (by decide +kernel) ?_
  refine pg_callS (As := [.int (iI (((a2 : Nat) : Int))), .int (iI 0), .int (iI 90)]) (rest := []) SC (c_X1_lies l (((a2 : Nat) : Int)) 0 90 1 ⟨by omega, by omega⟩ ⟨by omega, by omega⟩ ⟨by omega, by omega⟩ (by omega)) pT_st pT_h (va_cwS 3 hts gX1_step_X1_lies rfl rfl rfl (by decide +kernel) ⟨Nat.le_of_ble_eq_true rfl, Nat.le_of_ble_eq_true rfl⟩) rfl hl.1 rfl (Nat.le_of_ble_eq_true rfl) dX1_step_103 ⟨Nat.zero_le _, Nat.zero_le _⟩ ?_
  refine pg_if_eq (tgt := 127) hx hb dX1_step_106 (by decide) (⟨by omega, by omega⟩) (fun hc9 => absurd hc9 (by omega)) (fun hc9 => ?_)
  refine lv_aload_n hx hb dX1_step_109 rfl (lv_at hl 2 rfl) ?_
  refine va_get (D := xG X) (ci := 1) (v := .ref ((xa X 3))) (C := RX1) (T := TX1) (N := 7) hx hb hts hin hown hK hP 0 rfl rfl 3 (by decide) (hts (.fieldLink RX1 17 "PegfieldModel" "up" "[I") (by decide +kernel)) (fun _ h9 => h9) rfl dX1_step_110 ?_
  refine lv_iload_n hx hb dX1_step_113 rfl (lv_at hl 3 rfl) ?_
  refine pg_iald hx hb hK hP 3 1 (f := (sU S)) rfl rfl k (rfl) (by omega) (by decide) dX1_step_114 ?_
  refine lv_iload hx hb dX1_step_115 (lv_at hl 0 rfl) ?_
  refine pg_iadd (z := ((u2 : Nat) : Int)) hx hb dX1_step_117 (by omega) ?_
  refine lv_iconst (v := iI 0) hx hb dX1_step_118 rfl ?_
  refine lv_bipush (v := iI 90) hx hb dX1_step_119 (by decide +kernel) ?_
  refine pg_callS (As := [.int (iI (((u2 : Nat) : Int))), .int (iI 0), .int (iI 90)]) (rest := []) SC (c_X1_lies l (((u2 : Nat) : Int)) 0 90 1 ⟨by omega, by omega⟩ ⟨by omega, by omega⟩ ⟨by omega, by omega⟩ (by omega)) pT_st pT_h (va_cwS 3 hts gX1_step_X1_lies rfl rfl rfl (by decide +kernel) ⟨Nat.le_of_ble_eq_true rfl, Nat.le_of_ble_eq_true rfl⟩) rfl hl.1 rfl (Nat.le_of_ble_eq_true rfl) dX1_step_121 ⟨Nat.zero_le _, Nat.zero_le _⟩ ?_
  refine pg_if_ne (tgt := 129) hx hb dX1_step_124 (by decide) (⟨by omega, by omega⟩) (fun hc10 => ?_) (fun hc10 => absurd hc10 (by omega))
  refine lv_aload_n hx hb dX1_step_129 rfl (lv_at hl 2 rfl) ?_
  refine va_get (D := xG X) (ci := 1) (v := .ref ((xa X 2))) (C := RX1) (T := TX1) (N := 7) hx hb hts hin hown hK hP 0 rfl rfl 2 (by decide) (hts (.fieldLink RX1 13 "PegfieldModel" "across" "[I") (by decide +kernel)) (fun _ h9 => h9) rfl dX1_step_130 ?_
  refine lv_iload_n hx hb dX1_step_133 rfl (lv_at hl 3 rfl) ?_
  refine lv_dup2_11 hx hb dX1_step_134 rfl rfl ?_
  refine pg_iald hx hb hK hP 2 1 (f := (sA S)) rfl rfl k (rfl) (by omega) (by decide) dX1_step_135 ?_
  refine lv_iload_n hx hb dX1_step_136 rfl (lv_at hl 1 rfl) ?_
  refine pg_iadd (z := ((a2 : Nat) : Int)) hx hb dX1_step_137 (by omega) ?_
  refine pg_iast hx hb hK hP hD hS 2 1 (f := (sA S)) rfl rfl k a2 (rfl) (rfl) (by omega) (by decide) dX1_step_138 (fun H locs hP hD hS => ?_)
  have hP : va_P (xG X) vwCl ([(xa X 0, .inr (1, [.int (iI 0), .ref ((xa X 1)), .ref ((xa X 2)), .ref ((xa X 3)), .ref ((xa X 4)), .int (iI (((sN S : Nat) : Int))), .int (iI (((sW S : Nat) : Int)))])), (xa X 1, .inl (xZ X, 12, .inl (fI (sS S)))), (xa X 2, .inl (xI X, 12, .inl (fI (upN (sA S) k a2)))), (xa X 3, .inl (xI X, 12, .inl (fI (sU S)))), (xa X 4, .inl (xI X, 12, .inl (fI (sR S))))]) H := hP
  have hD : va_D (pg_in ((mC X S t))) ([(xa X 0, .inr (1, [.int (iI 0), .ref ((xa X 1)), .ref ((xa X 2)), .ref ((xa X 3)), .ref ((xa X 4)), .int (iI (((sN S : Nat) : Int))), .int (iI (((sW S : Nat) : Int)))])), (xa X 1, .inl (xZ X, 12, .inl (fI (sS S)))), (xa X 2, .inl (xI X, 12, .inl (fI (upN (sA S) k a2)))), (xa X 3, .inl (xI X, 12, .inl (fI (sU S)))), (xa X 4, .inl (xI X, 12, .inl (fI (sR S))))]) := hD
  refine lv_aload_n hx hb dX1_step_139 rfl (lv_at hl 2 rfl) ?_
  refine va_get (D := xG X) (ci := 1) (v := .ref ((xa X 3))) (C := RX1) (T := TX1) (N := 7) hx hb hts hin hown hK hP 0 rfl rfl 3 (by decide) (hts (.fieldLink RX1 17 "PegfieldModel" "up" "[I") (by decide +kernel)) (fun _ h9 => h9) rfl dX1_step_140 ?_
  refine lv_iload_n hx hb dX1_step_143 rfl (lv_at hl 3 rfl) ?_
  refine lv_dup2_11 hx hb dX1_step_144 rfl rfl ?_
  refine pg_iald hx hb hK hP 3 1 (f := (sU S)) rfl rfl k (rfl) (by omega) (by decide) dX1_step_145 ?_
  refine lv_iload hx hb dX1_step_146 (lv_at hl 0 rfl) ?_
  refine pg_iadd (z := ((u2 : Nat) : Int)) hx hb dX1_step_148 (by omega) ?_
  refine pg_iast hx hb hK hP hD hS 3 1 (f := (sU S)) rfl rfl k u2 (rfl) (rfl) (by omega) (by decide) dX1_step_149 (fun H locs hP hD hS => ?_)
  have hP : va_P (xG X) vwCl ([(xa X 0, .inr (1, [.int (iI 0), .ref ((xa X 1)), .ref ((xa X 2)), .ref ((xa X 3)), .ref ((xa X 4)), .int (iI (((sN S : Nat) : Int))), .int (iI (((sW S : Nat) : Int)))])), (xa X 1, .inl (xZ X, 12, .inl (fI (sS S)))), (xa X 2, .inl (xI X, 12, .inl (fI (upN (sA S) k a2)))), (xa X 3, .inl (xI X, 12, .inl (fI (upN (sU S) k u2)))), (xa X 4, .inl (xI X, 12, .inl (fI (sR S))))]) H := hP
  have hD : va_D (pg_in ((mC X S t))) ([(xa X 0, .inr (1, [.int (iI 0), .ref ((xa X 1)), .ref ((xa X 2)), .ref ((xa X 3)), .ref ((xa X 4)), .int (iI (((sN S : Nat) : Int))), .int (iI (((sW S : Nat) : Int)))])), (xa X 1, .inl (xZ X, 12, .inl (fI (sS S)))), (xa X 2, .inl (xI X, 12, .inl (fI (upN (sA S) k a2)))), (xa X 3, .inl (xI X, 12, .inl (fI (upN (sU S) k u2)))), (xa X 4, .inl (xI X, 12, .inl (fI (sR S))))]) := hD
  refine lv_iconst (v := iI 1) hx hb dX1_step_150 rfl ?_
  exact pg_wzret hx hb hr hlk hP hS  (iI_bool (by omega)) (congrArg (fun z : Int => some (Value.int (iI z))) (show 1 = 1 by omega)) dX1_step_151
set_option maxRecDepth 100000 in
set_option maxHeartbeats 4000000 in
theorem c_X1_stepno_e (l : Launch) (X : pgX) (S : pgS) (t : Int) (hok : pgOk S) (k : Nat) (hk : k < 12) (h1 : sS S k = 1) (hed : sA S k = 90) : pg_wr l yX1_step wsX1_step (rm 3 64) (xG X) (xTy X) pT (mC X S t) (mC X S 0) 0 0 [.ref ((xa X 0)), .int (iI (((k : Nat) : Int))), .int (iI 101)] (some (.int (iI 0))) := by
  refine pg_wr_of (cc := cX1_step) (maxL := 5) (ret := (some .boolean)) (by decide) rfl (Nat.le_of_ble_eq_true rfl) ?_
  intro p e s m below meth c ls SC hr hlk hP hK hD hS hB hl
  obtain ⟨hx, hb, hml, hown, hts⟩ := id SC
  have hown : s.vm.findClass RX1 = some m.cls := hown
  have hl : lv_has ls 5 [(0, .ref ((xa X 0))), (1, .int (iI (((k : Nat) : Int)))), (2, .int (iI 101))] := hl
  have hin : ∀ w ∈ u_ws RX1 TX1 7, w ∈ wsX1_step := by decide +kernel
  have q2 := hok.2.1 k
  have q3 := hok.2.2.1 k
  refine lv_aload_n hx hb dX1_step_0 rfl (lv_at hl 0 rfl) ?_
  refine lv_iload_n hx hb dX1_step_1 rfl (lv_at hl 1 rfl) ?_
  refine pg_wcallV (As := [.int (iI (((k : Nat) : Int)))]) (rest := []) (l1 := []) (l2 := []) (w := [(xa X 0, .inr (1, [.int (iI t), .ref ((xa X 1)), .ref ((xa X 2)), .ref ((xa X 3)), .ref ((xa X 4)), .int (iI (((sN S : Nat) : Int))), .int (iI (((sW S : Nat) : Int)))])), (xa X 1, .inl (xZ X, 12, .inl (fI (sS S)))), (xa X 2, .inl (xI X, 12, .inl (fI (sA S)))), (xa X 3, .inl (xI X, 12, .inl (fI (sU S)))), (xa X 4, .inl (xI X, 12, .inl (fI (sR S))))]) (w' := [(xa X 0, .inr (1, [.int (iI 0), .ref ((xa X 1)), .ref ((xa X 2)), .ref ((xa X 3)), .ref ((xa X 4)), .int (iI (((sN S : Nat) : Int))), .int (iI (((sW S : Nat) : Int)))])), (xa X 1, .inl (xZ X, 12, .inl (fI (sS S)))), (xa X 2, .inl (xI X, 12, .inl (fI (sA S)))), (xa X 3, .inl (xI X, 12, .inl (fI (sU S)))), (xa X 4, .inl (xI X, 12, .inl (fI (sR S))))]) SC (c_X1_isNoPeg_ok l X S t k hk h1) pT_st pT_h (cwV 1 hts gX1_step_X1_isNoPeg rfl rfl rfl (by decide +kernel) ⟨Nat.le_of_ble_eq_true rfl, Nat.le_of_ble_eq_true rfl⟩) (va_recv hK hP (ci := 1) (q0 := 0) rfl rfl) hK hP hD hS rfl rfl hl.1 rfl (Nat.le_of_ble_eq_true rfl) dX1_step_2 ⟨Nat.zero_le _, Nat.zero_le _⟩ (fun H locs hP hD hS => ?_)
  have hP : va_P (xG X) vwCl ([(xa X 0, .inr (1, [.int (iI 0), .ref ((xa X 1)), .ref ((xa X 2)), .ref ((xa X 3)), .ref ((xa X 4)), .int (iI (((sN S : Nat) : Int))), .int (iI (((sW S : Nat) : Int)))])), (xa X 1, .inl (xZ X, 12, .inl (fI (sS S)))), (xa X 2, .inl (xI X, 12, .inl (fI (sA S)))), (xa X 3, .inl (xI X, 12, .inl (fI (sU S)))), (xa X 4, .inl (xI X, 12, .inl (fI (sR S))))]) H := hP
  have hD : va_D (pg_in ((mC X S t))) ([(xa X 0, .inr (1, [.int (iI 0), .ref ((xa X 1)), .ref ((xa X 2)), .ref ((xa X 3)), .ref ((xa X 4)), .int (iI (((sN S : Nat) : Int))), .int (iI (((sW S : Nat) : Int)))])), (xa X 1, .inl (xZ X, 12, .inl (fI (sS S)))), (xa X 2, .inl (xI X, 12, .inl (fI (sA S)))), (xa X 3, .inl (xI X, 12, .inl (fI (sU S)))), (xa X 4, .inl (xI X, 12, .inl (fI (sR S))))]) := hD
  refine pg_if_ne (tgt := 45) hx hb dX1_step_5 (by decide) (⟨by omega, by omega⟩) (fun hc1 => absurd hc1 (by omega)) (fun hc1 => ?_)
  refine lv_aload_n hx hb dX1_step_8 rfl (lv_at hl 0 rfl) ?_
  refine lv_iload_n hx hb dX1_step_9 rfl (lv_at hl 2 rfl) ?_
  refine lv_bipush (v := iI 110) hx hb dX1_step_10 (by decide +kernel) ?_
  refine pg_icmp_eq (tgt := 37) hx hb dX1_step_12 (by decide) (⟨by omega, by omega⟩) (⟨by omega, by omega⟩) (fun hc2 => absurd hc2 (by omega)) (fun hc2 => ?_)
  refine lv_iload_n hx hb dX1_step_15 rfl (lv_at hl 2 rfl) ?_
  refine lv_bipush (v := iI 115) hx hb dX1_step_16 (by decide +kernel) ?_
  refine pg_icmp_eq (tgt := 37) hx hb dX1_step_18 (by decide) (⟨by omega, by omega⟩) (⟨by omega, by omega⟩) (fun hc3 => absurd hc3 (by omega)) (fun hc3 => ?_)
  refine lv_iload_n hx hb dX1_step_21 rfl (lv_at hl 2 rfl) ?_
  refine lv_bipush (v := iI 101) hx hb dX1_step_22 (by decide +kernel) ?_
  refine pg_icmp_eq (tgt := 37) hx hb dX1_step_24 (by decide) (⟨by omega, by omega⟩) (⟨by omega, by omega⟩) (fun hc4 => ?_) (fun hc4 => absurd hc4 (by omega))
  refine lv_iconst (v := iI 0) hx hb dX1_step_37 rfl ?_
  refine lv_iconst (v := iI 3) hx hb dX1_step_38 rfl ?_
  refine pg_wcallV (As := [.int (iI 0), .int (iI 3)]) (rest := []) (l1 := []) (l2 := []) (w := [(xa X 0, .inr (1, [.int (iI 0), .ref ((xa X 1)), .ref ((xa X 2)), .ref ((xa X 3)), .ref ((xa X 4)), .int (iI (((sN S : Nat) : Int))), .int (iI (((sW S : Nat) : Int)))])), (xa X 1, .inl (xZ X, 12, .inl (fI (sS S)))), (xa X 2, .inl (xI X, 12, .inl (fI (sA S)))), (xa X 3, .inl (xI X, 12, .inl (fI (sU S)))), (xa X 4, .inl (xI X, 12, .inl (fI (sR S))))]) (w' := [(xa X 0, .inr (1, [.int (iI 0), .ref ((xa X 1)), .ref ((xa X 2)), .ref ((xa X 3)), .ref ((xa X 4)), .int (iI (((sN S : Nat) : Int))), .int (iI (((sW S : Nat) : Int)))])), (xa X 1, .inl (xZ X, 12, .inl (fI (sS S)))), (xa X 2, .inl (xI X, 12, .inl (fI (sA S)))), (xa X 3, .inl (xI X, 12, .inl (fI (sU S)))), (xa X 4, .inl (xI X, 12, .inl (fI (sR S))))]) SC (c_X1_isThrown l X S 0 0 3 0 ⟨by omega, by omega⟩ (by omega)) pT_st pT_h (cwV 2 hts gX1_step_X1_isThrown rfl rfl rfl (by decide +kernel) ⟨Nat.le_of_ble_eq_true rfl, Nat.le_of_ble_eq_true rfl⟩) (va_recv hK hP (ci := 1) (q0 := 0) rfl rfl) hK hP hD hS rfl rfl hl.1 rfl (Nat.le_of_ble_eq_true rfl) dX1_step_39 ⟨Nat.zero_le _, Nat.zero_le _⟩ (fun H locs hP hD hS => ?_)
  have hP : va_P (xG X) vwCl ([(xa X 0, .inr (1, [.int (iI 0), .ref ((xa X 1)), .ref ((xa X 2)), .ref ((xa X 3)), .ref ((xa X 4)), .int (iI (((sN S : Nat) : Int))), .int (iI (((sW S : Nat) : Int)))])), (xa X 1, .inl (xZ X, 12, .inl (fI (sS S)))), (xa X 2, .inl (xI X, 12, .inl (fI (sA S)))), (xa X 3, .inl (xI X, 12, .inl (fI (sU S)))), (xa X 4, .inl (xI X, 12, .inl (fI (sR S))))]) H := hP
  have hD : va_D (pg_in ((mC X S t))) ([(xa X 0, .inr (1, [.int (iI 0), .ref ((xa X 1)), .ref ((xa X 2)), .ref ((xa X 3)), .ref ((xa X 4)), .int (iI (((sN S : Nat) : Int))), .int (iI (((sW S : Nat) : Int)))])), (xa X 1, .inl (xZ X, 12, .inl (fI (sS S)))), (xa X 2, .inl (xI X, 12, .inl (fI (sA S)))), (xa X 3, .inl (xI X, 12, .inl (fI (sU S)))), (xa X 4, .inl (xI X, 12, .inl (fI (sR S))))]) := hD
  refine pg_if_eq (tgt := 47) hx hb dX1_step_42 (by decide) (⟨by omega, by omega⟩) (fun hc5 => ?_) (fun hc5 => absurd hc5 (by omega))
  refine lv_iload_n hx hb dX1_step_47 rfl (lv_at hl 2 rfl) ?_
  refine lv_bipush (v := iI 101) hx hb dX1_step_48 (by decide +kernel) ?_
  refine pg_icmp_ne (tgt := 57) hx hb dX1_step_50 (by decide) (⟨by omega, by omega⟩) (⟨by omega, by omega⟩) (fun hc6 => absurd hc6 (by omega)) (fun hc6 => ?_)
  refine lv_iconst (v := iI 1) hx hb dX1_step_53 rfl ?_
  refine lv_goto (tgt := 68) hx hb dX1_step_54 (by decide) ?_
  refine lv_istore_n (lv' := [(3, .int (iI 1)), (0, .ref ((xa X 0))), (1, .int (iI (((k : Nat) : Int)))), (2, .int (iI 101))]) hx hb dX1_step_68 rfl hl (by decide) rfl (fun ls hl => ?_)
  refine lv_iload_n hx hb dX1_step_69 rfl (lv_at hl 3 rfl) ?_
  refine lv_bipush (v := iI 110) hx hb dX1_step_70 (by decide +kernel) ?_
  refine pg_icmp_ne (tgt := 79) hx hb dX1_step_72 (by decide) (⟨by omega, by omega⟩) (⟨by omega, by omega⟩) (fun hc7 => ?_) (fun hc7 => absurd hc7 (by omega))
  refine lv_iload_n hx hb dX1_step_79 rfl (lv_at hl 3 rfl) ?_
  refine lv_bipush (v := iI 115) hx hb dX1_step_80 (by decide +kernel) ?_
  refine pg_icmp_ne (tgt := 89) hx hb dX1_step_82 (by decide) (⟨by omega, by omega⟩) (⟨by omega, by omega⟩) (fun hc8 => ?_) (fun hc8 => absurd hc8 (by omega))
  refine lv_iconst (v := iI 0) hx hb dX1_step_89 rfl ?_
  refine lv_istore (lv' := [(4, .int (iI 0)), (3, .int (iI 1)), (0, .ref ((xa X 0))), (1, .int (iI (((k : Nat) : Int)))), (2, .int (iI 101))]) hx hb dX1_step_90 hl (by decide) rfl (fun ls hl => ?_)
  refine lv_aload_n hx hb dX1_step_92 rfl (lv_at hl 2 rfl) ?_
  refine va_get (D := xG X) (ci := 1) (v := .ref ((xa X 2))) (C := RX1) (T := TX1) (N := 7) hx hb hts hin hown hK hP 0 rfl rfl 2 (by decide) (hts (.fieldLink RX1 13 "PegfieldModel" "across" "[I") (by decide +kernel)) (fun _ h9 => h9) rfl dX1_step_93 ?_
  refine lv_iload_n hx hb dX1_step_96 rfl (lv_at hl 3 rfl) ?_
  refine pg_iald hx hb hK hP 2 1 (f := (sA S)) rfl rfl k (rfl) (by omega) (by decide) dX1_step_97 ?_
  refine lv_iload_n hx hb dX1_step_98 rfl (lv_at hl 1 rfl) ?_
  refine pg_iadd (z := (sA S k : Int) + 1) hx hb dX1_step_99 (by omega) ?_
  refine lv_iconst (v := iI 0) hx hb dX1_step_100 rfl ?_
  refine lv_bipush (v := iI 90) hx hb dX1_step_101 (by decide +kernel) ?_
  refine pg_callS (As := [.int (iI ((sA S k : Int) + 1)), .int (iI 0), .int (iI 90)]) (rest := []) SC (c_X1_lies l ((sA S k : Int) + 1) 0 90 0 ⟨by omega, by omega⟩ ⟨by omega, by omega⟩ ⟨by omega, by omega⟩ (by omega)) pT_st pT_h (va_cwS 3 hts gX1_step_X1_lies rfl rfl rfl (by decide +kernel) ⟨Nat.le_of_ble_eq_true rfl, Nat.le_of_ble_eq_true rfl⟩) rfl hl.1 rfl (Nat.le_of_ble_eq_true rfl) dX1_step_103 ⟨Nat.zero_le _, Nat.zero_le _⟩ ?_
  refine pg_if_eq (tgt := 127) hx hb dX1_step_106 (by decide) (⟨by omega, by omega⟩) (fun hc9 => ?_) (fun hc9 => absurd hc9 (by omega))
  refine lv_iconst (v := iI 0) hx hb dX1_step_127 rfl ?_
  exact pg_wzret hx hb hr hlk hP hS  (iI_bool (by omega)) (congrArg (fun z : Int => some (Value.int (iI z))) (show 0 = 0 by omega)) dX1_step_128
set_option maxRecDepth 100000 in
set_option maxHeartbeats 4000000 in
theorem c_X1_step_w (l : Launch) (X : pgX) (S : pgS) (t : Int) (k a2 u2 : Nat) (hk : k < 12) (h1 : sS S k = 1) (ha9 : a2 < 91) (hu9 : u2 < 91) (ha : a2 + 1 = sA S k) (hu : u2 = sU S k) : pg_wr l yX1_step wsX1_step (rm 3 64) (xG X) (xTy X) pT (mC X S t) (mC X (sS S, upN (sA S) k a2, upN (sU S) k u2, sR S, sN S, sW S) 0) 0 0 [.ref ((xa X 0)), .int (iI (((k : Nat) : Int))), .int (iI 119)] (some (.int (iI 1))) := by
  refine pg_wr_of (cc := cX1_step) (maxL := 5) (ret := (some .boolean)) (by decide) rfl (Nat.le_of_ble_eq_true rfl) ?_
  intro p e s m below meth c ls SC hr hlk hP hK hD hS hB hl
  obtain ⟨hx, hb, hml, hown, hts⟩ := id SC
  have hown : s.vm.findClass RX1 = some m.cls := hown
  have hl : lv_has ls 5 [(0, .ref ((xa X 0))), (1, .int (iI (((k : Nat) : Int)))), (2, .int (iI 119))] := hl
  have hin : ∀ w ∈ u_ws RX1 TX1 7, w ∈ wsX1_step := by decide +kernel
  refine lv_aload_n hx hb dX1_step_0 rfl (lv_at hl 0 rfl) ?_
  refine lv_iload_n hx hb dX1_step_1 rfl (lv_at hl 1 rfl) ?_
  refine pg_wcallV (As := [.int (iI (((k : Nat) : Int)))]) (rest := []) (l1 := []) (l2 := []) (w := [(xa X 0, .inr (1, [.int (iI t), .ref ((xa X 1)), .ref ((xa X 2)), .ref ((xa X 3)), .ref ((xa X 4)), .int (iI (((sN S : Nat) : Int))), .int (iI (((sW S : Nat) : Int)))])), (xa X 1, .inl (xZ X, 12, .inl (fI (sS S)))), (xa X 2, .inl (xI X, 12, .inl (fI (sA S)))), (xa X 3, .inl (xI X, 12, .inl (fI (sU S)))), (xa X 4, .inl (xI X, 12, .inl (fI (sR S))))]) (w' := [(xa X 0, .inr (1, [.int (iI 0), .ref ((xa X 1)), .ref ((xa X 2)), .ref ((xa X 3)), .ref ((xa X 4)), .int (iI (((sN S : Nat) : Int))), .int (iI (((sW S : Nat) : Int)))])), (xa X 1, .inl (xZ X, 12, .inl (fI (sS S)))), (xa X 2, .inl (xI X, 12, .inl (fI (sA S)))), (xa X 3, .inl (xI X, 12, .inl (fI (sU S)))), (xa X 4, .inl (xI X, 12, .inl (fI (sR S))))]) SC (c_X1_isNoPeg_ok l X S t k hk h1) pT_st pT_h (cwV 1 hts gX1_step_X1_isNoPeg rfl rfl rfl (by decide +kernel) ⟨Nat.le_of_ble_eq_true rfl, Nat.le_of_ble_eq_true rfl⟩) (va_recv hK hP (ci := 1) (q0 := 0) rfl rfl) hK hP hD hS rfl rfl hl.1 rfl (Nat.le_of_ble_eq_true rfl) dX1_step_2 ⟨Nat.zero_le _, Nat.zero_le _⟩ (fun H locs hP hD hS => ?_)
  have hP : va_P (xG X) vwCl ([(xa X 0, .inr (1, [.int (iI 0), .ref ((xa X 1)), .ref ((xa X 2)), .ref ((xa X 3)), .ref ((xa X 4)), .int (iI (((sN S : Nat) : Int))), .int (iI (((sW S : Nat) : Int)))])), (xa X 1, .inl (xZ X, 12, .inl (fI (sS S)))), (xa X 2, .inl (xI X, 12, .inl (fI (sA S)))), (xa X 3, .inl (xI X, 12, .inl (fI (sU S)))), (xa X 4, .inl (xI X, 12, .inl (fI (sR S))))]) H := hP
  have hD : va_D (pg_in ((mC X S t))) ([(xa X 0, .inr (1, [.int (iI 0), .ref ((xa X 1)), .ref ((xa X 2)), .ref ((xa X 3)), .ref ((xa X 4)), .int (iI (((sN S : Nat) : Int))), .int (iI (((sW S : Nat) : Int)))])), (xa X 1, .inl (xZ X, 12, .inl (fI (sS S)))), (xa X 2, .inl (xI X, 12, .inl (fI (sA S)))), (xa X 3, .inl (xI X, 12, .inl (fI (sU S)))), (xa X 4, .inl (xI X, 12, .inl (fI (sR S))))]) := hD
  refine pg_if_ne (tgt := 45) hx hb dX1_step_5 (by decide) (⟨by omega, by omega⟩) (fun hc1 => absurd hc1 (by omega)) (fun hc1 => ?_)
  refine lv_aload_n hx hb dX1_step_8 rfl (lv_at hl 0 rfl) ?_
  refine lv_iload_n hx hb dX1_step_9 rfl (lv_at hl 2 rfl) ?_
  refine lv_bipush (v := iI 110) hx hb dX1_step_10 (by decide +kernel) ?_
  refine pg_icmp_eq (tgt := 37) hx hb dX1_step_12 (by decide) (⟨by omega, by omega⟩) (⟨by omega, by omega⟩) (fun hc2 => absurd hc2 (by omega)) (fun hc2 => ?_)
  refine lv_iload_n hx hb dX1_step_15 rfl (lv_at hl 2 rfl) ?_
  refine lv_bipush (v := iI 115) hx hb dX1_step_16 (by decide +kernel) ?_
  refine pg_icmp_eq (tgt := 37) hx hb dX1_step_18 (by decide) (⟨by omega, by omega⟩) (⟨by omega, by omega⟩) (fun hc3 => absurd hc3 (by omega)) (fun hc3 => ?_)
  refine lv_iload_n hx hb dX1_step_21 rfl (lv_at hl 2 rfl) ?_
  refine lv_bipush (v := iI 101) hx hb dX1_step_22 (by decide +kernel) ?_
  refine pg_icmp_eq (tgt := 37) hx hb dX1_step_24 (by decide) (⟨by omega, by omega⟩) (⟨by omega, by omega⟩) (fun hc4 => absurd hc4 (by omega)) (fun hc4 => ?_)
  refine lv_iload_n hx hb dX1_step_27 rfl (lv_at hl 2 rfl) ?_
  refine lv_bipush (v := iI 119) hx hb dX1_step_28 (by decide +kernel) ?_
  refine pg_icmp_eq (tgt := 37) hx hb dX1_step_30 (by decide) (⟨by omega, by omega⟩) (⟨by omega, by omega⟩) (fun hc5 => ?_) (fun hc5 => absurd hc5 (by omega))
  refine lv_iconst (v := iI 0) hx hb dX1_step_37 rfl ?_
  refine lv_iconst (v := iI 3) hx hb dX1_step_38 rfl ?_
  refine pg_wcallV (As := [.int (iI 0), .int (iI 3)]) (rest := []) (l1 := []) (l2 := []) (w := [(xa X 0, .inr (1, [.int (iI 0), .ref ((xa X 1)), .ref ((xa X 2)), .ref ((xa X 3)), .ref ((xa X 4)), .int (iI (((sN S : Nat) : Int))), .int (iI (((sW S : Nat) : Int)))])), (xa X 1, .inl (xZ X, 12, .inl (fI (sS S)))), (xa X 2, .inl (xI X, 12, .inl (fI (sA S)))), (xa X 3, .inl (xI X, 12, .inl (fI (sU S)))), (xa X 4, .inl (xI X, 12, .inl (fI (sR S))))]) (w' := [(xa X 0, .inr (1, [.int (iI 0), .ref ((xa X 1)), .ref ((xa X 2)), .ref ((xa X 3)), .ref ((xa X 4)), .int (iI (((sN S : Nat) : Int))), .int (iI (((sW S : Nat) : Int)))])), (xa X 1, .inl (xZ X, 12, .inl (fI (sS S)))), (xa X 2, .inl (xI X, 12, .inl (fI (sA S)))), (xa X 3, .inl (xI X, 12, .inl (fI (sU S)))), (xa X 4, .inl (xI X, 12, .inl (fI (sR S))))]) SC (c_X1_isThrown l X S 0 0 3 0 ⟨by omega, by omega⟩ (by omega)) pT_st pT_h (cwV 2 hts gX1_step_X1_isThrown rfl rfl rfl (by decide +kernel) ⟨Nat.le_of_ble_eq_true rfl, Nat.le_of_ble_eq_true rfl⟩) (va_recv hK hP (ci := 1) (q0 := 0) rfl rfl) hK hP hD hS rfl rfl hl.1 rfl (Nat.le_of_ble_eq_true rfl) dX1_step_39 ⟨Nat.zero_le _, Nat.zero_le _⟩ (fun H locs hP hD hS => ?_)
  have hP : va_P (xG X) vwCl ([(xa X 0, .inr (1, [.int (iI 0), .ref ((xa X 1)), .ref ((xa X 2)), .ref ((xa X 3)), .ref ((xa X 4)), .int (iI (((sN S : Nat) : Int))), .int (iI (((sW S : Nat) : Int)))])), (xa X 1, .inl (xZ X, 12, .inl (fI (sS S)))), (xa X 2, .inl (xI X, 12, .inl (fI (sA S)))), (xa X 3, .inl (xI X, 12, .inl (fI (sU S)))), (xa X 4, .inl (xI X, 12, .inl (fI (sR S))))]) H := hP
  have hD : va_D (pg_in ((mC X S t))) ([(xa X 0, .inr (1, [.int (iI 0), .ref ((xa X 1)), .ref ((xa X 2)), .ref ((xa X 3)), .ref ((xa X 4)), .int (iI (((sN S : Nat) : Int))), .int (iI (((sW S : Nat) : Int)))])), (xa X 1, .inl (xZ X, 12, .inl (fI (sS S)))), (xa X 2, .inl (xI X, 12, .inl (fI (sA S)))), (xa X 3, .inl (xI X, 12, .inl (fI (sU S)))), (xa X 4, .inl (xI X, 12, .inl (fI (sR S))))]) := hD
  refine pg_if_eq (tgt := 47) hx hb dX1_step_42 (by decide) (⟨by omega, by omega⟩) (fun hc6 => ?_) (fun hc6 => absurd hc6 (by omega))
  refine lv_iload_n hx hb dX1_step_47 rfl (lv_at hl 2 rfl) ?_
  refine lv_bipush (v := iI 101) hx hb dX1_step_48 (by decide +kernel) ?_
  refine pg_icmp_ne (tgt := 57) hx hb dX1_step_50 (by decide) (⟨by omega, by omega⟩) (⟨by omega, by omega⟩) (fun hc7 => ?_) (fun hc7 => absurd hc7 (by omega))
  refine lv_iload_n hx hb dX1_step_57 rfl (lv_at hl 2 rfl) ?_
  refine lv_bipush (v := iI 119) hx hb dX1_step_58 (by decide +kernel) ?_
  refine pg_icmp_ne (tgt := 67) hx hb dX1_step_60 (by decide) (⟨by omega, by omega⟩) (⟨by omega, by omega⟩) (fun hc8 => absurd hc8 (by omega)) (fun hc8 => ?_)
  refine lv_iconst (v := iI (-1)) hx hb dX1_step_63 rfl ?_
  refine lv_goto (tgt := 68) hx hb dX1_step_64 (by decide) ?_
  refine lv_istore_n (lv' := [(3, .int (iI ((-1)))), (0, .ref ((xa X 0))), (1, .int (iI (((k : Nat) : Int)))), (2, .int (iI 119))]) hx hb dX1_step_68 rfl hl (by decide) rfl (fun ls hl => ?_)
  refine lv_iload_n hx hb dX1_step_69 rfl (lv_at hl 3 rfl) ?_
  refine lv_bipush (v := iI 110) hx hb dX1_step_70 (by decide +kernel) ?_
  refine pg_icmp_ne (tgt := 79) hx hb dX1_step_72 (by decide) (⟨by omega, by omega⟩) (⟨by omega, by omega⟩) (fun hc9 => ?_) (fun hc9 => absurd hc9 (by omega))
  refine lv_iload_n hx hb dX1_step_79 rfl (lv_at hl 3 rfl) ?_
  refine lv_bipush (v := iI 115) hx hb dX1_step_80 (by decide +kernel) ?_
  refine pg_icmp_ne (tgt := 89) hx hb dX1_step_82 (by decide) (⟨by omega, by omega⟩) (⟨by omega, by omega⟩) (fun hc10 => ?_) (fun hc10 => absurd hc10 (by omega))
  refine lv_iconst (v := iI 0) hx hb dX1_step_89 rfl ?_
  refine lv_istore (lv' := [(4, .int (iI 0)), (3, .int (iI ((-1)))), (0, .ref ((xa X 0))), (1, .int (iI (((k : Nat) : Int)))), (2, .int (iI 119))]) hx hb dX1_step_90 hl (by decide) rfl (fun ls hl => ?_)
  refine lv_aload_n hx hb dX1_step_92 rfl (lv_at hl 2 rfl) ?_
  refine va_get (D := xG X) (ci := 1) (v := .ref ((xa X 2))) (C := RX1) (T := TX1) (N := 7) hx hb hts hin hown hK hP 0 rfl rfl 2 (by decide) (hts (.fieldLink RX1 13 "PegfieldModel" "across" "[I") (by decide +kernel)) (fun _ h9 => h9) rfl dX1_step_93 ?_
  refine lv_iload_n hx hb dX1_step_96 rfl (lv_at hl 3 rfl) ?_
  refine pg_iald hx hb hK hP 2 1 (f := (sA S)) rfl rfl k (rfl) (by omega) (by decide) dX1_step_97 ?_
  refine lv_iload_n hx hb dX1_step_98 rfl (lv_at hl 1 rfl) ?_
  refine pg_iadd (z := ((a2 : Nat) : Int)) hx hb dX1_step_99 (by omega) ?_
  refine lv_iconst (v := iI 0) hx hb dX1_step_100 rfl ?_
  refine lv_bipush (v := iI 90) hx hb dX1_step_101 (by decide +kernel) ?_
  refine pg_callS (As := [.int (iI (((a2 : Nat) : Int))), .int (iI 0), .int (iI 90)]) (rest := []) SC (c_X1_lies l (((a2 : Nat) : Int)) 0 90 1 ⟨by omega, by omega⟩ ⟨by omega, by omega⟩ ⟨by omega, by omega⟩ (by omega)) pT_st pT_h (va_cwS 3 hts gX1_step_X1_lies rfl rfl rfl (by decide +kernel) ⟨Nat.le_of_ble_eq_true rfl, Nat.le_of_ble_eq_true rfl⟩) rfl hl.1 rfl (Nat.le_of_ble_eq_true rfl) dX1_step_103 ⟨Nat.zero_le _, Nat.zero_le _⟩ ?_
  refine pg_if_eq (tgt := 127) hx hb dX1_step_106 (by decide) (⟨by omega, by omega⟩) (fun hc11 => absurd hc11 (by omega)) (fun hc11 => ?_)
  refine lv_aload_n hx hb dX1_step_109 rfl (lv_at hl 2 rfl) ?_
  refine va_get (D := xG X) (ci := 1) (v := .ref ((xa X 3))) (C := RX1) (T := TX1) (N := 7) hx hb hts hin hown hK hP 0 rfl rfl 3 (by decide) (hts (.fieldLink RX1 17 "PegfieldModel" "up" "[I") (by decide +kernel)) (fun _ h9 => h9) rfl dX1_step_110 ?_
  refine lv_iload_n hx hb dX1_step_113 rfl (lv_at hl 3 rfl) ?_
  refine pg_iald hx hb hK hP 3 1 (f := (sU S)) rfl rfl k (rfl) (by omega) (by decide) dX1_step_114 ?_
  refine lv_iload hx hb dX1_step_115 (lv_at hl 0 rfl) ?_
  refine pg_iadd (z := ((u2 : Nat) : Int)) hx hb dX1_step_117 (by omega) ?_
  refine lv_iconst (v := iI 0) hx hb dX1_step_118 rfl ?_
  refine lv_bipush (v := iI 90) hx hb dX1_step_119 (by decide +kernel) ?_
  refine pg_callS (As := [.int (iI (((u2 : Nat) : Int))), .int (iI 0), .int (iI 90)]) (rest := []) SC (c_X1_lies l (((u2 : Nat) : Int)) 0 90 1 ⟨by omega, by omega⟩ ⟨by omega, by omega⟩ ⟨by omega, by omega⟩ (by omega)) pT_st pT_h (va_cwS 3 hts gX1_step_X1_lies rfl rfl rfl (by decide +kernel) ⟨Nat.le_of_ble_eq_true rfl, Nat.le_of_ble_eq_true rfl⟩) rfl hl.1 rfl (Nat.le_of_ble_eq_true rfl) dX1_step_121 ⟨Nat.zero_le _, Nat.zero_le _⟩ ?_
  refine pg_if_ne (tgt := 129) hx hb dX1_step_124 (by decide) (⟨by omega, by omega⟩) (fun hc12 => ?_) (fun hc12 => absurd hc12 (by omega))
  refine lv_aload_n hx hb dX1_step_129 rfl (lv_at hl 2 rfl) ?_
  refine va_get (D := xG X) (ci := 1) (v := .ref ((xa X 2))) (C := RX1) (T := TX1) (N := 7) hx hb hts hin hown hK hP 0 rfl rfl 2 (by decide) (hts (.fieldLink RX1 13 "PegfieldModel" "across" "[I") (by decide +kernel)) (fun _ h9 => h9) rfl dX1_step_130 ?_
  refine lv_iload_n hx hb dX1_step_133 rfl (lv_at hl 3 rfl) ?_
  refine lv_dup2_11 hx hb dX1_step_134 rfl rfl ?_
  refine pg_iald hx hb hK hP 2 1 (f := (sA S)) rfl rfl k (rfl) (by omega) (by decide) dX1_step_135 ?_
  refine lv_iload_n hx hb dX1_step_136 rfl (lv_at hl 1 rfl) ?_
  refine pg_iadd (z := ((a2 : Nat) : Int)) hx hb dX1_step_137 (by omega) ?_
  refine pg_iast hx hb hK hP hD hS 2 1 (f := (sA S)) rfl rfl k a2 (rfl) (rfl) (by omega) (by decide) dX1_step_138 (fun H locs hP hD hS => ?_)
  have hP : va_P (xG X) vwCl ([(xa X 0, .inr (1, [.int (iI 0), .ref ((xa X 1)), .ref ((xa X 2)), .ref ((xa X 3)), .ref ((xa X 4)), .int (iI (((sN S : Nat) : Int))), .int (iI (((sW S : Nat) : Int)))])), (xa X 1, .inl (xZ X, 12, .inl (fI (sS S)))), (xa X 2, .inl (xI X, 12, .inl (fI (upN (sA S) k a2)))), (xa X 3, .inl (xI X, 12, .inl (fI (sU S)))), (xa X 4, .inl (xI X, 12, .inl (fI (sR S))))]) H := hP
  have hD : va_D (pg_in ((mC X S t))) ([(xa X 0, .inr (1, [.int (iI 0), .ref ((xa X 1)), .ref ((xa X 2)), .ref ((xa X 3)), .ref ((xa X 4)), .int (iI (((sN S : Nat) : Int))), .int (iI (((sW S : Nat) : Int)))])), (xa X 1, .inl (xZ X, 12, .inl (fI (sS S)))), (xa X 2, .inl (xI X, 12, .inl (fI (upN (sA S) k a2)))), (xa X 3, .inl (xI X, 12, .inl (fI (sU S)))), (xa X 4, .inl (xI X, 12, .inl (fI (sR S))))]) := hD
  refine lv_aload_n hx hb dX1_step_139 rfl (lv_at hl 2 rfl) ?_
  refine va_get (D := xG X) (ci := 1) (v := .ref ((xa X 3))) (C := RX1) (T := TX1) (N := 7) hx hb hts hin hown hK hP 0 rfl rfl 3 (by decide) (hts (.fieldLink RX1 17 "PegfieldModel" "up" "[I") (by decide +kernel)) (fun _ h9 => h9) rfl dX1_step_140 ?_
  refine lv_iload_n hx hb dX1_step_143 rfl (lv_at hl 3 rfl) ?_
  refine lv_dup2_11 hx hb dX1_step_144 rfl rfl ?_
  refine pg_iald hx hb hK hP 3 1 (f := (sU S)) rfl rfl k (rfl) (by omega) (by decide) dX1_step_145 ?_
  refine lv_iload hx hb dX1_step_146 (lv_at hl 0 rfl) ?_
  refine pg_iadd (z := ((u2 : Nat) : Int)) hx hb dX1_step_148 (by omega) ?_
  refine pg_iast hx hb hK hP hD hS 3 1 (f := (sU S)) rfl rfl k u2 (rfl) (rfl) (by omega) (by decide) dX1_step_149 (fun H locs hP hD hS => ?_)
  have hP : va_P (xG X) vwCl ([(xa X 0, .inr (1, [.int (iI 0), .ref ((xa X 1)), .ref ((xa X 2)), .ref ((xa X 3)), .ref ((xa X 4)), .int (iI (((sN S : Nat) : Int))), .int (iI (((sW S : Nat) : Int)))])), (xa X 1, .inl (xZ X, 12, .inl (fI (sS S)))), (xa X 2, .inl (xI X, 12, .inl (fI (upN (sA S) k a2)))), (xa X 3, .inl (xI X, 12, .inl (fI (upN (sU S) k u2)))), (xa X 4, .inl (xI X, 12, .inl (fI (sR S))))]) H := hP
  have hD : va_D (pg_in ((mC X S t))) ([(xa X 0, .inr (1, [.int (iI 0), .ref ((xa X 1)), .ref ((xa X 2)), .ref ((xa X 3)), .ref ((xa X 4)), .int (iI (((sN S : Nat) : Int))), .int (iI (((sW S : Nat) : Int)))])), (xa X 1, .inl (xZ X, 12, .inl (fI (sS S)))), (xa X 2, .inl (xI X, 12, .inl (fI (upN (sA S) k a2)))), (xa X 3, .inl (xI X, 12, .inl (fI (upN (sU S) k u2)))), (xa X 4, .inl (xI X, 12, .inl (fI (sR S))))]) := hD
  refine lv_iconst (v := iI 1) hx hb dX1_step_150 rfl ?_
  exact pg_wzret hx hb hr hlk hP hS  (iI_bool (by omega)) (congrArg (fun z : Int => some (Value.int (iI z))) (show 1 = 1 by omega)) dX1_step_151
set_option maxRecDepth 100000 in
set_option maxHeartbeats 4000000 in
theorem c_X1_stepno_w (l : Launch) (X : pgX) (S : pgS) (t : Int) (hok : pgOk S) (k : Nat) (hk : k < 12) (h1 : sS S k = 1) (hed : sA S k = 0) : pg_wr l yX1_step wsX1_step (rm 3 64) (xG X) (xTy X) pT (mC X S t) (mC X S 0) 0 0 [.ref ((xa X 0)), .int (iI (((k : Nat) : Int))), .int (iI 119)] (some (.int (iI 0))) := by
  refine pg_wr_of (cc := cX1_step) (maxL := 5) (ret := (some .boolean)) (by decide) rfl (Nat.le_of_ble_eq_true rfl) ?_
  intro p e s m below meth c ls SC hr hlk hP hK hD hS hB hl
  obtain ⟨hx, hb, hml, hown, hts⟩ := id SC
  have hown : s.vm.findClass RX1 = some m.cls := hown
  have hl : lv_has ls 5 [(0, .ref ((xa X 0))), (1, .int (iI (((k : Nat) : Int)))), (2, .int (iI 119))] := hl
  have hin : ∀ w ∈ u_ws RX1 TX1 7, w ∈ wsX1_step := by decide +kernel
  have q2 := hok.2.1 k
  have q3 := hok.2.2.1 k
  refine lv_aload_n hx hb dX1_step_0 rfl (lv_at hl 0 rfl) ?_
  refine lv_iload_n hx hb dX1_step_1 rfl (lv_at hl 1 rfl) ?_
  refine pg_wcallV (As := [.int (iI (((k : Nat) : Int)))]) (rest := []) (l1 := []) (l2 := []) (w := [(xa X 0, .inr (1, [.int (iI t), .ref ((xa X 1)), .ref ((xa X 2)), .ref ((xa X 3)), .ref ((xa X 4)), .int (iI (((sN S : Nat) : Int))), .int (iI (((sW S : Nat) : Int)))])), (xa X 1, .inl (xZ X, 12, .inl (fI (sS S)))), (xa X 2, .inl (xI X, 12, .inl (fI (sA S)))), (xa X 3, .inl (xI X, 12, .inl (fI (sU S)))), (xa X 4, .inl (xI X, 12, .inl (fI (sR S))))]) (w' := [(xa X 0, .inr (1, [.int (iI 0), .ref ((xa X 1)), .ref ((xa X 2)), .ref ((xa X 3)), .ref ((xa X 4)), .int (iI (((sN S : Nat) : Int))), .int (iI (((sW S : Nat) : Int)))])), (xa X 1, .inl (xZ X, 12, .inl (fI (sS S)))), (xa X 2, .inl (xI X, 12, .inl (fI (sA S)))), (xa X 3, .inl (xI X, 12, .inl (fI (sU S)))), (xa X 4, .inl (xI X, 12, .inl (fI (sR S))))]) SC (c_X1_isNoPeg_ok l X S t k hk h1) pT_st pT_h (cwV 1 hts gX1_step_X1_isNoPeg rfl rfl rfl (by decide +kernel) ⟨Nat.le_of_ble_eq_true rfl, Nat.le_of_ble_eq_true rfl⟩) (va_recv hK hP (ci := 1) (q0 := 0) rfl rfl) hK hP hD hS rfl rfl hl.1 rfl (Nat.le_of_ble_eq_true rfl) dX1_step_2 ⟨Nat.zero_le _, Nat.zero_le _⟩ (fun H locs hP hD hS => ?_)
  have hP : va_P (xG X) vwCl ([(xa X 0, .inr (1, [.int (iI 0), .ref ((xa X 1)), .ref ((xa X 2)), .ref ((xa X 3)), .ref ((xa X 4)), .int (iI (((sN S : Nat) : Int))), .int (iI (((sW S : Nat) : Int)))])), (xa X 1, .inl (xZ X, 12, .inl (fI (sS S)))), (xa X 2, .inl (xI X, 12, .inl (fI (sA S)))), (xa X 3, .inl (xI X, 12, .inl (fI (sU S)))), (xa X 4, .inl (xI X, 12, .inl (fI (sR S))))]) H := hP
  have hD : va_D (pg_in ((mC X S t))) ([(xa X 0, .inr (1, [.int (iI 0), .ref ((xa X 1)), .ref ((xa X 2)), .ref ((xa X 3)), .ref ((xa X 4)), .int (iI (((sN S : Nat) : Int))), .int (iI (((sW S : Nat) : Int)))])), (xa X 1, .inl (xZ X, 12, .inl (fI (sS S)))), (xa X 2, .inl (xI X, 12, .inl (fI (sA S)))), (xa X 3, .inl (xI X, 12, .inl (fI (sU S)))), (xa X 4, .inl (xI X, 12, .inl (fI (sR S))))]) := hD
  refine pg_if_ne (tgt := 45) hx hb dX1_step_5 (by decide) (⟨by omega, by omega⟩) (fun hc1 => absurd hc1 (by omega)) (fun hc1 => ?_)
  refine lv_aload_n hx hb dX1_step_8 rfl (lv_at hl 0 rfl) ?_
  refine lv_iload_n hx hb dX1_step_9 rfl (lv_at hl 2 rfl) ?_
  refine lv_bipush (v := iI 110) hx hb dX1_step_10 (by decide +kernel) ?_
  refine pg_icmp_eq (tgt := 37) hx hb dX1_step_12 (by decide) (⟨by omega, by omega⟩) (⟨by omega, by omega⟩) (fun hc2 => absurd hc2 (by omega)) (fun hc2 => ?_)
  refine lv_iload_n hx hb dX1_step_15 rfl (lv_at hl 2 rfl) ?_
  refine lv_bipush (v := iI 115) hx hb dX1_step_16 (by decide +kernel) ?_
  refine pg_icmp_eq (tgt := 37) hx hb dX1_step_18 (by decide) (⟨by omega, by omega⟩) (⟨by omega, by omega⟩) (fun hc3 => absurd hc3 (by omega)) (fun hc3 => ?_)
  refine lv_iload_n hx hb dX1_step_21 rfl (lv_at hl 2 rfl) ?_
  refine lv_bipush (v := iI 101) hx hb dX1_step_22 (by decide +kernel) ?_
  refine pg_icmp_eq (tgt := 37) hx hb dX1_step_24 (by decide) (⟨by omega, by omega⟩) (⟨by omega, by omega⟩) (fun hc4 => absurd hc4 (by omega)) (fun hc4 => ?_)
  refine lv_iload_n hx hb dX1_step_27 rfl (lv_at hl 2 rfl) ?_
  refine lv_bipush (v := iI 119) hx hb dX1_step_28 (by decide +kernel) ?_
  refine pg_icmp_eq (tgt := 37) hx hb dX1_step_30 (by decide) (⟨by omega, by omega⟩) (⟨by omega, by omega⟩) (fun hc5 => ?_) (fun hc5 => absurd hc5 (by omega))
  refine lv_iconst (v := iI 0) hx hb dX1_step_37 rfl ?_
  refine lv_iconst (v := iI 3) hx hb dX1_step_38 rfl ?_
  refine pg_wcallV (As := [.int (iI 0), .int (iI 3)]) (rest := []) (l1 := []) (l2 := []) (w := [(xa X 0, .inr (1, [.int (iI 0), .ref ((xa X 1)), .ref ((xa X 2)), .ref ((xa X 3)), .ref ((xa X 4)), .int (iI (((sN S : Nat) : Int))), .int (iI (((sW S : Nat) : Int)))])), (xa X 1, .inl (xZ X, 12, .inl (fI (sS S)))), (xa X 2, .inl (xI X, 12, .inl (fI (sA S)))), (xa X 3, .inl (xI X, 12, .inl (fI (sU S)))), (xa X 4, .inl (xI X, 12, .inl (fI (sR S))))]) (w' := [(xa X 0, .inr (1, [.int (iI 0), .ref ((xa X 1)), .ref ((xa X 2)), .ref ((xa X 3)), .ref ((xa X 4)), .int (iI (((sN S : Nat) : Int))), .int (iI (((sW S : Nat) : Int)))])), (xa X 1, .inl (xZ X, 12, .inl (fI (sS S)))), (xa X 2, .inl (xI X, 12, .inl (fI (sA S)))), (xa X 3, .inl (xI X, 12, .inl (fI (sU S)))), (xa X 4, .inl (xI X, 12, .inl (fI (sR S))))]) SC (c_X1_isThrown l X S 0 0 3 0 ⟨by omega, by omega⟩ (by omega)) pT_st pT_h (cwV 2 hts gX1_step_X1_isThrown rfl rfl rfl (by decide +kernel) ⟨Nat.le_of_ble_eq_true rfl, Nat.le_of_ble_eq_true rfl⟩) (va_recv hK hP (ci := 1) (q0 := 0) rfl rfl) hK hP hD hS rfl rfl hl.1 rfl (Nat.le_of_ble_eq_true rfl) dX1_step_39 ⟨Nat.zero_le _, Nat.zero_le _⟩ (fun H locs hP hD hS => ?_)
  have hP : va_P (xG X) vwCl ([(xa X 0, .inr (1, [.int (iI 0), .ref ((xa X 1)), .ref ((xa X 2)), .ref ((xa X 3)), .ref ((xa X 4)), .int (iI (((sN S : Nat) : Int))), .int (iI (((sW S : Nat) : Int)))])), (xa X 1, .inl (xZ X, 12, .inl (fI (sS S)))), (xa X 2, .inl (xI X, 12, .inl (fI (sA S)))), (xa X 3, .inl (xI X, 12, .inl (fI (sU S)))), (xa X 4, .inl (xI X, 12, .inl (fI (sR S))))]) H := hP
  have hD : va_D (pg_in ((mC X S t))) ([(xa X 0, .inr (1, [.int (iI 0), .ref ((xa X 1)), .ref ((xa X 2)), .ref ((xa X 3)), .ref ((xa X 4)), .int (iI (((sN S : Nat) : Int))), .int (iI (((sW S : Nat) : Int)))])), (xa X 1, .inl (xZ X, 12, .inl (fI (sS S)))), (xa X 2, .inl (xI X, 12, .inl (fI (sA S)))), (xa X 3, .inl (xI X, 12, .inl (fI (sU S)))), (xa X 4, .inl (xI X, 12, .inl (fI (sR S))))]) := hD
  refine pg_if_eq (tgt := 47) hx hb dX1_step_42 (by decide) (⟨by omega, by omega⟩) (fun hc6 => ?_) (fun hc6 => absurd hc6 (by omega))
  refine lv_iload_n hx hb dX1_step_47 rfl (lv_at hl 2 rfl) ?_
  refine lv_bipush (v := iI 101) hx hb dX1_step_48 (by decide +kernel) ?_
  refine pg_icmp_ne (tgt := 57) hx hb dX1_step_50 (by decide) (⟨by omega, by omega⟩) (⟨by omega, by omega⟩) (fun hc7 => ?_) (fun hc7 => absurd hc7 (by omega))
  refine lv_iload_n hx hb dX1_step_57 rfl (lv_at hl 2 rfl) ?_
  refine lv_bipush (v := iI 119) hx hb dX1_step_58 (by decide +kernel) ?_
  refine pg_icmp_ne (tgt := 67) hx hb dX1_step_60 (by decide) (⟨by omega, by omega⟩) (⟨by omega, by omega⟩) (fun hc8 => absurd hc8 (by omega)) (fun hc8 => ?_)
  refine lv_iconst (v := iI (-1)) hx hb dX1_step_63 rfl ?_
  refine lv_goto (tgt := 68) hx hb dX1_step_64 (by decide) ?_
  refine lv_istore_n (lv' := [(3, .int (iI ((-1)))), (0, .ref ((xa X 0))), (1, .int (iI (((k : Nat) : Int)))), (2, .int (iI 119))]) hx hb dX1_step_68 rfl hl (by decide) rfl (fun ls hl => ?_)
  refine lv_iload_n hx hb dX1_step_69 rfl (lv_at hl 3 rfl) ?_
  refine lv_bipush (v := iI 110) hx hb dX1_step_70 (by decide +kernel) ?_
  refine pg_icmp_ne (tgt := 79) hx hb dX1_step_72 (by decide) (⟨by omega, by omega⟩) (⟨by omega, by omega⟩) (fun hc9 => ?_) (fun hc9 => absurd hc9 (by omega))
  refine lv_iload_n hx hb dX1_step_79 rfl (lv_at hl 3 rfl) ?_
  refine lv_bipush (v := iI 115) hx hb dX1_step_80 (by decide +kernel) ?_
  refine pg_icmp_ne (tgt := 89) hx hb dX1_step_82 (by decide) (⟨by omega, by omega⟩) (⟨by omega, by omega⟩) (fun hc10 => ?_) (fun hc10 => absurd hc10 (by omega))
  refine lv_iconst (v := iI 0) hx hb dX1_step_89 rfl ?_
  refine lv_istore (lv' := [(4, .int (iI 0)), (3, .int (iI ((-1)))), (0, .ref ((xa X 0))), (1, .int (iI (((k : Nat) : Int)))), (2, .int (iI 119))]) hx hb dX1_step_90 hl (by decide) rfl (fun ls hl => ?_)
  refine lv_aload_n hx hb dX1_step_92 rfl (lv_at hl 2 rfl) ?_
  refine va_get (D := xG X) (ci := 1) (v := .ref ((xa X 2))) (C := RX1) (T := TX1) (N := 7) hx hb hts hin hown hK hP 0 rfl rfl 2 (by decide) (hts (.fieldLink RX1 13 "PegfieldModel" "across" "[I") (by decide +kernel)) (fun _ h9 => h9) rfl dX1_step_93 ?_
  refine lv_iload_n hx hb dX1_step_96 rfl (lv_at hl 3 rfl) ?_
  refine pg_iald hx hb hK hP 2 1 (f := (sA S)) rfl rfl k (rfl) (by omega) (by decide) dX1_step_97 ?_
  refine lv_iload_n hx hb dX1_step_98 rfl (lv_at hl 1 rfl) ?_
  refine pg_iadd (z := (sA S k : Int) - 1) hx hb dX1_step_99 (by omega) ?_
  refine lv_iconst (v := iI 0) hx hb dX1_step_100 rfl ?_
  refine lv_bipush (v := iI 90) hx hb dX1_step_101 (by decide +kernel) ?_
  refine pg_callS (As := [.int (iI ((sA S k : Int) - 1)), .int (iI 0), .int (iI 90)]) (rest := []) SC (c_X1_lies l ((sA S k : Int) - 1) 0 90 0 ⟨by omega, by omega⟩ ⟨by omega, by omega⟩ ⟨by omega, by omega⟩ (by omega)) pT_st pT_h (va_cwS 3 hts gX1_step_X1_lies rfl rfl rfl (by decide +kernel) ⟨Nat.le_of_ble_eq_true rfl, Nat.le_of_ble_eq_true rfl⟩) rfl hl.1 rfl (Nat.le_of_ble_eq_true rfl) dX1_step_103 ⟨Nat.zero_le _, Nat.zero_le _⟩ ?_
  refine pg_if_eq (tgt := 127) hx hb dX1_step_106 (by decide) (⟨by omega, by omega⟩) (fun hc11 => ?_) (fun hc11 => absurd hc11 (by omega))
  refine lv_iconst (v := iI 0) hx hb dX1_step_127 rfl ?_
  exact pg_wzret hx hb hr hlk hP hS  (iI_bool (by omega)) (congrArg (fun z : Int => some (Value.int (iI z))) (show 0 = 0 by omega)) dX1_step_128
set_option maxRecDepth 100000 in
set_option maxHeartbeats 4000000 in
theorem c_X1_step_1 (l : Launch) (X : pgX) (S : pgS) (t : Int) (pp : Int) (hp : inI pp) (h : pp < 0 ∨ 12 ≤ pp) (way : Int) : pg_wr l yX1_step wsX1_step (rm 3 64) (xG X) (xTy X) pT (mC X S t) (mC X S 1) 0 0 [.ref ((xa X 0)), .int (iI pp), .int (iI way)] (some (.int (iI 0))) := by
  refine pg_wr_of (cc := cX1_step) (maxL := 5) (ret := (some .boolean)) (by decide) rfl (Nat.le_of_ble_eq_true rfl) ?_
  intro p e s m below meth c ls SC hr hlk hP hK hD hS hB hl
  obtain ⟨hx, hb, hml, hown, hts⟩ := id SC
  have hown : s.vm.findClass RX1 = some m.cls := hown
  have hl : lv_has ls 5 [(0, .ref ((xa X 0))), (1, .int (iI pp)), (2, .int (iI way))] := hl
  refine lv_aload_n hx hb dX1_step_0 rfl (lv_at hl 0 rfl) ?_
  refine lv_iload_n hx hb dX1_step_1 rfl (lv_at hl 1 rfl) ?_
  refine pg_wcallV (As := [.int (iI pp)]) (rest := []) (l1 := []) (l2 := []) (w := [(xa X 0, .inr (1, [.int (iI t), .ref ((xa X 1)), .ref ((xa X 2)), .ref ((xa X 3)), .ref ((xa X 4)), .int (iI (((sN S : Nat) : Int))), .int (iI (((sW S : Nat) : Int)))])), (xa X 1, .inl (xZ X, 12, .inl (fI (sS S)))), (xa X 2, .inl (xI X, 12, .inl (fI (sA S)))), (xa X 3, .inl (xI X, 12, .inl (fI (sU S)))), (xa X 4, .inl (xI X, 12, .inl (fI (sR S))))]) (w' := [(xa X 0, .inr (1, [.int (iI 1), .ref ((xa X 1)), .ref ((xa X 2)), .ref ((xa X 3)), .ref ((xa X 4)), .int (iI (((sN S : Nat) : Int))), .int (iI (((sW S : Nat) : Int)))])), (xa X 1, .inl (xZ X, 12, .inl (fI (sS S)))), (xa X 2, .inl (xI X, 12, .inl (fI (sA S)))), (xa X 3, .inl (xI X, 12, .inl (fI (sU S)))), (xa X 4, .inl (xI X, 12, .inl (fI (sR S))))]) SC (c_X1_isNoPeg_1 l X S t pp ⟨by omega, by omega⟩ (by omega)) pT_st pT_h (cwV 1 hts gX1_step_X1_isNoPeg rfl rfl rfl (by decide +kernel) ⟨Nat.le_of_ble_eq_true rfl, Nat.le_of_ble_eq_true rfl⟩) (va_recv hK hP (ci := 1) (q0 := 0) rfl rfl) hK hP hD hS rfl rfl hl.1 rfl (Nat.le_of_ble_eq_true rfl) dX1_step_2 ⟨Nat.zero_le _, Nat.zero_le _⟩ (fun H locs hP hD hS => ?_)
  have hP : va_P (xG X) vwCl ([(xa X 0, .inr (1, [.int (iI 1), .ref ((xa X 1)), .ref ((xa X 2)), .ref ((xa X 3)), .ref ((xa X 4)), .int (iI (((sN S : Nat) : Int))), .int (iI (((sW S : Nat) : Int)))])), (xa X 1, .inl (xZ X, 12, .inl (fI (sS S)))), (xa X 2, .inl (xI X, 12, .inl (fI (sA S)))), (xa X 3, .inl (xI X, 12, .inl (fI (sU S)))), (xa X 4, .inl (xI X, 12, .inl (fI (sR S))))]) H := hP
  have hD : va_D (pg_in ((mC X S t))) ([(xa X 0, .inr (1, [.int (iI 1), .ref ((xa X 1)), .ref ((xa X 2)), .ref ((xa X 3)), .ref ((xa X 4)), .int (iI (((sN S : Nat) : Int))), .int (iI (((sW S : Nat) : Int)))])), (xa X 1, .inl (xZ X, 12, .inl (fI (sS S)))), (xa X 2, .inl (xI X, 12, .inl (fI (sA S)))), (xa X 3, .inl (xI X, 12, .inl (fI (sU S)))), (xa X 4, .inl (xI X, 12, .inl (fI (sR S))))]) := hD
  refine pg_if_ne (tgt := 45) hx hb dX1_step_5 (by decide) (⟨by omega, by omega⟩) (fun hc1 => ?_) (fun hc1 => absurd hc1 (by omega))
  refine lv_iconst (v := iI 0) hx hb dX1_step_45 rfl ?_
  exact pg_wzret hx hb hr hlk hP hS  (iI_bool (by omega)) (congrArg (fun z : Int => some (Value.int (iI z))) (show 0 = 0 by omega)) dX1_step_46
set_option maxRecDepth 100000 in
set_option maxHeartbeats 4000000 in
theorem c_X1_step_2 (l : Launch) (X : pgX) (S : pgS) (t : Int) (k : Nat) (hk : k < 12) (h1 : sS S k = 0) (way : Int) : pg_wr l yX1_step wsX1_step (rm 3 64) (xG X) (xTy X) pT (mC X S t) (mC X S 2) 0 0 [.ref ((xa X 0)), .int (iI (((k : Nat) : Int))), .int (iI way)] (some (.int (iI 0))) := by
  refine pg_wr_of (cc := cX1_step) (maxL := 5) (ret := (some .boolean)) (by decide) rfl (Nat.le_of_ble_eq_true rfl) ?_
  intro p e s m below meth c ls SC hr hlk hP hK hD hS hB hl
  obtain ⟨hx, hb, hml, hown, hts⟩ := id SC
  have hown : s.vm.findClass RX1 = some m.cls := hown
  have hl : lv_has ls 5 [(0, .ref ((xa X 0))), (1, .int (iI (((k : Nat) : Int)))), (2, .int (iI way))] := hl
  refine lv_aload_n hx hb dX1_step_0 rfl (lv_at hl 0 rfl) ?_
  refine lv_iload_n hx hb dX1_step_1 rfl (lv_at hl 1 rfl) ?_
  refine pg_wcallV (As := [.int (iI (((k : Nat) : Int)))]) (rest := []) (l1 := []) (l2 := []) (w := [(xa X 0, .inr (1, [.int (iI t), .ref ((xa X 1)), .ref ((xa X 2)), .ref ((xa X 3)), .ref ((xa X 4)), .int (iI (((sN S : Nat) : Int))), .int (iI (((sW S : Nat) : Int)))])), (xa X 1, .inl (xZ X, 12, .inl (fI (sS S)))), (xa X 2, .inl (xI X, 12, .inl (fI (sA S)))), (xa X 3, .inl (xI X, 12, .inl (fI (sU S)))), (xa X 4, .inl (xI X, 12, .inl (fI (sR S))))]) (w' := [(xa X 0, .inr (1, [.int (iI 2), .ref ((xa X 1)), .ref ((xa X 2)), .ref ((xa X 3)), .ref ((xa X 4)), .int (iI (((sN S : Nat) : Int))), .int (iI (((sW S : Nat) : Int)))])), (xa X 1, .inl (xZ X, 12, .inl (fI (sS S)))), (xa X 2, .inl (xI X, 12, .inl (fI (sA S)))), (xa X 3, .inl (xI X, 12, .inl (fI (sU S)))), (xa X 4, .inl (xI X, 12, .inl (fI (sR S))))]) SC (c_X1_isNoPeg_2 l X S t k hk h1) pT_st pT_h (cwV 1 hts gX1_step_X1_isNoPeg rfl rfl rfl (by decide +kernel) ⟨Nat.le_of_ble_eq_true rfl, Nat.le_of_ble_eq_true rfl⟩) (va_recv hK hP (ci := 1) (q0 := 0) rfl rfl) hK hP hD hS rfl rfl hl.1 rfl (Nat.le_of_ble_eq_true rfl) dX1_step_2 ⟨Nat.zero_le _, Nat.zero_le _⟩ (fun H locs hP hD hS => ?_)
  have hP : va_P (xG X) vwCl ([(xa X 0, .inr (1, [.int (iI 2), .ref ((xa X 1)), .ref ((xa X 2)), .ref ((xa X 3)), .ref ((xa X 4)), .int (iI (((sN S : Nat) : Int))), .int (iI (((sW S : Nat) : Int)))])), (xa X 1, .inl (xZ X, 12, .inl (fI (sS S)))), (xa X 2, .inl (xI X, 12, .inl (fI (sA S)))), (xa X 3, .inl (xI X, 12, .inl (fI (sU S)))), (xa X 4, .inl (xI X, 12, .inl (fI (sR S))))]) H := hP
  have hD : va_D (pg_in ((mC X S t))) ([(xa X 0, .inr (1, [.int (iI 2), .ref ((xa X 1)), .ref ((xa X 2)), .ref ((xa X 3)), .ref ((xa X 4)), .int (iI (((sN S : Nat) : Int))), .int (iI (((sW S : Nat) : Int)))])), (xa X 1, .inl (xZ X, 12, .inl (fI (sS S)))), (xa X 2, .inl (xI X, 12, .inl (fI (sA S)))), (xa X 3, .inl (xI X, 12, .inl (fI (sU S)))), (xa X 4, .inl (xI X, 12, .inl (fI (sR S))))]) := hD
  refine pg_if_ne (tgt := 45) hx hb dX1_step_5 (by decide) (⟨by omega, by omega⟩) (fun hc1 => ?_) (fun hc1 => absurd hc1 (by omega))
  refine lv_iconst (v := iI 0) hx hb dX1_step_45 rfl ?_
  exact pg_wzret hx hb hr hlk hP hS  (iI_bool (by omega)) (congrArg (fun z : Int => some (Value.int (iI z))) (show 0 = 0 by omega)) dX1_step_46
set_option maxRecDepth 100000 in
set_option maxHeartbeats 4000000 in
theorem c_X1_step_3 (l : Launch) (X : pgX) (S : pgS) (t : Int) (k : Nat) (hk : k < 12) (h1 : sS S k = 1) (way : Int) (hwi : inI way) (hw : way ≠ 110 ∧ way ≠ 115 ∧ way ≠ 101 ∧ way ≠ 119) : pg_wr l yX1_step wsX1_step (rm 3 64) (xG X) (xTy X) pT (mC X S t) (mC X S 3) 0 0 [.ref ((xa X 0)), .int (iI (((k : Nat) : Int))), .int (iI way)] (some (.int (iI 0))) := by
  refine pg_wr_of (cc := cX1_step) (maxL := 5) (ret := (some .boolean)) (by decide) rfl (Nat.le_of_ble_eq_true rfl) ?_
  intro p e s m below meth c ls SC hr hlk hP hK hD hS hB hl
  obtain ⟨hx, hb, hml, hown, hts⟩ := id SC
  have hown : s.vm.findClass RX1 = some m.cls := hown
  have hl : lv_has ls 5 [(0, .ref ((xa X 0))), (1, .int (iI (((k : Nat) : Int)))), (2, .int (iI way))] := hl
  refine lv_aload_n hx hb dX1_step_0 rfl (lv_at hl 0 rfl) ?_
  refine lv_iload_n hx hb dX1_step_1 rfl (lv_at hl 1 rfl) ?_
  refine pg_wcallV (As := [.int (iI (((k : Nat) : Int)))]) (rest := []) (l1 := []) (l2 := []) (w := [(xa X 0, .inr (1, [.int (iI t), .ref ((xa X 1)), .ref ((xa X 2)), .ref ((xa X 3)), .ref ((xa X 4)), .int (iI (((sN S : Nat) : Int))), .int (iI (((sW S : Nat) : Int)))])), (xa X 1, .inl (xZ X, 12, .inl (fI (sS S)))), (xa X 2, .inl (xI X, 12, .inl (fI (sA S)))), (xa X 3, .inl (xI X, 12, .inl (fI (sU S)))), (xa X 4, .inl (xI X, 12, .inl (fI (sR S))))]) (w' := [(xa X 0, .inr (1, [.int (iI 0), .ref ((xa X 1)), .ref ((xa X 2)), .ref ((xa X 3)), .ref ((xa X 4)), .int (iI (((sN S : Nat) : Int))), .int (iI (((sW S : Nat) : Int)))])), (xa X 1, .inl (xZ X, 12, .inl (fI (sS S)))), (xa X 2, .inl (xI X, 12, .inl (fI (sA S)))), (xa X 3, .inl (xI X, 12, .inl (fI (sU S)))), (xa X 4, .inl (xI X, 12, .inl (fI (sR S))))]) SC (c_X1_isNoPeg_ok l X S t k hk h1) pT_st pT_h (cwV 1 hts gX1_step_X1_isNoPeg rfl rfl rfl (by decide +kernel) ⟨Nat.le_of_ble_eq_true rfl, Nat.le_of_ble_eq_true rfl⟩) (va_recv hK hP (ci := 1) (q0 := 0) rfl rfl) hK hP hD hS rfl rfl hl.1 rfl (Nat.le_of_ble_eq_true rfl) dX1_step_2 ⟨Nat.zero_le _, Nat.zero_le _⟩ (fun H locs hP hD hS => ?_)
  have hP : va_P (xG X) vwCl ([(xa X 0, .inr (1, [.int (iI 0), .ref ((xa X 1)), .ref ((xa X 2)), .ref ((xa X 3)), .ref ((xa X 4)), .int (iI (((sN S : Nat) : Int))), .int (iI (((sW S : Nat) : Int)))])), (xa X 1, .inl (xZ X, 12, .inl (fI (sS S)))), (xa X 2, .inl (xI X, 12, .inl (fI (sA S)))), (xa X 3, .inl (xI X, 12, .inl (fI (sU S)))), (xa X 4, .inl (xI X, 12, .inl (fI (sR S))))]) H := hP
  have hD : va_D (pg_in ((mC X S t))) ([(xa X 0, .inr (1, [.int (iI 0), .ref ((xa X 1)), .ref ((xa X 2)), .ref ((xa X 3)), .ref ((xa X 4)), .int (iI (((sN S : Nat) : Int))), .int (iI (((sW S : Nat) : Int)))])), (xa X 1, .inl (xZ X, 12, .inl (fI (sS S)))), (xa X 2, .inl (xI X, 12, .inl (fI (sA S)))), (xa X 3, .inl (xI X, 12, .inl (fI (sU S)))), (xa X 4, .inl (xI X, 12, .inl (fI (sR S))))]) := hD
  refine pg_if_ne (tgt := 45) hx hb dX1_step_5 (by decide) (⟨by omega, by omega⟩) (fun hc1 => absurd hc1 (by omega)) (fun hc1 => ?_)
  refine lv_aload_n hx hb dX1_step_8 rfl (lv_at hl 0 rfl) ?_
  refine lv_iload_n hx hb dX1_step_9 rfl (lv_at hl 2 rfl) ?_
  refine lv_bipush (v := iI 110) hx hb dX1_step_10 (by decide +kernel) ?_
  refine pg_icmp_eq (tgt := 37) hx hb dX1_step_12 (by decide) (⟨by omega, by omega⟩) (⟨by omega, by omega⟩) (fun hc2 => absurd hc2 (by omega)) (fun hc2 => ?_)
  refine lv_iload_n hx hb dX1_step_15 rfl (lv_at hl 2 rfl) ?_
  refine lv_bipush (v := iI 115) hx hb dX1_step_16 (by decide +kernel) ?_
  refine pg_icmp_eq (tgt := 37) hx hb dX1_step_18 (by decide) (⟨by omega, by omega⟩) (⟨by omega, by omega⟩) (fun hc3 => absurd hc3 (by omega)) (fun hc3 => ?_)
  refine lv_iload_n hx hb dX1_step_21 rfl (lv_at hl 2 rfl) ?_
  refine lv_bipush (v := iI 101) hx hb dX1_step_22 (by decide +kernel) ?_
  refine pg_icmp_eq (tgt := 37) hx hb dX1_step_24 (by decide) (⟨by omega, by omega⟩) (⟨by omega, by omega⟩) (fun hc4 => absurd hc4 (by omega)) (fun hc4 => ?_)
  refine lv_iload_n hx hb dX1_step_27 rfl (lv_at hl 2 rfl) ?_
  refine lv_bipush (v := iI 119) hx hb dX1_step_28 (by decide +kernel) ?_
  refine pg_icmp_eq (tgt := 37) hx hb dX1_step_30 (by decide) (⟨by omega, by omega⟩) (⟨by omega, by omega⟩) (fun hc5 => absurd hc5 (by omega)) (fun hc5 => ?_)
  refine lv_iconst (v := iI 1) hx hb dX1_step_33 rfl ?_
  refine lv_goto (tgt := 38) hx hb dX1_step_34 (by decide) ?_
  refine lv_iconst (v := iI 3) hx hb dX1_step_38 rfl ?_
  refine pg_wcallV (As := [.int (iI 1), .int (iI 3)]) (rest := []) (l1 := []) (l2 := []) (w := [(xa X 0, .inr (1, [.int (iI 0), .ref ((xa X 1)), .ref ((xa X 2)), .ref ((xa X 3)), .ref ((xa X 4)), .int (iI (((sN S : Nat) : Int))), .int (iI (((sW S : Nat) : Int)))])), (xa X 1, .inl (xZ X, 12, .inl (fI (sS S)))), (xa X 2, .inl (xI X, 12, .inl (fI (sA S)))), (xa X 3, .inl (xI X, 12, .inl (fI (sU S)))), (xa X 4, .inl (xI X, 12, .inl (fI (sR S))))]) (w' := [(xa X 0, .inr (1, [.int (iI 3), .ref ((xa X 1)), .ref ((xa X 2)), .ref ((xa X 3)), .ref ((xa X 4)), .int (iI (((sN S : Nat) : Int))), .int (iI (((sW S : Nat) : Int)))])), (xa X 1, .inl (xZ X, 12, .inl (fI (sS S)))), (xa X 2, .inl (xI X, 12, .inl (fI (sA S)))), (xa X 3, .inl (xI X, 12, .inl (fI (sU S)))), (xa X 4, .inl (xI X, 12, .inl (fI (sR S))))]) SC (c_X1_isThrown l X S 0 1 3 3 ⟨by omega, by omega⟩ (by omega)) pT_st pT_h (cwV 2 hts gX1_step_X1_isThrown rfl rfl rfl (by decide +kernel) ⟨Nat.le_of_ble_eq_true rfl, Nat.le_of_ble_eq_true rfl⟩) (va_recv hK hP (ci := 1) (q0 := 0) rfl rfl) hK hP hD hS rfl rfl hl.1 rfl (Nat.le_of_ble_eq_true rfl) dX1_step_39 ⟨Nat.zero_le _, Nat.zero_le _⟩ (fun H locs hP hD hS => ?_)
  have hP : va_P (xG X) vwCl ([(xa X 0, .inr (1, [.int (iI 3), .ref ((xa X 1)), .ref ((xa X 2)), .ref ((xa X 3)), .ref ((xa X 4)), .int (iI (((sN S : Nat) : Int))), .int (iI (((sW S : Nat) : Int)))])), (xa X 1, .inl (xZ X, 12, .inl (fI (sS S)))), (xa X 2, .inl (xI X, 12, .inl (fI (sA S)))), (xa X 3, .inl (xI X, 12, .inl (fI (sU S)))), (xa X 4, .inl (xI X, 12, .inl (fI (sR S))))]) H := hP
  have hD : va_D (pg_in ((mC X S t))) ([(xa X 0, .inr (1, [.int (iI 3), .ref ((xa X 1)), .ref ((xa X 2)), .ref ((xa X 3)), .ref ((xa X 4)), .int (iI (((sN S : Nat) : Int))), .int (iI (((sW S : Nat) : Int)))])), (xa X 1, .inl (xZ X, 12, .inl (fI (sS S)))), (xa X 2, .inl (xI X, 12, .inl (fI (sA S)))), (xa X 3, .inl (xI X, 12, .inl (fI (sU S)))), (xa X 4, .inl (xI X, 12, .inl (fI (sR S))))]) := hD
  refine pg_if_eq (tgt := 47) hx hb dX1_step_42 (by decide) (⟨by omega, by omega⟩) (fun hc6 => absurd hc6 (by omega)) (fun hc6 => ?_)
  refine lv_iconst (v := iI 0) hx hb dX1_step_45 rfl ?_
  exact pg_wzret hx hb hr hlk hP hS  (iI_bool (by omega)) (congrArg (fun z : Int => some (Value.int (iI z))) (show 0 = 0 by omega)) dX1_step_46
set_option maxRecDepth 100000 in
set_option maxHeartbeats 4000000 in
theorem c_X1_isThere_ok (l : Launch) (X : pgX) (S : pgS) (t : Int) (hok : pgOk S) (k : Nat) (hk : k < 12)  : pg_wr l yX1_isThere wsX1_isThere (rm 2 43) (xG X) (xTy X) pT (mC X S t) (mC X S 0) 0 0 [.ref ((xa X 0)), .int (iI (((k : Nat) : Int)))] (some (.int (iI (((sS S k : Nat) : Int))))) := by
  refine pg_wr_of (cc := cX1_isThere) (maxL := 2) (ret := (some .boolean)) (by decide) rfl (Nat.le_of_ble_eq_true rfl) ?_
  intro p e s m below meth c ls SC hr hlk hP hK hD hS hB hl
  obtain ⟨hx, hb, hml, hown, hts⟩ := id SC
  have hown : s.vm.findClass RX1 = some m.cls := hown
  have hl : lv_has ls 2 [(0, .ref ((xa X 0))), (1, .int (iI (((k : Nat) : Int))))] := hl
  have hin : ∀ w ∈ u_ws RX1 TX1 7, w ∈ wsX1_isThere := by decide +kernel
  have h1 := hok.1 k
  refine lv_aload_n hx hb dX1_isThere_0 rfl (lv_at hl 0 rfl) ?_
  refine lv_iload_n hx hb dX1_isThere_1 rfl (lv_at hl 1 rfl) ?_
  refine pg_wcallV (As := [.int (iI (((k : Nat) : Int)))]) (rest := []) (l1 := []) (l2 := []) (w := [(xa X 0, .inr (1, [.int (iI t), .ref ((xa X 1)), .ref ((xa X 2)), .ref ((xa X 3)), .ref ((xa X 4)), .int (iI (((sN S : Nat) : Int))), .int (iI (((sW S : Nat) : Int)))])), (xa X 1, .inl (xZ X, 12, .inl (fI (sS S)))), (xa X 2, .inl (xI X, 12, .inl (fI (sA S)))), (xa X 3, .inl (xI X, 12, .inl (fI (sU S)))), (xa X 4, .inl (xI X, 12, .inl (fI (sR S))))]) (w' := [(xa X 0, .inr (1, [.int (iI 0), .ref ((xa X 1)), .ref ((xa X 2)), .ref ((xa X 3)), .ref ((xa X 4)), .int (iI (((sN S : Nat) : Int))), .int (iI (((sW S : Nat) : Int)))])), (xa X 1, .inl (xZ X, 12, .inl (fI (sS S)))), (xa X 2, .inl (xI X, 12, .inl (fI (sA S)))), (xa X 3, .inl (xI X, 12, .inl (fI (sU S)))), (xa X 4, .inl (xI X, 12, .inl (fI (sR S))))]) SC (c_X1_isNoNumber_ok l X S t (((k : Nat) : Int)) (by omega)) pT_st pT_h (cwV 1 hts gX1_isThere_X1_isNoNumber rfl rfl rfl (by decide +kernel) ⟨Nat.le_of_ble_eq_true rfl, Nat.le_of_ble_eq_true rfl⟩) (va_recv hK hP (ci := 1) (q0 := 0) rfl rfl) hK hP hD hS rfl rfl hl.1 rfl (Nat.le_of_ble_eq_true rfl) dX1_isThere_2 ⟨Nat.zero_le _, Nat.zero_le _⟩ (fun H locs hP hD hS => ?_)
  have hP : va_P (xG X) vwCl ([(xa X 0, .inr (1, [.int (iI 0), .ref ((xa X 1)), .ref ((xa X 2)), .ref ((xa X 3)), .ref ((xa X 4)), .int (iI (((sN S : Nat) : Int))), .int (iI (((sW S : Nat) : Int)))])), (xa X 1, .inl (xZ X, 12, .inl (fI (sS S)))), (xa X 2, .inl (xI X, 12, .inl (fI (sA S)))), (xa X 3, .inl (xI X, 12, .inl (fI (sU S)))), (xa X 4, .inl (xI X, 12, .inl (fI (sR S))))]) H := hP
  have hD : va_D (pg_in ((mC X S t))) ([(xa X 0, .inr (1, [.int (iI 0), .ref ((xa X 1)), .ref ((xa X 2)), .ref ((xa X 3)), .ref ((xa X 4)), .int (iI (((sN S : Nat) : Int))), .int (iI (((sW S : Nat) : Int)))])), (xa X 1, .inl (xZ X, 12, .inl (fI (sS S)))), (xa X 2, .inl (xI X, 12, .inl (fI (sA S)))), (xa X 3, .inl (xI X, 12, .inl (fI (sU S)))), (xa X 4, .inl (xI X, 12, .inl (fI (sR S))))]) := hD
  refine pg_if_ne (tgt := 21) hx hb dX1_isThere_5 (by decide) (⟨by omega, by omega⟩) (fun hc1 => absurd hc1 (by omega)) (fun hc1 => ?_)
  refine lv_aload_n hx hb dX1_isThere_8 rfl (lv_at hl 0 rfl) ?_
  refine va_get (D := xG X) (ci := 1) (v := .ref ((xa X 1))) (C := RX1) (T := TX1) (N := 7) hx hb hts hin hown hK hP 0 rfl rfl 1 (by decide) (hts (.fieldLink RX1 7 "PegfieldModel" "stands" "[Z") (by decide +kernel)) (fun _ h9 => h9) rfl dX1_isThere_9 ?_
  refine lv_iload_n hx hb dX1_isThere_12 rfl (lv_at hl 1 rfl) ?_
  refine pg_zald hx hb hK hP 1 0 (f := (sS S)) rfl rfl k (rfl) (by omega) (by decide) dX1_isThere_13 ?_
  refine pg_if_eq (tgt := 21) hx hb dX1_isThere_14 (by decide) (⟨by omega, by omega⟩) (fun hc2 => ?_) (fun hc2 => ?_)
  · refine lv_iconst (v := iI 0) hx hb dX1_isThere_21 rfl ?_
    exact pg_wzret hx hb hr hlk hP hS  (iI_bool (by omega)) (congrArg (fun z : Int => some (Value.int (iI z))) (show ((sS S k : Nat) : Int) = 0 by omega)) dX1_isThere_22
  · refine lv_iconst (v := iI 1) hx hb dX1_isThere_17 rfl ?_
    refine lv_goto (tgt := 22) hx hb dX1_isThere_18 (by decide) ?_
    exact pg_wzret hx hb hr hlk hP hS  (iI_bool (by omega)) (congrArg (fun z : Int => some (Value.int (iI z))) (show ((sS S k : Nat) : Int) = 1 by omega)) dX1_isThere_22
set_option maxRecDepth 100000 in
set_option maxHeartbeats 4000000 in
theorem c_X1_isThere_1 (l : Launch) (X : pgX) (S : pgS) (t : Int) (pp : Int) (hp : inI pp) (h : pp < 0 ∨ 12 ≤ pp)  : pg_wr l yX1_isThere wsX1_isThere (rm 2 43) (xG X) (xTy X) pT (mC X S t) (mC X S 1) 0 0 [.ref ((xa X 0)), .int (iI pp)] (some (.int (iI 0))) := by
  refine pg_wr_of (cc := cX1_isThere) (maxL := 2) (ret := (some .boolean)) (by decide) rfl (Nat.le_of_ble_eq_true rfl) ?_
  intro p e s m below meth c ls SC hr hlk hP hK hD hS hB hl
  obtain ⟨hx, hb, hml, hown, hts⟩ := id SC
  have hown : s.vm.findClass RX1 = some m.cls := hown
  have hl : lv_has ls 2 [(0, .ref ((xa X 0))), (1, .int (iI pp))] := hl
  refine lv_aload_n hx hb dX1_isThere_0 rfl (lv_at hl 0 rfl) ?_
  refine lv_iload_n hx hb dX1_isThere_1 rfl (lv_at hl 1 rfl) ?_
  refine pg_wcallV (As := [.int (iI pp)]) (rest := []) (l1 := []) (l2 := []) (w := [(xa X 0, .inr (1, [.int (iI t), .ref ((xa X 1)), .ref ((xa X 2)), .ref ((xa X 3)), .ref ((xa X 4)), .int (iI (((sN S : Nat) : Int))), .int (iI (((sW S : Nat) : Int)))])), (xa X 1, .inl (xZ X, 12, .inl (fI (sS S)))), (xa X 2, .inl (xI X, 12, .inl (fI (sA S)))), (xa X 3, .inl (xI X, 12, .inl (fI (sU S)))), (xa X 4, .inl (xI X, 12, .inl (fI (sR S))))]) (w' := [(xa X 0, .inr (1, [.int (iI 1), .ref ((xa X 1)), .ref ((xa X 2)), .ref ((xa X 3)), .ref ((xa X 4)), .int (iI (((sN S : Nat) : Int))), .int (iI (((sW S : Nat) : Int)))])), (xa X 1, .inl (xZ X, 12, .inl (fI (sS S)))), (xa X 2, .inl (xI X, 12, .inl (fI (sA S)))), (xa X 3, .inl (xI X, 12, .inl (fI (sU S)))), (xa X 4, .inl (xI X, 12, .inl (fI (sR S))))]) SC (c_X1_isNoNumber_1 l X S t pp ⟨by omega, by omega⟩ (by omega)) pT_st pT_h (cwV 1 hts gX1_isThere_X1_isNoNumber rfl rfl rfl (by decide +kernel) ⟨Nat.le_of_ble_eq_true rfl, Nat.le_of_ble_eq_true rfl⟩) (va_recv hK hP (ci := 1) (q0 := 0) rfl rfl) hK hP hD hS rfl rfl hl.1 rfl (Nat.le_of_ble_eq_true rfl) dX1_isThere_2 ⟨Nat.zero_le _, Nat.zero_le _⟩ (fun H locs hP hD hS => ?_)
  have hP : va_P (xG X) vwCl ([(xa X 0, .inr (1, [.int (iI 1), .ref ((xa X 1)), .ref ((xa X 2)), .ref ((xa X 3)), .ref ((xa X 4)), .int (iI (((sN S : Nat) : Int))), .int (iI (((sW S : Nat) : Int)))])), (xa X 1, .inl (xZ X, 12, .inl (fI (sS S)))), (xa X 2, .inl (xI X, 12, .inl (fI (sA S)))), (xa X 3, .inl (xI X, 12, .inl (fI (sU S)))), (xa X 4, .inl (xI X, 12, .inl (fI (sR S))))]) H := hP
  have hD : va_D (pg_in ((mC X S t))) ([(xa X 0, .inr (1, [.int (iI 1), .ref ((xa X 1)), .ref ((xa X 2)), .ref ((xa X 3)), .ref ((xa X 4)), .int (iI (((sN S : Nat) : Int))), .int (iI (((sW S : Nat) : Int)))])), (xa X 1, .inl (xZ X, 12, .inl (fI (sS S)))), (xa X 2, .inl (xI X, 12, .inl (fI (sA S)))), (xa X 3, .inl (xI X, 12, .inl (fI (sU S)))), (xa X 4, .inl (xI X, 12, .inl (fI (sR S))))]) := hD
  refine pg_if_ne (tgt := 21) hx hb dX1_isThere_5 (by decide) (⟨by omega, by omega⟩) (fun hc1 => ?_) (fun hc1 => absurd hc1 (by omega))
  refine lv_iconst (v := iI 0) hx hb dX1_isThere_21 rfl ?_
  exact pg_wzret hx hb hr hlk hP hS  (iI_bool (by omega)) (congrArg (fun z : Int => some (Value.int (iI z))) (show 0 = 0 by omega)) dX1_isThere_22
set_option maxRecDepth 100000 in
set_option maxHeartbeats 4000000 in
theorem c_X1_placeOf_ok (l : Launch) (X : pgX) (S : pgS) (t : Int) (k : Nat) (hk : k < 12) (h1 : sS S k = 1)  : pg_wr l yX1_placeOf wsX1_placeOf (rm 3 64) (xG X) (xTy X) pT (mC X S t) (mC X S 0) 0 0 [.ref ((xa X 0)), .int (iI (((k : Nat) : Int)))] (some (.int (iI (((sU S k * 91 + sA S k : Nat) : Int))))) := by
  refine pg_wr_of (cc := cX1_placeOf) (maxL := 2) (ret := (some .int)) (by decide) rfl (Nat.le_of_ble_eq_true rfl) ?_
  intro p e s m below meth c ls SC hr hlk hP hK hD hS hB hl
  obtain ⟨hx, hb, hml, hown, hts⟩ := id SC
  have hown : s.vm.findClass RX1 = some m.cls := hown
  have hl : lv_has ls 2 [(0, .ref ((xa X 0))), (1, .int (iI (((k : Nat) : Int))))] := hl
  refine lv_aload_n hx hb dX1_placeOf_0 rfl (lv_at hl 0 rfl) ?_
  refine lv_iload_n hx hb dX1_placeOf_1 rfl (lv_at hl 1 rfl) ?_
  refine pg_wcallV (As := [.int (iI (((k : Nat) : Int)))]) (rest := []) (l1 := []) (l2 := []) (w := [(xa X 0, .inr (1, [.int (iI t), .ref ((xa X 1)), .ref ((xa X 2)), .ref ((xa X 3)), .ref ((xa X 4)), .int (iI (((sN S : Nat) : Int))), .int (iI (((sW S : Nat) : Int)))])), (xa X 1, .inl (xZ X, 12, .inl (fI (sS S)))), (xa X 2, .inl (xI X, 12, .inl (fI (sA S)))), (xa X 3, .inl (xI X, 12, .inl (fI (sU S)))), (xa X 4, .inl (xI X, 12, .inl (fI (sR S))))]) (w' := [(xa X 0, .inr (1, [.int (iI 0), .ref ((xa X 1)), .ref ((xa X 2)), .ref ((xa X 3)), .ref ((xa X 4)), .int (iI (((sN S : Nat) : Int))), .int (iI (((sW S : Nat) : Int)))])), (xa X 1, .inl (xZ X, 12, .inl (fI (sS S)))), (xa X 2, .inl (xI X, 12, .inl (fI (sA S)))), (xa X 3, .inl (xI X, 12, .inl (fI (sU S)))), (xa X 4, .inl (xI X, 12, .inl (fI (sR S))))]) SC (c_X1_isNoPeg_ok l X S t k hk h1) pT_st pT_h (cwV 1 hts gX1_placeOf_X1_isNoPeg rfl rfl rfl (by decide +kernel) ⟨Nat.le_of_ble_eq_true rfl, Nat.le_of_ble_eq_true rfl⟩) (va_recv hK hP (ci := 1) (q0 := 0) rfl rfl) hK hP hD hS rfl rfl hl.1 rfl (Nat.le_of_ble_eq_true rfl) dX1_placeOf_2 ⟨Nat.zero_le _, Nat.zero_le _⟩ (fun H locs hP hD hS => ?_)
  have hP : va_P (xG X) vwCl ([(xa X 0, .inr (1, [.int (iI 0), .ref ((xa X 1)), .ref ((xa X 2)), .ref ((xa X 3)), .ref ((xa X 4)), .int (iI (((sN S : Nat) : Int))), .int (iI (((sW S : Nat) : Int)))])), (xa X 1, .inl (xZ X, 12, .inl (fI (sS S)))), (xa X 2, .inl (xI X, 12, .inl (fI (sA S)))), (xa X 3, .inl (xI X, 12, .inl (fI (sU S)))), (xa X 4, .inl (xI X, 12, .inl (fI (sR S))))]) H := hP
  have hD : va_D (pg_in ((mC X S t))) ([(xa X 0, .inr (1, [.int (iI 0), .ref ((xa X 1)), .ref ((xa X 2)), .ref ((xa X 3)), .ref ((xa X 4)), .int (iI (((sN S : Nat) : Int))), .int (iI (((sW S : Nat) : Int)))])), (xa X 1, .inl (xZ X, 12, .inl (fI (sS S)))), (xa X 2, .inl (xI X, 12, .inl (fI (sA S)))), (xa X 3, .inl (xI X, 12, .inl (fI (sU S)))), (xa X 4, .inl (xI X, 12, .inl (fI (sR S))))]) := hD
  refine pg_if_eq (tgt := 12) hx hb dX1_placeOf_5 (by decide) (⟨by omega, by omega⟩) (fun hc1 => ?_) (fun hc1 => absurd hc1 (by omega))
  refine lv_aload_n hx hb dX1_placeOf_12 rfl (lv_at hl 0 rfl) ?_
  refine lv_iload_n hx hb dX1_placeOf_13 rfl (lv_at hl 1 rfl) ?_
  refine pg_callV (As := [.int (iI (((k : Nat) : Int)))]) (rest := []) SC (c_X1_placed l X S 0 k hk) mB_st (mB_h hP hK) (cwV 1 hts gX1_placeOf_X1_placed rfl rfl rfl (by decide +kernel) ⟨Nat.le_of_ble_eq_true rfl, Nat.le_of_ble_eq_true rfl⟩) (va_recv hK hP (ci := 1) (q0 := 0) rfl rfl) rfl hl.1 rfl (Nat.le_of_ble_eq_true rfl) dX1_placeOf_14 ⟨Nat.zero_le _, Nat.zero_le _⟩ ?_
  exact pg_wiret hx hb hr hlk hP hS  (congrArg (fun z : Int => some (Value.int (iI z))) (show ((sU S k * 91 + sA S k : Nat) : Int) = ((sU S k * 91 + sA S k : Nat) : Int) by rfl)) dX1_placeOf_17
set_option maxRecDepth 100000 in
set_option maxHeartbeats 4000000 in
theorem c_X1_placeOf_1 (l : Launch) (X : pgX) (S : pgS) (t : Int) (pp : Int) (hp : inI pp) (h : pp < 0 ∨ 12 ≤ pp)  : pg_wr l yX1_placeOf wsX1_placeOf (rm 3 64) (xG X) (xTy X) pT (mC X S t) (mC X S 1) 0 0 [.ref ((xa X 0)), .int (iI pp)] (some (.int (iI 0))) := by
  refine pg_wr_of (cc := cX1_placeOf) (maxL := 2) (ret := (some .int)) (by decide) rfl (Nat.le_of_ble_eq_true rfl) ?_
  intro p e s m below meth c ls SC hr hlk hP hK hD hS hB hl
  obtain ⟨hx, hb, hml, hown, hts⟩ := id SC
  have hown : s.vm.findClass RX1 = some m.cls := hown
  have hl : lv_has ls 2 [(0, .ref ((xa X 0))), (1, .int (iI pp))] := hl
  refine lv_aload_n hx hb dX1_placeOf_0 rfl (lv_at hl 0 rfl) ?_
  refine lv_iload_n hx hb dX1_placeOf_1 rfl (lv_at hl 1 rfl) ?_
  refine pg_wcallV (As := [.int (iI pp)]) (rest := []) (l1 := []) (l2 := []) (w := [(xa X 0, .inr (1, [.int (iI t), .ref ((xa X 1)), .ref ((xa X 2)), .ref ((xa X 3)), .ref ((xa X 4)), .int (iI (((sN S : Nat) : Int))), .int (iI (((sW S : Nat) : Int)))])), (xa X 1, .inl (xZ X, 12, .inl (fI (sS S)))), (xa X 2, .inl (xI X, 12, .inl (fI (sA S)))), (xa X 3, .inl (xI X, 12, .inl (fI (sU S)))), (xa X 4, .inl (xI X, 12, .inl (fI (sR S))))]) (w' := [(xa X 0, .inr (1, [.int (iI 1), .ref ((xa X 1)), .ref ((xa X 2)), .ref ((xa X 3)), .ref ((xa X 4)), .int (iI (((sN S : Nat) : Int))), .int (iI (((sW S : Nat) : Int)))])), (xa X 1, .inl (xZ X, 12, .inl (fI (sS S)))), (xa X 2, .inl (xI X, 12, .inl (fI (sA S)))), (xa X 3, .inl (xI X, 12, .inl (fI (sU S)))), (xa X 4, .inl (xI X, 12, .inl (fI (sR S))))]) SC (c_X1_isNoPeg_1 l X S t pp ⟨by omega, by omega⟩ (by omega)) pT_st pT_h (cwV 1 hts gX1_placeOf_X1_isNoPeg rfl rfl rfl (by decide +kernel) ⟨Nat.le_of_ble_eq_true rfl, Nat.le_of_ble_eq_true rfl⟩) (va_recv hK hP (ci := 1) (q0 := 0) rfl rfl) hK hP hD hS rfl rfl hl.1 rfl (Nat.le_of_ble_eq_true rfl) dX1_placeOf_2 ⟨Nat.zero_le _, Nat.zero_le _⟩ (fun H locs hP hD hS => ?_)
  have hP : va_P (xG X) vwCl ([(xa X 0, .inr (1, [.int (iI 1), .ref ((xa X 1)), .ref ((xa X 2)), .ref ((xa X 3)), .ref ((xa X 4)), .int (iI (((sN S : Nat) : Int))), .int (iI (((sW S : Nat) : Int)))])), (xa X 1, .inl (xZ X, 12, .inl (fI (sS S)))), (xa X 2, .inl (xI X, 12, .inl (fI (sA S)))), (xa X 3, .inl (xI X, 12, .inl (fI (sU S)))), (xa X 4, .inl (xI X, 12, .inl (fI (sR S))))]) H := hP
  have hD : va_D (pg_in ((mC X S t))) ([(xa X 0, .inr (1, [.int (iI 1), .ref ((xa X 1)), .ref ((xa X 2)), .ref ((xa X 3)), .ref ((xa X 4)), .int (iI (((sN S : Nat) : Int))), .int (iI (((sW S : Nat) : Int)))])), (xa X 1, .inl (xZ X, 12, .inl (fI (sS S)))), (xa X 2, .inl (xI X, 12, .inl (fI (sA S)))), (xa X 3, .inl (xI X, 12, .inl (fI (sU S)))), (xa X 4, .inl (xI X, 12, .inl (fI (sR S))))]) := hD
  refine pg_if_eq (tgt := 12) hx hb dX1_placeOf_5 (by decide) (⟨by omega, by omega⟩) (fun hc1 => absurd hc1 (by omega)) (fun hc1 => ?_)
  refine lv_iconst (v := iI 0) hx hb dX1_placeOf_8 rfl ?_
  refine lv_goto (tgt := 17) hx hb dX1_placeOf_9 (by decide) ?_
  exact pg_wiret hx hb hr hlk hP hS  (congrArg (fun z : Int => some (Value.int (iI z))) (show 0 = 0 by omega)) dX1_placeOf_17
set_option maxRecDepth 100000 in
set_option maxHeartbeats 4000000 in
theorem c_X1_placeOf_2 (l : Launch) (X : pgX) (S : pgS) (t : Int) (k : Nat) (hk : k < 12) (h1 : sS S k = 0)  : pg_wr l yX1_placeOf wsX1_placeOf (rm 3 64) (xG X) (xTy X) pT (mC X S t) (mC X S 2) 0 0 [.ref ((xa X 0)), .int (iI (((k : Nat) : Int)))] (some (.int (iI 0))) := by
  refine pg_wr_of (cc := cX1_placeOf) (maxL := 2) (ret := (some .int)) (by decide) rfl (Nat.le_of_ble_eq_true rfl) ?_
  intro p e s m below meth c ls SC hr hlk hP hK hD hS hB hl
  obtain ⟨hx, hb, hml, hown, hts⟩ := id SC
  have hown : s.vm.findClass RX1 = some m.cls := hown
  have hl : lv_has ls 2 [(0, .ref ((xa X 0))), (1, .int (iI (((k : Nat) : Int))))] := hl
  refine lv_aload_n hx hb dX1_placeOf_0 rfl (lv_at hl 0 rfl) ?_
  refine lv_iload_n hx hb dX1_placeOf_1 rfl (lv_at hl 1 rfl) ?_
  refine pg_wcallV (As := [.int (iI (((k : Nat) : Int)))]) (rest := []) (l1 := []) (l2 := []) (w := [(xa X 0, .inr (1, [.int (iI t), .ref ((xa X 1)), .ref ((xa X 2)), .ref ((xa X 3)), .ref ((xa X 4)), .int (iI (((sN S : Nat) : Int))), .int (iI (((sW S : Nat) : Int)))])), (xa X 1, .inl (xZ X, 12, .inl (fI (sS S)))), (xa X 2, .inl (xI X, 12, .inl (fI (sA S)))), (xa X 3, .inl (xI X, 12, .inl (fI (sU S)))), (xa X 4, .inl (xI X, 12, .inl (fI (sR S))))]) (w' := [(xa X 0, .inr (1, [.int (iI 2), .ref ((xa X 1)), .ref ((xa X 2)), .ref ((xa X 3)), .ref ((xa X 4)), .int (iI (((sN S : Nat) : Int))), .int (iI (((sW S : Nat) : Int)))])), (xa X 1, .inl (xZ X, 12, .inl (fI (sS S)))), (xa X 2, .inl (xI X, 12, .inl (fI (sA S)))), (xa X 3, .inl (xI X, 12, .inl (fI (sU S)))), (xa X 4, .inl (xI X, 12, .inl (fI (sR S))))]) SC (c_X1_isNoPeg_2 l X S t k hk h1) pT_st pT_h (cwV 1 hts gX1_placeOf_X1_isNoPeg rfl rfl rfl (by decide +kernel) ⟨Nat.le_of_ble_eq_true rfl, Nat.le_of_ble_eq_true rfl⟩) (va_recv hK hP (ci := 1) (q0 := 0) rfl rfl) hK hP hD hS rfl rfl hl.1 rfl (Nat.le_of_ble_eq_true rfl) dX1_placeOf_2 ⟨Nat.zero_le _, Nat.zero_le _⟩ (fun H locs hP hD hS => ?_)
  have hP : va_P (xG X) vwCl ([(xa X 0, .inr (1, [.int (iI 2), .ref ((xa X 1)), .ref ((xa X 2)), .ref ((xa X 3)), .ref ((xa X 4)), .int (iI (((sN S : Nat) : Int))), .int (iI (((sW S : Nat) : Int)))])), (xa X 1, .inl (xZ X, 12, .inl (fI (sS S)))), (xa X 2, .inl (xI X, 12, .inl (fI (sA S)))), (xa X 3, .inl (xI X, 12, .inl (fI (sU S)))), (xa X 4, .inl (xI X, 12, .inl (fI (sR S))))]) H := hP
  have hD : va_D (pg_in ((mC X S t))) ([(xa X 0, .inr (1, [.int (iI 2), .ref ((xa X 1)), .ref ((xa X 2)), .ref ((xa X 3)), .ref ((xa X 4)), .int (iI (((sN S : Nat) : Int))), .int (iI (((sW S : Nat) : Int)))])), (xa X 1, .inl (xZ X, 12, .inl (fI (sS S)))), (xa X 2, .inl (xI X, 12, .inl (fI (sA S)))), (xa X 3, .inl (xI X, 12, .inl (fI (sU S)))), (xa X 4, .inl (xI X, 12, .inl (fI (sR S))))]) := hD
  refine pg_if_eq (tgt := 12) hx hb dX1_placeOf_5 (by decide) (⟨by omega, by omega⟩) (fun hc1 => absurd hc1 (by omega)) (fun hc1 => ?_)
  refine lv_iconst (v := iI 0) hx hb dX1_placeOf_8 rfl ?_
  refine lv_goto (tgt := 17) hx hb dX1_placeOf_9 (by decide) ?_
  exact pg_wiret hx hb hr hlk hP hS  (congrArg (fun z : Int => some (Value.int (iI z))) (show 0 = 0 by omega)) dX1_placeOf_17
set_option maxRecDepth 100000 in
set_option maxHeartbeats 4000000 in
theorem c_X1_widen (l : Launch) (X : pgX) (S : pgS) (t : Int) (w2 : Nat) (r : Int) (hw : sW S ≤ 1) (hw2 : w2 ≤ 1) (h : (sW S = w2 ∧ r = 0) ∨ (sW S ≠ w2 ∧ r = 1)) : pg_wr l yX1_widen wsX1_widen (rm 0 0) (xG X) (xTy X) pT (mC X S t) (mC X (sS S, sA S, sU S, sR S, sN S, w2) t) 0 0 [.ref ((xa X 0)), .int (iI (((w2 : Nat) : Int)))] (some (.int (iI r))) := by
  refine pg_wr_of (cc := cX1_widen) (maxL := 3) (ret := (some .boolean)) (by decide) rfl (Nat.le_of_ble_eq_true rfl) ?_
  intro p e s m below meth c ls SC hr hlk hP hK hD hS hB hl
  obtain ⟨hx, hb, hml, hown, hts⟩ := id SC
  have hown : s.vm.findClass RX1 = some m.cls := hown
  have hl : lv_has ls 3 [(0, .ref ((xa X 0))), (1, .int (iI (((w2 : Nat) : Int))))] := hl
  have hin : ∀ w ∈ u_ws RX1 TX1 7, w ∈ wsX1_widen := by decide +kernel
  refine lv_aload_n hx hb dX1_widen_0 rfl (lv_at hl 0 rfl) ?_
  refine va_get (D := xG X) (ci := 1) (v := .int (iI (((sW S : Nat) : Int)))) (C := RX1) (T := TX1) (N := 7) hx hb hts hin hown hK hP 0 rfl rfl 6 (by decide) (hts (.fieldLink RX1 72 "PegfieldModel" "isWide" "Z") (by decide +kernel)) (fun _ h9 => h9) rfl dX1_widen_1 ?_
  refine lv_istore_n (lv' := [(2, .int (iI (((sW S : Nat) : Int)))), (0, .ref ((xa X 0))), (1, .int (iI (((w2 : Nat) : Int))))]) hx hb dX1_widen_4 rfl hl (by decide) rfl (fun ls hl => ?_)
  refine lv_aload_n hx hb dX1_widen_5 rfl (lv_at hl 1 rfl) ?_
  refine lv_iload_n hx hb dX1_widen_6 rfl (lv_at hl 2 rfl) ?_
  refine va_put (D := xG X) (ci := 1) (v := .int (iI (((w2 : Nat) : Int)))) (ty := .boolean) (C := RX1) (T := TX1) (N := 7) hx hb hts hin tyX1 tyX1_ok nmX1 hown hK hP hD hS 0 rfl rfl 6 (by decide) (hts (.fieldLink RX1 72 "PegfieldModel" "isWide" "Z") (by decide +kernel)) (fun _ h9 => h9) rfl (by decide +kernel) (iI_bool (by omega)) (fits_bool (by omega)) (Nat.le_of_ble_eq_true rfl) dX1_widen_7 (fun H locs hP hD hS => ?_)
  have hP : va_P (xG X) vwCl ([(xa X 0, .inr (1, [.int (iI t), .ref ((xa X 1)), .ref ((xa X 2)), .ref ((xa X 3)), .ref ((xa X 4)), .int (iI (((sN S : Nat) : Int))), .int (iI (((w2 : Nat) : Int)))])), (xa X 1, .inl (xZ X, 12, .inl (fI (sS S)))), (xa X 2, .inl (xI X, 12, .inl (fI (sA S)))), (xa X 3, .inl (xI X, 12, .inl (fI (sU S)))), (xa X 4, .inl (xI X, 12, .inl (fI (sR S))))]) H := hP
  have hD : va_D (pg_in ((mC X S t))) ([(xa X 0, .inr (1, [.int (iI t), .ref ((xa X 1)), .ref ((xa X 2)), .ref ((xa X 3)), .ref ((xa X 4)), .int (iI (((sN S : Nat) : Int))), .int (iI (((w2 : Nat) : Int)))])), (xa X 1, .inl (xZ X, 12, .inl (fI (sS S)))), (xa X 2, .inl (xI X, 12, .inl (fI (sA S)))), (xa X 3, .inl (xI X, 12, .inl (fI (sU S)))), (xa X 4, .inl (xI X, 12, .inl (fI (sR S))))]) := hD
  refine lv_iload_n hx hb dX1_widen_10 rfl (lv_at hl 0 rfl) ?_
  refine lv_iload_n hx hb dX1_widen_11 rfl (lv_at hl 2 rfl) ?_
  refine pg_icmp_eq (tgt := 19) hx hb dX1_widen_12 (by decide) (⟨by omega, by omega⟩) (⟨by omega, by omega⟩) (fun hc1 => ?_) (fun hc1 => ?_)
  · refine lv_iconst (v := iI 0) hx hb dX1_widen_19 rfl ?_
    exact pg_wzret hx hb hr hlk hP hS  (iI_bool (by omega)) (congrArg (fun z : Int => some (Value.int (iI z))) (show r = 0 by omega)) dX1_widen_20
  · refine lv_iconst (v := iI 1) hx hb dX1_widen_15 rfl ?_
    refine lv_goto (tgt := 20) hx hb dX1_widen_16 (by decide) ?_
    exact pg_wzret hx hb hr hlk hP hS  (iI_bool (by omega)) (congrArg (fun z : Int => some (Value.int (iI z))) (show r = 1 by omega)) dX1_widen_20
set_option maxRecDepth 100000 in
set_option maxHeartbeats 4000000 in
theorem c_X1_stretch_ok (l : Launch) (X : pgX) (S : pgS) (t : Int) (hok : pgOk S) (a b : Nat) (ha : a < 12) (hb2 : b < 12) (sa : sS S a = 1) (sb : sS S b = 1) : pg_wr l yX1_stretch wsX1_stretch (rm 3 74) (xG X) (xTy X) pT (mC X S t) (mC X S 0) 0 0 [.ref ((xa X 0)), .int (iI (((a : Nat) : Int))), .int (iI (((b : Nat) : Int)))] (some (.int (iI (((gN S a b : Nat) : Int))))) := by
  refine pg_wr_of (cc := cX1_stretch) (maxL := 3) (ret := (some .int)) (by decide) rfl (Nat.le_of_ble_eq_true rfl) ?_
  intro p e s m below meth c ls SC hr hlk hP hK hD hS hB hl
  obtain ⟨hx, hb, hml, hown, hts⟩ := id SC
  have hown : s.vm.findClass RX1 = some m.cls := hown
  have hl : lv_has ls 3 [(0, .ref ((xa X 0))), (1, .int (iI (((a : Nat) : Int)))), (2, .int (iI (((b : Nat) : Int))))] := hl
  refine lv_aload_n hx hb dX1_stretch_0 rfl (lv_at hl 0 rfl) ?_
  refine lv_iload_n hx hb dX1_stretch_1 rfl (lv_at hl 1 rfl) ?_
  refine lv_iload_n hx hb dX1_stretch_2 rfl (lv_at hl 2 rfl) ?_
  refine pg_wcallV (As := [.int (iI (((a : Nat) : Int))), .int (iI (((b : Nat) : Int)))]) (rest := []) (l1 := []) (l2 := []) (w := [(xa X 0, .inr (1, [.int (iI t), .ref ((xa X 1)), .ref ((xa X 2)), .ref ((xa X 3)), .ref ((xa X 4)), .int (iI (((sN S : Nat) : Int))), .int (iI (((sW S : Nat) : Int)))])), (xa X 1, .inl (xZ X, 12, .inl (fI (sS S)))), (xa X 2, .inl (xI X, 12, .inl (fI (sA S)))), (xa X 3, .inl (xI X, 12, .inl (fI (sU S)))), (xa X 4, .inl (xI X, 12, .inl (fI (sR S))))]) (w' := [(xa X 0, .inr (1, [.int (iI 0), .ref ((xa X 1)), .ref ((xa X 2)), .ref ((xa X 3)), .ref ((xa X 4)), .int (iI (((sN S : Nat) : Int))), .int (iI (((sW S : Nat) : Int)))])), (xa X 1, .inl (xZ X, 12, .inl (fI (sS S)))), (xa X 2, .inl (xI X, 12, .inl (fI (sA S)))), (xa X 3, .inl (xI X, 12, .inl (fI (sU S)))), (xa X 4, .inl (xI X, 12, .inl (fI (sR S))))]) SC (c_X1_isNoPair_ok l X S t a b ha hb2 sa sb) pT_st pT_h (cwV 2 hts gX1_stretch_X1_isNoPair rfl rfl rfl (by decide +kernel) ⟨Nat.le_of_ble_eq_true rfl, Nat.le_of_ble_eq_true rfl⟩) (va_recv hK hP (ci := 1) (q0 := 0) rfl rfl) hK hP hD hS rfl rfl hl.1 rfl (Nat.le_of_ble_eq_true rfl) dX1_stretch_3 ⟨Nat.zero_le _, Nat.zero_le _⟩ (fun H locs hP hD hS => ?_)
  have hP : va_P (xG X) vwCl ([(xa X 0, .inr (1, [.int (iI 0), .ref ((xa X 1)), .ref ((xa X 2)), .ref ((xa X 3)), .ref ((xa X 4)), .int (iI (((sN S : Nat) : Int))), .int (iI (((sW S : Nat) : Int)))])), (xa X 1, .inl (xZ X, 12, .inl (fI (sS S)))), (xa X 2, .inl (xI X, 12, .inl (fI (sA S)))), (xa X 3, .inl (xI X, 12, .inl (fI (sU S)))), (xa X 4, .inl (xI X, 12, .inl (fI (sR S))))]) H := hP
  have hD : va_D (pg_in ((mC X S t))) ([(xa X 0, .inr (1, [.int (iI 0), .ref ((xa X 1)), .ref ((xa X 2)), .ref ((xa X 3)), .ref ((xa X 4)), .int (iI (((sN S : Nat) : Int))), .int (iI (((sW S : Nat) : Int)))])), (xa X 1, .inl (xZ X, 12, .inl (fI (sS S)))), (xa X 2, .inl (xI X, 12, .inl (fI (sA S)))), (xa X 3, .inl (xI X, 12, .inl (fI (sU S)))), (xa X 4, .inl (xI X, 12, .inl (fI (sR S))))]) := hD
  refine pg_if_eq (tgt := 13) hx hb dX1_stretch_6 (by decide) (⟨by omega, by omega⟩) (fun hc1 => ?_) (fun hc1 => absurd hc1 (by omega))
  refine lv_aload_n hx hb dX1_stretch_13 rfl (lv_at hl 0 rfl) ?_
  refine lv_iload_n hx hb dX1_stretch_14 rfl (lv_at hl 1 rfl) ?_
  refine lv_iload_n hx hb dX1_stretch_15 rfl (lv_at hl 2 rfl) ?_
  refine pg_callV (As := [.int (iI (((a : Nat) : Int))), .int (iI (((b : Nat) : Int)))]) (rest := []) SC (c_X1_grainsOf l X S 0 hok a b (by omega) (by omega)) mB_st (mB_h hP hK) (cwV 2 hts gX1_stretch_X1_grainsOf rfl rfl rfl (by decide +kernel) ⟨Nat.le_of_ble_eq_true rfl, Nat.le_of_ble_eq_true rfl⟩) (va_recv hK hP (ci := 1) (q0 := 0) rfl rfl) rfl hl.1 rfl (Nat.le_of_ble_eq_true rfl) dX1_stretch_16 ⟨Nat.zero_le _, Nat.zero_le _⟩ ?_
  exact pg_wiret hx hb hr hlk hP hS  (congrArg (fun z : Int => some (Value.int (iI z))) (show ((gN S a b : Nat) : Int) = ((gN S a b : Nat) : Int) by rfl)) dX1_stretch_19
set_option maxRecDepth 100000 in
set_option maxHeartbeats 4000000 in
theorem c_X1_stretch_1 (l : Launch) (X : pgX) (S : pgS) (t : Int) (pp qq : Int) (hp : inI pp) (hq : inI qq) (h : pp < 0 ∨ 12 ≤ pp ∨ qq < 0 ∨ 12 ≤ qq) : pg_wr l yX1_stretch wsX1_stretch (rm 3 65) (xG X) (xTy X) pT (mC X S t) (mC X S 1) 0 0 [.ref ((xa X 0)), .int (iI pp), .int (iI qq)] (some (.int (iI 0))) := by
  refine pg_wr_of (cc := cX1_stretch) (maxL := 3) (ret := (some .int)) (by decide) rfl (Nat.le_of_ble_eq_true rfl) ?_
  intro p e s m below meth c ls SC hr hlk hP hK hD hS hB hl
  obtain ⟨hx, hb, hml, hown, hts⟩ := id SC
  have hown : s.vm.findClass RX1 = some m.cls := hown
  have hl : lv_has ls 3 [(0, .ref ((xa X 0))), (1, .int (iI pp)), (2, .int (iI qq))] := hl
  refine lv_aload_n hx hb dX1_stretch_0 rfl (lv_at hl 0 rfl) ?_
  refine lv_iload_n hx hb dX1_stretch_1 rfl (lv_at hl 1 rfl) ?_
  refine lv_iload_n hx hb dX1_stretch_2 rfl (lv_at hl 2 rfl) ?_
  refine pg_wcallV (As := [.int (iI pp), .int (iI qq)]) (rest := []) (l1 := []) (l2 := []) (w := [(xa X 0, .inr (1, [.int (iI t), .ref ((xa X 1)), .ref ((xa X 2)), .ref ((xa X 3)), .ref ((xa X 4)), .int (iI (((sN S : Nat) : Int))), .int (iI (((sW S : Nat) : Int)))])), (xa X 1, .inl (xZ X, 12, .inl (fI (sS S)))), (xa X 2, .inl (xI X, 12, .inl (fI (sA S)))), (xa X 3, .inl (xI X, 12, .inl (fI (sU S)))), (xa X 4, .inl (xI X, 12, .inl (fI (sR S))))]) (w' := [(xa X 0, .inr (1, [.int (iI 1), .ref ((xa X 1)), .ref ((xa X 2)), .ref ((xa X 3)), .ref ((xa X 4)), .int (iI (((sN S : Nat) : Int))), .int (iI (((sW S : Nat) : Int)))])), (xa X 1, .inl (xZ X, 12, .inl (fI (sS S)))), (xa X 2, .inl (xI X, 12, .inl (fI (sA S)))), (xa X 3, .inl (xI X, 12, .inl (fI (sU S)))), (xa X 4, .inl (xI X, 12, .inl (fI (sR S))))]) SC (c_X1_isNoPair_1 l X S t pp qq hp hq h) pT_st pT_h (cwV 2 hts gX1_stretch_X1_isNoPair rfl rfl rfl (by decide +kernel) ⟨Nat.le_of_ble_eq_true rfl, Nat.le_of_ble_eq_true rfl⟩) (va_recv hK hP (ci := 1) (q0 := 0) rfl rfl) hK hP hD hS rfl rfl hl.1 rfl (Nat.le_of_ble_eq_true rfl) dX1_stretch_3 ⟨Nat.zero_le _, Nat.zero_le _⟩ (fun H locs hP hD hS => ?_)
  have hP : va_P (xG X) vwCl ([(xa X 0, .inr (1, [.int (iI 1), .ref ((xa X 1)), .ref ((xa X 2)), .ref ((xa X 3)), .ref ((xa X 4)), .int (iI (((sN S : Nat) : Int))), .int (iI (((sW S : Nat) : Int)))])), (xa X 1, .inl (xZ X, 12, .inl (fI (sS S)))), (xa X 2, .inl (xI X, 12, .inl (fI (sA S)))), (xa X 3, .inl (xI X, 12, .inl (fI (sU S)))), (xa X 4, .inl (xI X, 12, .inl (fI (sR S))))]) H := hP
  have hD : va_D (pg_in ((mC X S t))) ([(xa X 0, .inr (1, [.int (iI 1), .ref ((xa X 1)), .ref ((xa X 2)), .ref ((xa X 3)), .ref ((xa X 4)), .int (iI (((sN S : Nat) : Int))), .int (iI (((sW S : Nat) : Int)))])), (xa X 1, .inl (xZ X, 12, .inl (fI (sS S)))), (xa X 2, .inl (xI X, 12, .inl (fI (sA S)))), (xa X 3, .inl (xI X, 12, .inl (fI (sU S)))), (xa X 4, .inl (xI X, 12, .inl (fI (sR S))))]) := hD
  refine pg_if_eq (tgt := 13) hx hb dX1_stretch_6 (by decide) (⟨by omega, by omega⟩) (fun hc1 => absurd hc1 (by omega)) (fun hc1 => ?_)
  refine lv_iconst (v := iI 0) hx hb dX1_stretch_9 rfl ?_
  refine lv_goto (tgt := 19) hx hb dX1_stretch_10 (by decide) ?_
  exact pg_wiret hx hb hr hlk hP hS  (congrArg (fun z : Int => some (Value.int (iI z))) (show 0 = 0 by omega)) dX1_stretch_19
set_option maxRecDepth 100000 in
set_option maxHeartbeats 4000000 in
theorem c_X1_stretch_2 (l : Launch) (X : pgX) (S : pgS) (t : Int) (a b : Nat) (ha : a < 12) (hb2 : b < 12) (h : sS S a = 0 ∨ sS S b = 0) (h1 : sS S a ≤ 1) (h2 : sS S b ≤ 1) : pg_wr l yX1_stretch wsX1_stretch (rm 3 65) (xG X) (xTy X) pT (mC X S t) (mC X S 2) 0 0 [.ref ((xa X 0)), .int (iI (((a : Nat) : Int))), .int (iI (((b : Nat) : Int)))] (some (.int (iI 0))) := by
  refine pg_wr_of (cc := cX1_stretch) (maxL := 3) (ret := (some .int)) (by decide) rfl (Nat.le_of_ble_eq_true rfl) ?_
  intro p e s m below meth c ls SC hr hlk hP hK hD hS hB hl
  obtain ⟨hx, hb, hml, hown, hts⟩ := id SC
  have hown : s.vm.findClass RX1 = some m.cls := hown
  have hl : lv_has ls 3 [(0, .ref ((xa X 0))), (1, .int (iI (((a : Nat) : Int)))), (2, .int (iI (((b : Nat) : Int))))] := hl
  refine lv_aload_n hx hb dX1_stretch_0 rfl (lv_at hl 0 rfl) ?_
  refine lv_iload_n hx hb dX1_stretch_1 rfl (lv_at hl 1 rfl) ?_
  refine lv_iload_n hx hb dX1_stretch_2 rfl (lv_at hl 2 rfl) ?_
  refine pg_wcallV (As := [.int (iI (((a : Nat) : Int))), .int (iI (((b : Nat) : Int)))]) (rest := []) (l1 := []) (l2 := []) (w := [(xa X 0, .inr (1, [.int (iI t), .ref ((xa X 1)), .ref ((xa X 2)), .ref ((xa X 3)), .ref ((xa X 4)), .int (iI (((sN S : Nat) : Int))), .int (iI (((sW S : Nat) : Int)))])), (xa X 1, .inl (xZ X, 12, .inl (fI (sS S)))), (xa X 2, .inl (xI X, 12, .inl (fI (sA S)))), (xa X 3, .inl (xI X, 12, .inl (fI (sU S)))), (xa X 4, .inl (xI X, 12, .inl (fI (sR S))))]) (w' := [(xa X 0, .inr (1, [.int (iI 2), .ref ((xa X 1)), .ref ((xa X 2)), .ref ((xa X 3)), .ref ((xa X 4)), .int (iI (((sN S : Nat) : Int))), .int (iI (((sW S : Nat) : Int)))])), (xa X 1, .inl (xZ X, 12, .inl (fI (sS S)))), (xa X 2, .inl (xI X, 12, .inl (fI (sA S)))), (xa X 3, .inl (xI X, 12, .inl (fI (sU S)))), (xa X 4, .inl (xI X, 12, .inl (fI (sR S))))]) SC (c_X1_isNoPair_2 l X S t a b ha hb2 h h1 h2) pT_st pT_h (cwV 2 hts gX1_stretch_X1_isNoPair rfl rfl rfl (by decide +kernel) ⟨Nat.le_of_ble_eq_true rfl, Nat.le_of_ble_eq_true rfl⟩) (va_recv hK hP (ci := 1) (q0 := 0) rfl rfl) hK hP hD hS rfl rfl hl.1 rfl (Nat.le_of_ble_eq_true rfl) dX1_stretch_3 ⟨Nat.zero_le _, Nat.zero_le _⟩ (fun H locs hP hD hS => ?_)
  have hP : va_P (xG X) vwCl ([(xa X 0, .inr (1, [.int (iI 2), .ref ((xa X 1)), .ref ((xa X 2)), .ref ((xa X 3)), .ref ((xa X 4)), .int (iI (((sN S : Nat) : Int))), .int (iI (((sW S : Nat) : Int)))])), (xa X 1, .inl (xZ X, 12, .inl (fI (sS S)))), (xa X 2, .inl (xI X, 12, .inl (fI (sA S)))), (xa X 3, .inl (xI X, 12, .inl (fI (sU S)))), (xa X 4, .inl (xI X, 12, .inl (fI (sR S))))]) H := hP
  have hD : va_D (pg_in ((mC X S t))) ([(xa X 0, .inr (1, [.int (iI 2), .ref ((xa X 1)), .ref ((xa X 2)), .ref ((xa X 3)), .ref ((xa X 4)), .int (iI (((sN S : Nat) : Int))), .int (iI (((sW S : Nat) : Int)))])), (xa X 1, .inl (xZ X, 12, .inl (fI (sS S)))), (xa X 2, .inl (xI X, 12, .inl (fI (sA S)))), (xa X 3, .inl (xI X, 12, .inl (fI (sU S)))), (xa X 4, .inl (xI X, 12, .inl (fI (sR S))))]) := hD
  refine pg_if_eq (tgt := 13) hx hb dX1_stretch_6 (by decide) (⟨by omega, by omega⟩) (fun hc1 => absurd hc1 (by omega)) (fun hc1 => ?_)
  refine lv_iconst (v := iI 0) hx hb dX1_stretch_9 rfl ?_
  refine lv_goto (tgt := 19) hx hb dX1_stretch_10 (by decide) ?_
  exact pg_wiret hx hb hr hlk hP hS  (congrArg (fun z : Int => some (Value.int (iI z))) (show 0 = 0 by omega)) dX1_stretch_19
set_option maxRecDepth 100000 in
set_option maxHeartbeats 4000000 in
theorem c_X1_isSteady_ok (l : Launch) (X : pgX) (S : pgS) (t : Int) (a b : Nat) (ha : a < 12) (hb2 : b < 12) (sa : sS S a = 1) (sb : sS S b = 1) : pg_wr l yX1_isSteady wsX1_isSteady (rm 3 65) (xG X) (xTy X) pT (mC X S t) (mC X S 0) 0 0 [.ref ((xa X 0)), .int (iI (((a : Nat) : Int))), .int (iI (((b : Nat) : Int)))] (some (.int (iI 1))) := by
  refine pg_wr_of (cc := cX1_isSteady) (maxL := 3) (ret := (some .boolean)) (by decide) rfl (Nat.le_of_ble_eq_true rfl) ?_
  intro p e s m below meth c ls SC hr hlk hP hK hD hS hB hl
  obtain ⟨hx, hb, hml, hown, hts⟩ := id SC
  have hown : s.vm.findClass RX1 = some m.cls := hown
  have hl : lv_has ls 3 [(0, .ref ((xa X 0))), (1, .int (iI (((a : Nat) : Int)))), (2, .int (iI (((b : Nat) : Int))))] := hl
  refine lv_aload_n hx hb dX1_isSteady_0 rfl (lv_at hl 0 rfl) ?_
  refine lv_iload_n hx hb dX1_isSteady_1 rfl (lv_at hl 1 rfl) ?_
  refine lv_iload_n hx hb dX1_isSteady_2 rfl (lv_at hl 2 rfl) ?_
  refine pg_wcallV (As := [.int (iI (((a : Nat) : Int))), .int (iI (((b : Nat) : Int)))]) (rest := []) (l1 := []) (l2 := []) (w := [(xa X 0, .inr (1, [.int (iI t), .ref ((xa X 1)), .ref ((xa X 2)), .ref ((xa X 3)), .ref ((xa X 4)), .int (iI (((sN S : Nat) : Int))), .int (iI (((sW S : Nat) : Int)))])), (xa X 1, .inl (xZ X, 12, .inl (fI (sS S)))), (xa X 2, .inl (xI X, 12, .inl (fI (sA S)))), (xa X 3, .inl (xI X, 12, .inl (fI (sU S)))), (xa X 4, .inl (xI X, 12, .inl (fI (sR S))))]) (w' := [(xa X 0, .inr (1, [.int (iI 0), .ref ((xa X 1)), .ref ((xa X 2)), .ref ((xa X 3)), .ref ((xa X 4)), .int (iI (((sN S : Nat) : Int))), .int (iI (((sW S : Nat) : Int)))])), (xa X 1, .inl (xZ X, 12, .inl (fI (sS S)))), (xa X 2, .inl (xI X, 12, .inl (fI (sA S)))), (xa X 3, .inl (xI X, 12, .inl (fI (sU S)))), (xa X 4, .inl (xI X, 12, .inl (fI (sR S))))]) SC (c_X1_isNoPair_ok l X S t a b ha hb2 sa sb) pT_st pT_h (cwV 2 hts gX1_isSteady_X1_isNoPair rfl rfl rfl (by decide +kernel) ⟨Nat.le_of_ble_eq_true rfl, Nat.le_of_ble_eq_true rfl⟩) (va_recv hK hP (ci := 1) (q0 := 0) rfl rfl) hK hP hD hS rfl rfl hl.1 rfl (Nat.le_of_ble_eq_true rfl) dX1_isSteady_3 ⟨Nat.zero_le _, Nat.zero_le _⟩ (fun H locs hP hD hS => ?_)
  have hP : va_P (xG X) vwCl ([(xa X 0, .inr (1, [.int (iI 0), .ref ((xa X 1)), .ref ((xa X 2)), .ref ((xa X 3)), .ref ((xa X 4)), .int (iI (((sN S : Nat) : Int))), .int (iI (((sW S : Nat) : Int)))])), (xa X 1, .inl (xZ X, 12, .inl (fI (sS S)))), (xa X 2, .inl (xI X, 12, .inl (fI (sA S)))), (xa X 3, .inl (xI X, 12, .inl (fI (sU S)))), (xa X 4, .inl (xI X, 12, .inl (fI (sR S))))]) H := hP
  have hD : va_D (pg_in ((mC X S t))) ([(xa X 0, .inr (1, [.int (iI 0), .ref ((xa X 1)), .ref ((xa X 2)), .ref ((xa X 3)), .ref ((xa X 4)), .int (iI (((sN S : Nat) : Int))), .int (iI (((sW S : Nat) : Int)))])), (xa X 1, .inl (xZ X, 12, .inl (fI (sS S)))), (xa X 2, .inl (xI X, 12, .inl (fI (sA S)))), (xa X 3, .inl (xI X, 12, .inl (fI (sU S)))), (xa X 4, .inl (xI X, 12, .inl (fI (sR S))))]) := hD
  refine pg_if_ne (tgt := 13) hx hb dX1_isSteady_6 (by decide) (⟨by omega, by omega⟩) (fun hc1 => absurd hc1 (by omega)) (fun hc1 => ?_)
  refine lv_iconst (v := iI 1) hx hb dX1_isSteady_9 rfl ?_
  refine lv_goto (tgt := 14) hx hb dX1_isSteady_10 (by decide) ?_
  exact pg_wzret hx hb hr hlk hP hS  (iI_bool (by omega)) (congrArg (fun z : Int => some (Value.int (iI z))) (show 1 = 1 by omega)) dX1_isSteady_14
set_option maxRecDepth 100000 in
set_option maxHeartbeats 4000000 in
theorem c_X1_isSteady_1 (l : Launch) (X : pgX) (S : pgS) (t : Int) (pp qq : Int) (hp : inI pp) (hq : inI qq) (h : pp < 0 ∨ 12 ≤ pp ∨ qq < 0 ∨ 12 ≤ qq) : pg_wr l yX1_isSteady wsX1_isSteady (rm 3 65) (xG X) (xTy X) pT (mC X S t) (mC X S 1) 0 0 [.ref ((xa X 0)), .int (iI pp), .int (iI qq)] (some (.int (iI 0))) := by
  refine pg_wr_of (cc := cX1_isSteady) (maxL := 3) (ret := (some .boolean)) (by decide) rfl (Nat.le_of_ble_eq_true rfl) ?_
  intro p e s m below meth c ls SC hr hlk hP hK hD hS hB hl
  obtain ⟨hx, hb, hml, hown, hts⟩ := id SC
  have hown : s.vm.findClass RX1 = some m.cls := hown
  have hl : lv_has ls 3 [(0, .ref ((xa X 0))), (1, .int (iI pp)), (2, .int (iI qq))] := hl
  refine lv_aload_n hx hb dX1_isSteady_0 rfl (lv_at hl 0 rfl) ?_
  refine lv_iload_n hx hb dX1_isSteady_1 rfl (lv_at hl 1 rfl) ?_
  refine lv_iload_n hx hb dX1_isSteady_2 rfl (lv_at hl 2 rfl) ?_
  refine pg_wcallV (As := [.int (iI pp), .int (iI qq)]) (rest := []) (l1 := []) (l2 := []) (w := [(xa X 0, .inr (1, [.int (iI t), .ref ((xa X 1)), .ref ((xa X 2)), .ref ((xa X 3)), .ref ((xa X 4)), .int (iI (((sN S : Nat) : Int))), .int (iI (((sW S : Nat) : Int)))])), (xa X 1, .inl (xZ X, 12, .inl (fI (sS S)))), (xa X 2, .inl (xI X, 12, .inl (fI (sA S)))), (xa X 3, .inl (xI X, 12, .inl (fI (sU S)))), (xa X 4, .inl (xI X, 12, .inl (fI (sR S))))]) (w' := [(xa X 0, .inr (1, [.int (iI 1), .ref ((xa X 1)), .ref ((xa X 2)), .ref ((xa X 3)), .ref ((xa X 4)), .int (iI (((sN S : Nat) : Int))), .int (iI (((sW S : Nat) : Int)))])), (xa X 1, .inl (xZ X, 12, .inl (fI (sS S)))), (xa X 2, .inl (xI X, 12, .inl (fI (sA S)))), (xa X 3, .inl (xI X, 12, .inl (fI (sU S)))), (xa X 4, .inl (xI X, 12, .inl (fI (sR S))))]) SC (c_X1_isNoPair_1 l X S t pp qq hp hq h) pT_st pT_h (cwV 2 hts gX1_isSteady_X1_isNoPair rfl rfl rfl (by decide +kernel) ⟨Nat.le_of_ble_eq_true rfl, Nat.le_of_ble_eq_true rfl⟩) (va_recv hK hP (ci := 1) (q0 := 0) rfl rfl) hK hP hD hS rfl rfl hl.1 rfl (Nat.le_of_ble_eq_true rfl) dX1_isSteady_3 ⟨Nat.zero_le _, Nat.zero_le _⟩ (fun H locs hP hD hS => ?_)
  have hP : va_P (xG X) vwCl ([(xa X 0, .inr (1, [.int (iI 1), .ref ((xa X 1)), .ref ((xa X 2)), .ref ((xa X 3)), .ref ((xa X 4)), .int (iI (((sN S : Nat) : Int))), .int (iI (((sW S : Nat) : Int)))])), (xa X 1, .inl (xZ X, 12, .inl (fI (sS S)))), (xa X 2, .inl (xI X, 12, .inl (fI (sA S)))), (xa X 3, .inl (xI X, 12, .inl (fI (sU S)))), (xa X 4, .inl (xI X, 12, .inl (fI (sR S))))]) H := hP
  have hD : va_D (pg_in ((mC X S t))) ([(xa X 0, .inr (1, [.int (iI 1), .ref ((xa X 1)), .ref ((xa X 2)), .ref ((xa X 3)), .ref ((xa X 4)), .int (iI (((sN S : Nat) : Int))), .int (iI (((sW S : Nat) : Int)))])), (xa X 1, .inl (xZ X, 12, .inl (fI (sS S)))), (xa X 2, .inl (xI X, 12, .inl (fI (sA S)))), (xa X 3, .inl (xI X, 12, .inl (fI (sU S)))), (xa X 4, .inl (xI X, 12, .inl (fI (sR S))))]) := hD
  refine pg_if_ne (tgt := 13) hx hb dX1_isSteady_6 (by decide) (⟨by omega, by omega⟩) (fun hc1 => ?_) (fun hc1 => absurd hc1 (by omega))
  refine lv_iconst (v := iI 0) hx hb dX1_isSteady_13 rfl ?_
  exact pg_wzret hx hb hr hlk hP hS  (iI_bool (by omega)) (congrArg (fun z : Int => some (Value.int (iI z))) (show 0 = 0 by omega)) dX1_isSteady_14
set_option maxRecDepth 100000 in
set_option maxHeartbeats 4000000 in
theorem c_X1_isSteady_2 (l : Launch) (X : pgX) (S : pgS) (t : Int) (a b : Nat) (ha : a < 12) (hb2 : b < 12) (h : sS S a = 0 ∨ sS S b = 0) (h1 : sS S a ≤ 1) (h2 : sS S b ≤ 1) : pg_wr l yX1_isSteady wsX1_isSteady (rm 3 65) (xG X) (xTy X) pT (mC X S t) (mC X S 2) 0 0 [.ref ((xa X 0)), .int (iI (((a : Nat) : Int))), .int (iI (((b : Nat) : Int)))] (some (.int (iI 0))) := by
  refine pg_wr_of (cc := cX1_isSteady) (maxL := 3) (ret := (some .boolean)) (by decide) rfl (Nat.le_of_ble_eq_true rfl) ?_
  intro p e s m below meth c ls SC hr hlk hP hK hD hS hB hl
  obtain ⟨hx, hb, hml, hown, hts⟩ := id SC
  have hown : s.vm.findClass RX1 = some m.cls := hown
  have hl : lv_has ls 3 [(0, .ref ((xa X 0))), (1, .int (iI (((a : Nat) : Int)))), (2, .int (iI (((b : Nat) : Int))))] := hl
  refine lv_aload_n hx hb dX1_isSteady_0 rfl (lv_at hl 0 rfl) ?_
  refine lv_iload_n hx hb dX1_isSteady_1 rfl (lv_at hl 1 rfl) ?_
  refine lv_iload_n hx hb dX1_isSteady_2 rfl (lv_at hl 2 rfl) ?_
  refine pg_wcallV (As := [.int (iI (((a : Nat) : Int))), .int (iI (((b : Nat) : Int)))]) (rest := []) (l1 := []) (l2 := []) (w := [(xa X 0, .inr (1, [.int (iI t), .ref ((xa X 1)), .ref ((xa X 2)), .ref ((xa X 3)), .ref ((xa X 4)), .int (iI (((sN S : Nat) : Int))), .int (iI (((sW S : Nat) : Int)))])), (xa X 1, .inl (xZ X, 12, .inl (fI (sS S)))), (xa X 2, .inl (xI X, 12, .inl (fI (sA S)))), (xa X 3, .inl (xI X, 12, .inl (fI (sU S)))), (xa X 4, .inl (xI X, 12, .inl (fI (sR S))))]) (w' := [(xa X 0, .inr (1, [.int (iI 2), .ref ((xa X 1)), .ref ((xa X 2)), .ref ((xa X 3)), .ref ((xa X 4)), .int (iI (((sN S : Nat) : Int))), .int (iI (((sW S : Nat) : Int)))])), (xa X 1, .inl (xZ X, 12, .inl (fI (sS S)))), (xa X 2, .inl (xI X, 12, .inl (fI (sA S)))), (xa X 3, .inl (xI X, 12, .inl (fI (sU S)))), (xa X 4, .inl (xI X, 12, .inl (fI (sR S))))]) SC (c_X1_isNoPair_2 l X S t a b ha hb2 h h1 h2) pT_st pT_h (cwV 2 hts gX1_isSteady_X1_isNoPair rfl rfl rfl (by decide +kernel) ⟨Nat.le_of_ble_eq_true rfl, Nat.le_of_ble_eq_true rfl⟩) (va_recv hK hP (ci := 1) (q0 := 0) rfl rfl) hK hP hD hS rfl rfl hl.1 rfl (Nat.le_of_ble_eq_true rfl) dX1_isSteady_3 ⟨Nat.zero_le _, Nat.zero_le _⟩ (fun H locs hP hD hS => ?_)
  have hP : va_P (xG X) vwCl ([(xa X 0, .inr (1, [.int (iI 2), .ref ((xa X 1)), .ref ((xa X 2)), .ref ((xa X 3)), .ref ((xa X 4)), .int (iI (((sN S : Nat) : Int))), .int (iI (((sW S : Nat) : Int)))])), (xa X 1, .inl (xZ X, 12, .inl (fI (sS S)))), (xa X 2, .inl (xI X, 12, .inl (fI (sA S)))), (xa X 3, .inl (xI X, 12, .inl (fI (sU S)))), (xa X 4, .inl (xI X, 12, .inl (fI (sR S))))]) H := hP
  have hD : va_D (pg_in ((mC X S t))) ([(xa X 0, .inr (1, [.int (iI 2), .ref ((xa X 1)), .ref ((xa X 2)), .ref ((xa X 3)), .ref ((xa X 4)), .int (iI (((sN S : Nat) : Int))), .int (iI (((sW S : Nat) : Int)))])), (xa X 1, .inl (xZ X, 12, .inl (fI (sS S)))), (xa X 2, .inl (xI X, 12, .inl (fI (sA S)))), (xa X 3, .inl (xI X, 12, .inl (fI (sU S)))), (xa X 4, .inl (xI X, 12, .inl (fI (sR S))))]) := hD
  refine pg_if_ne (tgt := 13) hx hb dX1_isSteady_6 (by decide) (⟨by omega, by omega⟩) (fun hc1 => ?_) (fun hc1 => absurd hc1 (by omega))
  refine lv_iconst (v := iI 0) hx hb dX1_isSteady_13 rfl ?_
  exact pg_wzret hx hb hr hlk hP hS  (iI_bool (by omega)) (congrArg (fun z : Int => some (Value.int (iI z))) (show 0 = 0 by omega)) dX1_isSteady_14
set_option maxRecDepth 100000 in
set_option maxHeartbeats 4000000 in
theorem c_X1_isDoubled_ok (l : Launch) (X : pgX) (S : pgS) (t : Int) (a b : Nat) (ha : a < 12) (hb2 : b < 12) (sa : sS S a = 1) (sb : sS S b = 1) : pg_wr l yX1_isDoubled wsX1_isDoubled (rm 3 65) (xG X) (xTy X) pT (mC X S t) (mC X S 0) 0 0 [.ref ((xa X 0)), .int (iI (((a : Nat) : Int))), .int (iI (((b : Nat) : Int)))] (some (.int (iI 1))) := by
  refine pg_wr_of (cc := cX1_isDoubled) (maxL := 3) (ret := (some .boolean)) (by decide) rfl (Nat.le_of_ble_eq_true rfl) ?_
  intro p e s m below meth c ls SC hr hlk hP hK hD hS hB hl
  obtain ⟨hx, hb, hml, hown, hts⟩ := id SC
  have hown : s.vm.findClass RX1 = some m.cls := hown
  have hl : lv_has ls 3 [(0, .ref ((xa X 0))), (1, .int (iI (((a : Nat) : Int)))), (2, .int (iI (((b : Nat) : Int))))] := hl
  refine lv_aload_n hx hb dX1_isDoubled_0 rfl (lv_at hl 0 rfl) ?_
  refine lv_iload_n hx hb dX1_isDoubled_1 rfl (lv_at hl 1 rfl) ?_
  refine lv_iload_n hx hb dX1_isDoubled_2 rfl (lv_at hl 2 rfl) ?_
  refine pg_wcallV (As := [.int (iI (((a : Nat) : Int))), .int (iI (((b : Nat) : Int)))]) (rest := []) (l1 := []) (l2 := []) (w := [(xa X 0, .inr (1, [.int (iI t), .ref ((xa X 1)), .ref ((xa X 2)), .ref ((xa X 3)), .ref ((xa X 4)), .int (iI (((sN S : Nat) : Int))), .int (iI (((sW S : Nat) : Int)))])), (xa X 1, .inl (xZ X, 12, .inl (fI (sS S)))), (xa X 2, .inl (xI X, 12, .inl (fI (sA S)))), (xa X 3, .inl (xI X, 12, .inl (fI (sU S)))), (xa X 4, .inl (xI X, 12, .inl (fI (sR S))))]) (w' := [(xa X 0, .inr (1, [.int (iI 0), .ref ((xa X 1)), .ref ((xa X 2)), .ref ((xa X 3)), .ref ((xa X 4)), .int (iI (((sN S : Nat) : Int))), .int (iI (((sW S : Nat) : Int)))])), (xa X 1, .inl (xZ X, 12, .inl (fI (sS S)))), (xa X 2, .inl (xI X, 12, .inl (fI (sA S)))), (xa X 3, .inl (xI X, 12, .inl (fI (sU S)))), (xa X 4, .inl (xI X, 12, .inl (fI (sR S))))]) SC (c_X1_isNoPair_ok l X S t a b ha hb2 sa sb) pT_st pT_h (cwV 2 hts gX1_isDoubled_X1_isNoPair rfl rfl rfl (by decide +kernel) ⟨Nat.le_of_ble_eq_true rfl, Nat.le_of_ble_eq_true rfl⟩) (va_recv hK hP (ci := 1) (q0 := 0) rfl rfl) hK hP hD hS rfl rfl hl.1 rfl (Nat.le_of_ble_eq_true rfl) dX1_isDoubled_3 ⟨Nat.zero_le _, Nat.zero_le _⟩ (fun H locs hP hD hS => ?_)
  have hP : va_P (xG X) vwCl ([(xa X 0, .inr (1, [.int (iI 0), .ref ((xa X 1)), .ref ((xa X 2)), .ref ((xa X 3)), .ref ((xa X 4)), .int (iI (((sN S : Nat) : Int))), .int (iI (((sW S : Nat) : Int)))])), (xa X 1, .inl (xZ X, 12, .inl (fI (sS S)))), (xa X 2, .inl (xI X, 12, .inl (fI (sA S)))), (xa X 3, .inl (xI X, 12, .inl (fI (sU S)))), (xa X 4, .inl (xI X, 12, .inl (fI (sR S))))]) H := hP
  have hD : va_D (pg_in ((mC X S t))) ([(xa X 0, .inr (1, [.int (iI 0), .ref ((xa X 1)), .ref ((xa X 2)), .ref ((xa X 3)), .ref ((xa X 4)), .int (iI (((sN S : Nat) : Int))), .int (iI (((sW S : Nat) : Int)))])), (xa X 1, .inl (xZ X, 12, .inl (fI (sS S)))), (xa X 2, .inl (xI X, 12, .inl (fI (sA S)))), (xa X 3, .inl (xI X, 12, .inl (fI (sU S)))), (xa X 4, .inl (xI X, 12, .inl (fI (sR S))))]) := hD
  refine pg_if_ne (tgt := 13) hx hb dX1_isDoubled_6 (by decide) (⟨by omega, by omega⟩) (fun hc1 => absurd hc1 (by omega)) (fun hc1 => ?_)
  refine lv_iconst (v := iI 1) hx hb dX1_isDoubled_9 rfl ?_
  refine lv_goto (tgt := 14) hx hb dX1_isDoubled_10 (by decide) ?_
  exact pg_wzret hx hb hr hlk hP hS  (iI_bool (by omega)) (congrArg (fun z : Int => some (Value.int (iI z))) (show 1 = 1 by omega)) dX1_isDoubled_14
set_option maxRecDepth 100000 in
set_option maxHeartbeats 4000000 in
theorem c_X1_isDoubled_1 (l : Launch) (X : pgX) (S : pgS) (t : Int) (pp qq : Int) (hp : inI pp) (hq : inI qq) (h : pp < 0 ∨ 12 ≤ pp ∨ qq < 0 ∨ 12 ≤ qq) : pg_wr l yX1_isDoubled wsX1_isDoubled (rm 3 65) (xG X) (xTy X) pT (mC X S t) (mC X S 1) 0 0 [.ref ((xa X 0)), .int (iI pp), .int (iI qq)] (some (.int (iI 0))) := by
  refine pg_wr_of (cc := cX1_isDoubled) (maxL := 3) (ret := (some .boolean)) (by decide) rfl (Nat.le_of_ble_eq_true rfl) ?_
  intro p e s m below meth c ls SC hr hlk hP hK hD hS hB hl
  obtain ⟨hx, hb, hml, hown, hts⟩ := id SC
  have hown : s.vm.findClass RX1 = some m.cls := hown
  have hl : lv_has ls 3 [(0, .ref ((xa X 0))), (1, .int (iI pp)), (2, .int (iI qq))] := hl
  refine lv_aload_n hx hb dX1_isDoubled_0 rfl (lv_at hl 0 rfl) ?_
  refine lv_iload_n hx hb dX1_isDoubled_1 rfl (lv_at hl 1 rfl) ?_
  refine lv_iload_n hx hb dX1_isDoubled_2 rfl (lv_at hl 2 rfl) ?_
  refine pg_wcallV (As := [.int (iI pp), .int (iI qq)]) (rest := []) (l1 := []) (l2 := []) (w := [(xa X 0, .inr (1, [.int (iI t), .ref ((xa X 1)), .ref ((xa X 2)), .ref ((xa X 3)), .ref ((xa X 4)), .int (iI (((sN S : Nat) : Int))), .int (iI (((sW S : Nat) : Int)))])), (xa X 1, .inl (xZ X, 12, .inl (fI (sS S)))), (xa X 2, .inl (xI X, 12, .inl (fI (sA S)))), (xa X 3, .inl (xI X, 12, .inl (fI (sU S)))), (xa X 4, .inl (xI X, 12, .inl (fI (sR S))))]) (w' := [(xa X 0, .inr (1, [.int (iI 1), .ref ((xa X 1)), .ref ((xa X 2)), .ref ((xa X 3)), .ref ((xa X 4)), .int (iI (((sN S : Nat) : Int))), .int (iI (((sW S : Nat) : Int)))])), (xa X 1, .inl (xZ X, 12, .inl (fI (sS S)))), (xa X 2, .inl (xI X, 12, .inl (fI (sA S)))), (xa X 3, .inl (xI X, 12, .inl (fI (sU S)))), (xa X 4, .inl (xI X, 12, .inl (fI (sR S))))]) SC (c_X1_isNoPair_1 l X S t pp qq hp hq h) pT_st pT_h (cwV 2 hts gX1_isDoubled_X1_isNoPair rfl rfl rfl (by decide +kernel) ⟨Nat.le_of_ble_eq_true rfl, Nat.le_of_ble_eq_true rfl⟩) (va_recv hK hP (ci := 1) (q0 := 0) rfl rfl) hK hP hD hS rfl rfl hl.1 rfl (Nat.le_of_ble_eq_true rfl) dX1_isDoubled_3 ⟨Nat.zero_le _, Nat.zero_le _⟩ (fun H locs hP hD hS => ?_)
  have hP : va_P (xG X) vwCl ([(xa X 0, .inr (1, [.int (iI 1), .ref ((xa X 1)), .ref ((xa X 2)), .ref ((xa X 3)), .ref ((xa X 4)), .int (iI (((sN S : Nat) : Int))), .int (iI (((sW S : Nat) : Int)))])), (xa X 1, .inl (xZ X, 12, .inl (fI (sS S)))), (xa X 2, .inl (xI X, 12, .inl (fI (sA S)))), (xa X 3, .inl (xI X, 12, .inl (fI (sU S)))), (xa X 4, .inl (xI X, 12, .inl (fI (sR S))))]) H := hP
  have hD : va_D (pg_in ((mC X S t))) ([(xa X 0, .inr (1, [.int (iI 1), .ref ((xa X 1)), .ref ((xa X 2)), .ref ((xa X 3)), .ref ((xa X 4)), .int (iI (((sN S : Nat) : Int))), .int (iI (((sW S : Nat) : Int)))])), (xa X 1, .inl (xZ X, 12, .inl (fI (sS S)))), (xa X 2, .inl (xI X, 12, .inl (fI (sA S)))), (xa X 3, .inl (xI X, 12, .inl (fI (sU S)))), (xa X 4, .inl (xI X, 12, .inl (fI (sR S))))]) := hD
  refine pg_if_ne (tgt := 13) hx hb dX1_isDoubled_6 (by decide) (⟨by omega, by omega⟩) (fun hc1 => ?_) (fun hc1 => absurd hc1 (by omega))
  refine lv_iconst (v := iI 0) hx hb dX1_isDoubled_13 rfl ?_
  exact pg_wzret hx hb hr hlk hP hS  (iI_bool (by omega)) (congrArg (fun z : Int => some (Value.int (iI z))) (show 0 = 0 by omega)) dX1_isDoubled_14
set_option maxRecDepth 100000 in
set_option maxHeartbeats 4000000 in
theorem c_X1_isDoubled_2 (l : Launch) (X : pgX) (S : pgS) (t : Int) (a b : Nat) (ha : a < 12) (hb2 : b < 12) (h : sS S a = 0 ∨ sS S b = 0) (h1 : sS S a ≤ 1) (h2 : sS S b ≤ 1) : pg_wr l yX1_isDoubled wsX1_isDoubled (rm 3 65) (xG X) (xTy X) pT (mC X S t) (mC X S 2) 0 0 [.ref ((xa X 0)), .int (iI (((a : Nat) : Int))), .int (iI (((b : Nat) : Int)))] (some (.int (iI 0))) := by
  refine pg_wr_of (cc := cX1_isDoubled) (maxL := 3) (ret := (some .boolean)) (by decide) rfl (Nat.le_of_ble_eq_true rfl) ?_
  intro p e s m below meth c ls SC hr hlk hP hK hD hS hB hl
  obtain ⟨hx, hb, hml, hown, hts⟩ := id SC
  have hown : s.vm.findClass RX1 = some m.cls := hown
  have hl : lv_has ls 3 [(0, .ref ((xa X 0))), (1, .int (iI (((a : Nat) : Int)))), (2, .int (iI (((b : Nat) : Int))))] := hl
  refine lv_aload_n hx hb dX1_isDoubled_0 rfl (lv_at hl 0 rfl) ?_
  refine lv_iload_n hx hb dX1_isDoubled_1 rfl (lv_at hl 1 rfl) ?_
  refine lv_iload_n hx hb dX1_isDoubled_2 rfl (lv_at hl 2 rfl) ?_
  refine pg_wcallV (As := [.int (iI (((a : Nat) : Int))), .int (iI (((b : Nat) : Int)))]) (rest := []) (l1 := []) (l2 := []) (w := [(xa X 0, .inr (1, [.int (iI t), .ref ((xa X 1)), .ref ((xa X 2)), .ref ((xa X 3)), .ref ((xa X 4)), .int (iI (((sN S : Nat) : Int))), .int (iI (((sW S : Nat) : Int)))])), (xa X 1, .inl (xZ X, 12, .inl (fI (sS S)))), (xa X 2, .inl (xI X, 12, .inl (fI (sA S)))), (xa X 3, .inl (xI X, 12, .inl (fI (sU S)))), (xa X 4, .inl (xI X, 12, .inl (fI (sR S))))]) (w' := [(xa X 0, .inr (1, [.int (iI 2), .ref ((xa X 1)), .ref ((xa X 2)), .ref ((xa X 3)), .ref ((xa X 4)), .int (iI (((sN S : Nat) : Int))), .int (iI (((sW S : Nat) : Int)))])), (xa X 1, .inl (xZ X, 12, .inl (fI (sS S)))), (xa X 2, .inl (xI X, 12, .inl (fI (sA S)))), (xa X 3, .inl (xI X, 12, .inl (fI (sU S)))), (xa X 4, .inl (xI X, 12, .inl (fI (sR S))))]) SC (c_X1_isNoPair_2 l X S t a b ha hb2 h h1 h2) pT_st pT_h (cwV 2 hts gX1_isDoubled_X1_isNoPair rfl rfl rfl (by decide +kernel) ⟨Nat.le_of_ble_eq_true rfl, Nat.le_of_ble_eq_true rfl⟩) (va_recv hK hP (ci := 1) (q0 := 0) rfl rfl) hK hP hD hS rfl rfl hl.1 rfl (Nat.le_of_ble_eq_true rfl) dX1_isDoubled_3 ⟨Nat.zero_le _, Nat.zero_le _⟩ (fun H locs hP hD hS => ?_)
  have hP : va_P (xG X) vwCl ([(xa X 0, .inr (1, [.int (iI 2), .ref ((xa X 1)), .ref ((xa X 2)), .ref ((xa X 3)), .ref ((xa X 4)), .int (iI (((sN S : Nat) : Int))), .int (iI (((sW S : Nat) : Int)))])), (xa X 1, .inl (xZ X, 12, .inl (fI (sS S)))), (xa X 2, .inl (xI X, 12, .inl (fI (sA S)))), (xa X 3, .inl (xI X, 12, .inl (fI (sU S)))), (xa X 4, .inl (xI X, 12, .inl (fI (sR S))))]) H := hP
  have hD : va_D (pg_in ((mC X S t))) ([(xa X 0, .inr (1, [.int (iI 2), .ref ((xa X 1)), .ref ((xa X 2)), .ref ((xa X 3)), .ref ((xa X 4)), .int (iI (((sN S : Nat) : Int))), .int (iI (((sW S : Nat) : Int)))])), (xa X 1, .inl (xZ X, 12, .inl (fI (sS S)))), (xa X 2, .inl (xI X, 12, .inl (fI (sA S)))), (xa X 3, .inl (xI X, 12, .inl (fI (sU S)))), (xa X 4, .inl (xI X, 12, .inl (fI (sR S))))]) := hD
  refine pg_if_ne (tgt := 13) hx hb dX1_isDoubled_6 (by decide) (⟨by omega, by omega⟩) (fun hc1 => ?_) (fun hc1 => absurd hc1 (by omega))
  refine lv_iconst (v := iI 0) hx hb dX1_isDoubled_13 rfl ?_
  exact pg_wzret hx hb hr hlk hP hS  (iI_bool (by omega)) (congrArg (fun z : Int => some (Value.int (iI z))) (show 0 = 0 by omega)) dX1_isDoubled_14
set_option maxRecDepth 100000 in
set_option maxHeartbeats 4000000 in
theorem c_X1_isClose_ok (l : Launch) (X : pgX) (S : pgS) (t : Int) (a b : Nat) (ha : a < 12) (hb2 : b < 12) (sa : sS S a = 1) (sb : sS S b = 1) : pg_wr l yX1_isClose wsX1_isClose (rm 3 65) (xG X) (xTy X) pT (mC X S t) (mC X S 0) 0 0 [.ref ((xa X 0)), .int (iI (((a : Nat) : Int))), .int (iI (((b : Nat) : Int)))] (some (.int (iI 1))) := by
  refine pg_wr_of (cc := cX1_isClose) (maxL := 3) (ret := (some .boolean)) (by decide) rfl (Nat.le_of_ble_eq_true rfl) ?_
  intro p e s m below meth c ls SC hr hlk hP hK hD hS hB hl
  obtain ⟨hx, hb, hml, hown, hts⟩ := id SC
  have hown : s.vm.findClass RX1 = some m.cls := hown
  have hl : lv_has ls 3 [(0, .ref ((xa X 0))), (1, .int (iI (((a : Nat) : Int)))), (2, .int (iI (((b : Nat) : Int))))] := hl
  refine lv_aload_n hx hb dX1_isClose_0 rfl (lv_at hl 0 rfl) ?_
  refine lv_iload_n hx hb dX1_isClose_1 rfl (lv_at hl 1 rfl) ?_
  refine lv_iload_n hx hb dX1_isClose_2 rfl (lv_at hl 2 rfl) ?_
  refine pg_wcallV (As := [.int (iI (((a : Nat) : Int))), .int (iI (((b : Nat) : Int)))]) (rest := []) (l1 := []) (l2 := []) (w := [(xa X 0, .inr (1, [.int (iI t), .ref ((xa X 1)), .ref ((xa X 2)), .ref ((xa X 3)), .ref ((xa X 4)), .int (iI (((sN S : Nat) : Int))), .int (iI (((sW S : Nat) : Int)))])), (xa X 1, .inl (xZ X, 12, .inl (fI (sS S)))), (xa X 2, .inl (xI X, 12, .inl (fI (sA S)))), (xa X 3, .inl (xI X, 12, .inl (fI (sU S)))), (xa X 4, .inl (xI X, 12, .inl (fI (sR S))))]) (w' := [(xa X 0, .inr (1, [.int (iI 0), .ref ((xa X 1)), .ref ((xa X 2)), .ref ((xa X 3)), .ref ((xa X 4)), .int (iI (((sN S : Nat) : Int))), .int (iI (((sW S : Nat) : Int)))])), (xa X 1, .inl (xZ X, 12, .inl (fI (sS S)))), (xa X 2, .inl (xI X, 12, .inl (fI (sA S)))), (xa X 3, .inl (xI X, 12, .inl (fI (sU S)))), (xa X 4, .inl (xI X, 12, .inl (fI (sR S))))]) SC (c_X1_isNoPair_ok l X S t a b ha hb2 sa sb) pT_st pT_h (cwV 2 hts gX1_isClose_X1_isNoPair rfl rfl rfl (by decide +kernel) ⟨Nat.le_of_ble_eq_true rfl, Nat.le_of_ble_eq_true rfl⟩) (va_recv hK hP (ci := 1) (q0 := 0) rfl rfl) hK hP hD hS rfl rfl hl.1 rfl (Nat.le_of_ble_eq_true rfl) dX1_isClose_3 ⟨Nat.zero_le _, Nat.zero_le _⟩ (fun H locs hP hD hS => ?_)
  have hP : va_P (xG X) vwCl ([(xa X 0, .inr (1, [.int (iI 0), .ref ((xa X 1)), .ref ((xa X 2)), .ref ((xa X 3)), .ref ((xa X 4)), .int (iI (((sN S : Nat) : Int))), .int (iI (((sW S : Nat) : Int)))])), (xa X 1, .inl (xZ X, 12, .inl (fI (sS S)))), (xa X 2, .inl (xI X, 12, .inl (fI (sA S)))), (xa X 3, .inl (xI X, 12, .inl (fI (sU S)))), (xa X 4, .inl (xI X, 12, .inl (fI (sR S))))]) H := hP
  have hD : va_D (pg_in ((mC X S t))) ([(xa X 0, .inr (1, [.int (iI 0), .ref ((xa X 1)), .ref ((xa X 2)), .ref ((xa X 3)), .ref ((xa X 4)), .int (iI (((sN S : Nat) : Int))), .int (iI (((sW S : Nat) : Int)))])), (xa X 1, .inl (xZ X, 12, .inl (fI (sS S)))), (xa X 2, .inl (xI X, 12, .inl (fI (sA S)))), (xa X 3, .inl (xI X, 12, .inl (fI (sU S)))), (xa X 4, .inl (xI X, 12, .inl (fI (sR S))))]) := hD
  refine pg_if_ne (tgt := 13) hx hb dX1_isClose_6 (by decide) (⟨by omega, by omega⟩) (fun hc1 => absurd hc1 (by omega)) (fun hc1 => ?_)
  refine lv_iconst (v := iI 1) hx hb dX1_isClose_9 rfl ?_
  refine lv_goto (tgt := 14) hx hb dX1_isClose_10 (by decide) ?_
  exact pg_wzret hx hb hr hlk hP hS  (iI_bool (by omega)) (congrArg (fun z : Int => some (Value.int (iI z))) (show 1 = 1 by omega)) dX1_isClose_14
set_option maxRecDepth 100000 in
set_option maxHeartbeats 4000000 in
theorem c_X1_isClose_1 (l : Launch) (X : pgX) (S : pgS) (t : Int) (pp qq : Int) (hp : inI pp) (hq : inI qq) (h : pp < 0 ∨ 12 ≤ pp ∨ qq < 0 ∨ 12 ≤ qq) : pg_wr l yX1_isClose wsX1_isClose (rm 3 65) (xG X) (xTy X) pT (mC X S t) (mC X S 1) 0 0 [.ref ((xa X 0)), .int (iI pp), .int (iI qq)] (some (.int (iI 0))) := by
  refine pg_wr_of (cc := cX1_isClose) (maxL := 3) (ret := (some .boolean)) (by decide) rfl (Nat.le_of_ble_eq_true rfl) ?_
  intro p e s m below meth c ls SC hr hlk hP hK hD hS hB hl
  obtain ⟨hx, hb, hml, hown, hts⟩ := id SC
  have hown : s.vm.findClass RX1 = some m.cls := hown
  have hl : lv_has ls 3 [(0, .ref ((xa X 0))), (1, .int (iI pp)), (2, .int (iI qq))] := hl
  refine lv_aload_n hx hb dX1_isClose_0 rfl (lv_at hl 0 rfl) ?_
  refine lv_iload_n hx hb dX1_isClose_1 rfl (lv_at hl 1 rfl) ?_
  refine lv_iload_n hx hb dX1_isClose_2 rfl (lv_at hl 2 rfl) ?_
  refine pg_wcallV (As := [.int (iI pp), .int (iI qq)]) (rest := []) (l1 := []) (l2 := []) (w := [(xa X 0, .inr (1, [.int (iI t), .ref ((xa X 1)), .ref ((xa X 2)), .ref ((xa X 3)), .ref ((xa X 4)), .int (iI (((sN S : Nat) : Int))), .int (iI (((sW S : Nat) : Int)))])), (xa X 1, .inl (xZ X, 12, .inl (fI (sS S)))), (xa X 2, .inl (xI X, 12, .inl (fI (sA S)))), (xa X 3, .inl (xI X, 12, .inl (fI (sU S)))), (xa X 4, .inl (xI X, 12, .inl (fI (sR S))))]) (w' := [(xa X 0, .inr (1, [.int (iI 1), .ref ((xa X 1)), .ref ((xa X 2)), .ref ((xa X 3)), .ref ((xa X 4)), .int (iI (((sN S : Nat) : Int))), .int (iI (((sW S : Nat) : Int)))])), (xa X 1, .inl (xZ X, 12, .inl (fI (sS S)))), (xa X 2, .inl (xI X, 12, .inl (fI (sA S)))), (xa X 3, .inl (xI X, 12, .inl (fI (sU S)))), (xa X 4, .inl (xI X, 12, .inl (fI (sR S))))]) SC (c_X1_isNoPair_1 l X S t pp qq hp hq h) pT_st pT_h (cwV 2 hts gX1_isClose_X1_isNoPair rfl rfl rfl (by decide +kernel) ⟨Nat.le_of_ble_eq_true rfl, Nat.le_of_ble_eq_true rfl⟩) (va_recv hK hP (ci := 1) (q0 := 0) rfl rfl) hK hP hD hS rfl rfl hl.1 rfl (Nat.le_of_ble_eq_true rfl) dX1_isClose_3 ⟨Nat.zero_le _, Nat.zero_le _⟩ (fun H locs hP hD hS => ?_)
  have hP : va_P (xG X) vwCl ([(xa X 0, .inr (1, [.int (iI 1), .ref ((xa X 1)), .ref ((xa X 2)), .ref ((xa X 3)), .ref ((xa X 4)), .int (iI (((sN S : Nat) : Int))), .int (iI (((sW S : Nat) : Int)))])), (xa X 1, .inl (xZ X, 12, .inl (fI (sS S)))), (xa X 2, .inl (xI X, 12, .inl (fI (sA S)))), (xa X 3, .inl (xI X, 12, .inl (fI (sU S)))), (xa X 4, .inl (xI X, 12, .inl (fI (sR S))))]) H := hP
  have hD : va_D (pg_in ((mC X S t))) ([(xa X 0, .inr (1, [.int (iI 1), .ref ((xa X 1)), .ref ((xa X 2)), .ref ((xa X 3)), .ref ((xa X 4)), .int (iI (((sN S : Nat) : Int))), .int (iI (((sW S : Nat) : Int)))])), (xa X 1, .inl (xZ X, 12, .inl (fI (sS S)))), (xa X 2, .inl (xI X, 12, .inl (fI (sA S)))), (xa X 3, .inl (xI X, 12, .inl (fI (sU S)))), (xa X 4, .inl (xI X, 12, .inl (fI (sR S))))]) := hD
  refine pg_if_ne (tgt := 13) hx hb dX1_isClose_6 (by decide) (⟨by omega, by omega⟩) (fun hc1 => ?_) (fun hc1 => absurd hc1 (by omega))
  refine lv_iconst (v := iI 0) hx hb dX1_isClose_13 rfl ?_
  exact pg_wzret hx hb hr hlk hP hS  (iI_bool (by omega)) (congrArg (fun z : Int => some (Value.int (iI z))) (show 0 = 0 by omega)) dX1_isClose_14
set_option maxRecDepth 100000 in
set_option maxHeartbeats 4000000 in
theorem c_X1_isClose_2 (l : Launch) (X : pgX) (S : pgS) (t : Int) (a b : Nat) (ha : a < 12) (hb2 : b < 12) (h : sS S a = 0 ∨ sS S b = 0) (h1 : sS S a ≤ 1) (h2 : sS S b ≤ 1) : pg_wr l yX1_isClose wsX1_isClose (rm 3 65) (xG X) (xTy X) pT (mC X S t) (mC X S 2) 0 0 [.ref ((xa X 0)), .int (iI (((a : Nat) : Int))), .int (iI (((b : Nat) : Int)))] (some (.int (iI 0))) := by
  refine pg_wr_of (cc := cX1_isClose) (maxL := 3) (ret := (some .boolean)) (by decide) rfl (Nat.le_of_ble_eq_true rfl) ?_
  intro p e s m below meth c ls SC hr hlk hP hK hD hS hB hl
  obtain ⟨hx, hb, hml, hown, hts⟩ := id SC
  have hown : s.vm.findClass RX1 = some m.cls := hown
  have hl : lv_has ls 3 [(0, .ref ((xa X 0))), (1, .int (iI (((a : Nat) : Int)))), (2, .int (iI (((b : Nat) : Int))))] := hl
  refine lv_aload_n hx hb dX1_isClose_0 rfl (lv_at hl 0 rfl) ?_
  refine lv_iload_n hx hb dX1_isClose_1 rfl (lv_at hl 1 rfl) ?_
  refine lv_iload_n hx hb dX1_isClose_2 rfl (lv_at hl 2 rfl) ?_
  refine pg_wcallV (As := [.int (iI (((a : Nat) : Int))), .int (iI (((b : Nat) : Int)))]) (rest := []) (l1 := []) (l2 := []) (w := [(xa X 0, .inr (1, [.int (iI t), .ref ((xa X 1)), .ref ((xa X 2)), .ref ((xa X 3)), .ref ((xa X 4)), .int (iI (((sN S : Nat) : Int))), .int (iI (((sW S : Nat) : Int)))])), (xa X 1, .inl (xZ X, 12, .inl (fI (sS S)))), (xa X 2, .inl (xI X, 12, .inl (fI (sA S)))), (xa X 3, .inl (xI X, 12, .inl (fI (sU S)))), (xa X 4, .inl (xI X, 12, .inl (fI (sR S))))]) (w' := [(xa X 0, .inr (1, [.int (iI 2), .ref ((xa X 1)), .ref ((xa X 2)), .ref ((xa X 3)), .ref ((xa X 4)), .int (iI (((sN S : Nat) : Int))), .int (iI (((sW S : Nat) : Int)))])), (xa X 1, .inl (xZ X, 12, .inl (fI (sS S)))), (xa X 2, .inl (xI X, 12, .inl (fI (sA S)))), (xa X 3, .inl (xI X, 12, .inl (fI (sU S)))), (xa X 4, .inl (xI X, 12, .inl (fI (sR S))))]) SC (c_X1_isNoPair_2 l X S t a b ha hb2 h h1 h2) pT_st pT_h (cwV 2 hts gX1_isClose_X1_isNoPair rfl rfl rfl (by decide +kernel) ⟨Nat.le_of_ble_eq_true rfl, Nat.le_of_ble_eq_true rfl⟩) (va_recv hK hP (ci := 1) (q0 := 0) rfl rfl) hK hP hD hS rfl rfl hl.1 rfl (Nat.le_of_ble_eq_true rfl) dX1_isClose_3 ⟨Nat.zero_le _, Nat.zero_le _⟩ (fun H locs hP hD hS => ?_)
  have hP : va_P (xG X) vwCl ([(xa X 0, .inr (1, [.int (iI 2), .ref ((xa X 1)), .ref ((xa X 2)), .ref ((xa X 3)), .ref ((xa X 4)), .int (iI (((sN S : Nat) : Int))), .int (iI (((sW S : Nat) : Int)))])), (xa X 1, .inl (xZ X, 12, .inl (fI (sS S)))), (xa X 2, .inl (xI X, 12, .inl (fI (sA S)))), (xa X 3, .inl (xI X, 12, .inl (fI (sU S)))), (xa X 4, .inl (xI X, 12, .inl (fI (sR S))))]) H := hP
  have hD : va_D (pg_in ((mC X S t))) ([(xa X 0, .inr (1, [.int (iI 2), .ref ((xa X 1)), .ref ((xa X 2)), .ref ((xa X 3)), .ref ((xa X 4)), .int (iI (((sN S : Nat) : Int))), .int (iI (((sW S : Nat) : Int)))])), (xa X 1, .inl (xZ X, 12, .inl (fI (sS S)))), (xa X 2, .inl (xI X, 12, .inl (fI (sA S)))), (xa X 3, .inl (xI X, 12, .inl (fI (sU S)))), (xa X 4, .inl (xI X, 12, .inl (fI (sR S))))]) := hD
  refine pg_if_ne (tgt := 13) hx hb dX1_isClose_6 (by decide) (⟨by omega, by omega⟩) (fun hc1 => ?_) (fun hc1 => absurd hc1 (by omega))
  refine lv_iconst (v := iI 0) hx hb dX1_isClose_13 rfl ?_
  exact pg_wzret hx hb hr hlk hP hS  (iI_bool (by omega)) (congrArg (fun z : Int => some (Value.int (iI z))) (show 0 = 0 by omega)) dX1_isClose_14
set_option maxRecDepth 100000 in
set_option maxHeartbeats 4000000 in
theorem c_X1_isStraight_ok (l : Launch) (X : pgX) (S : pgS) (t : Int) (hok : pgOk S) (a b c2 : Nat) (ha : a < 12) (hb2 : b < 12) (hc2 : c2 < 12) (sa : sS S a = 1) (sb : sS S b = 1) (sc : sS S c2 = 1) : pg_wr l yX1_isStraight wsX1_isStraight (rm 4 97) (xG X) (xTy X) pT (mC X S t) (mC X S 0) 0 0 [.ref ((xa X 0)), .int (iI (((a : Nat) : Int))), .int (iI (((b : Nat) : Int))), .int (iI (((c2 : Nat) : Int)))] (some (.int (iI 1))) := by
  refine pg_wr_of (cc := cX1_isStraight) (maxL := 4) (ret := (some .boolean)) (by decide) rfl (Nat.le_of_ble_eq_true rfl) ?_
  intro p e s m below meth c ls SC hr hlk hP hK hD hS hB hl
  obtain ⟨hx, hb, hml, hown, hts⟩ := id SC
  have hown : s.vm.findClass RX1 = some m.cls := hown
  have hl : lv_has ls 4 [(0, .ref ((xa X 0))), (1, .int (iI (((a : Nat) : Int)))), (2, .int (iI (((b : Nat) : Int)))), (3, .int (iI (((c2 : Nat) : Int))))] := hl
  have hin : ∀ w ∈ u_ws RX1 TX1 7, w ∈ wsX1_isStraight := by decide +kernel
  refine lv_aload_n hx hb dX1_isStraight_0 rfl (lv_at hl 0 rfl) ?_
  refine lv_iload_n hx hb dX1_isStraight_1 rfl (lv_at hl 1 rfl) ?_
  refine pg_wcallV (As := [.int (iI (((a : Nat) : Int)))]) (rest := []) (l1 := []) (l2 := []) (w := [(xa X 0, .inr (1, [.int (iI t), .ref ((xa X 1)), .ref ((xa X 2)), .ref ((xa X 3)), .ref ((xa X 4)), .int (iI (((sN S : Nat) : Int))), .int (iI (((sW S : Nat) : Int)))])), (xa X 1, .inl (xZ X, 12, .inl (fI (sS S)))), (xa X 2, .inl (xI X, 12, .inl (fI (sA S)))), (xa X 3, .inl (xI X, 12, .inl (fI (sU S)))), (xa X 4, .inl (xI X, 12, .inl (fI (sR S))))]) (w' := [(xa X 0, .inr (1, [.int (iI 0), .ref ((xa X 1)), .ref ((xa X 2)), .ref ((xa X 3)), .ref ((xa X 4)), .int (iI (((sN S : Nat) : Int))), .int (iI (((sW S : Nat) : Int)))])), (xa X 1, .inl (xZ X, 12, .inl (fI (sS S)))), (xa X 2, .inl (xI X, 12, .inl (fI (sA S)))), (xa X 3, .inl (xI X, 12, .inl (fI (sU S)))), (xa X 4, .inl (xI X, 12, .inl (fI (sR S))))]) SC (c_X1_isNoNumber_ok l X S t (((a : Nat) : Int)) (by omega)) pT_st pT_h (cwV 1 hts gX1_isStraight_X1_isNoNumber rfl rfl rfl (by decide +kernel) ⟨Nat.le_of_ble_eq_true rfl, Nat.le_of_ble_eq_true rfl⟩) (va_recv hK hP (ci := 1) (q0 := 0) rfl rfl) hK hP hD hS rfl rfl hl.1 rfl (Nat.le_of_ble_eq_true rfl) dX1_isStraight_2 ⟨Nat.zero_le _, Nat.zero_le _⟩ (fun H locs hP hD hS => ?_)
  have hP : va_P (xG X) vwCl ([(xa X 0, .inr (1, [.int (iI 0), .ref ((xa X 1)), .ref ((xa X 2)), .ref ((xa X 3)), .ref ((xa X 4)), .int (iI (((sN S : Nat) : Int))), .int (iI (((sW S : Nat) : Int)))])), (xa X 1, .inl (xZ X, 12, .inl (fI (sS S)))), (xa X 2, .inl (xI X, 12, .inl (fI (sA S)))), (xa X 3, .inl (xI X, 12, .inl (fI (sU S)))), (xa X 4, .inl (xI X, 12, .inl (fI (sR S))))]) H := hP
  have hD : va_D (pg_in ((mC X S t))) ([(xa X 0, .inr (1, [.int (iI 0), .ref ((xa X 1)), .ref ((xa X 2)), .ref ((xa X 3)), .ref ((xa X 4)), .int (iI (((sN S : Nat) : Int))), .int (iI (((sW S : Nat) : Int)))])), (xa X 1, .inl (xZ X, 12, .inl (fI (sS S)))), (xa X 2, .inl (xI X, 12, .inl (fI (sA S)))), (xa X 3, .inl (xI X, 12, .inl (fI (sU S)))), (xa X 4, .inl (xI X, 12, .inl (fI (sR S))))]) := hD
  refine pg_if_ne (tgt := 64) hx hb dX1_isStraight_5 (by decide) (⟨by omega, by omega⟩) (fun hc1 => absurd hc1 (by omega)) (fun hc1 => ?_)
  refine lv_aload_n hx hb dX1_isStraight_8 rfl (lv_at hl 0 rfl) ?_
  refine lv_iload_n hx hb dX1_isStraight_9 rfl (lv_at hl 2 rfl) ?_
  refine pg_wcallV (As := [.int (iI (((b : Nat) : Int)))]) (rest := []) (l1 := []) (l2 := []) (w := [(xa X 0, .inr (1, [.int (iI 0), .ref ((xa X 1)), .ref ((xa X 2)), .ref ((xa X 3)), .ref ((xa X 4)), .int (iI (((sN S : Nat) : Int))), .int (iI (((sW S : Nat) : Int)))])), (xa X 1, .inl (xZ X, 12, .inl (fI (sS S)))), (xa X 2, .inl (xI X, 12, .inl (fI (sA S)))), (xa X 3, .inl (xI X, 12, .inl (fI (sU S)))), (xa X 4, .inl (xI X, 12, .inl (fI (sR S))))]) (w' := [(xa X 0, .inr (1, [.int (iI 0), .ref ((xa X 1)), .ref ((xa X 2)), .ref ((xa X 3)), .ref ((xa X 4)), .int (iI (((sN S : Nat) : Int))), .int (iI (((sW S : Nat) : Int)))])), (xa X 1, .inl (xZ X, 12, .inl (fI (sS S)))), (xa X 2, .inl (xI X, 12, .inl (fI (sA S)))), (xa X 3, .inl (xI X, 12, .inl (fI (sU S)))), (xa X 4, .inl (xI X, 12, .inl (fI (sR S))))]) SC (c_X1_isNoNumber_ok l X S 0 (((b : Nat) : Int)) (by omega)) pT_st pT_h (cwV 1 hts gX1_isStraight_X1_isNoNumber rfl rfl rfl (by decide +kernel) ⟨Nat.le_of_ble_eq_true rfl, Nat.le_of_ble_eq_true rfl⟩) (va_recv hK hP (ci := 1) (q0 := 0) rfl rfl) hK hP hD hS rfl rfl hl.1 rfl (Nat.le_of_ble_eq_true rfl) dX1_isStraight_10 ⟨Nat.zero_le _, Nat.zero_le _⟩ (fun H locs hP hD hS => ?_)
  have hP : va_P (xG X) vwCl ([(xa X 0, .inr (1, [.int (iI 0), .ref ((xa X 1)), .ref ((xa X 2)), .ref ((xa X 3)), .ref ((xa X 4)), .int (iI (((sN S : Nat) : Int))), .int (iI (((sW S : Nat) : Int)))])), (xa X 1, .inl (xZ X, 12, .inl (fI (sS S)))), (xa X 2, .inl (xI X, 12, .inl (fI (sA S)))), (xa X 3, .inl (xI X, 12, .inl (fI (sU S)))), (xa X 4, .inl (xI X, 12, .inl (fI (sR S))))]) H := hP
  have hD : va_D (pg_in ((mC X S t))) ([(xa X 0, .inr (1, [.int (iI 0), .ref ((xa X 1)), .ref ((xa X 2)), .ref ((xa X 3)), .ref ((xa X 4)), .int (iI (((sN S : Nat) : Int))), .int (iI (((sW S : Nat) : Int)))])), (xa X 1, .inl (xZ X, 12, .inl (fI (sS S)))), (xa X 2, .inl (xI X, 12, .inl (fI (sA S)))), (xa X 3, .inl (xI X, 12, .inl (fI (sU S)))), (xa X 4, .inl (xI X, 12, .inl (fI (sR S))))]) := hD
  refine pg_if_ne (tgt := 64) hx hb dX1_isStraight_13 (by decide) (⟨by omega, by omega⟩) (fun hc2 => absurd hc2 (by omega)) (fun hc2 => ?_)
  refine lv_aload_n hx hb dX1_isStraight_16 rfl (lv_at hl 0 rfl) ?_
  refine lv_iload_n hx hb dX1_isStraight_17 rfl (lv_at hl 3 rfl) ?_
  refine pg_wcallV (As := [.int (iI (((c2 : Nat) : Int)))]) (rest := []) (l1 := []) (l2 := []) (w := [(xa X 0, .inr (1, [.int (iI 0), .ref ((xa X 1)), .ref ((xa X 2)), .ref ((xa X 3)), .ref ((xa X 4)), .int (iI (((sN S : Nat) : Int))), .int (iI (((sW S : Nat) : Int)))])), (xa X 1, .inl (xZ X, 12, .inl (fI (sS S)))), (xa X 2, .inl (xI X, 12, .inl (fI (sA S)))), (xa X 3, .inl (xI X, 12, .inl (fI (sU S)))), (xa X 4, .inl (xI X, 12, .inl (fI (sR S))))]) (w' := [(xa X 0, .inr (1, [.int (iI 0), .ref ((xa X 1)), .ref ((xa X 2)), .ref ((xa X 3)), .ref ((xa X 4)), .int (iI (((sN S : Nat) : Int))), .int (iI (((sW S : Nat) : Int)))])), (xa X 1, .inl (xZ X, 12, .inl (fI (sS S)))), (xa X 2, .inl (xI X, 12, .inl (fI (sA S)))), (xa X 3, .inl (xI X, 12, .inl (fI (sU S)))), (xa X 4, .inl (xI X, 12, .inl (fI (sR S))))]) SC (c_X1_isNoNumber_ok l X S 0 (((c2 : Nat) : Int)) (by omega)) pT_st pT_h (cwV 1 hts gX1_isStraight_X1_isNoNumber rfl rfl rfl (by decide +kernel) ⟨Nat.le_of_ble_eq_true rfl, Nat.le_of_ble_eq_true rfl⟩) (va_recv hK hP (ci := 1) (q0 := 0) rfl rfl) hK hP hD hS rfl rfl hl.1 rfl (Nat.le_of_ble_eq_true rfl) dX1_isStraight_18 ⟨Nat.zero_le _, Nat.zero_le _⟩ (fun H locs hP hD hS => ?_)
  have hP : va_P (xG X) vwCl ([(xa X 0, .inr (1, [.int (iI 0), .ref ((xa X 1)), .ref ((xa X 2)), .ref ((xa X 3)), .ref ((xa X 4)), .int (iI (((sN S : Nat) : Int))), .int (iI (((sW S : Nat) : Int)))])), (xa X 1, .inl (xZ X, 12, .inl (fI (sS S)))), (xa X 2, .inl (xI X, 12, .inl (fI (sA S)))), (xa X 3, .inl (xI X, 12, .inl (fI (sU S)))), (xa X 4, .inl (xI X, 12, .inl (fI (sR S))))]) H := hP
  have hD : va_D (pg_in ((mC X S t))) ([(xa X 0, .inr (1, [.int (iI 0), .ref ((xa X 1)), .ref ((xa X 2)), .ref ((xa X 3)), .ref ((xa X 4)), .int (iI (((sN S : Nat) : Int))), .int (iI (((sW S : Nat) : Int)))])), (xa X 1, .inl (xZ X, 12, .inl (fI (sS S)))), (xa X 2, .inl (xI X, 12, .inl (fI (sA S)))), (xa X 3, .inl (xI X, 12, .inl (fI (sU S)))), (xa X 4, .inl (xI X, 12, .inl (fI (sR S))))]) := hD
  refine pg_if_ne (tgt := 64) hx hb dX1_isStraight_21 (by decide) (⟨by omega, by omega⟩) (fun hc3 => absurd hc3 (by omega)) (fun hc3 => ?_)
  refine lv_aload_n hx hb dX1_isStraight_24 rfl (lv_at hl 0 rfl) ?_
  refine lv_aload_n hx hb dX1_isStraight_25 rfl (lv_at hl 0 rfl) ?_
  refine va_get (D := xG X) (ci := 1) (v := .ref ((xa X 1))) (C := RX1) (T := TX1) (N := 7) hx hb hts hin hown hK hP 0 rfl rfl 1 (by decide) (hts (.fieldLink RX1 7 "PegfieldModel" "stands" "[Z") (by decide +kernel)) (fun _ h9 => h9) rfl dX1_isStraight_26 ?_
  refine lv_iload_n hx hb dX1_isStraight_29 rfl (lv_at hl 1 rfl) ?_
  refine pg_zald hx hb hK hP 1 0 (f := (sS S)) rfl rfl a (rfl) (by omega) (by decide) dX1_isStraight_30 ?_
  refine pg_if_eq (tgt := 52) hx hb dX1_isStraight_31 (by decide) (⟨by omega, by omega⟩) (fun hc4 => absurd hc4 (by omega)) (fun hc4 => ?_)
  refine lv_aload_n hx hb dX1_isStraight_34 rfl (lv_at hl 0 rfl) ?_
  refine va_get (D := xG X) (ci := 1) (v := .ref ((xa X 1))) (C := RX1) (T := TX1) (N := 7) hx hb hts hin hown hK hP 0 rfl rfl 1 (by decide) (hts (.fieldLink RX1 7 "PegfieldModel" "stands" "[Z") (by decide +kernel)) (fun _ h9 => h9) rfl dX1_isStraight_35 ?_
  refine lv_iload_n hx hb dX1_isStraight_38 rfl (lv_at hl 2 rfl) ?_
  refine pg_zald hx hb hK hP 1 0 (f := (sS S)) rfl rfl b (rfl) (by omega) (by decide) dX1_isStraight_39 ?_
  refine pg_if_eq (tgt := 52) hx hb dX1_isStraight_40 (by decide) (⟨by omega, by omega⟩) (fun hc5 => absurd hc5 (by omega)) (fun hc5 => ?_)
  refine lv_aload_n hx hb dX1_isStraight_43 rfl (lv_at hl 0 rfl) ?_
  refine va_get (D := xG X) (ci := 1) (v := .ref ((xa X 1))) (C := RX1) (T := TX1) (N := 7) hx hb hts hin hown hK hP 0 rfl rfl 1 (by decide) (hts (.fieldLink RX1 7 "PegfieldModel" "stands" "[Z") (by decide +kernel)) (fun _ h9 => h9) rfl dX1_isStraight_44 ?_
  refine lv_iload_n hx hb dX1_isStraight_47 rfl (lv_at hl 3 rfl) ?_
  refine pg_zald hx hb hK hP 1 0 (f := (sS S)) rfl rfl c2 (rfl) (by omega) (by decide) dX1_isStraight_48 ?_
  refine pg_if_ne (tgt := 56) hx hb dX1_isStraight_49 (by decide) (⟨by omega, by omega⟩) (fun hc6 => ?_) (fun hc6 => absurd hc6 (by omega))
  refine lv_iconst (v := iI 0) hx hb dX1_isStraight_56 rfl ?_
  refine lv_iconst (v := iI 2) hx hb dX1_isStraight_57 rfl ?_
  refine pg_wcallV (As := [.int (iI 0), .int (iI 2)]) (rest := []) (l1 := []) (l2 := []) (w := [(xa X 0, .inr (1, [.int (iI 0), .ref ((xa X 1)), .ref ((xa X 2)), .ref ((xa X 3)), .ref ((xa X 4)), .int (iI (((sN S : Nat) : Int))), .int (iI (((sW S : Nat) : Int)))])), (xa X 1, .inl (xZ X, 12, .inl (fI (sS S)))), (xa X 2, .inl (xI X, 12, .inl (fI (sA S)))), (xa X 3, .inl (xI X, 12, .inl (fI (sU S)))), (xa X 4, .inl (xI X, 12, .inl (fI (sR S))))]) (w' := [(xa X 0, .inr (1, [.int (iI 0), .ref ((xa X 1)), .ref ((xa X 2)), .ref ((xa X 3)), .ref ((xa X 4)), .int (iI (((sN S : Nat) : Int))), .int (iI (((sW S : Nat) : Int)))])), (xa X 1, .inl (xZ X, 12, .inl (fI (sS S)))), (xa X 2, .inl (xI X, 12, .inl (fI (sA S)))), (xa X 3, .inl (xI X, 12, .inl (fI (sU S)))), (xa X 4, .inl (xI X, 12, .inl (fI (sR S))))]) SC (c_X1_isThrown l X S 0 0 2 0 ⟨by omega, by omega⟩ (by omega)) pT_st pT_h (cwV 2 hts gX1_isStraight_X1_isThrown rfl rfl rfl (by decide +kernel) ⟨Nat.le_of_ble_eq_true rfl, Nat.le_of_ble_eq_true rfl⟩) (va_recv hK hP (ci := 1) (q0 := 0) rfl rfl) hK hP hD hS rfl rfl hl.1 rfl (Nat.le_of_ble_eq_true rfl) dX1_isStraight_58 ⟨Nat.zero_le _, Nat.zero_le _⟩ (fun H locs hP hD hS => ?_)
  have hP : va_P (xG X) vwCl ([(xa X 0, .inr (1, [.int (iI 0), .ref ((xa X 1)), .ref ((xa X 2)), .ref ((xa X 3)), .ref ((xa X 4)), .int (iI (((sN S : Nat) : Int))), .int (iI (((sW S : Nat) : Int)))])), (xa X 1, .inl (xZ X, 12, .inl (fI (sS S)))), (xa X 2, .inl (xI X, 12, .inl (fI (sA S)))), (xa X 3, .inl (xI X, 12, .inl (fI (sU S)))), (xa X 4, .inl (xI X, 12, .inl (fI (sR S))))]) H := hP
  have hD : va_D (pg_in ((mC X S t))) ([(xa X 0, .inr (1, [.int (iI 0), .ref ((xa X 1)), .ref ((xa X 2)), .ref ((xa X 3)), .ref ((xa X 4)), .int (iI (((sN S : Nat) : Int))), .int (iI (((sW S : Nat) : Int)))])), (xa X 1, .inl (xZ X, 12, .inl (fI (sS S)))), (xa X 2, .inl (xI X, 12, .inl (fI (sA S)))), (xa X 3, .inl (xI X, 12, .inl (fI (sU S)))), (xa X 4, .inl (xI X, 12, .inl (fI (sR S))))]) := hD
  refine pg_if_eq (tgt := 66) hx hb dX1_isStraight_61 (by decide) (⟨by omega, by omega⟩) (fun hc7 => ?_) (fun hc7 => absurd hc7 (by omega))
  refine lv_aload_n hx hb dX1_isStraight_66 rfl (lv_at hl 0 rfl) ?_
  refine lv_iload_n hx hb dX1_isStraight_67 rfl (lv_at hl 1 rfl) ?_
  refine lv_iload_n hx hb dX1_isStraight_68 rfl (lv_at hl 2 rfl) ?_
  refine lv_iload_n hx hb dX1_isStraight_69 rfl (lv_at hl 3 rfl) ?_
  refine pg_callV (As := [.int (iI (((a : Nat) : Int))), .int (iI (((b : Nat) : Int))), .int (iI (((c2 : Nat) : Int)))]) (rest := []) SC (c_X1_isNoLonger l X S 0 hok a b c2 (by omega) (by omega) (by omega)) mB_st (mB_h hP hK) (cwV 3 hts gX1_isStraight_X1_isNoLonger rfl rfl rfl (by decide +kernel) ⟨Nat.le_of_ble_eq_true rfl, Nat.le_of_ble_eq_true rfl⟩) (va_recv hK hP (ci := 1) (q0 := 0) rfl rfl) rfl hl.1 rfl (Nat.le_of_ble_eq_true rfl) dX1_isStraight_70 ⟨Nat.zero_le _, Nat.zero_le _⟩ ?_
  exact pg_wzret hx hb hr hlk hP hS  (iI_bool (by omega)) (congrArg (fun z : Int => some (Value.int (iI z))) (show 1 = 1 by omega)) dX1_isStraight_73
set_option maxRecDepth 100000 in
set_option maxHeartbeats 4000000 in
theorem c_X1_isStraight_1 (l : Launch) (X : pgX) (S : pgS) (t : Int) (pp qq rr : Int) (hp : inI pp) (hq : inI qq) (hr9 : inI rr) (h : pp < 0 ∨ 12 ≤ pp ∨ qq < 0 ∨ 12 ≤ qq ∨ rr < 0 ∨ 12 ≤ rr) : pg_wr l yX1_isStraight wsX1_isStraight (rm 2 43) (xG X) (xTy X) pT (mC X S t) (mC X S 1) 0 0 [.ref ((xa X 0)), .int (iI pp), .int (iI qq), .int (iI rr)] (some (.int (iI 0))) := by
  refine pg_wr_of (cc := cX1_isStraight) (maxL := 4) (ret := (some .boolean)) (by decide) rfl (Nat.le_of_ble_eq_true rfl) ?_
  intro p e s m below meth c ls SC hr hlk hP hK hD hS hB hl
  obtain ⟨hx, hb, hml, hown, hts⟩ := id SC
  have hown : s.vm.findClass RX1 = some m.cls := hown
  have hl : lv_has ls 4 [(0, .ref ((xa X 0))), (1, .int (iI pp)), (2, .int (iI qq)), (3, .int (iI rr))] := hl
  refine lv_aload_n hx hb dX1_isStraight_0 rfl (lv_at hl 0 rfl) ?_
  refine lv_iload_n hx hb dX1_isStraight_1 rfl (lv_at hl 1 rfl) ?_
  by_cases hs1 : 0 ≤ pp ∧ pp < 12
  · refine pg_wcallV (As := [.int (iI pp)]) (rest := []) (l1 := []) (l2 := []) (w := [(xa X 0, .inr (1, [.int (iI t), .ref ((xa X 1)), .ref ((xa X 2)), .ref ((xa X 3)), .ref ((xa X 4)), .int (iI (((sN S : Nat) : Int))), .int (iI (((sW S : Nat) : Int)))])), (xa X 1, .inl (xZ X, 12, .inl (fI (sS S)))), (xa X 2, .inl (xI X, 12, .inl (fI (sA S)))), (xa X 3, .inl (xI X, 12, .inl (fI (sU S)))), (xa X 4, .inl (xI X, 12, .inl (fI (sR S))))]) (w' := [(xa X 0, .inr (1, [.int (iI 0), .ref ((xa X 1)), .ref ((xa X 2)), .ref ((xa X 3)), .ref ((xa X 4)), .int (iI (((sN S : Nat) : Int))), .int (iI (((sW S : Nat) : Int)))])), (xa X 1, .inl (xZ X, 12, .inl (fI (sS S)))), (xa X 2, .inl (xI X, 12, .inl (fI (sA S)))), (xa X 3, .inl (xI X, 12, .inl (fI (sU S)))), (xa X 4, .inl (xI X, 12, .inl (fI (sR S))))]) SC (c_X1_isNoNumber_ok l X S t pp (by omega)) pT_st pT_h (cwV 1 hts gX1_isStraight_X1_isNoNumber rfl rfl rfl (by decide +kernel) ⟨Nat.le_of_ble_eq_true rfl, Nat.le_of_ble_eq_true rfl⟩) (va_recv hK hP (ci := 1) (q0 := 0) rfl rfl) hK hP hD hS rfl rfl hl.1 rfl (Nat.le_of_ble_eq_true rfl) dX1_isStraight_2 ⟨Nat.zero_le _, Nat.zero_le _⟩ (fun H locs hP hD hS => ?_)
    have hP : va_P (xG X) vwCl ([(xa X 0, .inr (1, [.int (iI 0), .ref ((xa X 1)), .ref ((xa X 2)), .ref ((xa X 3)), .ref ((xa X 4)), .int (iI (((sN S : Nat) : Int))), .int (iI (((sW S : Nat) : Int)))])), (xa X 1, .inl (xZ X, 12, .inl (fI (sS S)))), (xa X 2, .inl (xI X, 12, .inl (fI (sA S)))), (xa X 3, .inl (xI X, 12, .inl (fI (sU S)))), (xa X 4, .inl (xI X, 12, .inl (fI (sR S))))]) H := hP
    have hD : va_D (pg_in ((mC X S t))) ([(xa X 0, .inr (1, [.int (iI 0), .ref ((xa X 1)), .ref ((xa X 2)), .ref ((xa X 3)), .ref ((xa X 4)), .int (iI (((sN S : Nat) : Int))), .int (iI (((sW S : Nat) : Int)))])), (xa X 1, .inl (xZ X, 12, .inl (fI (sS S)))), (xa X 2, .inl (xI X, 12, .inl (fI (sA S)))), (xa X 3, .inl (xI X, 12, .inl (fI (sU S)))), (xa X 4, .inl (xI X, 12, .inl (fI (sR S))))]) := hD
    refine pg_if_ne (tgt := 64) hx hb dX1_isStraight_5 (by decide) (⟨by omega, by omega⟩) (fun hc2 => absurd hc2 (by omega)) (fun hc2 => ?_)
    refine lv_aload_n hx hb dX1_isStraight_8 rfl (lv_at hl 0 rfl) ?_
    refine lv_iload_n hx hb dX1_isStraight_9 rfl (lv_at hl 2 rfl) ?_
    by_cases hs3 : 0 ≤ qq ∧ qq < 12
    · refine pg_wcallV (As := [.int (iI qq)]) (rest := []) (l1 := []) (l2 := []) (w := [(xa X 0, .inr (1, [.int (iI 0), .ref ((xa X 1)), .ref ((xa X 2)), .ref ((xa X 3)), .ref ((xa X 4)), .int (iI (((sN S : Nat) : Int))), .int (iI (((sW S : Nat) : Int)))])), (xa X 1, .inl (xZ X, 12, .inl (fI (sS S)))), (xa X 2, .inl (xI X, 12, .inl (fI (sA S)))), (xa X 3, .inl (xI X, 12, .inl (fI (sU S)))), (xa X 4, .inl (xI X, 12, .inl (fI (sR S))))]) (w' := [(xa X 0, .inr (1, [.int (iI 0), .ref ((xa X 1)), .ref ((xa X 2)), .ref ((xa X 3)), .ref ((xa X 4)), .int (iI (((sN S : Nat) : Int))), .int (iI (((sW S : Nat) : Int)))])), (xa X 1, .inl (xZ X, 12, .inl (fI (sS S)))), (xa X 2, .inl (xI X, 12, .inl (fI (sA S)))), (xa X 3, .inl (xI X, 12, .inl (fI (sU S)))), (xa X 4, .inl (xI X, 12, .inl (fI (sR S))))]) SC (c_X1_isNoNumber_ok l X S 0 qq (by omega)) pT_st pT_h (cwV 1 hts gX1_isStraight_X1_isNoNumber rfl rfl rfl (by decide +kernel) ⟨Nat.le_of_ble_eq_true rfl, Nat.le_of_ble_eq_true rfl⟩) (va_recv hK hP (ci := 1) (q0 := 0) rfl rfl) hK hP hD hS rfl rfl hl.1 rfl (Nat.le_of_ble_eq_true rfl) dX1_isStraight_10 ⟨Nat.zero_le _, Nat.zero_le _⟩ (fun H locs hP hD hS => ?_)
      have hP : va_P (xG X) vwCl ([(xa X 0, .inr (1, [.int (iI 0), .ref ((xa X 1)), .ref ((xa X 2)), .ref ((xa X 3)), .ref ((xa X 4)), .int (iI (((sN S : Nat) : Int))), .int (iI (((sW S : Nat) : Int)))])), (xa X 1, .inl (xZ X, 12, .inl (fI (sS S)))), (xa X 2, .inl (xI X, 12, .inl (fI (sA S)))), (xa X 3, .inl (xI X, 12, .inl (fI (sU S)))), (xa X 4, .inl (xI X, 12, .inl (fI (sR S))))]) H := hP
      have hD : va_D (pg_in ((mC X S t))) ([(xa X 0, .inr (1, [.int (iI 0), .ref ((xa X 1)), .ref ((xa X 2)), .ref ((xa X 3)), .ref ((xa X 4)), .int (iI (((sN S : Nat) : Int))), .int (iI (((sW S : Nat) : Int)))])), (xa X 1, .inl (xZ X, 12, .inl (fI (sS S)))), (xa X 2, .inl (xI X, 12, .inl (fI (sA S)))), (xa X 3, .inl (xI X, 12, .inl (fI (sU S)))), (xa X 4, .inl (xI X, 12, .inl (fI (sR S))))]) := hD
      refine pg_if_ne (tgt := 64) hx hb dX1_isStraight_13 (by decide) (⟨by omega, by omega⟩) (fun hc4 => absurd hc4 (by omega)) (fun hc4 => ?_)
      refine lv_aload_n hx hb dX1_isStraight_16 rfl (lv_at hl 0 rfl) ?_
      refine lv_iload_n hx hb dX1_isStraight_17 rfl (lv_at hl 3 rfl) ?_
      refine pg_wcallV (As := [.int (iI rr)]) (rest := []) (l1 := []) (l2 := []) (w := [(xa X 0, .inr (1, [.int (iI 0), .ref ((xa X 1)), .ref ((xa X 2)), .ref ((xa X 3)), .ref ((xa X 4)), .int (iI (((sN S : Nat) : Int))), .int (iI (((sW S : Nat) : Int)))])), (xa X 1, .inl (xZ X, 12, .inl (fI (sS S)))), (xa X 2, .inl (xI X, 12, .inl (fI (sA S)))), (xa X 3, .inl (xI X, 12, .inl (fI (sU S)))), (xa X 4, .inl (xI X, 12, .inl (fI (sR S))))]) (w' := [(xa X 0, .inr (1, [.int (iI 1), .ref ((xa X 1)), .ref ((xa X 2)), .ref ((xa X 3)), .ref ((xa X 4)), .int (iI (((sN S : Nat) : Int))), .int (iI (((sW S : Nat) : Int)))])), (xa X 1, .inl (xZ X, 12, .inl (fI (sS S)))), (xa X 2, .inl (xI X, 12, .inl (fI (sA S)))), (xa X 3, .inl (xI X, 12, .inl (fI (sU S)))), (xa X 4, .inl (xI X, 12, .inl (fI (sR S))))]) SC (c_X1_isNoNumber_1 l X S 0 rr ⟨by omega, by omega⟩ (by omega)) pT_st pT_h (cwV 1 hts gX1_isStraight_X1_isNoNumber rfl rfl rfl (by decide +kernel) ⟨Nat.le_of_ble_eq_true rfl, Nat.le_of_ble_eq_true rfl⟩) (va_recv hK hP (ci := 1) (q0 := 0) rfl rfl) hK hP hD hS rfl rfl hl.1 rfl (Nat.le_of_ble_eq_true rfl) dX1_isStraight_18 ⟨Nat.zero_le _, Nat.zero_le _⟩ (fun H locs hP hD hS => ?_)
      have hP : va_P (xG X) vwCl ([(xa X 0, .inr (1, [.int (iI 1), .ref ((xa X 1)), .ref ((xa X 2)), .ref ((xa X 3)), .ref ((xa X 4)), .int (iI (((sN S : Nat) : Int))), .int (iI (((sW S : Nat) : Int)))])), (xa X 1, .inl (xZ X, 12, .inl (fI (sS S)))), (xa X 2, .inl (xI X, 12, .inl (fI (sA S)))), (xa X 3, .inl (xI X, 12, .inl (fI (sU S)))), (xa X 4, .inl (xI X, 12, .inl (fI (sR S))))]) H := hP
      have hD : va_D (pg_in ((mC X S t))) ([(xa X 0, .inr (1, [.int (iI 1), .ref ((xa X 1)), .ref ((xa X 2)), .ref ((xa X 3)), .ref ((xa X 4)), .int (iI (((sN S : Nat) : Int))), .int (iI (((sW S : Nat) : Int)))])), (xa X 1, .inl (xZ X, 12, .inl (fI (sS S)))), (xa X 2, .inl (xI X, 12, .inl (fI (sA S)))), (xa X 3, .inl (xI X, 12, .inl (fI (sU S)))), (xa X 4, .inl (xI X, 12, .inl (fI (sR S))))]) := hD
      refine pg_if_ne (tgt := 64) hx hb dX1_isStraight_21 (by decide) (⟨by omega, by omega⟩) (fun hc5 => ?_) (fun hc5 => absurd hc5 (by omega))
      refine lv_iconst (v := iI 0) hx hb dX1_isStraight_64 rfl ?_
      exact pg_wzret hx hb hr hlk hP hS  (iI_bool (by omega)) (congrArg (fun z : Int => some (Value.int (iI z))) (show 0 = 0 by omega)) dX1_isStraight_65
    · refine pg_wcallV (As := [.int (iI qq)]) (rest := []) (l1 := []) (l2 := []) (w := [(xa X 0, .inr (1, [.int (iI 0), .ref ((xa X 1)), .ref ((xa X 2)), .ref ((xa X 3)), .ref ((xa X 4)), .int (iI (((sN S : Nat) : Int))), .int (iI (((sW S : Nat) : Int)))])), (xa X 1, .inl (xZ X, 12, .inl (fI (sS S)))), (xa X 2, .inl (xI X, 12, .inl (fI (sA S)))), (xa X 3, .inl (xI X, 12, .inl (fI (sU S)))), (xa X 4, .inl (xI X, 12, .inl (fI (sR S))))]) (w' := [(xa X 0, .inr (1, [.int (iI 1), .ref ((xa X 1)), .ref ((xa X 2)), .ref ((xa X 3)), .ref ((xa X 4)), .int (iI (((sN S : Nat) : Int))), .int (iI (((sW S : Nat) : Int)))])), (xa X 1, .inl (xZ X, 12, .inl (fI (sS S)))), (xa X 2, .inl (xI X, 12, .inl (fI (sA S)))), (xa X 3, .inl (xI X, 12, .inl (fI (sU S)))), (xa X 4, .inl (xI X, 12, .inl (fI (sR S))))]) SC (c_X1_isNoNumber_1 l X S 0 qq ⟨by omega, by omega⟩ (by omega)) pT_st pT_h (cwV 1 hts gX1_isStraight_X1_isNoNumber rfl rfl rfl (by decide +kernel) ⟨Nat.le_of_ble_eq_true rfl, Nat.le_of_ble_eq_true rfl⟩) (va_recv hK hP (ci := 1) (q0 := 0) rfl rfl) hK hP hD hS rfl rfl hl.1 rfl (Nat.le_of_ble_eq_true rfl) dX1_isStraight_10 ⟨Nat.zero_le _, Nat.zero_le _⟩ (fun H locs hP hD hS => ?_)
      have hP : va_P (xG X) vwCl ([(xa X 0, .inr (1, [.int (iI 1), .ref ((xa X 1)), .ref ((xa X 2)), .ref ((xa X 3)), .ref ((xa X 4)), .int (iI (((sN S : Nat) : Int))), .int (iI (((sW S : Nat) : Int)))])), (xa X 1, .inl (xZ X, 12, .inl (fI (sS S)))), (xa X 2, .inl (xI X, 12, .inl (fI (sA S)))), (xa X 3, .inl (xI X, 12, .inl (fI (sU S)))), (xa X 4, .inl (xI X, 12, .inl (fI (sR S))))]) H := hP
      have hD : va_D (pg_in ((mC X S t))) ([(xa X 0, .inr (1, [.int (iI 1), .ref ((xa X 1)), .ref ((xa X 2)), .ref ((xa X 3)), .ref ((xa X 4)), .int (iI (((sN S : Nat) : Int))), .int (iI (((sW S : Nat) : Int)))])), (xa X 1, .inl (xZ X, 12, .inl (fI (sS S)))), (xa X 2, .inl (xI X, 12, .inl (fI (sA S)))), (xa X 3, .inl (xI X, 12, .inl (fI (sU S)))), (xa X 4, .inl (xI X, 12, .inl (fI (sR S))))]) := hD
      refine pg_if_ne (tgt := 64) hx hb dX1_isStraight_13 (by decide) (⟨by omega, by omega⟩) (fun hc6 => ?_) (fun hc6 => absurd hc6 (by omega))
      refine lv_iconst (v := iI 0) hx hb dX1_isStraight_64 rfl ?_
      exact pg_wzret hx hb hr hlk hP hS  (iI_bool (by omega)) (congrArg (fun z : Int => some (Value.int (iI z))) (show 0 = 0 by omega)) dX1_isStraight_65
  · refine pg_wcallV (As := [.int (iI pp)]) (rest := []) (l1 := []) (l2 := []) (w := [(xa X 0, .inr (1, [.int (iI t), .ref ((xa X 1)), .ref ((xa X 2)), .ref ((xa X 3)), .ref ((xa X 4)), .int (iI (((sN S : Nat) : Int))), .int (iI (((sW S : Nat) : Int)))])), (xa X 1, .inl (xZ X, 12, .inl (fI (sS S)))), (xa X 2, .inl (xI X, 12, .inl (fI (sA S)))), (xa X 3, .inl (xI X, 12, .inl (fI (sU S)))), (xa X 4, .inl (xI X, 12, .inl (fI (sR S))))]) (w' := [(xa X 0, .inr (1, [.int (iI 1), .ref ((xa X 1)), .ref ((xa X 2)), .ref ((xa X 3)), .ref ((xa X 4)), .int (iI (((sN S : Nat) : Int))), .int (iI (((sW S : Nat) : Int)))])), (xa X 1, .inl (xZ X, 12, .inl (fI (sS S)))), (xa X 2, .inl (xI X, 12, .inl (fI (sA S)))), (xa X 3, .inl (xI X, 12, .inl (fI (sU S)))), (xa X 4, .inl (xI X, 12, .inl (fI (sR S))))]) SC (c_X1_isNoNumber_1 l X S t pp ⟨by omega, by omega⟩ (by omega)) pT_st pT_h (cwV 1 hts gX1_isStraight_X1_isNoNumber rfl rfl rfl (by decide +kernel) ⟨Nat.le_of_ble_eq_true rfl, Nat.le_of_ble_eq_true rfl⟩) (va_recv hK hP (ci := 1) (q0 := 0) rfl rfl) hK hP hD hS rfl rfl hl.1 rfl (Nat.le_of_ble_eq_true rfl) dX1_isStraight_2 ⟨Nat.zero_le _, Nat.zero_le _⟩ (fun H locs hP hD hS => ?_)
    have hP : va_P (xG X) vwCl ([(xa X 0, .inr (1, [.int (iI 1), .ref ((xa X 1)), .ref ((xa X 2)), .ref ((xa X 3)), .ref ((xa X 4)), .int (iI (((sN S : Nat) : Int))), .int (iI (((sW S : Nat) : Int)))])), (xa X 1, .inl (xZ X, 12, .inl (fI (sS S)))), (xa X 2, .inl (xI X, 12, .inl (fI (sA S)))), (xa X 3, .inl (xI X, 12, .inl (fI (sU S)))), (xa X 4, .inl (xI X, 12, .inl (fI (sR S))))]) H := hP
    have hD : va_D (pg_in ((mC X S t))) ([(xa X 0, .inr (1, [.int (iI 1), .ref ((xa X 1)), .ref ((xa X 2)), .ref ((xa X 3)), .ref ((xa X 4)), .int (iI (((sN S : Nat) : Int))), .int (iI (((sW S : Nat) : Int)))])), (xa X 1, .inl (xZ X, 12, .inl (fI (sS S)))), (xa X 2, .inl (xI X, 12, .inl (fI (sA S)))), (xa X 3, .inl (xI X, 12, .inl (fI (sU S)))), (xa X 4, .inl (xI X, 12, .inl (fI (sR S))))]) := hD
    refine pg_if_ne (tgt := 64) hx hb dX1_isStraight_5 (by decide) (⟨by omega, by omega⟩) (fun hc7 => ?_) (fun hc7 => absurd hc7 (by omega))
    refine lv_iconst (v := iI 0) hx hb dX1_isStraight_64 rfl ?_
    exact pg_wzret hx hb hr hlk hP hS  (iI_bool (by omega)) (congrArg (fun z : Int => some (Value.int (iI z))) (show 0 = 0 by omega)) dX1_isStraight_65
set_option maxRecDepth 100000 in
set_option maxHeartbeats 4000000 in
theorem c_X1_isStraight_2 (l : Launch) (X : pgX) (S : pgS) (t : Int) (a b c2 : Nat) (ha : a < 12) (hb2 : b < 12) (hc2 : c2 < 12) (h : sS S a = 0 ∨ sS S b = 0 ∨ sS S c2 = 0) (h1 : sS S a ≤ 1) (h2 : sS S b ≤ 1) (h3 : sS S c2 ≤ 1) : pg_wr l yX1_isStraight wsX1_isStraight (rm 2 43) (xG X) (xTy X) pT (mC X S t) (mC X S 2) 0 0 [.ref ((xa X 0)), .int (iI (((a : Nat) : Int))), .int (iI (((b : Nat) : Int))), .int (iI (((c2 : Nat) : Int)))] (some (.int (iI 0))) := by
  refine pg_wr_of (cc := cX1_isStraight) (maxL := 4) (ret := (some .boolean)) (by decide) rfl (Nat.le_of_ble_eq_true rfl) ?_
  intro p e s m below meth c ls SC hr hlk hP hK hD hS hB hl
  obtain ⟨hx, hb, hml, hown, hts⟩ := id SC
  have hown : s.vm.findClass RX1 = some m.cls := hown
  have hl : lv_has ls 4 [(0, .ref ((xa X 0))), (1, .int (iI (((a : Nat) : Int)))), (2, .int (iI (((b : Nat) : Int)))), (3, .int (iI (((c2 : Nat) : Int))))] := hl
  have hin : ∀ w ∈ u_ws RX1 TX1 7, w ∈ wsX1_isStraight := by decide +kernel
  refine lv_aload_n hx hb dX1_isStraight_0 rfl (lv_at hl 0 rfl) ?_
  refine lv_iload_n hx hb dX1_isStraight_1 rfl (lv_at hl 1 rfl) ?_
  refine pg_wcallV (As := [.int (iI (((a : Nat) : Int)))]) (rest := []) (l1 := []) (l2 := []) (w := [(xa X 0, .inr (1, [.int (iI t), .ref ((xa X 1)), .ref ((xa X 2)), .ref ((xa X 3)), .ref ((xa X 4)), .int (iI (((sN S : Nat) : Int))), .int (iI (((sW S : Nat) : Int)))])), (xa X 1, .inl (xZ X, 12, .inl (fI (sS S)))), (xa X 2, .inl (xI X, 12, .inl (fI (sA S)))), (xa X 3, .inl (xI X, 12, .inl (fI (sU S)))), (xa X 4, .inl (xI X, 12, .inl (fI (sR S))))]) (w' := [(xa X 0, .inr (1, [.int (iI 0), .ref ((xa X 1)), .ref ((xa X 2)), .ref ((xa X 3)), .ref ((xa X 4)), .int (iI (((sN S : Nat) : Int))), .int (iI (((sW S : Nat) : Int)))])), (xa X 1, .inl (xZ X, 12, .inl (fI (sS S)))), (xa X 2, .inl (xI X, 12, .inl (fI (sA S)))), (xa X 3, .inl (xI X, 12, .inl (fI (sU S)))), (xa X 4, .inl (xI X, 12, .inl (fI (sR S))))]) SC (c_X1_isNoNumber_ok l X S t (((a : Nat) : Int)) (by omega)) pT_st pT_h (cwV 1 hts gX1_isStraight_X1_isNoNumber rfl rfl rfl (by decide +kernel) ⟨Nat.le_of_ble_eq_true rfl, Nat.le_of_ble_eq_true rfl⟩) (va_recv hK hP (ci := 1) (q0 := 0) rfl rfl) hK hP hD hS rfl rfl hl.1 rfl (Nat.le_of_ble_eq_true rfl) dX1_isStraight_2 ⟨Nat.zero_le _, Nat.zero_le _⟩ (fun H locs hP hD hS => ?_)
  have hP : va_P (xG X) vwCl ([(xa X 0, .inr (1, [.int (iI 0), .ref ((xa X 1)), .ref ((xa X 2)), .ref ((xa X 3)), .ref ((xa X 4)), .int (iI (((sN S : Nat) : Int))), .int (iI (((sW S : Nat) : Int)))])), (xa X 1, .inl (xZ X, 12, .inl (fI (sS S)))), (xa X 2, .inl (xI X, 12, .inl (fI (sA S)))), (xa X 3, .inl (xI X, 12, .inl (fI (sU S)))), (xa X 4, .inl (xI X, 12, .inl (fI (sR S))))]) H := hP
  have hD : va_D (pg_in ((mC X S t))) ([(xa X 0, .inr (1, [.int (iI 0), .ref ((xa X 1)), .ref ((xa X 2)), .ref ((xa X 3)), .ref ((xa X 4)), .int (iI (((sN S : Nat) : Int))), .int (iI (((sW S : Nat) : Int)))])), (xa X 1, .inl (xZ X, 12, .inl (fI (sS S)))), (xa X 2, .inl (xI X, 12, .inl (fI (sA S)))), (xa X 3, .inl (xI X, 12, .inl (fI (sU S)))), (xa X 4, .inl (xI X, 12, .inl (fI (sR S))))]) := hD
  refine pg_if_ne (tgt := 64) hx hb dX1_isStraight_5 (by decide) (⟨by omega, by omega⟩) (fun hc1 => absurd hc1 (by omega)) (fun hc1 => ?_)
  refine lv_aload_n hx hb dX1_isStraight_8 rfl (lv_at hl 0 rfl) ?_
  refine lv_iload_n hx hb dX1_isStraight_9 rfl (lv_at hl 2 rfl) ?_
  refine pg_wcallV (As := [.int (iI (((b : Nat) : Int)))]) (rest := []) (l1 := []) (l2 := []) (w := [(xa X 0, .inr (1, [.int (iI 0), .ref ((xa X 1)), .ref ((xa X 2)), .ref ((xa X 3)), .ref ((xa X 4)), .int (iI (((sN S : Nat) : Int))), .int (iI (((sW S : Nat) : Int)))])), (xa X 1, .inl (xZ X, 12, .inl (fI (sS S)))), (xa X 2, .inl (xI X, 12, .inl (fI (sA S)))), (xa X 3, .inl (xI X, 12, .inl (fI (sU S)))), (xa X 4, .inl (xI X, 12, .inl (fI (sR S))))]) (w' := [(xa X 0, .inr (1, [.int (iI 0), .ref ((xa X 1)), .ref ((xa X 2)), .ref ((xa X 3)), .ref ((xa X 4)), .int (iI (((sN S : Nat) : Int))), .int (iI (((sW S : Nat) : Int)))])), (xa X 1, .inl (xZ X, 12, .inl (fI (sS S)))), (xa X 2, .inl (xI X, 12, .inl (fI (sA S)))), (xa X 3, .inl (xI X, 12, .inl (fI (sU S)))), (xa X 4, .inl (xI X, 12, .inl (fI (sR S))))]) SC (c_X1_isNoNumber_ok l X S 0 (((b : Nat) : Int)) (by omega)) pT_st pT_h (cwV 1 hts gX1_isStraight_X1_isNoNumber rfl rfl rfl (by decide +kernel) ⟨Nat.le_of_ble_eq_true rfl, Nat.le_of_ble_eq_true rfl⟩) (va_recv hK hP (ci := 1) (q0 := 0) rfl rfl) hK hP hD hS rfl rfl hl.1 rfl (Nat.le_of_ble_eq_true rfl) dX1_isStraight_10 ⟨Nat.zero_le _, Nat.zero_le _⟩ (fun H locs hP hD hS => ?_)
  have hP : va_P (xG X) vwCl ([(xa X 0, .inr (1, [.int (iI 0), .ref ((xa X 1)), .ref ((xa X 2)), .ref ((xa X 3)), .ref ((xa X 4)), .int (iI (((sN S : Nat) : Int))), .int (iI (((sW S : Nat) : Int)))])), (xa X 1, .inl (xZ X, 12, .inl (fI (sS S)))), (xa X 2, .inl (xI X, 12, .inl (fI (sA S)))), (xa X 3, .inl (xI X, 12, .inl (fI (sU S)))), (xa X 4, .inl (xI X, 12, .inl (fI (sR S))))]) H := hP
  have hD : va_D (pg_in ((mC X S t))) ([(xa X 0, .inr (1, [.int (iI 0), .ref ((xa X 1)), .ref ((xa X 2)), .ref ((xa X 3)), .ref ((xa X 4)), .int (iI (((sN S : Nat) : Int))), .int (iI (((sW S : Nat) : Int)))])), (xa X 1, .inl (xZ X, 12, .inl (fI (sS S)))), (xa X 2, .inl (xI X, 12, .inl (fI (sA S)))), (xa X 3, .inl (xI X, 12, .inl (fI (sU S)))), (xa X 4, .inl (xI X, 12, .inl (fI (sR S))))]) := hD
  refine pg_if_ne (tgt := 64) hx hb dX1_isStraight_13 (by decide) (⟨by omega, by omega⟩) (fun hc2 => absurd hc2 (by omega)) (fun hc2 => ?_)
  refine lv_aload_n hx hb dX1_isStraight_16 rfl (lv_at hl 0 rfl) ?_
  refine lv_iload_n hx hb dX1_isStraight_17 rfl (lv_at hl 3 rfl) ?_
  refine pg_wcallV (As := [.int (iI (((c2 : Nat) : Int)))]) (rest := []) (l1 := []) (l2 := []) (w := [(xa X 0, .inr (1, [.int (iI 0), .ref ((xa X 1)), .ref ((xa X 2)), .ref ((xa X 3)), .ref ((xa X 4)), .int (iI (((sN S : Nat) : Int))), .int (iI (((sW S : Nat) : Int)))])), (xa X 1, .inl (xZ X, 12, .inl (fI (sS S)))), (xa X 2, .inl (xI X, 12, .inl (fI (sA S)))), (xa X 3, .inl (xI X, 12, .inl (fI (sU S)))), (xa X 4, .inl (xI X, 12, .inl (fI (sR S))))]) (w' := [(xa X 0, .inr (1, [.int (iI 0), .ref ((xa X 1)), .ref ((xa X 2)), .ref ((xa X 3)), .ref ((xa X 4)), .int (iI (((sN S : Nat) : Int))), .int (iI (((sW S : Nat) : Int)))])), (xa X 1, .inl (xZ X, 12, .inl (fI (sS S)))), (xa X 2, .inl (xI X, 12, .inl (fI (sA S)))), (xa X 3, .inl (xI X, 12, .inl (fI (sU S)))), (xa X 4, .inl (xI X, 12, .inl (fI (sR S))))]) SC (c_X1_isNoNumber_ok l X S 0 (((c2 : Nat) : Int)) (by omega)) pT_st pT_h (cwV 1 hts gX1_isStraight_X1_isNoNumber rfl rfl rfl (by decide +kernel) ⟨Nat.le_of_ble_eq_true rfl, Nat.le_of_ble_eq_true rfl⟩) (va_recv hK hP (ci := 1) (q0 := 0) rfl rfl) hK hP hD hS rfl rfl hl.1 rfl (Nat.le_of_ble_eq_true rfl) dX1_isStraight_18 ⟨Nat.zero_le _, Nat.zero_le _⟩ (fun H locs hP hD hS => ?_)
  have hP : va_P (xG X) vwCl ([(xa X 0, .inr (1, [.int (iI 0), .ref ((xa X 1)), .ref ((xa X 2)), .ref ((xa X 3)), .ref ((xa X 4)), .int (iI (((sN S : Nat) : Int))), .int (iI (((sW S : Nat) : Int)))])), (xa X 1, .inl (xZ X, 12, .inl (fI (sS S)))), (xa X 2, .inl (xI X, 12, .inl (fI (sA S)))), (xa X 3, .inl (xI X, 12, .inl (fI (sU S)))), (xa X 4, .inl (xI X, 12, .inl (fI (sR S))))]) H := hP
  have hD : va_D (pg_in ((mC X S t))) ([(xa X 0, .inr (1, [.int (iI 0), .ref ((xa X 1)), .ref ((xa X 2)), .ref ((xa X 3)), .ref ((xa X 4)), .int (iI (((sN S : Nat) : Int))), .int (iI (((sW S : Nat) : Int)))])), (xa X 1, .inl (xZ X, 12, .inl (fI (sS S)))), (xa X 2, .inl (xI X, 12, .inl (fI (sA S)))), (xa X 3, .inl (xI X, 12, .inl (fI (sU S)))), (xa X 4, .inl (xI X, 12, .inl (fI (sR S))))]) := hD
  refine pg_if_ne (tgt := 64) hx hb dX1_isStraight_21 (by decide) (⟨by omega, by omega⟩) (fun hc3 => absurd hc3 (by omega)) (fun hc3 => ?_)
  refine lv_aload_n hx hb dX1_isStraight_24 rfl (lv_at hl 0 rfl) ?_
  refine lv_aload_n hx hb dX1_isStraight_25 rfl (lv_at hl 0 rfl) ?_
  refine va_get (D := xG X) (ci := 1) (v := .ref ((xa X 1))) (C := RX1) (T := TX1) (N := 7) hx hb hts hin hown hK hP 0 rfl rfl 1 (by decide) (hts (.fieldLink RX1 7 "PegfieldModel" "stands" "[Z") (by decide +kernel)) (fun _ h9 => h9) rfl dX1_isStraight_26 ?_
  refine lv_iload_n hx hb dX1_isStraight_29 rfl (lv_at hl 1 rfl) ?_
  refine pg_zald hx hb hK hP 1 0 (f := (sS S)) rfl rfl a (rfl) (by omega) (by decide) dX1_isStraight_30 ?_
  refine pg_if_eq (tgt := 52) hx hb dX1_isStraight_31 (by decide) (⟨by omega, by omega⟩) (fun hc4 => ?_) (fun hc4 => ?_)
  · refine lv_iconst (v := iI 1) hx hb dX1_isStraight_52 rfl ?_
    refine lv_goto (tgt := 57) hx hb dX1_isStraight_53 (by decide) ?_
    refine lv_iconst (v := iI 2) hx hb dX1_isStraight_57 rfl ?_
    refine pg_wcallV (As := [.int (iI 1), .int (iI 2)]) (rest := []) (l1 := []) (l2 := []) (w := [(xa X 0, .inr (1, [.int (iI 0), .ref ((xa X 1)), .ref ((xa X 2)), .ref ((xa X 3)), .ref ((xa X 4)), .int (iI (((sN S : Nat) : Int))), .int (iI (((sW S : Nat) : Int)))])), (xa X 1, .inl (xZ X, 12, .inl (fI (sS S)))), (xa X 2, .inl (xI X, 12, .inl (fI (sA S)))), (xa X 3, .inl (xI X, 12, .inl (fI (sU S)))), (xa X 4, .inl (xI X, 12, .inl (fI (sR S))))]) (w' := [(xa X 0, .inr (1, [.int (iI 2), .ref ((xa X 1)), .ref ((xa X 2)), .ref ((xa X 3)), .ref ((xa X 4)), .int (iI (((sN S : Nat) : Int))), .int (iI (((sW S : Nat) : Int)))])), (xa X 1, .inl (xZ X, 12, .inl (fI (sS S)))), (xa X 2, .inl (xI X, 12, .inl (fI (sA S)))), (xa X 3, .inl (xI X, 12, .inl (fI (sU S)))), (xa X 4, .inl (xI X, 12, .inl (fI (sR S))))]) SC (c_X1_isThrown l X S 0 1 2 2 ⟨by omega, by omega⟩ (by omega)) pT_st pT_h (cwV 2 hts gX1_isStraight_X1_isThrown rfl rfl rfl (by decide +kernel) ⟨Nat.le_of_ble_eq_true rfl, Nat.le_of_ble_eq_true rfl⟩) (va_recv hK hP (ci := 1) (q0 := 0) rfl rfl) hK hP hD hS rfl rfl hl.1 rfl (Nat.le_of_ble_eq_true rfl) dX1_isStraight_58 ⟨Nat.zero_le _, Nat.zero_le _⟩ (fun H locs hP hD hS => ?_)
    have hP : va_P (xG X) vwCl ([(xa X 0, .inr (1, [.int (iI 2), .ref ((xa X 1)), .ref ((xa X 2)), .ref ((xa X 3)), .ref ((xa X 4)), .int (iI (((sN S : Nat) : Int))), .int (iI (((sW S : Nat) : Int)))])), (xa X 1, .inl (xZ X, 12, .inl (fI (sS S)))), (xa X 2, .inl (xI X, 12, .inl (fI (sA S)))), (xa X 3, .inl (xI X, 12, .inl (fI (sU S)))), (xa X 4, .inl (xI X, 12, .inl (fI (sR S))))]) H := hP
    have hD : va_D (pg_in ((mC X S t))) ([(xa X 0, .inr (1, [.int (iI 2), .ref ((xa X 1)), .ref ((xa X 2)), .ref ((xa X 3)), .ref ((xa X 4)), .int (iI (((sN S : Nat) : Int))), .int (iI (((sW S : Nat) : Int)))])), (xa X 1, .inl (xZ X, 12, .inl (fI (sS S)))), (xa X 2, .inl (xI X, 12, .inl (fI (sA S)))), (xa X 3, .inl (xI X, 12, .inl (fI (sU S)))), (xa X 4, .inl (xI X, 12, .inl (fI (sR S))))]) := hD
    refine pg_if_eq (tgt := 66) hx hb dX1_isStraight_61 (by decide) (⟨by omega, by omega⟩) (fun hc5 => absurd hc5 (by omega)) (fun hc5 => ?_)
    refine lv_iconst (v := iI 0) hx hb dX1_isStraight_64 rfl ?_
    exact pg_wzret hx hb hr hlk hP hS  (iI_bool (by omega)) (congrArg (fun z : Int => some (Value.int (iI z))) (show 0 = 0 by omega)) dX1_isStraight_65
  · refine lv_aload_n hx hb dX1_isStraight_34 rfl (lv_at hl 0 rfl) ?_
    refine va_get (D := xG X) (ci := 1) (v := .ref ((xa X 1))) (C := RX1) (T := TX1) (N := 7) hx hb hts hin hown hK hP 0 rfl rfl 1 (by decide) (hts (.fieldLink RX1 7 "PegfieldModel" "stands" "[Z") (by decide +kernel)) (fun _ h9 => h9) rfl dX1_isStraight_35 ?_
    refine lv_iload_n hx hb dX1_isStraight_38 rfl (lv_at hl 2 rfl) ?_
    refine pg_zald hx hb hK hP 1 0 (f := (sS S)) rfl rfl b (rfl) (by omega) (by decide) dX1_isStraight_39 ?_
    refine pg_if_eq (tgt := 52) hx hb dX1_isStraight_40 (by decide) (⟨by omega, by omega⟩) (fun hc6 => ?_) (fun hc6 => ?_)
    · refine lv_iconst (v := iI 1) hx hb dX1_isStraight_52 rfl ?_
      refine lv_goto (tgt := 57) hx hb dX1_isStraight_53 (by decide) ?_
      refine lv_iconst (v := iI 2) hx hb dX1_isStraight_57 rfl ?_
      refine pg_wcallV (As := [.int (iI 1), .int (iI 2)]) (rest := []) (l1 := []) (l2 := []) (w := [(xa X 0, .inr (1, [.int (iI 0), .ref ((xa X 1)), .ref ((xa X 2)), .ref ((xa X 3)), .ref ((xa X 4)), .int (iI (((sN S : Nat) : Int))), .int (iI (((sW S : Nat) : Int)))])), (xa X 1, .inl (xZ X, 12, .inl (fI (sS S)))), (xa X 2, .inl (xI X, 12, .inl (fI (sA S)))), (xa X 3, .inl (xI X, 12, .inl (fI (sU S)))), (xa X 4, .inl (xI X, 12, .inl (fI (sR S))))]) (w' := [(xa X 0, .inr (1, [.int (iI 2), .ref ((xa X 1)), .ref ((xa X 2)), .ref ((xa X 3)), .ref ((xa X 4)), .int (iI (((sN S : Nat) : Int))), .int (iI (((sW S : Nat) : Int)))])), (xa X 1, .inl (xZ X, 12, .inl (fI (sS S)))), (xa X 2, .inl (xI X, 12, .inl (fI (sA S)))), (xa X 3, .inl (xI X, 12, .inl (fI (sU S)))), (xa X 4, .inl (xI X, 12, .inl (fI (sR S))))]) SC (c_X1_isThrown l X S 0 1 2 2 ⟨by omega, by omega⟩ (by omega)) pT_st pT_h (cwV 2 hts gX1_isStraight_X1_isThrown rfl rfl rfl (by decide +kernel) ⟨Nat.le_of_ble_eq_true rfl, Nat.le_of_ble_eq_true rfl⟩) (va_recv hK hP (ci := 1) (q0 := 0) rfl rfl) hK hP hD hS rfl rfl hl.1 rfl (Nat.le_of_ble_eq_true rfl) dX1_isStraight_58 ⟨Nat.zero_le _, Nat.zero_le _⟩ (fun H locs hP hD hS => ?_)
      have hP : va_P (xG X) vwCl ([(xa X 0, .inr (1, [.int (iI 2), .ref ((xa X 1)), .ref ((xa X 2)), .ref ((xa X 3)), .ref ((xa X 4)), .int (iI (((sN S : Nat) : Int))), .int (iI (((sW S : Nat) : Int)))])), (xa X 1, .inl (xZ X, 12, .inl (fI (sS S)))), (xa X 2, .inl (xI X, 12, .inl (fI (sA S)))), (xa X 3, .inl (xI X, 12, .inl (fI (sU S)))), (xa X 4, .inl (xI X, 12, .inl (fI (sR S))))]) H := hP
      have hD : va_D (pg_in ((mC X S t))) ([(xa X 0, .inr (1, [.int (iI 2), .ref ((xa X 1)), .ref ((xa X 2)), .ref ((xa X 3)), .ref ((xa X 4)), .int (iI (((sN S : Nat) : Int))), .int (iI (((sW S : Nat) : Int)))])), (xa X 1, .inl (xZ X, 12, .inl (fI (sS S)))), (xa X 2, .inl (xI X, 12, .inl (fI (sA S)))), (xa X 3, .inl (xI X, 12, .inl (fI (sU S)))), (xa X 4, .inl (xI X, 12, .inl (fI (sR S))))]) := hD
      refine pg_if_eq (tgt := 66) hx hb dX1_isStraight_61 (by decide) (⟨by omega, by omega⟩) (fun hc7 => absurd hc7 (by omega)) (fun hc7 => ?_)
      refine lv_iconst (v := iI 0) hx hb dX1_isStraight_64 rfl ?_
      exact pg_wzret hx hb hr hlk hP hS  (iI_bool (by omega)) (congrArg (fun z : Int => some (Value.int (iI z))) (show 0 = 0 by omega)) dX1_isStraight_65
    · refine lv_aload_n hx hb dX1_isStraight_43 rfl (lv_at hl 0 rfl) ?_
      refine va_get (D := xG X) (ci := 1) (v := .ref ((xa X 1))) (C := RX1) (T := TX1) (N := 7) hx hb hts hin hown hK hP 0 rfl rfl 1 (by decide) (hts (.fieldLink RX1 7 "PegfieldModel" "stands" "[Z") (by decide +kernel)) (fun _ h9 => h9) rfl dX1_isStraight_44 ?_
      refine lv_iload_n hx hb dX1_isStraight_47 rfl (lv_at hl 3 rfl) ?_
      refine pg_zald hx hb hK hP 1 0 (f := (sS S)) rfl rfl c2 (rfl) (by omega) (by decide) dX1_isStraight_48 ?_
      refine pg_if_ne (tgt := 56) hx hb dX1_isStraight_49 (by decide) (⟨by omega, by omega⟩) (fun hc8 => absurd hc8 (by omega)) (fun hc8 => ?_)
      refine lv_iconst (v := iI 1) hx hb dX1_isStraight_52 rfl ?_
      refine lv_goto (tgt := 57) hx hb dX1_isStraight_53 (by decide) ?_
      refine lv_iconst (v := iI 2) hx hb dX1_isStraight_57 rfl ?_
      refine pg_wcallV (As := [.int (iI 1), .int (iI 2)]) (rest := []) (l1 := []) (l2 := []) (w := [(xa X 0, .inr (1, [.int (iI 0), .ref ((xa X 1)), .ref ((xa X 2)), .ref ((xa X 3)), .ref ((xa X 4)), .int (iI (((sN S : Nat) : Int))), .int (iI (((sW S : Nat) : Int)))])), (xa X 1, .inl (xZ X, 12, .inl (fI (sS S)))), (xa X 2, .inl (xI X, 12, .inl (fI (sA S)))), (xa X 3, .inl (xI X, 12, .inl (fI (sU S)))), (xa X 4, .inl (xI X, 12, .inl (fI (sR S))))]) (w' := [(xa X 0, .inr (1, [.int (iI 2), .ref ((xa X 1)), .ref ((xa X 2)), .ref ((xa X 3)), .ref ((xa X 4)), .int (iI (((sN S : Nat) : Int))), .int (iI (((sW S : Nat) : Int)))])), (xa X 1, .inl (xZ X, 12, .inl (fI (sS S)))), (xa X 2, .inl (xI X, 12, .inl (fI (sA S)))), (xa X 3, .inl (xI X, 12, .inl (fI (sU S)))), (xa X 4, .inl (xI X, 12, .inl (fI (sR S))))]) SC (c_X1_isThrown l X S 0 1 2 2 ⟨by omega, by omega⟩ (by omega)) pT_st pT_h (cwV 2 hts gX1_isStraight_X1_isThrown rfl rfl rfl (by decide +kernel) ⟨Nat.le_of_ble_eq_true rfl, Nat.le_of_ble_eq_true rfl⟩) (va_recv hK hP (ci := 1) (q0 := 0) rfl rfl) hK hP hD hS rfl rfl hl.1 rfl (Nat.le_of_ble_eq_true rfl) dX1_isStraight_58 ⟨Nat.zero_le _, Nat.zero_le _⟩ (fun H locs hP hD hS => ?_)
      have hP : va_P (xG X) vwCl ([(xa X 0, .inr (1, [.int (iI 2), .ref ((xa X 1)), .ref ((xa X 2)), .ref ((xa X 3)), .ref ((xa X 4)), .int (iI (((sN S : Nat) : Int))), .int (iI (((sW S : Nat) : Int)))])), (xa X 1, .inl (xZ X, 12, .inl (fI (sS S)))), (xa X 2, .inl (xI X, 12, .inl (fI (sA S)))), (xa X 3, .inl (xI X, 12, .inl (fI (sU S)))), (xa X 4, .inl (xI X, 12, .inl (fI (sR S))))]) H := hP
      have hD : va_D (pg_in ((mC X S t))) ([(xa X 0, .inr (1, [.int (iI 2), .ref ((xa X 1)), .ref ((xa X 2)), .ref ((xa X 3)), .ref ((xa X 4)), .int (iI (((sN S : Nat) : Int))), .int (iI (((sW S : Nat) : Int)))])), (xa X 1, .inl (xZ X, 12, .inl (fI (sS S)))), (xa X 2, .inl (xI X, 12, .inl (fI (sA S)))), (xa X 3, .inl (xI X, 12, .inl (fI (sU S)))), (xa X 4, .inl (xI X, 12, .inl (fI (sR S))))]) := hD
      refine pg_if_eq (tgt := 66) hx hb dX1_isStraight_61 (by decide) (⟨by omega, by omega⟩) (fun hc9 => absurd hc9 (by omega)) (fun hc9 => ?_)
      refine lv_iconst (v := iI 0) hx hb dX1_isStraight_64 rfl ?_
      exact pg_wzret hx hb hr hlk hP hS  (iI_bool (by omega)) (congrArg (fun z : Int => some (Value.int (iI z))) (show 0 = 0 by omega)) dX1_isStraight_65
set_option maxRecDepth 100000 in
set_option maxHeartbeats 4000000 in
theorem c_X1_nearest_ok (l : Launch) (X : pgX) (S : pgS) (t : Int) (hok : pgOk S) (k : Nat) (hk : k < 12) (h1 : sS S k = 1) (hn : nr S k 12 ≠ -1) : pg_wr l yX1_nearest wsX1_nearest (rm 4 97) (xG X) (xTy X) pT (mC X S t) (mC X S 0) 0 0 [.ref ((xa X 0)), .int (iI (((k : Nat) : Int)))] (some (.int (iI (nr S k 12)))) := by
  refine pg_wr_of (cc := cX1_nearest) (maxL := 2) (ret := (some .int)) (by decide) rfl (Nat.le_of_ble_eq_true rfl) ?_
  intro p e s m below meth c ls SC hr hlk hP hK hD hS hB hl
  obtain ⟨hx, hb, hml, hown, hts⟩ := id SC
  have hown : s.vm.findClass RX1 = some m.cls := hown
  have hl : lv_has ls 2 [(0, .ref ((xa X 0))), (1, .int (iI (((k : Nat) : Int))))] := hl
  have hcn := (nr_cnt hok.1 h1 12).2 hn
  rw [if_pos hk] at hcn
  have hcl := cnt_le hok.1 12
  refine lv_aload_n hx hb dX1_nearest_0 rfl (lv_at hl 0 rfl) ?_
  refine lv_iload_n hx hb dX1_nearest_1 rfl (lv_at hl 1 rfl) ?_
  refine pg_wcallV (As := [.int (iI (((k : Nat) : Int)))]) (rest := []) (l1 := []) (l2 := []) (w := [(xa X 0, .inr (1, [.int (iI t), .ref ((xa X 1)), .ref ((xa X 2)), .ref ((xa X 3)), .ref ((xa X 4)), .int (iI (((sN S : Nat) : Int))), .int (iI (((sW S : Nat) : Int)))])), (xa X 1, .inl (xZ X, 12, .inl (fI (sS S)))), (xa X 2, .inl (xI X, 12, .inl (fI (sA S)))), (xa X 3, .inl (xI X, 12, .inl (fI (sU S)))), (xa X 4, .inl (xI X, 12, .inl (fI (sR S))))]) (w' := [(xa X 0, .inr (1, [.int (iI 0), .ref ((xa X 1)), .ref ((xa X 2)), .ref ((xa X 3)), .ref ((xa X 4)), .int (iI (((sN S : Nat) : Int))), .int (iI (((sW S : Nat) : Int)))])), (xa X 1, .inl (xZ X, 12, .inl (fI (sS S)))), (xa X 2, .inl (xI X, 12, .inl (fI (sA S)))), (xa X 3, .inl (xI X, 12, .inl (fI (sU S)))), (xa X 4, .inl (xI X, 12, .inl (fI (sR S))))]) SC (c_X1_isNoPeg_ok l X S t k hk h1) pT_st pT_h (cwV 1 hts gX1_nearest_X1_isNoPeg rfl rfl rfl (by decide +kernel) ⟨Nat.le_of_ble_eq_true rfl, Nat.le_of_ble_eq_true rfl⟩) (va_recv hK hP (ci := 1) (q0 := 0) rfl rfl) hK hP hD hS rfl rfl hl.1 rfl (Nat.le_of_ble_eq_true rfl) dX1_nearest_2 ⟨Nat.zero_le _, Nat.zero_le _⟩ (fun H locs hP hD hS => ?_)
  have hP : va_P (xG X) vwCl ([(xa X 0, .inr (1, [.int (iI 0), .ref ((xa X 1)), .ref ((xa X 2)), .ref ((xa X 3)), .ref ((xa X 4)), .int (iI (((sN S : Nat) : Int))), .int (iI (((sW S : Nat) : Int)))])), (xa X 1, .inl (xZ X, 12, .inl (fI (sS S)))), (xa X 2, .inl (xI X, 12, .inl (fI (sA S)))), (xa X 3, .inl (xI X, 12, .inl (fI (sU S)))), (xa X 4, .inl (xI X, 12, .inl (fI (sR S))))]) H := hP
  have hD : va_D (pg_in ((mC X S t))) ([(xa X 0, .inr (1, [.int (iI 0), .ref ((xa X 1)), .ref ((xa X 2)), .ref ((xa X 3)), .ref ((xa X 4)), .int (iI (((sN S : Nat) : Int))), .int (iI (((sW S : Nat) : Int)))])), (xa X 1, .inl (xZ X, 12, .inl (fI (sS S)))), (xa X 2, .inl (xI X, 12, .inl (fI (sA S)))), (xa X 3, .inl (xI X, 12, .inl (fI (sU S)))), (xa X 4, .inl (xI X, 12, .inl (fI (sR S))))]) := hD
  refine pg_if_ne (tgt := 29) hx hb dX1_nearest_5 (by decide) (⟨by omega, by omega⟩) (fun hc1 => absurd hc1 (by omega)) (fun hc1 => ?_)
  refine lv_aload_n hx hb dX1_nearest_8 rfl (lv_at hl 0 rfl) ?_
  refine lv_aload_n hx hb dX1_nearest_9 rfl (lv_at hl 0 rfl) ?_
  refine pg_callV (As := []) (rest := [.ref ((xa X 0))]) SC (c_X1_count l X S 0 hok) mB_st (mB_h hP hK) (cwV 0 hts gX1_nearest_X1_count rfl rfl rfl (by decide +kernel) ⟨Nat.le_of_ble_eq_true rfl, Nat.le_of_ble_eq_true rfl⟩) (va_recv hK hP (ci := 1) (q0 := 0) rfl rfl) rfl hl.1 rfl (Nat.le_of_ble_eq_true rfl) dX1_nearest_10 ⟨Nat.zero_le _, Nat.zero_le _⟩ ?_
  refine lv_iconst (v := iI 1) hx hb dX1_nearest_13 rfl ?_
  refine pg_icmp_ne (tgt := 21) hx hb dX1_nearest_14 (by decide) (⟨by omega, by omega⟩) (⟨by omega, by omega⟩) (fun hc2 => ?_) (fun hc2 => absurd hc2 (by omega))
  refine lv_iconst (v := iI 0) hx hb dX1_nearest_21 rfl ?_
  refine lv_iconst (v := iI 3) hx hb dX1_nearest_22 rfl ?_
  refine pg_wcallV (As := [.int (iI 0), .int (iI 3)]) (rest := []) (l1 := []) (l2 := []) (w := [(xa X 0, .inr (1, [.int (iI 0), .ref ((xa X 1)), .ref ((xa X 2)), .ref ((xa X 3)), .ref ((xa X 4)), .int (iI (((sN S : Nat) : Int))), .int (iI (((sW S : Nat) : Int)))])), (xa X 1, .inl (xZ X, 12, .inl (fI (sS S)))), (xa X 2, .inl (xI X, 12, .inl (fI (sA S)))), (xa X 3, .inl (xI X, 12, .inl (fI (sU S)))), (xa X 4, .inl (xI X, 12, .inl (fI (sR S))))]) (w' := [(xa X 0, .inr (1, [.int (iI 0), .ref ((xa X 1)), .ref ((xa X 2)), .ref ((xa X 3)), .ref ((xa X 4)), .int (iI (((sN S : Nat) : Int))), .int (iI (((sW S : Nat) : Int)))])), (xa X 1, .inl (xZ X, 12, .inl (fI (sS S)))), (xa X 2, .inl (xI X, 12, .inl (fI (sA S)))), (xa X 3, .inl (xI X, 12, .inl (fI (sU S)))), (xa X 4, .inl (xI X, 12, .inl (fI (sR S))))]) SC (c_X1_isThrown l X S 0 0 3 0 ⟨by omega, by omega⟩ (by omega)) pT_st pT_h (cwV 2 hts gX1_nearest_X1_isThrown rfl rfl rfl (by decide +kernel) ⟨Nat.le_of_ble_eq_true rfl, Nat.le_of_ble_eq_true rfl⟩) (va_recv hK hP (ci := 1) (q0 := 0) rfl rfl) hK hP hD hS rfl rfl hl.1 rfl (Nat.le_of_ble_eq_true rfl) dX1_nearest_23 ⟨Nat.zero_le _, Nat.zero_le _⟩ (fun H locs hP hD hS => ?_)
  have hP : va_P (xG X) vwCl ([(xa X 0, .inr (1, [.int (iI 0), .ref ((xa X 1)), .ref ((xa X 2)), .ref ((xa X 3)), .ref ((xa X 4)), .int (iI (((sN S : Nat) : Int))), .int (iI (((sW S : Nat) : Int)))])), (xa X 1, .inl (xZ X, 12, .inl (fI (sS S)))), (xa X 2, .inl (xI X, 12, .inl (fI (sA S)))), (xa X 3, .inl (xI X, 12, .inl (fI (sU S)))), (xa X 4, .inl (xI X, 12, .inl (fI (sR S))))]) H := hP
  have hD : va_D (pg_in ((mC X S t))) ([(xa X 0, .inr (1, [.int (iI 0), .ref ((xa X 1)), .ref ((xa X 2)), .ref ((xa X 3)), .ref ((xa X 4)), .int (iI (((sN S : Nat) : Int))), .int (iI (((sW S : Nat) : Int)))])), (xa X 1, .inl (xZ X, 12, .inl (fI (sS S)))), (xa X 2, .inl (xI X, 12, .inl (fI (sA S)))), (xa X 3, .inl (xI X, 12, .inl (fI (sU S)))), (xa X 4, .inl (xI X, 12, .inl (fI (sR S))))]) := hD
  refine pg_if_eq (tgt := 31) hx hb dX1_nearest_26 (by decide) (⟨by omega, by omega⟩) (fun hc3 => ?_) (fun hc3 => absurd hc3 (by omega))
  refine lv_aload_n hx hb dX1_nearest_31 rfl (lv_at hl 0 rfl) ?_
  refine lv_iload_n hx hb dX1_nearest_32 rfl (lv_at hl 1 rfl) ?_
  refine pg_callV (As := [.int (iI (((k : Nat) : Int)))]) (rest := []) SC (c_X1_nearestTo l X S 0 hok k hk) mB_st (mB_h hP hK) (cwV 1 hts gX1_nearest_X1_nearestTo rfl rfl rfl (by decide +kernel) ⟨Nat.le_of_ble_eq_true rfl, Nat.le_of_ble_eq_true rfl⟩) (va_recv hK hP (ci := 1) (q0 := 0) rfl rfl) rfl hl.1 rfl (Nat.le_of_ble_eq_true rfl) dX1_nearest_33 ⟨Nat.zero_le _, Nat.zero_le _⟩ ?_
  exact pg_wiret hx hb hr hlk hP hS  (congrArg (fun z : Int => some (Value.int (iI z))) (show nr S k 12 = nr S k 12 by rfl)) dX1_nearest_36
set_option maxRecDepth 100000 in
set_option maxHeartbeats 4000000 in
theorem c_X1_nearest_1 (l : Launch) (X : pgX) (S : pgS) (t : Int) (pp : Int) (hp : inI pp) (h : pp < 0 ∨ 12 ≤ pp)  : pg_wr l yX1_nearest wsX1_nearest (rm 3 64) (xG X) (xTy X) pT (mC X S t) (mC X S 1) 0 0 [.ref ((xa X 0)), .int (iI pp)] (some (.int (iI 0))) := by
  refine pg_wr_of (cc := cX1_nearest) (maxL := 2) (ret := (some .int)) (by decide) rfl (Nat.le_of_ble_eq_true rfl) ?_
  intro p e s m below meth c ls SC hr hlk hP hK hD hS hB hl
  obtain ⟨hx, hb, hml, hown, hts⟩ := id SC
  have hown : s.vm.findClass RX1 = some m.cls := hown
  have hl : lv_has ls 2 [(0, .ref ((xa X 0))), (1, .int (iI pp))] := hl
  refine lv_aload_n hx hb dX1_nearest_0 rfl (lv_at hl 0 rfl) ?_
  refine lv_iload_n hx hb dX1_nearest_1 rfl (lv_at hl 1 rfl) ?_
  refine pg_wcallV (As := [.int (iI pp)]) (rest := []) (l1 := []) (l2 := []) (w := [(xa X 0, .inr (1, [.int (iI t), .ref ((xa X 1)), .ref ((xa X 2)), .ref ((xa X 3)), .ref ((xa X 4)), .int (iI (((sN S : Nat) : Int))), .int (iI (((sW S : Nat) : Int)))])), (xa X 1, .inl (xZ X, 12, .inl (fI (sS S)))), (xa X 2, .inl (xI X, 12, .inl (fI (sA S)))), (xa X 3, .inl (xI X, 12, .inl (fI (sU S)))), (xa X 4, .inl (xI X, 12, .inl (fI (sR S))))]) (w' := [(xa X 0, .inr (1, [.int (iI 1), .ref ((xa X 1)), .ref ((xa X 2)), .ref ((xa X 3)), .ref ((xa X 4)), .int (iI (((sN S : Nat) : Int))), .int (iI (((sW S : Nat) : Int)))])), (xa X 1, .inl (xZ X, 12, .inl (fI (sS S)))), (xa X 2, .inl (xI X, 12, .inl (fI (sA S)))), (xa X 3, .inl (xI X, 12, .inl (fI (sU S)))), (xa X 4, .inl (xI X, 12, .inl (fI (sR S))))]) SC (c_X1_isNoPeg_1 l X S t pp ⟨by omega, by omega⟩ (by omega)) pT_st pT_h (cwV 1 hts gX1_nearest_X1_isNoPeg rfl rfl rfl (by decide +kernel) ⟨Nat.le_of_ble_eq_true rfl, Nat.le_of_ble_eq_true rfl⟩) (va_recv hK hP (ci := 1) (q0 := 0) rfl rfl) hK hP hD hS rfl rfl hl.1 rfl (Nat.le_of_ble_eq_true rfl) dX1_nearest_2 ⟨Nat.zero_le _, Nat.zero_le _⟩ (fun H locs hP hD hS => ?_)
  have hP : va_P (xG X) vwCl ([(xa X 0, .inr (1, [.int (iI 1), .ref ((xa X 1)), .ref ((xa X 2)), .ref ((xa X 3)), .ref ((xa X 4)), .int (iI (((sN S : Nat) : Int))), .int (iI (((sW S : Nat) : Int)))])), (xa X 1, .inl (xZ X, 12, .inl (fI (sS S)))), (xa X 2, .inl (xI X, 12, .inl (fI (sA S)))), (xa X 3, .inl (xI X, 12, .inl (fI (sU S)))), (xa X 4, .inl (xI X, 12, .inl (fI (sR S))))]) H := hP
  have hD : va_D (pg_in ((mC X S t))) ([(xa X 0, .inr (1, [.int (iI 1), .ref ((xa X 1)), .ref ((xa X 2)), .ref ((xa X 3)), .ref ((xa X 4)), .int (iI (((sN S : Nat) : Int))), .int (iI (((sW S : Nat) : Int)))])), (xa X 1, .inl (xZ X, 12, .inl (fI (sS S)))), (xa X 2, .inl (xI X, 12, .inl (fI (sA S)))), (xa X 3, .inl (xI X, 12, .inl (fI (sU S)))), (xa X 4, .inl (xI X, 12, .inl (fI (sR S))))]) := hD
  refine pg_if_ne (tgt := 29) hx hb dX1_nearest_5 (by decide) (⟨by omega, by omega⟩) (fun hc1 => ?_) (fun hc1 => absurd hc1 (by omega))
  refine lv_iconst (v := iI 0) hx hb dX1_nearest_29 rfl ?_
  exact pg_wiret hx hb hr hlk hP hS  (congrArg (fun z : Int => some (Value.int (iI z))) (show 0 = 0 by omega)) dX1_nearest_30
set_option maxRecDepth 100000 in
set_option maxHeartbeats 4000000 in
theorem c_X1_nearest_2 (l : Launch) (X : pgX) (S : pgS) (t : Int) (k : Nat) (hk : k < 12) (h1 : sS S k = 0)  : pg_wr l yX1_nearest wsX1_nearest (rm 3 64) (xG X) (xTy X) pT (mC X S t) (mC X S 2) 0 0 [.ref ((xa X 0)), .int (iI (((k : Nat) : Int)))] (some (.int (iI 0))) := by
  refine pg_wr_of (cc := cX1_nearest) (maxL := 2) (ret := (some .int)) (by decide) rfl (Nat.le_of_ble_eq_true rfl) ?_
  intro p e s m below meth c ls SC hr hlk hP hK hD hS hB hl
  obtain ⟨hx, hb, hml, hown, hts⟩ := id SC
  have hown : s.vm.findClass RX1 = some m.cls := hown
  have hl : lv_has ls 2 [(0, .ref ((xa X 0))), (1, .int (iI (((k : Nat) : Int))))] := hl
  refine lv_aload_n hx hb dX1_nearest_0 rfl (lv_at hl 0 rfl) ?_
  refine lv_iload_n hx hb dX1_nearest_1 rfl (lv_at hl 1 rfl) ?_
  refine pg_wcallV (As := [.int (iI (((k : Nat) : Int)))]) (rest := []) (l1 := []) (l2 := []) (w := [(xa X 0, .inr (1, [.int (iI t), .ref ((xa X 1)), .ref ((xa X 2)), .ref ((xa X 3)), .ref ((xa X 4)), .int (iI (((sN S : Nat) : Int))), .int (iI (((sW S : Nat) : Int)))])), (xa X 1, .inl (xZ X, 12, .inl (fI (sS S)))), (xa X 2, .inl (xI X, 12, .inl (fI (sA S)))), (xa X 3, .inl (xI X, 12, .inl (fI (sU S)))), (xa X 4, .inl (xI X, 12, .inl (fI (sR S))))]) (w' := [(xa X 0, .inr (1, [.int (iI 2), .ref ((xa X 1)), .ref ((xa X 2)), .ref ((xa X 3)), .ref ((xa X 4)), .int (iI (((sN S : Nat) : Int))), .int (iI (((sW S : Nat) : Int)))])), (xa X 1, .inl (xZ X, 12, .inl (fI (sS S)))), (xa X 2, .inl (xI X, 12, .inl (fI (sA S)))), (xa X 3, .inl (xI X, 12, .inl (fI (sU S)))), (xa X 4, .inl (xI X, 12, .inl (fI (sR S))))]) SC (c_X1_isNoPeg_2 l X S t k hk h1) pT_st pT_h (cwV 1 hts gX1_nearest_X1_isNoPeg rfl rfl rfl (by decide +kernel) ⟨Nat.le_of_ble_eq_true rfl, Nat.le_of_ble_eq_true rfl⟩) (va_recv hK hP (ci := 1) (q0 := 0) rfl rfl) hK hP hD hS rfl rfl hl.1 rfl (Nat.le_of_ble_eq_true rfl) dX1_nearest_2 ⟨Nat.zero_le _, Nat.zero_le _⟩ (fun H locs hP hD hS => ?_)
  have hP : va_P (xG X) vwCl ([(xa X 0, .inr (1, [.int (iI 2), .ref ((xa X 1)), .ref ((xa X 2)), .ref ((xa X 3)), .ref ((xa X 4)), .int (iI (((sN S : Nat) : Int))), .int (iI (((sW S : Nat) : Int)))])), (xa X 1, .inl (xZ X, 12, .inl (fI (sS S)))), (xa X 2, .inl (xI X, 12, .inl (fI (sA S)))), (xa X 3, .inl (xI X, 12, .inl (fI (sU S)))), (xa X 4, .inl (xI X, 12, .inl (fI (sR S))))]) H := hP
  have hD : va_D (pg_in ((mC X S t))) ([(xa X 0, .inr (1, [.int (iI 2), .ref ((xa X 1)), .ref ((xa X 2)), .ref ((xa X 3)), .ref ((xa X 4)), .int (iI (((sN S : Nat) : Int))), .int (iI (((sW S : Nat) : Int)))])), (xa X 1, .inl (xZ X, 12, .inl (fI (sS S)))), (xa X 2, .inl (xI X, 12, .inl (fI (sA S)))), (xa X 3, .inl (xI X, 12, .inl (fI (sU S)))), (xa X 4, .inl (xI X, 12, .inl (fI (sR S))))]) := hD
  refine pg_if_ne (tgt := 29) hx hb dX1_nearest_5 (by decide) (⟨by omega, by omega⟩) (fun hc1 => ?_) (fun hc1 => absurd hc1 (by omega))
  refine lv_iconst (v := iI 0) hx hb dX1_nearest_29 rfl ?_
  exact pg_wiret hx hb hr hlk hP hS  (congrArg (fun z : Int => some (Value.int (iI z))) (show 0 = 0 by omega)) dX1_nearest_30
set_option maxRecDepth 100000 in
set_option maxHeartbeats 4000000 in
theorem c_X1_nearest_3 (l : Launch) (X : pgX) (S : pgS) (t : Int) (hok : pgOk S) (k : Nat) (hk : k < 12) (h1 : sS S k = 1) (hn : nr S k 12 = -1) : pg_wr l yX1_nearest wsX1_nearest (rm 3 64) (xG X) (xTy X) pT (mC X S t) (mC X S 3) 0 0 [.ref ((xa X 0)), .int (iI (((k : Nat) : Int)))] (some (.int (iI 0))) := by
  refine pg_wr_of (cc := cX1_nearest) (maxL := 2) (ret := (some .int)) (by decide) rfl (Nat.le_of_ble_eq_true rfl) ?_
  intro p e s m below meth c ls SC hr hlk hP hK hD hS hB hl
  obtain ⟨hx, hb, hml, hown, hts⟩ := id SC
  have hown : s.vm.findClass RX1 = some m.cls := hown
  have hl : lv_has ls 2 [(0, .ref ((xa X 0))), (1, .int (iI (((k : Nat) : Int))))] := hl
  have hcn := (nr_cnt hok.1 h1 12).1 hn
  rw [if_pos hk] at hcn
  refine lv_aload_n hx hb dX1_nearest_0 rfl (lv_at hl 0 rfl) ?_
  refine lv_iload_n hx hb dX1_nearest_1 rfl (lv_at hl 1 rfl) ?_
  refine pg_wcallV (As := [.int (iI (((k : Nat) : Int)))]) (rest := []) (l1 := []) (l2 := []) (w := [(xa X 0, .inr (1, [.int (iI t), .ref ((xa X 1)), .ref ((xa X 2)), .ref ((xa X 3)), .ref ((xa X 4)), .int (iI (((sN S : Nat) : Int))), .int (iI (((sW S : Nat) : Int)))])), (xa X 1, .inl (xZ X, 12, .inl (fI (sS S)))), (xa X 2, .inl (xI X, 12, .inl (fI (sA S)))), (xa X 3, .inl (xI X, 12, .inl (fI (sU S)))), (xa X 4, .inl (xI X, 12, .inl (fI (sR S))))]) (w' := [(xa X 0, .inr (1, [.int (iI 0), .ref ((xa X 1)), .ref ((xa X 2)), .ref ((xa X 3)), .ref ((xa X 4)), .int (iI (((sN S : Nat) : Int))), .int (iI (((sW S : Nat) : Int)))])), (xa X 1, .inl (xZ X, 12, .inl (fI (sS S)))), (xa X 2, .inl (xI X, 12, .inl (fI (sA S)))), (xa X 3, .inl (xI X, 12, .inl (fI (sU S)))), (xa X 4, .inl (xI X, 12, .inl (fI (sR S))))]) SC (c_X1_isNoPeg_ok l X S t k hk h1) pT_st pT_h (cwV 1 hts gX1_nearest_X1_isNoPeg rfl rfl rfl (by decide +kernel) ⟨Nat.le_of_ble_eq_true rfl, Nat.le_of_ble_eq_true rfl⟩) (va_recv hK hP (ci := 1) (q0 := 0) rfl rfl) hK hP hD hS rfl rfl hl.1 rfl (Nat.le_of_ble_eq_true rfl) dX1_nearest_2 ⟨Nat.zero_le _, Nat.zero_le _⟩ (fun H locs hP hD hS => ?_)
  have hP : va_P (xG X) vwCl ([(xa X 0, .inr (1, [.int (iI 0), .ref ((xa X 1)), .ref ((xa X 2)), .ref ((xa X 3)), .ref ((xa X 4)), .int (iI (((sN S : Nat) : Int))), .int (iI (((sW S : Nat) : Int)))])), (xa X 1, .inl (xZ X, 12, .inl (fI (sS S)))), (xa X 2, .inl (xI X, 12, .inl (fI (sA S)))), (xa X 3, .inl (xI X, 12, .inl (fI (sU S)))), (xa X 4, .inl (xI X, 12, .inl (fI (sR S))))]) H := hP
  have hD : va_D (pg_in ((mC X S t))) ([(xa X 0, .inr (1, [.int (iI 0), .ref ((xa X 1)), .ref ((xa X 2)), .ref ((xa X 3)), .ref ((xa X 4)), .int (iI (((sN S : Nat) : Int))), .int (iI (((sW S : Nat) : Int)))])), (xa X 1, .inl (xZ X, 12, .inl (fI (sS S)))), (xa X 2, .inl (xI X, 12, .inl (fI (sA S)))), (xa X 3, .inl (xI X, 12, .inl (fI (sU S)))), (xa X 4, .inl (xI X, 12, .inl (fI (sR S))))]) := hD
  refine pg_if_ne (tgt := 29) hx hb dX1_nearest_5 (by decide) (⟨by omega, by omega⟩) (fun hc1 => absurd hc1 (by omega)) (fun hc1 => ?_)
  refine lv_aload_n hx hb dX1_nearest_8 rfl (lv_at hl 0 rfl) ?_
  refine lv_aload_n hx hb dX1_nearest_9 rfl (lv_at hl 0 rfl) ?_
  refine pg_callV (As := []) (rest := [.ref ((xa X 0))]) SC (c_X1_count l X S 0 hok) mB_st (mB_h hP hK) (cwV 0 hts gX1_nearest_X1_count rfl rfl rfl (by decide +kernel) ⟨Nat.le_of_ble_eq_true rfl, Nat.le_of_ble_eq_true rfl⟩) (va_recv hK hP (ci := 1) (q0 := 0) rfl rfl) rfl hl.1 rfl (Nat.le_of_ble_eq_true rfl) dX1_nearest_10 ⟨Nat.zero_le _, Nat.zero_le _⟩ ?_
  refine lv_iconst (v := iI 1) hx hb dX1_nearest_13 rfl ?_
  refine pg_icmp_ne (tgt := 21) hx hb dX1_nearest_14 (by decide) (⟨by omega, by omega⟩) (⟨by omega, by omega⟩) (fun hc2 => absurd hc2 (by omega)) (fun hc2 => ?_)
  refine lv_iconst (v := iI 1) hx hb dX1_nearest_17 rfl ?_
  refine lv_goto (tgt := 22) hx hb dX1_nearest_18 (by decide) ?_
  refine lv_iconst (v := iI 3) hx hb dX1_nearest_22 rfl ?_
  refine pg_wcallV (As := [.int (iI 1), .int (iI 3)]) (rest := []) (l1 := []) (l2 := []) (w := [(xa X 0, .inr (1, [.int (iI 0), .ref ((xa X 1)), .ref ((xa X 2)), .ref ((xa X 3)), .ref ((xa X 4)), .int (iI (((sN S : Nat) : Int))), .int (iI (((sW S : Nat) : Int)))])), (xa X 1, .inl (xZ X, 12, .inl (fI (sS S)))), (xa X 2, .inl (xI X, 12, .inl (fI (sA S)))), (xa X 3, .inl (xI X, 12, .inl (fI (sU S)))), (xa X 4, .inl (xI X, 12, .inl (fI (sR S))))]) (w' := [(xa X 0, .inr (1, [.int (iI 3), .ref ((xa X 1)), .ref ((xa X 2)), .ref ((xa X 3)), .ref ((xa X 4)), .int (iI (((sN S : Nat) : Int))), .int (iI (((sW S : Nat) : Int)))])), (xa X 1, .inl (xZ X, 12, .inl (fI (sS S)))), (xa X 2, .inl (xI X, 12, .inl (fI (sA S)))), (xa X 3, .inl (xI X, 12, .inl (fI (sU S)))), (xa X 4, .inl (xI X, 12, .inl (fI (sR S))))]) SC (c_X1_isThrown l X S 0 1 3 3 ⟨by omega, by omega⟩ (by omega)) pT_st pT_h (cwV 2 hts gX1_nearest_X1_isThrown rfl rfl rfl (by decide +kernel) ⟨Nat.le_of_ble_eq_true rfl, Nat.le_of_ble_eq_true rfl⟩) (va_recv hK hP (ci := 1) (q0 := 0) rfl rfl) hK hP hD hS rfl rfl hl.1 rfl (Nat.le_of_ble_eq_true rfl) dX1_nearest_23 ⟨Nat.zero_le _, Nat.zero_le _⟩ (fun H locs hP hD hS => ?_)
  have hP : va_P (xG X) vwCl ([(xa X 0, .inr (1, [.int (iI 3), .ref ((xa X 1)), .ref ((xa X 2)), .ref ((xa X 3)), .ref ((xa X 4)), .int (iI (((sN S : Nat) : Int))), .int (iI (((sW S : Nat) : Int)))])), (xa X 1, .inl (xZ X, 12, .inl (fI (sS S)))), (xa X 2, .inl (xI X, 12, .inl (fI (sA S)))), (xa X 3, .inl (xI X, 12, .inl (fI (sU S)))), (xa X 4, .inl (xI X, 12, .inl (fI (sR S))))]) H := hP
  have hD : va_D (pg_in ((mC X S t))) ([(xa X 0, .inr (1, [.int (iI 3), .ref ((xa X 1)), .ref ((xa X 2)), .ref ((xa X 3)), .ref ((xa X 4)), .int (iI (((sN S : Nat) : Int))), .int (iI (((sW S : Nat) : Int)))])), (xa X 1, .inl (xZ X, 12, .inl (fI (sS S)))), (xa X 2, .inl (xI X, 12, .inl (fI (sA S)))), (xa X 3, .inl (xI X, 12, .inl (fI (sU S)))), (xa X 4, .inl (xI X, 12, .inl (fI (sR S))))]) := hD
  refine pg_if_eq (tgt := 31) hx hb dX1_nearest_26 (by decide) (⟨by omega, by omega⟩) (fun hc3 => absurd hc3 (by omega)) (fun hc3 => ?_)
  refine lv_iconst (v := iI 0) hx hb dX1_nearest_29 rfl ?_
  exact pg_wiret hx hb hr hlk hP hS  (congrArg (fun z : Int => some (Value.int (iI z))) (show 0 = 0 by omega)) dX1_nearest_30
set_option maxRecDepth 100000 in
set_option maxHeartbeats 4000000 in
theorem c_X1_rank_ok (l : Launch) (X : pgX) (S : pgS) (t : Int) (hok : pgOk S) (a b : Nat) (ha : a < 12) (hb2 : b < 12) (sa : sS S a = 1) (sb : sS S b = 1) : pg_wr l yX1_rank wsX1_rank (rm 3 74) (xG X) (xTy X) pT (mC X S t) (mC X S 0) 0 0 [.ref ((xa X 0)), .int (iI (((a : Nat) : Int))), .int (iI (((b : Nat) : Int)))] (some (.int (iI (((rk S (gN S a b) 12 : Nat) : Int))))) := by
  refine pg_wr_of (cc := cX1_rank) (maxL := 6) (ret := (some .int)) (by decide) rfl (Nat.le_of_ble_eq_true rfl) ?_
  intro p e s m below meth c ls SC hr hlk hP hK hD hS hB hl
  obtain ⟨hx, hb, hml, hown, hts⟩ := id SC
  have hown : s.vm.findClass RX1 = some m.cls := hown
  have hl : lv_has ls 6 [(0, .ref ((xa X 0))), (1, .int (iI (((a : Nat) : Int)))), (2, .int (iI (((b : Nat) : Int))))] := hl
  have hin : ∀ w ∈ u_ws RX1 TX1 7, w ∈ wsX1_rank := by decide +kernel
  have hgl := gN_lt hok a b
  refine lv_aload_n hx hb dX1_rank_0 rfl (lv_at hl 0 rfl) ?_
  refine lv_iload_n hx hb dX1_rank_1 rfl (lv_at hl 1 rfl) ?_
  refine lv_iload_n hx hb dX1_rank_2 rfl (lv_at hl 2 rfl) ?_
  refine pg_wcallV (As := [.int (iI (((a : Nat) : Int))), .int (iI (((b : Nat) : Int)))]) (rest := []) (l1 := []) (l2 := []) (w := [(xa X 0, .inr (1, [.int (iI t), .ref ((xa X 1)), .ref ((xa X 2)), .ref ((xa X 3)), .ref ((xa X 4)), .int (iI (((sN S : Nat) : Int))), .int (iI (((sW S : Nat) : Int)))])), (xa X 1, .inl (xZ X, 12, .inl (fI (sS S)))), (xa X 2, .inl (xI X, 12, .inl (fI (sA S)))), (xa X 3, .inl (xI X, 12, .inl (fI (sU S)))), (xa X 4, .inl (xI X, 12, .inl (fI (sR S))))]) (w' := [(xa X 0, .inr (1, [.int (iI 0), .ref ((xa X 1)), .ref ((xa X 2)), .ref ((xa X 3)), .ref ((xa X 4)), .int (iI (((sN S : Nat) : Int))), .int (iI (((sW S : Nat) : Int)))])), (xa X 1, .inl (xZ X, 12, .inl (fI (sS S)))), (xa X 2, .inl (xI X, 12, .inl (fI (sA S)))), (xa X 3, .inl (xI X, 12, .inl (fI (sU S)))), (xa X 4, .inl (xI X, 12, .inl (fI (sR S))))]) SC (c_X1_isNoPair_ok l X S t a b ha hb2 sa sb) pT_st pT_h (cwV 2 hts gX1_rank_X1_isNoPair rfl rfl rfl (by decide +kernel) ⟨Nat.le_of_ble_eq_true rfl, Nat.le_of_ble_eq_true rfl⟩) (va_recv hK hP (ci := 1) (q0 := 0) rfl rfl) hK hP hD hS rfl rfl hl.1 rfl (Nat.le_of_ble_eq_true rfl) dX1_rank_3 ⟨Nat.zero_le _, Nat.zero_le _⟩ (fun H locs hP hD hS => ?_)
  have hP : va_P (xG X) vwCl ([(xa X 0, .inr (1, [.int (iI 0), .ref ((xa X 1)), .ref ((xa X 2)), .ref ((xa X 3)), .ref ((xa X 4)), .int (iI (((sN S : Nat) : Int))), .int (iI (((sW S : Nat) : Int)))])), (xa X 1, .inl (xZ X, 12, .inl (fI (sS S)))), (xa X 2, .inl (xI X, 12, .inl (fI (sA S)))), (xa X 3, .inl (xI X, 12, .inl (fI (sU S)))), (xa X 4, .inl (xI X, 12, .inl (fI (sR S))))]) H := hP
  have hD : va_D (pg_in ((mC X S t))) ([(xa X 0, .inr (1, [.int (iI 0), .ref ((xa X 1)), .ref ((xa X 2)), .ref ((xa X 3)), .ref ((xa X 4)), .int (iI (((sN S : Nat) : Int))), .int (iI (((sW S : Nat) : Int)))])), (xa X 1, .inl (xZ X, 12, .inl (fI (sS S)))), (xa X 2, .inl (xI X, 12, .inl (fI (sA S)))), (xa X 3, .inl (xI X, 12, .inl (fI (sU S)))), (xa X 4, .inl (xI X, 12, .inl (fI (sR S))))]) := hD
  refine pg_if_eq (tgt := 11) hx hb dX1_rank_6 (by decide) (⟨by omega, by omega⟩) (fun hc1 => ?_) (fun hc1 => absurd hc1 (by omega))
  refine lv_iconst (v := iI 0) hx hb dX1_rank_11 rfl ?_
  refine lv_istore_n (lv' := [(3, .int (iI 0)), (0, .ref ((xa X 0))), (1, .int (iI (((a : Nat) : Int)))), (2, .int (iI (((b : Nat) : Int))))]) hx hb dX1_rank_12 rfl hl (by decide) rfl (fun ls hl => ?_)
  refine lv_iconst (v := iI 0) hx hb dX1_rank_13 rfl ?_
  refine lv_istore (lv' := [(4, .int (iI 0)), (3, .int (iI 0)), (0, .ref ((xa X 0))), (1, .int (iI (((a : Nat) : Int)))), (2, .int (iI (((b : Nat) : Int))))]) hx hb dX1_rank_14 hl (by decide) rfl (fun ls hl => ?_)
  have loop2 : ∀ (fu : Nat) (i : Nat) (n : Nat), (i ≤ 12) → (n = rk S (gN S a b) i) → 12 - i < fu → ∀ ls : Array Slot, lv_has ls 6 [(0, .ref ((xa X 0))), (1, .int (iI (((a : Nat) : Int)))), (2, .int (iI (((b : Nat) : Int)))), (3, .int (iI (((n : Nat) : Int)))), (4, .int (iI (((i : Nat) : Int))))] → W p l e (rm 3 74) s m ([.ref ((xa X 0)), .int (iI (((a : Nat) : Int))), .int (iI (((b : Nat) : Int)))] : List Value).toArray below meth c H locs 0 0 (MQ below (pg_Qw (xG X) (mC X S t) (mC X S 0) (some (.int (iI (((rk S (gN S a b) 12 : Nat) : Int)))))) ([.ref ((xa X 0)), .int (iI (((a : Nat) : Int))), .int (iI (((b : Nat) : Int)))] : List Value).toArray s 0 0 (pg_in (mC X S t))) (F0 m 16 ls []) := by
    intro fu
    induction fu with
    | zero => intros; omega
    | succ fu ih2 =>
      intro i n hi hn hm2 ls hl
      refine lv_iload hx hb dX1_rank_16 (lv_at hl 4 rfl) ?_
      refine lv_bipush (v := iI 12) hx hb dX1_rank_18 (by decide +kernel) ?_
      refine pg_icmp_ge (tgt := 93) hx hb dX1_rank_20 (by decide) (⟨by omega, by omega⟩) (⟨by omega, by omega⟩) (fun hc3 => ?_) (fun hc3 => ?_)
      · refine lv_iload_n hx hb dX1_rank_93 rfl (lv_at hl 3 rfl) ?_
        exact pg_wiret hx hb hr hlk hP hS  (congrArg (fun z : Int => some (Value.int (iI z))) (show ((rk S (gN S a b) 12 : Nat) : Int) = ((n : Nat) : Int) by rw [hn, show i = 12 by omega])) dX1_rank_94
      · refine lv_iload hx hb dX1_rank_23 (lv_at hl 4 rfl) ?_
        refine lv_iconst (v := iI 1) hx hb dX1_rank_25 rfl ?_
        refine pg_iadd (z := ((i + 1 : Nat) : Int)) hx hb dX1_rank_26 (by omega) ?_
        refine lv_istore (lv' := [(5, .int (iI (((i + 1 : Nat) : Int)))), (0, .ref ((xa X 0))), (1, .int (iI (((a : Nat) : Int)))), (2, .int (iI (((b : Nat) : Int)))), (3, .int (iI (((n : Nat) : Int)))), (4, .int (iI (((i : Nat) : Int))))]) hx hb dX1_rank_27 hl (by decide) rfl (fun ls hl => ?_)
        have loop4 : ∀ (fu : Nat) (j : Nat) (n2 : Nat), (i + 1 ≤ j) → (j ≤ 12) → (n2 = rk S (gN S a b) i + rk1 S (gN S a b) i j) → 12 - j < fu → ∀ ls : Array Slot, lv_has ls 6 [(0, .ref ((xa X 0))), (1, .int (iI (((a : Nat) : Int)))), (2, .int (iI (((b : Nat) : Int)))), (3, .int (iI (((n2 : Nat) : Int)))), (4, .int (iI (((i : Nat) : Int)))), (5, .int (iI (((j : Nat) : Int))))] → W p l e (rm 3 74) s m ([.ref ((xa X 0)), .int (iI (((a : Nat) : Int))), .int (iI (((b : Nat) : Int)))] : List Value).toArray below meth c H locs 0 0 (MQ below (pg_Qw (xG X) (mC X S t) (mC X S 0) (some (.int (iI (((rk S (gN S a b) 12 : Nat) : Int)))))) ([.ref ((xa X 0)), .int (iI (((a : Nat) : Int))), .int (iI (((b : Nat) : Int)))] : List Value).toArray s 0 0 (pg_in (mC X S t))) (F0 m 29 ls []) := by
          intro fu
          induction fu with
          | zero => intros; omega
          | succ fu ih4 =>
            intro j n2 hj1 hj2 hn2 hm4 ls hl
            refine lv_iload hx hb dX1_rank_29 (lv_at hl 5 rfl) ?_
            refine lv_bipush (v := iI 12) hx hb dX1_rank_31 (by decide +kernel) ?_
            refine pg_icmp_ge (tgt := 87) hx hb dX1_rank_33 (by decide) (⟨by omega, by omega⟩) (⟨by omega, by omega⟩) (fun hc5 => ?_) (fun hc5 => ?_)
            · refine lv_iinc (v := iI (((i + 1 : Nat) : Int))) (lv' := [(4, .int (iI (((i + 1 : Nat) : Int)))), (0, .ref ((xa X 0))), (1, .int (iI (((a : Nat) : Int)))), (2, .int (iI (((b : Nat) : Int)))), (3, .int (iI (((n2 : Nat) : Int)))), (5, .int (iI (((j : Nat) : Int))))]) hx hb dX1_rank_87 hl (k := 4) rfl (iI_addp (by omega)) (by decide) rfl (fun ls hl => ?_)
              refine lv_goto (tgt := 16) hx hb dX1_rank_90 (by decide) ?_
              exact ih2 (i + 1) n2 (by omega) (by rw [rk_s, hn2, show j = 12 by omega]) (by omega) ls (lv_sub hl [1, 2, 3, 4, 0] rfl)
            · have h1 := hok.1 i
              have h2 := hok.1 j
              have hgl2 := gN_lt hok i j
              refine lv_iload_n hx hb dX1_rank_36 rfl (lv_at hl 3 rfl) ?_
              refine lv_aload_n hx hb dX1_rank_37 rfl (lv_at hl 0 rfl) ?_
              refine va_get (D := xG X) (ci := 1) (v := .ref ((xa X 1))) (C := RX1) (T := TX1) (N := 7) hx hb hts hin hown hK hP 0 rfl rfl 1 (by decide) (hts (.fieldLink RX1 7 "PegfieldModel" "stands" "[Z") (by decide +kernel)) (fun _ h9 => h9) rfl dX1_rank_38 ?_
              refine lv_iload hx hb dX1_rank_41 (lv_at hl 4 rfl) ?_
              refine pg_zald hx hb hK hP 1 0 (f := (sS S)) rfl rfl i (rfl) (by omega) (by decide) dX1_rank_43 ?_
              refine pg_if_eq (tgt := 78) hx hb dX1_rank_44 (by decide) (⟨by omega, by omega⟩) (fun hc6 => ?_) (fun hc6 => ?_)
              · refine lv_iconst (v := iI 0) hx hb dX1_rank_78 rfl ?_
                refine pg_iadd (z := ((n2 : Nat) : Int)) hx hb dX1_rank_79 (by omega) ?_
                refine lv_istore_n (lv' := [(3, .int (iI (((n2 : Nat) : Int)))), (0, .ref ((xa X 0))), (1, .int (iI (((a : Nat) : Int)))), (2, .int (iI (((b : Nat) : Int)))), (4, .int (iI (((i : Nat) : Int)))), (5, .int (iI (((j : Nat) : Int))))]) hx hb dX1_rank_80 rfl hl (by decide) rfl (fun ls hl => ?_)
                refine lv_iinc (v := iI (((j + 1 : Nat) : Int))) (lv' := [(5, .int (iI (((j + 1 : Nat) : Int)))), (3, .int (iI (((n2 : Nat) : Int)))), (0, .ref ((xa X 0))), (1, .int (iI (((a : Nat) : Int)))), (2, .int (iI (((b : Nat) : Int)))), (4, .int (iI (((i : Nat) : Int))))]) hx hb dX1_rank_81 hl (k := 5) rfl (iI_addp (by omega)) (by decide) rfl (fun ls hl => ?_)
                refine lv_goto (tgt := 29) hx hb dX1_rank_84 (by decide) ?_
                exact ih4 (j + 1) n2 (by omega) (by omega) (by rw [rk1_n (fun q => by omega), hn2]) (by omega) ls (lv_sub hl [2, 3, 4, 1, 5, 0] rfl)
              · refine lv_aload_n hx hb dX1_rank_47 rfl (lv_at hl 0 rfl) ?_
                refine va_get (D := xG X) (ci := 1) (v := .ref ((xa X 1))) (C := RX1) (T := TX1) (N := 7) hx hb hts hin hown hK hP 0 rfl rfl 1 (by decide) (hts (.fieldLink RX1 7 "PegfieldModel" "stands" "[Z") (by decide +kernel)) (fun _ h9 => h9) rfl dX1_rank_48 ?_
                refine lv_iload hx hb dX1_rank_51 (lv_at hl 5 rfl) ?_
                refine pg_zald hx hb hK hP 1 0 (f := (sS S)) rfl rfl j (rfl) (by omega) (by decide) dX1_rank_53 ?_
                refine pg_if_eq (tgt := 78) hx hb dX1_rank_54 (by decide) (⟨by omega, by omega⟩) (fun hc7 => ?_) (fun hc7 => ?_)
                · refine lv_iconst (v := iI 0) hx hb dX1_rank_78 rfl ?_
                  refine pg_iadd (z := ((n2 : Nat) : Int)) hx hb dX1_rank_79 (by omega) ?_
                  refine lv_istore_n (lv' := [(3, .int (iI (((n2 : Nat) : Int)))), (0, .ref ((xa X 0))), (1, .int (iI (((a : Nat) : Int)))), (2, .int (iI (((b : Nat) : Int)))), (4, .int (iI (((i : Nat) : Int)))), (5, .int (iI (((j : Nat) : Int))))]) hx hb dX1_rank_80 rfl hl (by decide) rfl (fun ls hl => ?_)
                  refine lv_iinc (v := iI (((j + 1 : Nat) : Int))) (lv' := [(5, .int (iI (((j + 1 : Nat) : Int)))), (3, .int (iI (((n2 : Nat) : Int)))), (0, .ref ((xa X 0))), (1, .int (iI (((a : Nat) : Int)))), (2, .int (iI (((b : Nat) : Int)))), (4, .int (iI (((i : Nat) : Int))))]) hx hb dX1_rank_81 hl (k := 5) rfl (iI_addp (by omega)) (by decide) rfl (fun ls hl => ?_)
                  refine lv_goto (tgt := 29) hx hb dX1_rank_84 (by decide) ?_
                  exact ih4 (j + 1) n2 (by omega) (by omega) (by rw [rk1_n (fun q => by omega), hn2]) (by omega) ls (lv_sub hl [2, 3, 4, 1, 5, 0] rfl)
                · refine lv_aload_n hx hb dX1_rank_57 rfl (lv_at hl 0 rfl) ?_
                  refine lv_iload hx hb dX1_rank_58 (lv_at hl 4 rfl) ?_
                  refine lv_iload hx hb dX1_rank_60 (lv_at hl 5 rfl) ?_
                  refine pg_callV (As := [.int (iI (((i : Nat) : Int))), .int (iI (((j : Nat) : Int)))]) (rest := [.int (iI (((n2 : Nat) : Int)))]) SC (c_X1_grainsOf l X S 0 hok i j (by omega) (by omega)) mB_st (mB_h hP hK) (cwV 2 hts gX1_rank_X1_grainsOf rfl rfl rfl (by decide +kernel) ⟨Nat.le_of_ble_eq_true rfl, Nat.le_of_ble_eq_true rfl⟩) (va_recv hK hP (ci := 1) (q0 := 0) rfl rfl) rfl hl.1 rfl (Nat.le_of_ble_eq_true rfl) dX1_rank_62 ⟨Nat.zero_le _, Nat.zero_le _⟩ ?_
                  refine lv_aload_n hx hb dX1_rank_65 rfl (lv_at hl 0 rfl) ?_
                  refine lv_iload_n hx hb dX1_rank_66 rfl (lv_at hl 1 rfl) ?_
                  refine lv_iload_n hx hb dX1_rank_67 rfl (lv_at hl 2 rfl) ?_
                  refine pg_callV (As := [.int (iI (((a : Nat) : Int))), .int (iI (((b : Nat) : Int)))]) (rest := [.int (iI (((gN S i j : Nat) : Int))), .int (iI (((n2 : Nat) : Int)))]) SC (c_X1_grainsOf l X S 0 hok a b (by omega) (by omega)) mB_st (mB_h hP hK) (cwV 2 hts gX1_rank_X1_grainsOf rfl rfl rfl (by decide +kernel) ⟨Nat.le_of_ble_eq_true rfl, Nat.le_of_ble_eq_true rfl⟩) (va_recv hK hP (ci := 1) (q0 := 0) rfl rfl) rfl hl.1 rfl (Nat.le_of_ble_eq_true rfl) dX1_rank_68 ⟨Nat.zero_le _, Nat.zero_le _⟩ ?_
                  refine pg_icmp_ge (tgt := 78) hx hb dX1_rank_71 (by decide) (⟨by omega, by omega⟩) (⟨by omega, by omega⟩) (fun hc8 => ?_) (fun hc8 => ?_)
                  · refine lv_iconst (v := iI 0) hx hb dX1_rank_78 rfl ?_
                    refine pg_iadd (z := ((n2 : Nat) : Int)) hx hb dX1_rank_79 (by omega) ?_
                    refine lv_istore_n (lv' := [(3, .int (iI (((n2 : Nat) : Int)))), (0, .ref ((xa X 0))), (1, .int (iI (((a : Nat) : Int)))), (2, .int (iI (((b : Nat) : Int)))), (4, .int (iI (((i : Nat) : Int)))), (5, .int (iI (((j : Nat) : Int))))]) hx hb dX1_rank_80 rfl hl (by decide) rfl (fun ls hl => ?_)
                    refine lv_iinc (v := iI (((j + 1 : Nat) : Int))) (lv' := [(5, .int (iI (((j + 1 : Nat) : Int)))), (3, .int (iI (((n2 : Nat) : Int)))), (0, .ref ((xa X 0))), (1, .int (iI (((a : Nat) : Int)))), (2, .int (iI (((b : Nat) : Int)))), (4, .int (iI (((i : Nat) : Int))))]) hx hb dX1_rank_81 hl (k := 5) rfl (iI_addp (by omega)) (by decide) rfl (fun ls hl => ?_)
                    refine lv_goto (tgt := 29) hx hb dX1_rank_84 (by decide) ?_
                    exact ih4 (j + 1) n2 (by omega) (by omega) (by rw [rk1_n (fun q => by omega), hn2]) (by omega) ls (lv_sub hl [2, 3, 4, 1, 5, 0] rfl)
                  · refine lv_iconst (v := iI 1) hx hb dX1_rank_74 rfl ?_
                    refine lv_goto (tgt := 79) hx hb dX1_rank_75 (by decide) ?_
                    refine pg_iadd (z := ((n2 + 1 : Nat) : Int)) hx hb dX1_rank_79 (by omega) ?_
                    refine lv_istore_n (lv' := [(3, .int (iI (((n2 + 1 : Nat) : Int)))), (0, .ref ((xa X 0))), (1, .int (iI (((a : Nat) : Int)))), (2, .int (iI (((b : Nat) : Int)))), (4, .int (iI (((i : Nat) : Int)))), (5, .int (iI (((j : Nat) : Int))))]) hx hb dX1_rank_80 rfl hl (by decide) rfl (fun ls hl => ?_)
                    refine lv_iinc (v := iI (((j + 1 : Nat) : Int))) (lv' := [(5, .int (iI (((j + 1 : Nat) : Int)))), (3, .int (iI (((n2 + 1 : Nat) : Int)))), (0, .ref ((xa X 0))), (1, .int (iI (((a : Nat) : Int)))), (2, .int (iI (((b : Nat) : Int)))), (4, .int (iI (((i : Nat) : Int))))]) hx hb dX1_rank_81 hl (k := 5) rfl (iI_addp (by omega)) (by decide) rfl (fun ls hl => ?_)
                    refine lv_goto (tgt := 29) hx hb dX1_rank_84 (by decide) ?_
                    exact ih4 (j + 1) (n2 + 1) (by omega) (by omega) (by rw [rk1_y (by omega) (by omega) (by omega) (by omega), hn2]; rfl) (by omega) ls (lv_sub hl [2, 3, 4, 1, 5, 0] rfl)
        refine loop4 (12 + 1) (i + 1) n (by omega) (by omega) (by rw [rk1_0 S _ i (i + 1) (by omega), hn, Nat.add_zero]) (by omega) ls (lv_sub hl [1, 2, 3, 4, 5, 0] rfl)
  refine loop2 (12 + 1) 0 0 (by omega) (rfl) (by omega) ls (lv_sub hl [2, 3, 4, 1, 0] rfl)
set_option maxRecDepth 100000 in
set_option maxHeartbeats 4000000 in
theorem c_X1_rank_1 (l : Launch) (X : pgX) (S : pgS) (t : Int) (pp qq : Int) (hp : inI pp) (hq : inI qq) (h : pp < 0 ∨ 12 ≤ pp ∨ qq < 0 ∨ 12 ≤ qq) : pg_wr l yX1_rank wsX1_rank (rm 3 65) (xG X) (xTy X) pT (mC X S t) (mC X S 1) 0 0 [.ref ((xa X 0)), .int (iI pp), .int (iI qq)] (some (.int (iI 0))) := by
  refine pg_wr_of (cc := cX1_rank) (maxL := 6) (ret := (some .int)) (by decide) rfl (Nat.le_of_ble_eq_true rfl) ?_
  intro p e s m below meth c ls SC hr hlk hP hK hD hS hB hl
  obtain ⟨hx, hb, hml, hown, hts⟩ := id SC
  have hown : s.vm.findClass RX1 = some m.cls := hown
  have hl : lv_has ls 6 [(0, .ref ((xa X 0))), (1, .int (iI pp)), (2, .int (iI qq))] := hl
  refine lv_aload_n hx hb dX1_rank_0 rfl (lv_at hl 0 rfl) ?_
  refine lv_iload_n hx hb dX1_rank_1 rfl (lv_at hl 1 rfl) ?_
  refine lv_iload_n hx hb dX1_rank_2 rfl (lv_at hl 2 rfl) ?_
  refine pg_wcallV (As := [.int (iI pp), .int (iI qq)]) (rest := []) (l1 := []) (l2 := []) (w := [(xa X 0, .inr (1, [.int (iI t), .ref ((xa X 1)), .ref ((xa X 2)), .ref ((xa X 3)), .ref ((xa X 4)), .int (iI (((sN S : Nat) : Int))), .int (iI (((sW S : Nat) : Int)))])), (xa X 1, .inl (xZ X, 12, .inl (fI (sS S)))), (xa X 2, .inl (xI X, 12, .inl (fI (sA S)))), (xa X 3, .inl (xI X, 12, .inl (fI (sU S)))), (xa X 4, .inl (xI X, 12, .inl (fI (sR S))))]) (w' := [(xa X 0, .inr (1, [.int (iI 1), .ref ((xa X 1)), .ref ((xa X 2)), .ref ((xa X 3)), .ref ((xa X 4)), .int (iI (((sN S : Nat) : Int))), .int (iI (((sW S : Nat) : Int)))])), (xa X 1, .inl (xZ X, 12, .inl (fI (sS S)))), (xa X 2, .inl (xI X, 12, .inl (fI (sA S)))), (xa X 3, .inl (xI X, 12, .inl (fI (sU S)))), (xa X 4, .inl (xI X, 12, .inl (fI (sR S))))]) SC (c_X1_isNoPair_1 l X S t pp qq hp hq h) pT_st pT_h (cwV 2 hts gX1_rank_X1_isNoPair rfl rfl rfl (by decide +kernel) ⟨Nat.le_of_ble_eq_true rfl, Nat.le_of_ble_eq_true rfl⟩) (va_recv hK hP (ci := 1) (q0 := 0) rfl rfl) hK hP hD hS rfl rfl hl.1 rfl (Nat.le_of_ble_eq_true rfl) dX1_rank_3 ⟨Nat.zero_le _, Nat.zero_le _⟩ (fun H locs hP hD hS => ?_)
  have hP : va_P (xG X) vwCl ([(xa X 0, .inr (1, [.int (iI 1), .ref ((xa X 1)), .ref ((xa X 2)), .ref ((xa X 3)), .ref ((xa X 4)), .int (iI (((sN S : Nat) : Int))), .int (iI (((sW S : Nat) : Int)))])), (xa X 1, .inl (xZ X, 12, .inl (fI (sS S)))), (xa X 2, .inl (xI X, 12, .inl (fI (sA S)))), (xa X 3, .inl (xI X, 12, .inl (fI (sU S)))), (xa X 4, .inl (xI X, 12, .inl (fI (sR S))))]) H := hP
  have hD : va_D (pg_in ((mC X S t))) ([(xa X 0, .inr (1, [.int (iI 1), .ref ((xa X 1)), .ref ((xa X 2)), .ref ((xa X 3)), .ref ((xa X 4)), .int (iI (((sN S : Nat) : Int))), .int (iI (((sW S : Nat) : Int)))])), (xa X 1, .inl (xZ X, 12, .inl (fI (sS S)))), (xa X 2, .inl (xI X, 12, .inl (fI (sA S)))), (xa X 3, .inl (xI X, 12, .inl (fI (sU S)))), (xa X 4, .inl (xI X, 12, .inl (fI (sR S))))]) := hD
  refine pg_if_eq (tgt := 11) hx hb dX1_rank_6 (by decide) (⟨by omega, by omega⟩) (fun hc1 => absurd hc1 (by omega)) (fun hc1 => ?_)
  refine lv_iconst (v := iI 0) hx hb dX1_rank_9 rfl ?_
  exact pg_wiret hx hb hr hlk hP hS  (congrArg (fun z : Int => some (Value.int (iI z))) (show 0 = 0 by omega)) dX1_rank_10
set_option maxRecDepth 100000 in
set_option maxHeartbeats 4000000 in
theorem c_X1_rank_2 (l : Launch) (X : pgX) (S : pgS) (t : Int) (a b : Nat) (ha : a < 12) (hb2 : b < 12) (h : sS S a = 0 ∨ sS S b = 0) (h1 : sS S a ≤ 1) (h2 : sS S b ≤ 1) : pg_wr l yX1_rank wsX1_rank (rm 3 65) (xG X) (xTy X) pT (mC X S t) (mC X S 2) 0 0 [.ref ((xa X 0)), .int (iI (((a : Nat) : Int))), .int (iI (((b : Nat) : Int)))] (some (.int (iI 0))) := by
  refine pg_wr_of (cc := cX1_rank) (maxL := 6) (ret := (some .int)) (by decide) rfl (Nat.le_of_ble_eq_true rfl) ?_
  intro p e s m below meth c ls SC hr hlk hP hK hD hS hB hl
  obtain ⟨hx, hb, hml, hown, hts⟩ := id SC
  have hown : s.vm.findClass RX1 = some m.cls := hown
  have hl : lv_has ls 6 [(0, .ref ((xa X 0))), (1, .int (iI (((a : Nat) : Int)))), (2, .int (iI (((b : Nat) : Int))))] := hl
  refine lv_aload_n hx hb dX1_rank_0 rfl (lv_at hl 0 rfl) ?_
  refine lv_iload_n hx hb dX1_rank_1 rfl (lv_at hl 1 rfl) ?_
  refine lv_iload_n hx hb dX1_rank_2 rfl (lv_at hl 2 rfl) ?_
  refine pg_wcallV (As := [.int (iI (((a : Nat) : Int))), .int (iI (((b : Nat) : Int)))]) (rest := []) (l1 := []) (l2 := []) (w := [(xa X 0, .inr (1, [.int (iI t), .ref ((xa X 1)), .ref ((xa X 2)), .ref ((xa X 3)), .ref ((xa X 4)), .int (iI (((sN S : Nat) : Int))), .int (iI (((sW S : Nat) : Int)))])), (xa X 1, .inl (xZ X, 12, .inl (fI (sS S)))), (xa X 2, .inl (xI X, 12, .inl (fI (sA S)))), (xa X 3, .inl (xI X, 12, .inl (fI (sU S)))), (xa X 4, .inl (xI X, 12, .inl (fI (sR S))))]) (w' := [(xa X 0, .inr (1, [.int (iI 2), .ref ((xa X 1)), .ref ((xa X 2)), .ref ((xa X 3)), .ref ((xa X 4)), .int (iI (((sN S : Nat) : Int))), .int (iI (((sW S : Nat) : Int)))])), (xa X 1, .inl (xZ X, 12, .inl (fI (sS S)))), (xa X 2, .inl (xI X, 12, .inl (fI (sA S)))), (xa X 3, .inl (xI X, 12, .inl (fI (sU S)))), (xa X 4, .inl (xI X, 12, .inl (fI (sR S))))]) SC (c_X1_isNoPair_2 l X S t a b ha hb2 h h1 h2) pT_st pT_h (cwV 2 hts gX1_rank_X1_isNoPair rfl rfl rfl (by decide +kernel) ⟨Nat.le_of_ble_eq_true rfl, Nat.le_of_ble_eq_true rfl⟩) (va_recv hK hP (ci := 1) (q0 := 0) rfl rfl) hK hP hD hS rfl rfl hl.1 rfl (Nat.le_of_ble_eq_true rfl) dX1_rank_3 ⟨Nat.zero_le _, Nat.zero_le _⟩ (fun H locs hP hD hS => ?_)
  have hP : va_P (xG X) vwCl ([(xa X 0, .inr (1, [.int (iI 2), .ref ((xa X 1)), .ref ((xa X 2)), .ref ((xa X 3)), .ref ((xa X 4)), .int (iI (((sN S : Nat) : Int))), .int (iI (((sW S : Nat) : Int)))])), (xa X 1, .inl (xZ X, 12, .inl (fI (sS S)))), (xa X 2, .inl (xI X, 12, .inl (fI (sA S)))), (xa X 3, .inl (xI X, 12, .inl (fI (sU S)))), (xa X 4, .inl (xI X, 12, .inl (fI (sR S))))]) H := hP
  have hD : va_D (pg_in ((mC X S t))) ([(xa X 0, .inr (1, [.int (iI 2), .ref ((xa X 1)), .ref ((xa X 2)), .ref ((xa X 3)), .ref ((xa X 4)), .int (iI (((sN S : Nat) : Int))), .int (iI (((sW S : Nat) : Int)))])), (xa X 1, .inl (xZ X, 12, .inl (fI (sS S)))), (xa X 2, .inl (xI X, 12, .inl (fI (sA S)))), (xa X 3, .inl (xI X, 12, .inl (fI (sU S)))), (xa X 4, .inl (xI X, 12, .inl (fI (sR S))))]) := hD
  refine pg_if_eq (tgt := 11) hx hb dX1_rank_6 (by decide) (⟨by omega, by omega⟩) (fun hc1 => absurd hc1 (by omega)) (fun hc1 => ?_)
  refine lv_iconst (v := iI 0) hx hb dX1_rank_9 rfl ?_
  exact pg_wiret hx hb hr hlk hP hS  (congrArg (fun z : Int => some (Value.int (iI z))) (show 0 = 0 by omega)) dX1_rank_10
set_option maxRecDepth 100000 in
set_option maxHeartbeats 4000000 in
theorem c_X1_isIn_ok (l : Launch) (X : pgX) (S : pgS) (t : Int) (hok : pgOk S) (a b : Nat) (ha : a < 12) (hb2 : b < 12) (sa : sS S a = 1) (sb : sS S b = 1) (n : Nat) (q : Int) (M : Nat) (hn : n < 32768) (hqi : inI q) (hM : (q = 0 ∧ M = 16 * n) ∨ (q = 1 ∧ M = 4 * n)) (r : Int) (h : (gN S a b ≤ gr M ∧ r = 1) ∨ (gr M < gN S a b ∧ r = 0)) : pg_wr l yX1_isIn wsX1_isIn (rm 3 74) (xG X) (xTy X) pT (mC X S t) (mC X S 0) 0 0 [.ref ((xa X 0)), .int (iI (((a : Nat) : Int))), .int (iI (((b : Nat) : Int))), .int (iI (((n : Nat) : Int))), .int (iI q)] (some (.int (iI r))) := by
  refine pg_wr_of (cc := cX1_isIn) (maxL := 5) (ret := (some .boolean)) (by decide) rfl (Nat.le_of_ble_eq_true rfl) ?_
  intro p e s m below meth c ls SC hr hlk hP hK hD hS hB hl
  obtain ⟨hx, hb, hml, hown, hts⟩ := id SC
  have hown : s.vm.findClass RX1 = some m.cls := hown
  have hl : lv_has ls 5 [(0, .ref ((xa X 0))), (1, .int (iI (((a : Nat) : Int)))), (2, .int (iI (((b : Nat) : Int)))), (3, .int (iI (((n : Nat) : Int)))), (4, .int (iI q))] := hl
  have hgl := gN_lt hok a b
  have hgm := gr_lt (M := M) (by omega)
  refine lv_aload_n hx hb dX1_isIn_0 rfl (lv_at hl 0 rfl) ?_
  refine lv_iload_n hx hb dX1_isIn_1 rfl (lv_at hl 1 rfl) ?_
  refine lv_iload_n hx hb dX1_isIn_2 rfl (lv_at hl 2 rfl) ?_
  refine pg_wcallV (As := [.int (iI (((a : Nat) : Int))), .int (iI (((b : Nat) : Int)))]) (rest := []) (l1 := []) (l2 := []) (w := [(xa X 0, .inr (1, [.int (iI t), .ref ((xa X 1)), .ref ((xa X 2)), .ref ((xa X 3)), .ref ((xa X 4)), .int (iI (((sN S : Nat) : Int))), .int (iI (((sW S : Nat) : Int)))])), (xa X 1, .inl (xZ X, 12, .inl (fI (sS S)))), (xa X 2, .inl (xI X, 12, .inl (fI (sA S)))), (xa X 3, .inl (xI X, 12, .inl (fI (sU S)))), (xa X 4, .inl (xI X, 12, .inl (fI (sR S))))]) (w' := [(xa X 0, .inr (1, [.int (iI 0), .ref ((xa X 1)), .ref ((xa X 2)), .ref ((xa X 3)), .ref ((xa X 4)), .int (iI (((sN S : Nat) : Int))), .int (iI (((sW S : Nat) : Int)))])), (xa X 1, .inl (xZ X, 12, .inl (fI (sS S)))), (xa X 2, .inl (xI X, 12, .inl (fI (sA S)))), (xa X 3, .inl (xI X, 12, .inl (fI (sU S)))), (xa X 4, .inl (xI X, 12, .inl (fI (sR S))))]) SC (c_X1_isNoPair_ok l X S t a b ha hb2 sa sb) pT_st pT_h (cwV 2 hts gX1_isIn_X1_isNoPair rfl rfl rfl (by decide +kernel) ⟨Nat.le_of_ble_eq_true rfl, Nat.le_of_ble_eq_true rfl⟩) (va_recv hK hP (ci := 1) (q0 := 0) rfl rfl) hK hP hD hS rfl rfl hl.1 rfl (Nat.le_of_ble_eq_true rfl) dX1_isIn_3 ⟨Nat.zero_le _, Nat.zero_le _⟩ (fun H locs hP hD hS => ?_)
  have hP : va_P (xG X) vwCl ([(xa X 0, .inr (1, [.int (iI 0), .ref ((xa X 1)), .ref ((xa X 2)), .ref ((xa X 3)), .ref ((xa X 4)), .int (iI (((sN S : Nat) : Int))), .int (iI (((sW S : Nat) : Int)))])), (xa X 1, .inl (xZ X, 12, .inl (fI (sS S)))), (xa X 2, .inl (xI X, 12, .inl (fI (sA S)))), (xa X 3, .inl (xI X, 12, .inl (fI (sU S)))), (xa X 4, .inl (xI X, 12, .inl (fI (sR S))))]) H := hP
  have hD : va_D (pg_in ((mC X S t))) ([(xa X 0, .inr (1, [.int (iI 0), .ref ((xa X 1)), .ref ((xa X 2)), .ref ((xa X 3)), .ref ((xa X 4)), .int (iI (((sN S : Nat) : Int))), .int (iI (((sW S : Nat) : Int)))])), (xa X 1, .inl (xZ X, 12, .inl (fI (sS S)))), (xa X 2, .inl (xI X, 12, .inl (fI (sA S)))), (xa X 3, .inl (xI X, 12, .inl (fI (sU S)))), (xa X 4, .inl (xI X, 12, .inl (fI (sR S))))]) := hD
  refine pg_if_ne (tgt := 18) hx hb dX1_isIn_6 (by decide) (⟨by omega, by omega⟩) (fun hc1 => absurd hc1 (by omega)) (fun hc1 => ?_)
  refine lv_aload_n hx hb dX1_isIn_9 rfl (lv_at hl 0 rfl) ?_
  refine lv_iload_n hx hb dX1_isIn_10 rfl (lv_at hl 3 rfl) ?_
  refine lv_iconst (v := iI 3) hx hb dX1_isIn_11 rfl ?_
  refine pg_wcallV (As := [.int (iI (((n : Nat) : Int))), .int (iI 3)]) (rest := []) (l1 := []) (l2 := []) (w := [(xa X 0, .inr (1, [.int (iI 0), .ref ((xa X 1)), .ref ((xa X 2)), .ref ((xa X 3)), .ref ((xa X 4)), .int (iI (((sN S : Nat) : Int))), .int (iI (((sW S : Nat) : Int)))])), (xa X 1, .inl (xZ X, 12, .inl (fI (sS S)))), (xa X 2, .inl (xI X, 12, .inl (fI (sA S)))), (xa X 3, .inl (xI X, 12, .inl (fI (sU S)))), (xa X 4, .inl (xI X, 12, .inl (fI (sR S))))]) (w' := [(xa X 0, .inr (1, [.int (iI 0), .ref ((xa X 1)), .ref ((xa X 2)), .ref ((xa X 3)), .ref ((xa X 4)), .int (iI (((sN S : Nat) : Int))), .int (iI (((sW S : Nat) : Int)))])), (xa X 1, .inl (xZ X, 12, .inl (fI (sS S)))), (xa X 2, .inl (xI X, 12, .inl (fI (sA S)))), (xa X 3, .inl (xI X, 12, .inl (fI (sU S)))), (xa X 4, .inl (xI X, 12, .inl (fI (sR S))))]) SC (c_X1_isNoAsked_ok l X S 0 (((n : Nat) : Int)) 3 (by omega)) pT_st pT_h (cwV 2 hts gX1_isIn_X1_isNoAsked rfl rfl rfl (by decide +kernel) ⟨Nat.le_of_ble_eq_true rfl, Nat.le_of_ble_eq_true rfl⟩) (va_recv hK hP (ci := 1) (q0 := 0) rfl rfl) hK hP hD hS rfl rfl hl.1 rfl (Nat.le_of_ble_eq_true rfl) dX1_isIn_12 ⟨Nat.zero_le _, Nat.zero_le _⟩ (fun H locs hP hD hS => ?_)
  have hP : va_P (xG X) vwCl ([(xa X 0, .inr (1, [.int (iI 0), .ref ((xa X 1)), .ref ((xa X 2)), .ref ((xa X 3)), .ref ((xa X 4)), .int (iI (((sN S : Nat) : Int))), .int (iI (((sW S : Nat) : Int)))])), (xa X 1, .inl (xZ X, 12, .inl (fI (sS S)))), (xa X 2, .inl (xI X, 12, .inl (fI (sA S)))), (xa X 3, .inl (xI X, 12, .inl (fI (sU S)))), (xa X 4, .inl (xI X, 12, .inl (fI (sR S))))]) H := hP
  have hD : va_D (pg_in ((mC X S t))) ([(xa X 0, .inr (1, [.int (iI 0), .ref ((xa X 1)), .ref ((xa X 2)), .ref ((xa X 3)), .ref ((xa X 4)), .int (iI (((sN S : Nat) : Int))), .int (iI (((sW S : Nat) : Int)))])), (xa X 1, .inl (xZ X, 12, .inl (fI (sS S)))), (xa X 2, .inl (xI X, 12, .inl (fI (sA S)))), (xa X 3, .inl (xI X, 12, .inl (fI (sU S)))), (xa X 4, .inl (xI X, 12, .inl (fI (sR S))))]) := hD
  refine pg_if_eq (tgt := 20) hx hb dX1_isIn_15 (by decide) (⟨by omega, by omega⟩) (fun hc2 => ?_) (fun hc2 => absurd hc2 (by omega))
  refine lv_aload_n hx hb dX1_isIn_20 rfl (lv_at hl 0 rfl) ?_
  refine lv_iload_n hx hb dX1_isIn_21 rfl (lv_at hl 1 rfl) ?_
  refine lv_iload_n hx hb dX1_isIn_22 rfl (lv_at hl 2 rfl) ?_
  refine pg_callV (As := [.int (iI (((a : Nat) : Int))), .int (iI (((b : Nat) : Int)))]) (rest := []) SC (c_X1_grainsOf l X S 0 hok a b (by omega) (by omega)) mB_st (mB_h hP hK) (cwV 2 hts gX1_isIn_X1_grainsOf rfl rfl rfl (by decide +kernel) ⟨Nat.le_of_ble_eq_true rfl, Nat.le_of_ble_eq_true rfl⟩) (va_recv hK hP (ci := 1) (q0 := 0) rfl rfl) rfl hl.1 rfl (Nat.le_of_ble_eq_true rfl) dX1_isIn_23 ⟨Nat.zero_le _, Nat.zero_le _⟩ ?_
  refine lv_iload_n hx hb dX1_isIn_26 rfl (lv_at hl 3 rfl) ?_
  refine lv_iload hx hb dX1_isIn_27 (lv_at hl 4 rfl) ?_
  refine pg_callS (As := [.int (iI (((n : Nat) : Int))), .int (iI q)]) (rest := [.int (iI (((gN S a b : Nat) : Int)))]) SC (c_X1_rootGrainsOf l n q M hn hqi hM) pT_st pT_h (va_cwS 2 hts gX1_isIn_X1_rootGrainsOf rfl rfl rfl (by decide +kernel) ⟨Nat.le_of_ble_eq_true rfl, Nat.le_of_ble_eq_true rfl⟩) rfl hl.1 rfl (Nat.le_of_ble_eq_true rfl) dX1_isIn_29 ⟨Nat.zero_le _, Nat.zero_le _⟩ ?_
  refine pg_icmp_gt (tgt := 39) hx hb dX1_isIn_32 (by decide) (⟨by omega, by omega⟩) (⟨by omega, by omega⟩) (fun hc3 => ?_) (fun hc3 => ?_)
  · refine lv_iconst (v := iI 0) hx hb dX1_isIn_39 rfl ?_
    exact pg_wzret hx hb hr hlk hP hS  (iI_bool (by omega)) (congrArg (fun z : Int => some (Value.int (iI z))) (show r = 0 by omega)) dX1_isIn_40
  · refine lv_iconst (v := iI 1) hx hb dX1_isIn_35 rfl ?_
    refine lv_goto (tgt := 40) hx hb dX1_isIn_36 (by decide) ?_
    exact pg_wzret hx hb hr hlk hP hS  (iI_bool (by omega)) (congrArg (fun z : Int => some (Value.int (iI z))) (show r = 1 by omega)) dX1_isIn_40
set_option maxRecDepth 100000 in
set_option maxHeartbeats 4000000 in
theorem c_X1_isIn_1 (l : Launch) (X : pgX) (S : pgS) (t : Int) (pp qq : Int) (hp : inI pp) (hq : inI qq) (h : pp < 0 ∨ 12 ≤ pp ∨ qq < 0 ∨ 12 ≤ qq) (n q : Int) : pg_wr l yX1_isIn wsX1_isIn (rm 3 65) (xG X) (xTy X) pT (mC X S t) (mC X S 1) 0 0 [.ref ((xa X 0)), .int (iI pp), .int (iI qq), .int (iI n), .int (iI q)] (some (.int (iI 0))) := by
  refine pg_wr_of (cc := cX1_isIn) (maxL := 5) (ret := (some .boolean)) (by decide) rfl (Nat.le_of_ble_eq_true rfl) ?_
  intro p e s m below meth c ls SC hr hlk hP hK hD hS hB hl
  obtain ⟨hx, hb, hml, hown, hts⟩ := id SC
  have hown : s.vm.findClass RX1 = some m.cls := hown
  have hl : lv_has ls 5 [(0, .ref ((xa X 0))), (1, .int (iI pp)), (2, .int (iI qq)), (3, .int (iI n)), (4, .int (iI q))] := hl
  refine lv_aload_n hx hb dX1_isIn_0 rfl (lv_at hl 0 rfl) ?_
  refine lv_iload_n hx hb dX1_isIn_1 rfl (lv_at hl 1 rfl) ?_
  refine lv_iload_n hx hb dX1_isIn_2 rfl (lv_at hl 2 rfl) ?_
  refine pg_wcallV (As := [.int (iI pp), .int (iI qq)]) (rest := []) (l1 := []) (l2 := []) (w := [(xa X 0, .inr (1, [.int (iI t), .ref ((xa X 1)), .ref ((xa X 2)), .ref ((xa X 3)), .ref ((xa X 4)), .int (iI (((sN S : Nat) : Int))), .int (iI (((sW S : Nat) : Int)))])), (xa X 1, .inl (xZ X, 12, .inl (fI (sS S)))), (xa X 2, .inl (xI X, 12, .inl (fI (sA S)))), (xa X 3, .inl (xI X, 12, .inl (fI (sU S)))), (xa X 4, .inl (xI X, 12, .inl (fI (sR S))))]) (w' := [(xa X 0, .inr (1, [.int (iI 1), .ref ((xa X 1)), .ref ((xa X 2)), .ref ((xa X 3)), .ref ((xa X 4)), .int (iI (((sN S : Nat) : Int))), .int (iI (((sW S : Nat) : Int)))])), (xa X 1, .inl (xZ X, 12, .inl (fI (sS S)))), (xa X 2, .inl (xI X, 12, .inl (fI (sA S)))), (xa X 3, .inl (xI X, 12, .inl (fI (sU S)))), (xa X 4, .inl (xI X, 12, .inl (fI (sR S))))]) SC (c_X1_isNoPair_1 l X S t pp qq hp hq h) pT_st pT_h (cwV 2 hts gX1_isIn_X1_isNoPair rfl rfl rfl (by decide +kernel) ⟨Nat.le_of_ble_eq_true rfl, Nat.le_of_ble_eq_true rfl⟩) (va_recv hK hP (ci := 1) (q0 := 0) rfl rfl) hK hP hD hS rfl rfl hl.1 rfl (Nat.le_of_ble_eq_true rfl) dX1_isIn_3 ⟨Nat.zero_le _, Nat.zero_le _⟩ (fun H locs hP hD hS => ?_)
  have hP : va_P (xG X) vwCl ([(xa X 0, .inr (1, [.int (iI 1), .ref ((xa X 1)), .ref ((xa X 2)), .ref ((xa X 3)), .ref ((xa X 4)), .int (iI (((sN S : Nat) : Int))), .int (iI (((sW S : Nat) : Int)))])), (xa X 1, .inl (xZ X, 12, .inl (fI (sS S)))), (xa X 2, .inl (xI X, 12, .inl (fI (sA S)))), (xa X 3, .inl (xI X, 12, .inl (fI (sU S)))), (xa X 4, .inl (xI X, 12, .inl (fI (sR S))))]) H := hP
  have hD : va_D (pg_in ((mC X S t))) ([(xa X 0, .inr (1, [.int (iI 1), .ref ((xa X 1)), .ref ((xa X 2)), .ref ((xa X 3)), .ref ((xa X 4)), .int (iI (((sN S : Nat) : Int))), .int (iI (((sW S : Nat) : Int)))])), (xa X 1, .inl (xZ X, 12, .inl (fI (sS S)))), (xa X 2, .inl (xI X, 12, .inl (fI (sA S)))), (xa X 3, .inl (xI X, 12, .inl (fI (sU S)))), (xa X 4, .inl (xI X, 12, .inl (fI (sR S))))]) := hD
  refine pg_if_ne (tgt := 18) hx hb dX1_isIn_6 (by decide) (⟨by omega, by omega⟩) (fun hc1 => ?_) (fun hc1 => absurd hc1 (by omega))
  refine lv_iconst (v := iI 0) hx hb dX1_isIn_18 rfl ?_
  exact pg_wzret hx hb hr hlk hP hS  (iI_bool (by omega)) (congrArg (fun z : Int => some (Value.int (iI z))) (show 0 = 0 by omega)) dX1_isIn_19
set_option maxRecDepth 100000 in
set_option maxHeartbeats 4000000 in
theorem c_X1_isIn_2 (l : Launch) (X : pgX) (S : pgS) (t : Int) (a b : Nat) (ha : a < 12) (hb2 : b < 12) (h : sS S a = 0 ∨ sS S b = 0) (h1 : sS S a ≤ 1) (h2 : sS S b ≤ 1) (n q : Int) : pg_wr l yX1_isIn wsX1_isIn (rm 3 65) (xG X) (xTy X) pT (mC X S t) (mC X S 2) 0 0 [.ref ((xa X 0)), .int (iI (((a : Nat) : Int))), .int (iI (((b : Nat) : Int))), .int (iI n), .int (iI q)] (some (.int (iI 0))) := by
  refine pg_wr_of (cc := cX1_isIn) (maxL := 5) (ret := (some .boolean)) (by decide) rfl (Nat.le_of_ble_eq_true rfl) ?_
  intro p e s m below meth c ls SC hr hlk hP hK hD hS hB hl
  obtain ⟨hx, hb, hml, hown, hts⟩ := id SC
  have hown : s.vm.findClass RX1 = some m.cls := hown
  have hl : lv_has ls 5 [(0, .ref ((xa X 0))), (1, .int (iI (((a : Nat) : Int)))), (2, .int (iI (((b : Nat) : Int)))), (3, .int (iI n)), (4, .int (iI q))] := hl
  refine lv_aload_n hx hb dX1_isIn_0 rfl (lv_at hl 0 rfl) ?_
  refine lv_iload_n hx hb dX1_isIn_1 rfl (lv_at hl 1 rfl) ?_
  refine lv_iload_n hx hb dX1_isIn_2 rfl (lv_at hl 2 rfl) ?_
  refine pg_wcallV (As := [.int (iI (((a : Nat) : Int))), .int (iI (((b : Nat) : Int)))]) (rest := []) (l1 := []) (l2 := []) (w := [(xa X 0, .inr (1, [.int (iI t), .ref ((xa X 1)), .ref ((xa X 2)), .ref ((xa X 3)), .ref ((xa X 4)), .int (iI (((sN S : Nat) : Int))), .int (iI (((sW S : Nat) : Int)))])), (xa X 1, .inl (xZ X, 12, .inl (fI (sS S)))), (xa X 2, .inl (xI X, 12, .inl (fI (sA S)))), (xa X 3, .inl (xI X, 12, .inl (fI (sU S)))), (xa X 4, .inl (xI X, 12, .inl (fI (sR S))))]) (w' := [(xa X 0, .inr (1, [.int (iI 2), .ref ((xa X 1)), .ref ((xa X 2)), .ref ((xa X 3)), .ref ((xa X 4)), .int (iI (((sN S : Nat) : Int))), .int (iI (((sW S : Nat) : Int)))])), (xa X 1, .inl (xZ X, 12, .inl (fI (sS S)))), (xa X 2, .inl (xI X, 12, .inl (fI (sA S)))), (xa X 3, .inl (xI X, 12, .inl (fI (sU S)))), (xa X 4, .inl (xI X, 12, .inl (fI (sR S))))]) SC (c_X1_isNoPair_2 l X S t a b ha hb2 h h1 h2) pT_st pT_h (cwV 2 hts gX1_isIn_X1_isNoPair rfl rfl rfl (by decide +kernel) ⟨Nat.le_of_ble_eq_true rfl, Nat.le_of_ble_eq_true rfl⟩) (va_recv hK hP (ci := 1) (q0 := 0) rfl rfl) hK hP hD hS rfl rfl hl.1 rfl (Nat.le_of_ble_eq_true rfl) dX1_isIn_3 ⟨Nat.zero_le _, Nat.zero_le _⟩ (fun H locs hP hD hS => ?_)
  have hP : va_P (xG X) vwCl ([(xa X 0, .inr (1, [.int (iI 2), .ref ((xa X 1)), .ref ((xa X 2)), .ref ((xa X 3)), .ref ((xa X 4)), .int (iI (((sN S : Nat) : Int))), .int (iI (((sW S : Nat) : Int)))])), (xa X 1, .inl (xZ X, 12, .inl (fI (sS S)))), (xa X 2, .inl (xI X, 12, .inl (fI (sA S)))), (xa X 3, .inl (xI X, 12, .inl (fI (sU S)))), (xa X 4, .inl (xI X, 12, .inl (fI (sR S))))]) H := hP
  have hD : va_D (pg_in ((mC X S t))) ([(xa X 0, .inr (1, [.int (iI 2), .ref ((xa X 1)), .ref ((xa X 2)), .ref ((xa X 3)), .ref ((xa X 4)), .int (iI (((sN S : Nat) : Int))), .int (iI (((sW S : Nat) : Int)))])), (xa X 1, .inl (xZ X, 12, .inl (fI (sS S)))), (xa X 2, .inl (xI X, 12, .inl (fI (sA S)))), (xa X 3, .inl (xI X, 12, .inl (fI (sU S)))), (xa X 4, .inl (xI X, 12, .inl (fI (sR S))))]) := hD
  refine pg_if_ne (tgt := 18) hx hb dX1_isIn_6 (by decide) (⟨by omega, by omega⟩) (fun hc1 => ?_) (fun hc1 => absurd hc1 (by omega))
  refine lv_iconst (v := iI 0) hx hb dX1_isIn_18 rfl ?_
  exact pg_wzret hx hb hr hlk hP hS  (iI_bool (by omega)) (congrArg (fun z : Int => some (Value.int (iI z))) (show 0 = 0 by omega)) dX1_isIn_19
set_option maxRecDepth 100000 in
set_option maxHeartbeats 4000000 in
theorem c_X1_isIn_3 (l : Launch) (X : pgX) (S : pgS) (t : Int) (a b : Nat) (ha : a < 12) (hb2 : b < 12) (sa : sS S a = 1) (sb : sS S b = 1) (n : Int) (hn : inI n) (h : n < 0 ∨ 32768 ≤ n) (q : Int) : pg_wr l yX1_isIn wsX1_isIn (rm 3 65) (xG X) (xTy X) pT (mC X S t) (mC X S 3) 0 0 [.ref ((xa X 0)), .int (iI (((a : Nat) : Int))), .int (iI (((b : Nat) : Int))), .int (iI n), .int (iI q)] (some (.int (iI 0))) := by
  refine pg_wr_of (cc := cX1_isIn) (maxL := 5) (ret := (some .boolean)) (by decide) rfl (Nat.le_of_ble_eq_true rfl) ?_
  intro p e s m below meth c ls SC hr hlk hP hK hD hS hB hl
  obtain ⟨hx, hb, hml, hown, hts⟩ := id SC
  have hown : s.vm.findClass RX1 = some m.cls := hown
  have hl : lv_has ls 5 [(0, .ref ((xa X 0))), (1, .int (iI (((a : Nat) : Int)))), (2, .int (iI (((b : Nat) : Int)))), (3, .int (iI n)), (4, .int (iI q))] := hl
  refine lv_aload_n hx hb dX1_isIn_0 rfl (lv_at hl 0 rfl) ?_
  refine lv_iload_n hx hb dX1_isIn_1 rfl (lv_at hl 1 rfl) ?_
  refine lv_iload_n hx hb dX1_isIn_2 rfl (lv_at hl 2 rfl) ?_
  refine pg_wcallV (As := [.int (iI (((a : Nat) : Int))), .int (iI (((b : Nat) : Int)))]) (rest := []) (l1 := []) (l2 := []) (w := [(xa X 0, .inr (1, [.int (iI t), .ref ((xa X 1)), .ref ((xa X 2)), .ref ((xa X 3)), .ref ((xa X 4)), .int (iI (((sN S : Nat) : Int))), .int (iI (((sW S : Nat) : Int)))])), (xa X 1, .inl (xZ X, 12, .inl (fI (sS S)))), (xa X 2, .inl (xI X, 12, .inl (fI (sA S)))), (xa X 3, .inl (xI X, 12, .inl (fI (sU S)))), (xa X 4, .inl (xI X, 12, .inl (fI (sR S))))]) (w' := [(xa X 0, .inr (1, [.int (iI 0), .ref ((xa X 1)), .ref ((xa X 2)), .ref ((xa X 3)), .ref ((xa X 4)), .int (iI (((sN S : Nat) : Int))), .int (iI (((sW S : Nat) : Int)))])), (xa X 1, .inl (xZ X, 12, .inl (fI (sS S)))), (xa X 2, .inl (xI X, 12, .inl (fI (sA S)))), (xa X 3, .inl (xI X, 12, .inl (fI (sU S)))), (xa X 4, .inl (xI X, 12, .inl (fI (sR S))))]) SC (c_X1_isNoPair_ok l X S t a b ha hb2 sa sb) pT_st pT_h (cwV 2 hts gX1_isIn_X1_isNoPair rfl rfl rfl (by decide +kernel) ⟨Nat.le_of_ble_eq_true rfl, Nat.le_of_ble_eq_true rfl⟩) (va_recv hK hP (ci := 1) (q0 := 0) rfl rfl) hK hP hD hS rfl rfl hl.1 rfl (Nat.le_of_ble_eq_true rfl) dX1_isIn_3 ⟨Nat.zero_le _, Nat.zero_le _⟩ (fun H locs hP hD hS => ?_)
  have hP : va_P (xG X) vwCl ([(xa X 0, .inr (1, [.int (iI 0), .ref ((xa X 1)), .ref ((xa X 2)), .ref ((xa X 3)), .ref ((xa X 4)), .int (iI (((sN S : Nat) : Int))), .int (iI (((sW S : Nat) : Int)))])), (xa X 1, .inl (xZ X, 12, .inl (fI (sS S)))), (xa X 2, .inl (xI X, 12, .inl (fI (sA S)))), (xa X 3, .inl (xI X, 12, .inl (fI (sU S)))), (xa X 4, .inl (xI X, 12, .inl (fI (sR S))))]) H := hP
  have hD : va_D (pg_in ((mC X S t))) ([(xa X 0, .inr (1, [.int (iI 0), .ref ((xa X 1)), .ref ((xa X 2)), .ref ((xa X 3)), .ref ((xa X 4)), .int (iI (((sN S : Nat) : Int))), .int (iI (((sW S : Nat) : Int)))])), (xa X 1, .inl (xZ X, 12, .inl (fI (sS S)))), (xa X 2, .inl (xI X, 12, .inl (fI (sA S)))), (xa X 3, .inl (xI X, 12, .inl (fI (sU S)))), (xa X 4, .inl (xI X, 12, .inl (fI (sR S))))]) := hD
  refine pg_if_ne (tgt := 18) hx hb dX1_isIn_6 (by decide) (⟨by omega, by omega⟩) (fun hc1 => absurd hc1 (by omega)) (fun hc1 => ?_)
  refine lv_aload_n hx hb dX1_isIn_9 rfl (lv_at hl 0 rfl) ?_
  refine lv_iload_n hx hb dX1_isIn_10 rfl (lv_at hl 3 rfl) ?_
  refine lv_iconst (v := iI 3) hx hb dX1_isIn_11 rfl ?_
  refine pg_wcallV (As := [.int (iI n), .int (iI 3)]) (rest := []) (l1 := []) (l2 := []) (w := [(xa X 0, .inr (1, [.int (iI 0), .ref ((xa X 1)), .ref ((xa X 2)), .ref ((xa X 3)), .ref ((xa X 4)), .int (iI (((sN S : Nat) : Int))), .int (iI (((sW S : Nat) : Int)))])), (xa X 1, .inl (xZ X, 12, .inl (fI (sS S)))), (xa X 2, .inl (xI X, 12, .inl (fI (sA S)))), (xa X 3, .inl (xI X, 12, .inl (fI (sU S)))), (xa X 4, .inl (xI X, 12, .inl (fI (sR S))))]) (w' := [(xa X 0, .inr (1, [.int (iI 3), .ref ((xa X 1)), .ref ((xa X 2)), .ref ((xa X 3)), .ref ((xa X 4)), .int (iI (((sN S : Nat) : Int))), .int (iI (((sW S : Nat) : Int)))])), (xa X 1, .inl (xZ X, 12, .inl (fI (sS S)))), (xa X 2, .inl (xI X, 12, .inl (fI (sA S)))), (xa X 3, .inl (xI X, 12, .inl (fI (sU S)))), (xa X 4, .inl (xI X, 12, .inl (fI (sR S))))]) SC (c_X1_isNoAsked_1 l X S 0 n 3 ⟨by omega, by omega⟩ (by omega)) pT_st pT_h (cwV 2 hts gX1_isIn_X1_isNoAsked rfl rfl rfl (by decide +kernel) ⟨Nat.le_of_ble_eq_true rfl, Nat.le_of_ble_eq_true rfl⟩) (va_recv hK hP (ci := 1) (q0 := 0) rfl rfl) hK hP hD hS rfl rfl hl.1 rfl (Nat.le_of_ble_eq_true rfl) dX1_isIn_12 ⟨Nat.zero_le _, Nat.zero_le _⟩ (fun H locs hP hD hS => ?_)
  have hP : va_P (xG X) vwCl ([(xa X 0, .inr (1, [.int (iI 3), .ref ((xa X 1)), .ref ((xa X 2)), .ref ((xa X 3)), .ref ((xa X 4)), .int (iI (((sN S : Nat) : Int))), .int (iI (((sW S : Nat) : Int)))])), (xa X 1, .inl (xZ X, 12, .inl (fI (sS S)))), (xa X 2, .inl (xI X, 12, .inl (fI (sA S)))), (xa X 3, .inl (xI X, 12, .inl (fI (sU S)))), (xa X 4, .inl (xI X, 12, .inl (fI (sR S))))]) H := hP
  have hD : va_D (pg_in ((mC X S t))) ([(xa X 0, .inr (1, [.int (iI 3), .ref ((xa X 1)), .ref ((xa X 2)), .ref ((xa X 3)), .ref ((xa X 4)), .int (iI (((sN S : Nat) : Int))), .int (iI (((sW S : Nat) : Int)))])), (xa X 1, .inl (xZ X, 12, .inl (fI (sS S)))), (xa X 2, .inl (xI X, 12, .inl (fI (sA S)))), (xa X 3, .inl (xI X, 12, .inl (fI (sU S)))), (xa X 4, .inl (xI X, 12, .inl (fI (sR S))))]) := hD
  refine pg_if_eq (tgt := 20) hx hb dX1_isIn_15 (by decide) (⟨by omega, by omega⟩) (fun hc2 => absurd hc2 (by omega)) (fun hc2 => ?_)
  refine lv_iconst (v := iI 0) hx hb dX1_isIn_18 rfl ?_
  exact pg_wzret hx hb hr hlk hP hS  (iI_bool (by omega)) (congrArg (fun z : Int => some (Value.int (iI z))) (show 0 = 0 by omega)) dX1_isIn_19
set_option maxRecDepth 100000 in
set_option maxHeartbeats 4000000 in
theorem c_X1_rootBits_ok (l : Launch) (X : pgX) (S : pgS) (t : Int) (n : Nat) (q : Int) (M : Nat) (hn : n < 32768) (hqi : inI q) (hM : (q = 0 ∧ M = 16 * n) ∨ (q = 1 ∧ M = 4 * n))  : pg_wr l yX1_rootBits wsX1_rootBits (rm 3 76) (xG X) (xTy X) pT (mC X S t) (mC X S 0) 0 0 [.ref ((xa X 0)), .int (iI (((n : Nat) : Int))), .int (iI q)] (some (.long (lI (((bx M : Nat) : Int))))) := by
  refine pg_wr_of (cc := cX1_rootBits) (maxL := 3) (ret := (some .long)) (by decide) rfl (Nat.le_of_ble_eq_true rfl) ?_
  intro p e s m below meth c ls SC hr hlk hP hK hD hS hB hl
  obtain ⟨hx, hb, hml, hown, hts⟩ := id SC
  have hown : s.vm.findClass RX1 = some m.cls := hown
  have hl : lv_has ls 3 [(0, .ref ((xa X 0))), (1, .int (iI (((n : Nat) : Int)))), (2, .int (iI q))] := hl
  refine lv_aload_n hx hb dX1_rootBits_0 rfl (lv_at hl 0 rfl) ?_
  refine lv_iload_n hx hb dX1_rootBits_1 rfl (lv_at hl 1 rfl) ?_
  refine lv_iconst (v := iI 1) hx hb dX1_rootBits_2 rfl ?_
  refine pg_wcallV (As := [.int (iI (((n : Nat) : Int))), .int (iI 1)]) (rest := []) (l1 := []) (l2 := []) (w := [(xa X 0, .inr (1, [.int (iI t), .ref ((xa X 1)), .ref ((xa X 2)), .ref ((xa X 3)), .ref ((xa X 4)), .int (iI (((sN S : Nat) : Int))), .int (iI (((sW S : Nat) : Int)))])), (xa X 1, .inl (xZ X, 12, .inl (fI (sS S)))), (xa X 2, .inl (xI X, 12, .inl (fI (sA S)))), (xa X 3, .inl (xI X, 12, .inl (fI (sU S)))), (xa X 4, .inl (xI X, 12, .inl (fI (sR S))))]) (w' := [(xa X 0, .inr (1, [.int (iI 0), .ref ((xa X 1)), .ref ((xa X 2)), .ref ((xa X 3)), .ref ((xa X 4)), .int (iI (((sN S : Nat) : Int))), .int (iI (((sW S : Nat) : Int)))])), (xa X 1, .inl (xZ X, 12, .inl (fI (sS S)))), (xa X 2, .inl (xI X, 12, .inl (fI (sA S)))), (xa X 3, .inl (xI X, 12, .inl (fI (sU S)))), (xa X 4, .inl (xI X, 12, .inl (fI (sR S))))]) SC (c_X1_isNoAsked_ok l X S t (((n : Nat) : Int)) 1 (by omega)) pT_st pT_h (cwV 2 hts gX1_rootBits_X1_isNoAsked rfl rfl rfl (by decide +kernel) ⟨Nat.le_of_ble_eq_true rfl, Nat.le_of_ble_eq_true rfl⟩) (va_recv hK hP (ci := 1) (q0 := 0) rfl rfl) hK hP hD hS rfl rfl hl.1 rfl (Nat.le_of_ble_eq_true rfl) dX1_rootBits_3 ⟨Nat.zero_le _, Nat.zero_le _⟩ (fun H locs hP hD hS => ?_)
  have hP : va_P (xG X) vwCl ([(xa X 0, .inr (1, [.int (iI 0), .ref ((xa X 1)), .ref ((xa X 2)), .ref ((xa X 3)), .ref ((xa X 4)), .int (iI (((sN S : Nat) : Int))), .int (iI (((sW S : Nat) : Int)))])), (xa X 1, .inl (xZ X, 12, .inl (fI (sS S)))), (xa X 2, .inl (xI X, 12, .inl (fI (sA S)))), (xa X 3, .inl (xI X, 12, .inl (fI (sU S)))), (xa X 4, .inl (xI X, 12, .inl (fI (sR S))))]) H := hP
  have hD : va_D (pg_in ((mC X S t))) ([(xa X 0, .inr (1, [.int (iI 0), .ref ((xa X 1)), .ref ((xa X 2)), .ref ((xa X 3)), .ref ((xa X 4)), .int (iI (((sN S : Nat) : Int))), .int (iI (((sW S : Nat) : Int)))])), (xa X 1, .inl (xZ X, 12, .inl (fI (sS S)))), (xa X 2, .inl (xI X, 12, .inl (fI (sA S)))), (xa X 3, .inl (xI X, 12, .inl (fI (sU S)))), (xa X 4, .inl (xI X, 12, .inl (fI (sR S))))]) := hD
  refine pg_if_eq (tgt := 13) hx hb dX1_rootBits_6 (by decide) (⟨by omega, by omega⟩) (fun hc1 => ?_) (fun hc1 => absurd hc1 (by omega))
  refine lv_iload_n hx hb dX1_rootBits_13 rfl (lv_at hl 1 rfl) ?_
  refine lv_iload_n hx hb dX1_rootBits_14 rfl (lv_at hl 2 rfl) ?_
  refine pg_callS (As := [.int (iI (((n : Nat) : Int))), .int (iI q)]) (rest := []) SC (c_X1_bitsOf l n q M hn hqi hM) pT_st pT_h (va_cwS 2 hts gX1_rootBits_X1_bitsOf rfl rfl rfl (by decide +kernel) ⟨Nat.le_of_ble_eq_true rfl, Nat.le_of_ble_eq_true rfl⟩) rfl hl.1 rfl (Nat.le_of_ble_eq_true rfl) dX1_rootBits_15 ⟨Nat.zero_le _, Nat.zero_le _⟩ ?_
  exact pg_wlret hx hb hr hlk hP hS  (congrArg (fun z : Int => some (Value.long (lI z))) (show ((bx M : Nat) : Int) = ((bx M : Nat) : Int) by rfl)) dX1_rootBits_18
set_option maxRecDepth 100000 in
set_option maxHeartbeats 4000000 in
theorem c_X1_rootBits_1 (l : Launch) (X : pgX) (S : pgS) (t : Int) (n : Int) (hn : inI n) (h : n < 0 ∨ 32768 ≤ n) (q : Int) : pg_wr l yX1_rootBits wsX1_rootBits (rm 2 44) (xG X) (xTy X) pT (mC X S t) (mC X S 1) 0 0 [.ref ((xa X 0)), .int (iI n), .int (iI q)] (some (.long (lI 0))) := by
  refine pg_wr_of (cc := cX1_rootBits) (maxL := 3) (ret := (some .long)) (by decide) rfl (Nat.le_of_ble_eq_true rfl) ?_
  intro p e s m below meth c ls SC hr hlk hP hK hD hS hB hl
  obtain ⟨hx, hb, hml, hown, hts⟩ := id SC
  have hown : s.vm.findClass RX1 = some m.cls := hown
  have hl : lv_has ls 3 [(0, .ref ((xa X 0))), (1, .int (iI n)), (2, .int (iI q))] := hl
  refine lv_aload_n hx hb dX1_rootBits_0 rfl (lv_at hl 0 rfl) ?_
  refine lv_iload_n hx hb dX1_rootBits_1 rfl (lv_at hl 1 rfl) ?_
  refine lv_iconst (v := iI 1) hx hb dX1_rootBits_2 rfl ?_
  refine pg_wcallV (As := [.int (iI n), .int (iI 1)]) (rest := []) (l1 := []) (l2 := []) (w := [(xa X 0, .inr (1, [.int (iI t), .ref ((xa X 1)), .ref ((xa X 2)), .ref ((xa X 3)), .ref ((xa X 4)), .int (iI (((sN S : Nat) : Int))), .int (iI (((sW S : Nat) : Int)))])), (xa X 1, .inl (xZ X, 12, .inl (fI (sS S)))), (xa X 2, .inl (xI X, 12, .inl (fI (sA S)))), (xa X 3, .inl (xI X, 12, .inl (fI (sU S)))), (xa X 4, .inl (xI X, 12, .inl (fI (sR S))))]) (w' := [(xa X 0, .inr (1, [.int (iI 1), .ref ((xa X 1)), .ref ((xa X 2)), .ref ((xa X 3)), .ref ((xa X 4)), .int (iI (((sN S : Nat) : Int))), .int (iI (((sW S : Nat) : Int)))])), (xa X 1, .inl (xZ X, 12, .inl (fI (sS S)))), (xa X 2, .inl (xI X, 12, .inl (fI (sA S)))), (xa X 3, .inl (xI X, 12, .inl (fI (sU S)))), (xa X 4, .inl (xI X, 12, .inl (fI (sR S))))]) SC (c_X1_isNoAsked_1 l X S t n 1 ⟨by omega, by omega⟩ (by omega)) pT_st pT_h (cwV 2 hts gX1_rootBits_X1_isNoAsked rfl rfl rfl (by decide +kernel) ⟨Nat.le_of_ble_eq_true rfl, Nat.le_of_ble_eq_true rfl⟩) (va_recv hK hP (ci := 1) (q0 := 0) rfl rfl) hK hP hD hS rfl rfl hl.1 rfl (Nat.le_of_ble_eq_true rfl) dX1_rootBits_3 ⟨Nat.zero_le _, Nat.zero_le _⟩ (fun H locs hP hD hS => ?_)
  have hP : va_P (xG X) vwCl ([(xa X 0, .inr (1, [.int (iI 1), .ref ((xa X 1)), .ref ((xa X 2)), .ref ((xa X 3)), .ref ((xa X 4)), .int (iI (((sN S : Nat) : Int))), .int (iI (((sW S : Nat) : Int)))])), (xa X 1, .inl (xZ X, 12, .inl (fI (sS S)))), (xa X 2, .inl (xI X, 12, .inl (fI (sA S)))), (xa X 3, .inl (xI X, 12, .inl (fI (sU S)))), (xa X 4, .inl (xI X, 12, .inl (fI (sR S))))]) H := hP
  have hD : va_D (pg_in ((mC X S t))) ([(xa X 0, .inr (1, [.int (iI 1), .ref ((xa X 1)), .ref ((xa X 2)), .ref ((xa X 3)), .ref ((xa X 4)), .int (iI (((sN S : Nat) : Int))), .int (iI (((sW S : Nat) : Int)))])), (xa X 1, .inl (xZ X, 12, .inl (fI (sS S)))), (xa X 2, .inl (xI X, 12, .inl (fI (sA S)))), (xa X 3, .inl (xI X, 12, .inl (fI (sU S)))), (xa X 4, .inl (xI X, 12, .inl (fI (sR S))))]) := hD
  refine pg_if_eq (tgt := 13) hx hb dX1_rootBits_6 (by decide) (⟨by omega, by omega⟩) (fun hc1 => absurd hc1 (by omega)) (fun hc1 => ?_)
  refine lv_lconst (v := lI 0) hx hb dX1_rootBits_9 rfl ?_
  refine lv_goto (tgt := 18) hx hb dX1_rootBits_10 (by decide) ?_
  exact pg_wlret hx hb hr hlk hP hS  (congrArg (fun z : Int => some (Value.long (lI z))) (show 0 = 0 by omega)) dX1_rootBits_18
set_option maxRecDepth 100000 in
set_option maxHeartbeats 4000000 in
theorem c_X1_rootGrains_ok (l : Launch) (X : pgX) (S : pgS) (t : Int) (n : Nat) (q : Int) (M : Nat) (hn : n < 32768) (hqi : inI q) (hM : (q = 0 ∧ M = 16 * n) ∨ (q = 1 ∧ M = 4 * n))  : pg_wr l yX1_rootGrains wsX1_rootGrains (rm 3 71) (xG X) (xTy X) pT (mC X S t) (mC X S 0) 0 0 [.ref ((xa X 0)), .int (iI (((n : Nat) : Int))), .int (iI q)] (some (.int (iI (((gr M : Nat) : Int))))) := by
  refine pg_wr_of (cc := cX1_rootGrains) (maxL := 3) (ret := (some .int)) (by decide) rfl (Nat.le_of_ble_eq_true rfl) ?_
  intro p e s m below meth c ls SC hr hlk hP hK hD hS hB hl
  obtain ⟨hx, hb, hml, hown, hts⟩ := id SC
  have hown : s.vm.findClass RX1 = some m.cls := hown
  have hl : lv_has ls 3 [(0, .ref ((xa X 0))), (1, .int (iI (((n : Nat) : Int)))), (2, .int (iI q))] := hl
  refine lv_aload_n hx hb dX1_rootGrains_0 rfl (lv_at hl 0 rfl) ?_
  refine lv_iload_n hx hb dX1_rootGrains_1 rfl (lv_at hl 1 rfl) ?_
  refine lv_iconst (v := iI 1) hx hb dX1_rootGrains_2 rfl ?_
  refine pg_wcallV (As := [.int (iI (((n : Nat) : Int))), .int (iI 1)]) (rest := []) (l1 := []) (l2 := []) (w := [(xa X 0, .inr (1, [.int (iI t), .ref ((xa X 1)), .ref ((xa X 2)), .ref ((xa X 3)), .ref ((xa X 4)), .int (iI (((sN S : Nat) : Int))), .int (iI (((sW S : Nat) : Int)))])), (xa X 1, .inl (xZ X, 12, .inl (fI (sS S)))), (xa X 2, .inl (xI X, 12, .inl (fI (sA S)))), (xa X 3, .inl (xI X, 12, .inl (fI (sU S)))), (xa X 4, .inl (xI X, 12, .inl (fI (sR S))))]) (w' := [(xa X 0, .inr (1, [.int (iI 0), .ref ((xa X 1)), .ref ((xa X 2)), .ref ((xa X 3)), .ref ((xa X 4)), .int (iI (((sN S : Nat) : Int))), .int (iI (((sW S : Nat) : Int)))])), (xa X 1, .inl (xZ X, 12, .inl (fI (sS S)))), (xa X 2, .inl (xI X, 12, .inl (fI (sA S)))), (xa X 3, .inl (xI X, 12, .inl (fI (sU S)))), (xa X 4, .inl (xI X, 12, .inl (fI (sR S))))]) SC (c_X1_isNoAsked_ok l X S t (((n : Nat) : Int)) 1 (by omega)) pT_st pT_h (cwV 2 hts gX1_rootGrains_X1_isNoAsked rfl rfl rfl (by decide +kernel) ⟨Nat.le_of_ble_eq_true rfl, Nat.le_of_ble_eq_true rfl⟩) (va_recv hK hP (ci := 1) (q0 := 0) rfl rfl) hK hP hD hS rfl rfl hl.1 rfl (Nat.le_of_ble_eq_true rfl) dX1_rootGrains_3 ⟨Nat.zero_le _, Nat.zero_le _⟩ (fun H locs hP hD hS => ?_)
  have hP : va_P (xG X) vwCl ([(xa X 0, .inr (1, [.int (iI 0), .ref ((xa X 1)), .ref ((xa X 2)), .ref ((xa X 3)), .ref ((xa X 4)), .int (iI (((sN S : Nat) : Int))), .int (iI (((sW S : Nat) : Int)))])), (xa X 1, .inl (xZ X, 12, .inl (fI (sS S)))), (xa X 2, .inl (xI X, 12, .inl (fI (sA S)))), (xa X 3, .inl (xI X, 12, .inl (fI (sU S)))), (xa X 4, .inl (xI X, 12, .inl (fI (sR S))))]) H := hP
  have hD : va_D (pg_in ((mC X S t))) ([(xa X 0, .inr (1, [.int (iI 0), .ref ((xa X 1)), .ref ((xa X 2)), .ref ((xa X 3)), .ref ((xa X 4)), .int (iI (((sN S : Nat) : Int))), .int (iI (((sW S : Nat) : Int)))])), (xa X 1, .inl (xZ X, 12, .inl (fI (sS S)))), (xa X 2, .inl (xI X, 12, .inl (fI (sA S)))), (xa X 3, .inl (xI X, 12, .inl (fI (sU S)))), (xa X 4, .inl (xI X, 12, .inl (fI (sR S))))]) := hD
  refine pg_if_eq (tgt := 13) hx hb dX1_rootGrains_6 (by decide) (⟨by omega, by omega⟩) (fun hc1 => ?_) (fun hc1 => absurd hc1 (by omega))
  refine lv_iload_n hx hb dX1_rootGrains_13 rfl (lv_at hl 1 rfl) ?_
  refine lv_iload_n hx hb dX1_rootGrains_14 rfl (lv_at hl 2 rfl) ?_
  refine pg_callS (As := [.int (iI (((n : Nat) : Int))), .int (iI q)]) (rest := []) SC (c_X1_rootGrainsOf l n q M hn hqi hM) pT_st pT_h (va_cwS 2 hts gX1_rootGrains_X1_rootGrainsOf rfl rfl rfl (by decide +kernel) ⟨Nat.le_of_ble_eq_true rfl, Nat.le_of_ble_eq_true rfl⟩) rfl hl.1 rfl (Nat.le_of_ble_eq_true rfl) dX1_rootGrains_15 ⟨Nat.zero_le _, Nat.zero_le _⟩ ?_
  exact pg_wiret hx hb hr hlk hP hS  (congrArg (fun z : Int => some (Value.int (iI z))) (show ((gr M : Nat) : Int) = ((gr M : Nat) : Int) by rfl)) dX1_rootGrains_18
set_option maxRecDepth 100000 in
set_option maxHeartbeats 4000000 in
theorem c_X1_rootGrains_1 (l : Launch) (X : pgX) (S : pgS) (t : Int) (n : Int) (hn : inI n) (h : n < 0 ∨ 32768 ≤ n) (q : Int) : pg_wr l yX1_rootGrains wsX1_rootGrains (rm 2 44) (xG X) (xTy X) pT (mC X S t) (mC X S 1) 0 0 [.ref ((xa X 0)), .int (iI n), .int (iI q)] (some (.int (iI 0))) := by
  refine pg_wr_of (cc := cX1_rootGrains) (maxL := 3) (ret := (some .int)) (by decide) rfl (Nat.le_of_ble_eq_true rfl) ?_
  intro p e s m below meth c ls SC hr hlk hP hK hD hS hB hl
  obtain ⟨hx, hb, hml, hown, hts⟩ := id SC
  have hown : s.vm.findClass RX1 = some m.cls := hown
  have hl : lv_has ls 3 [(0, .ref ((xa X 0))), (1, .int (iI n)), (2, .int (iI q))] := hl
  refine lv_aload_n hx hb dX1_rootGrains_0 rfl (lv_at hl 0 rfl) ?_
  refine lv_iload_n hx hb dX1_rootGrains_1 rfl (lv_at hl 1 rfl) ?_
  refine lv_iconst (v := iI 1) hx hb dX1_rootGrains_2 rfl ?_
  refine pg_wcallV (As := [.int (iI n), .int (iI 1)]) (rest := []) (l1 := []) (l2 := []) (w := [(xa X 0, .inr (1, [.int (iI t), .ref ((xa X 1)), .ref ((xa X 2)), .ref ((xa X 3)), .ref ((xa X 4)), .int (iI (((sN S : Nat) : Int))), .int (iI (((sW S : Nat) : Int)))])), (xa X 1, .inl (xZ X, 12, .inl (fI (sS S)))), (xa X 2, .inl (xI X, 12, .inl (fI (sA S)))), (xa X 3, .inl (xI X, 12, .inl (fI (sU S)))), (xa X 4, .inl (xI X, 12, .inl (fI (sR S))))]) (w' := [(xa X 0, .inr (1, [.int (iI 1), .ref ((xa X 1)), .ref ((xa X 2)), .ref ((xa X 3)), .ref ((xa X 4)), .int (iI (((sN S : Nat) : Int))), .int (iI (((sW S : Nat) : Int)))])), (xa X 1, .inl (xZ X, 12, .inl (fI (sS S)))), (xa X 2, .inl (xI X, 12, .inl (fI (sA S)))), (xa X 3, .inl (xI X, 12, .inl (fI (sU S)))), (xa X 4, .inl (xI X, 12, .inl (fI (sR S))))]) SC (c_X1_isNoAsked_1 l X S t n 1 ⟨by omega, by omega⟩ (by omega)) pT_st pT_h (cwV 2 hts gX1_rootGrains_X1_isNoAsked rfl rfl rfl (by decide +kernel) ⟨Nat.le_of_ble_eq_true rfl, Nat.le_of_ble_eq_true rfl⟩) (va_recv hK hP (ci := 1) (q0 := 0) rfl rfl) hK hP hD hS rfl rfl hl.1 rfl (Nat.le_of_ble_eq_true rfl) dX1_rootGrains_3 ⟨Nat.zero_le _, Nat.zero_le _⟩ (fun H locs hP hD hS => ?_)
  have hP : va_P (xG X) vwCl ([(xa X 0, .inr (1, [.int (iI 1), .ref ((xa X 1)), .ref ((xa X 2)), .ref ((xa X 3)), .ref ((xa X 4)), .int (iI (((sN S : Nat) : Int))), .int (iI (((sW S : Nat) : Int)))])), (xa X 1, .inl (xZ X, 12, .inl (fI (sS S)))), (xa X 2, .inl (xI X, 12, .inl (fI (sA S)))), (xa X 3, .inl (xI X, 12, .inl (fI (sU S)))), (xa X 4, .inl (xI X, 12, .inl (fI (sR S))))]) H := hP
  have hD : va_D (pg_in ((mC X S t))) ([(xa X 0, .inr (1, [.int (iI 1), .ref ((xa X 1)), .ref ((xa X 2)), .ref ((xa X 3)), .ref ((xa X 4)), .int (iI (((sN S : Nat) : Int))), .int (iI (((sW S : Nat) : Int)))])), (xa X 1, .inl (xZ X, 12, .inl (fI (sS S)))), (xa X 2, .inl (xI X, 12, .inl (fI (sA S)))), (xa X 3, .inl (xI X, 12, .inl (fI (sU S)))), (xa X 4, .inl (xI X, 12, .inl (fI (sR S))))]) := hD
  refine pg_if_eq (tgt := 13) hx hb dX1_rootGrains_6 (by decide) (⟨by omega, by omega⟩) (fun hc1 => absurd hc1 (by omega)) (fun hc1 => ?_)
  refine lv_iconst (v := iI 0) hx hb dX1_rootGrains_9 rfl ?_
  refine lv_goto (tgt := 18) hx hb dX1_rootGrains_10 (by decide) ?_
  exact pg_wiret hx hb hr hlk hP hS  (congrArg (fun z : Int => some (Value.int (iI z))) (show 0 = 0 by omega)) dX1_rootGrains_18
set_option maxRecDepth 100000 in
set_option maxHeartbeats 4000000 in
theorem c_X1_wholeRoot_ok (l : Launch) (X : pgX) (S : pgS) (t : Int) (n : Nat) (hn : n < 32768) : pg_wr l yX1_wholeRoot wsX1_wholeRoot (rm 2 50) (xG X) (xTy X) pT (mC X S t) (mC X S 0) 0 0 [.ref ((xa X 0)), .int (iI (((n : Nat) : Int)))] (some (.int (iI (((qs n : Nat) : Int))))) := by
  refine pg_wr_of (cc := cX1_wholeRoot) (maxL := 2) (ret := (some .int)) (by decide) rfl (Nat.le_of_ble_eq_true rfl) ?_
  intro p e s m below meth c ls SC hr hlk hP hK hD hS hB hl
  obtain ⟨hx, hb, hml, hown, hts⟩ := id SC
  have hown : s.vm.findClass RX1 = some m.cls := hown
  have hl : lv_has ls 2 [(0, .ref ((xa X 0))), (1, .int (iI (((n : Nat) : Int))))] := hl
  refine lv_aload_n hx hb dX1_wholeRoot_0 rfl (lv_at hl 0 rfl) ?_
  refine lv_iload_n hx hb dX1_wholeRoot_1 rfl (lv_at hl 1 rfl) ?_
  refine lv_iconst (v := iI 1) hx hb dX1_wholeRoot_2 rfl ?_
  refine pg_wcallV (As := [.int (iI (((n : Nat) : Int))), .int (iI 1)]) (rest := []) (l1 := []) (l2 := []) (w := [(xa X 0, .inr (1, [.int (iI t), .ref ((xa X 1)), .ref ((xa X 2)), .ref ((xa X 3)), .ref ((xa X 4)), .int (iI (((sN S : Nat) : Int))), .int (iI (((sW S : Nat) : Int)))])), (xa X 1, .inl (xZ X, 12, .inl (fI (sS S)))), (xa X 2, .inl (xI X, 12, .inl (fI (sA S)))), (xa X 3, .inl (xI X, 12, .inl (fI (sU S)))), (xa X 4, .inl (xI X, 12, .inl (fI (sR S))))]) (w' := [(xa X 0, .inr (1, [.int (iI 0), .ref ((xa X 1)), .ref ((xa X 2)), .ref ((xa X 3)), .ref ((xa X 4)), .int (iI (((sN S : Nat) : Int))), .int (iI (((sW S : Nat) : Int)))])), (xa X 1, .inl (xZ X, 12, .inl (fI (sS S)))), (xa X 2, .inl (xI X, 12, .inl (fI (sA S)))), (xa X 3, .inl (xI X, 12, .inl (fI (sU S)))), (xa X 4, .inl (xI X, 12, .inl (fI (sR S))))]) SC (c_X1_isNoAsked_ok l X S t (((n : Nat) : Int)) 1 (by omega)) pT_st pT_h (cwV 2 hts gX1_wholeRoot_X1_isNoAsked rfl rfl rfl (by decide +kernel) ⟨Nat.le_of_ble_eq_true rfl, Nat.le_of_ble_eq_true rfl⟩) (va_recv hK hP (ci := 1) (q0 := 0) rfl rfl) hK hP hD hS rfl rfl hl.1 rfl (Nat.le_of_ble_eq_true rfl) dX1_wholeRoot_3 ⟨Nat.zero_le _, Nat.zero_le _⟩ (fun H locs hP hD hS => ?_)
  have hP : va_P (xG X) vwCl ([(xa X 0, .inr (1, [.int (iI 0), .ref ((xa X 1)), .ref ((xa X 2)), .ref ((xa X 3)), .ref ((xa X 4)), .int (iI (((sN S : Nat) : Int))), .int (iI (((sW S : Nat) : Int)))])), (xa X 1, .inl (xZ X, 12, .inl (fI (sS S)))), (xa X 2, .inl (xI X, 12, .inl (fI (sA S)))), (xa X 3, .inl (xI X, 12, .inl (fI (sU S)))), (xa X 4, .inl (xI X, 12, .inl (fI (sR S))))]) H := hP
  have hD : va_D (pg_in ((mC X S t))) ([(xa X 0, .inr (1, [.int (iI 0), .ref ((xa X 1)), .ref ((xa X 2)), .ref ((xa X 3)), .ref ((xa X 4)), .int (iI (((sN S : Nat) : Int))), .int (iI (((sW S : Nat) : Int)))])), (xa X 1, .inl (xZ X, 12, .inl (fI (sS S)))), (xa X 2, .inl (xI X, 12, .inl (fI (sA S)))), (xa X 3, .inl (xI X, 12, .inl (fI (sU S)))), (xa X 4, .inl (xI X, 12, .inl (fI (sR S))))]) := hD
  refine pg_if_eq (tgt := 13) hx hb dX1_wholeRoot_6 (by decide) (⟨by omega, by omega⟩) (fun hc1 => ?_) (fun hc1 => absurd hc1 (by omega))
  refine lv_iload_n hx hb dX1_wholeRoot_13 rfl (lv_at hl 1 rfl) ?_
  refine lv_iconst (v := iI 0) hx hb dX1_wholeRoot_14 rfl ?_
  refine pg_callS (As := [.int (iI (((n : Nat) : Int))), .int (iI 0)]) (rest := []) SC (c_X1_wholeOf l n 0 (by omega) ⟨by omega, by omega⟩ (((qs n : Nat) : Int)) (Or.inl ⟨rfl, rfl⟩)) pT_st pT_h (va_cwS 2 hts gX1_wholeRoot_X1_wholeOf rfl rfl rfl (by decide +kernel) ⟨Nat.le_of_ble_eq_true rfl, Nat.le_of_ble_eq_true rfl⟩) rfl hl.1 rfl (Nat.le_of_ble_eq_true rfl) dX1_wholeRoot_15 ⟨Nat.zero_le _, Nat.zero_le _⟩ ?_
  exact pg_wiret hx hb hr hlk hP hS  (congrArg (fun z : Int => some (Value.int (iI z))) (show ((qs n : Nat) : Int) = ((qs n : Nat) : Int) by rfl)) dX1_wholeRoot_18
set_option maxRecDepth 100000 in
set_option maxHeartbeats 4000000 in
theorem c_X1_wholeRoot_1 (l : Launch) (X : pgX) (S : pgS) (t : Int) (n : Int) (hn : inI n) (h : n < 0 ∨ 32768 ≤ n)  : pg_wr l yX1_wholeRoot wsX1_wholeRoot (rm 2 44) (xG X) (xTy X) pT (mC X S t) (mC X S 1) 0 0 [.ref ((xa X 0)), .int (iI n)] (some (.int (iI 0))) := by
  refine pg_wr_of (cc := cX1_wholeRoot) (maxL := 2) (ret := (some .int)) (by decide) rfl (Nat.le_of_ble_eq_true rfl) ?_
  intro p e s m below meth c ls SC hr hlk hP hK hD hS hB hl
  obtain ⟨hx, hb, hml, hown, hts⟩ := id SC
  have hown : s.vm.findClass RX1 = some m.cls := hown
  have hl : lv_has ls 2 [(0, .ref ((xa X 0))), (1, .int (iI n))] := hl
  refine lv_aload_n hx hb dX1_wholeRoot_0 rfl (lv_at hl 0 rfl) ?_
  refine lv_iload_n hx hb dX1_wholeRoot_1 rfl (lv_at hl 1 rfl) ?_
  refine lv_iconst (v := iI 1) hx hb dX1_wholeRoot_2 rfl ?_
  refine pg_wcallV (As := [.int (iI n), .int (iI 1)]) (rest := []) (l1 := []) (l2 := []) (w := [(xa X 0, .inr (1, [.int (iI t), .ref ((xa X 1)), .ref ((xa X 2)), .ref ((xa X 3)), .ref ((xa X 4)), .int (iI (((sN S : Nat) : Int))), .int (iI (((sW S : Nat) : Int)))])), (xa X 1, .inl (xZ X, 12, .inl (fI (sS S)))), (xa X 2, .inl (xI X, 12, .inl (fI (sA S)))), (xa X 3, .inl (xI X, 12, .inl (fI (sU S)))), (xa X 4, .inl (xI X, 12, .inl (fI (sR S))))]) (w' := [(xa X 0, .inr (1, [.int (iI 1), .ref ((xa X 1)), .ref ((xa X 2)), .ref ((xa X 3)), .ref ((xa X 4)), .int (iI (((sN S : Nat) : Int))), .int (iI (((sW S : Nat) : Int)))])), (xa X 1, .inl (xZ X, 12, .inl (fI (sS S)))), (xa X 2, .inl (xI X, 12, .inl (fI (sA S)))), (xa X 3, .inl (xI X, 12, .inl (fI (sU S)))), (xa X 4, .inl (xI X, 12, .inl (fI (sR S))))]) SC (c_X1_isNoAsked_1 l X S t n 1 ⟨by omega, by omega⟩ (by omega)) pT_st pT_h (cwV 2 hts gX1_wholeRoot_X1_isNoAsked rfl rfl rfl (by decide +kernel) ⟨Nat.le_of_ble_eq_true rfl, Nat.le_of_ble_eq_true rfl⟩) (va_recv hK hP (ci := 1) (q0 := 0) rfl rfl) hK hP hD hS rfl rfl hl.1 rfl (Nat.le_of_ble_eq_true rfl) dX1_wholeRoot_3 ⟨Nat.zero_le _, Nat.zero_le _⟩ (fun H locs hP hD hS => ?_)
  have hP : va_P (xG X) vwCl ([(xa X 0, .inr (1, [.int (iI 1), .ref ((xa X 1)), .ref ((xa X 2)), .ref ((xa X 3)), .ref ((xa X 4)), .int (iI (((sN S : Nat) : Int))), .int (iI (((sW S : Nat) : Int)))])), (xa X 1, .inl (xZ X, 12, .inl (fI (sS S)))), (xa X 2, .inl (xI X, 12, .inl (fI (sA S)))), (xa X 3, .inl (xI X, 12, .inl (fI (sU S)))), (xa X 4, .inl (xI X, 12, .inl (fI (sR S))))]) H := hP
  have hD : va_D (pg_in ((mC X S t))) ([(xa X 0, .inr (1, [.int (iI 1), .ref ((xa X 1)), .ref ((xa X 2)), .ref ((xa X 3)), .ref ((xa X 4)), .int (iI (((sN S : Nat) : Int))), .int (iI (((sW S : Nat) : Int)))])), (xa X 1, .inl (xZ X, 12, .inl (fI (sS S)))), (xa X 2, .inl (xI X, 12, .inl (fI (sA S)))), (xa X 3, .inl (xI X, 12, .inl (fI (sU S)))), (xa X 4, .inl (xI X, 12, .inl (fI (sR S))))]) := hD
  refine pg_if_eq (tgt := 13) hx hb dX1_wholeRoot_6 (by decide) (⟨by omega, by omega⟩) (fun hc1 => absurd hc1 (by omega)) (fun hc1 => ?_)
  refine lv_iconst (v := iI 0) hx hb dX1_wholeRoot_9 rfl ?_
  refine lv_goto (tgt := 18) hx hb dX1_wholeRoot_10 (by decide) ?_
  exact pg_wiret hx hb hr hlk hP hS  (congrArg (fun z : Int => some (Value.int (iI z))) (show 0 = 0 by omega)) dX1_wholeRoot_18
set_option maxRecDepth 100000 in
set_option maxHeartbeats 4000000 in
theorem c_X1_isNearest_ok (l : Launch) (X : pgX) (S : pgS) (t : Int) (n : Nat) (q : Int) (hn : n < 32768) : pg_wr l yX1_isNearest wsX1_isNearest (rm 2 44) (xG X) (xTy X) pT (mC X S t) (mC X S 0) 0 0 [.ref ((xa X 0)), .int (iI (((n : Nat) : Int))), .int (iI q)] (some (.int (iI 1))) := by
  refine pg_wr_of (cc := cX1_isNearest) (maxL := 3) (ret := (some .boolean)) (by decide) rfl (Nat.le_of_ble_eq_true rfl) ?_
  intro p e s m below meth c ls SC hr hlk hP hK hD hS hB hl
  obtain ⟨hx, hb, hml, hown, hts⟩ := id SC
  have hown : s.vm.findClass RX1 = some m.cls := hown
  have hl : lv_has ls 3 [(0, .ref ((xa X 0))), (1, .int (iI (((n : Nat) : Int)))), (2, .int (iI q))] := hl
  refine lv_aload_n hx hb dX1_isNearest_0 rfl (lv_at hl 0 rfl) ?_
  refine lv_iload_n hx hb dX1_isNearest_1 rfl (lv_at hl 1 rfl) ?_
  refine lv_iconst (v := iI 1) hx hb dX1_isNearest_2 rfl ?_
  refine pg_wcallV (As := [.int (iI (((n : Nat) : Int))), .int (iI 1)]) (rest := []) (l1 := []) (l2 := []) (w := [(xa X 0, .inr (1, [.int (iI t), .ref ((xa X 1)), .ref ((xa X 2)), .ref ((xa X 3)), .ref ((xa X 4)), .int (iI (((sN S : Nat) : Int))), .int (iI (((sW S : Nat) : Int)))])), (xa X 1, .inl (xZ X, 12, .inl (fI (sS S)))), (xa X 2, .inl (xI X, 12, .inl (fI (sA S)))), (xa X 3, .inl (xI X, 12, .inl (fI (sU S)))), (xa X 4, .inl (xI X, 12, .inl (fI (sR S))))]) (w' := [(xa X 0, .inr (1, [.int (iI 0), .ref ((xa X 1)), .ref ((xa X 2)), .ref ((xa X 3)), .ref ((xa X 4)), .int (iI (((sN S : Nat) : Int))), .int (iI (((sW S : Nat) : Int)))])), (xa X 1, .inl (xZ X, 12, .inl (fI (sS S)))), (xa X 2, .inl (xI X, 12, .inl (fI (sA S)))), (xa X 3, .inl (xI X, 12, .inl (fI (sU S)))), (xa X 4, .inl (xI X, 12, .inl (fI (sR S))))]) SC (c_X1_isNoAsked_ok l X S t (((n : Nat) : Int)) 1 (by omega)) pT_st pT_h (cwV 2 hts gX1_isNearest_X1_isNoAsked rfl rfl rfl (by decide +kernel) ⟨Nat.le_of_ble_eq_true rfl, Nat.le_of_ble_eq_true rfl⟩) (va_recv hK hP (ci := 1) (q0 := 0) rfl rfl) hK hP hD hS rfl rfl hl.1 rfl (Nat.le_of_ble_eq_true rfl) dX1_isNearest_3 ⟨Nat.zero_le _, Nat.zero_le _⟩ (fun H locs hP hD hS => ?_)
  have hP : va_P (xG X) vwCl ([(xa X 0, .inr (1, [.int (iI 0), .ref ((xa X 1)), .ref ((xa X 2)), .ref ((xa X 3)), .ref ((xa X 4)), .int (iI (((sN S : Nat) : Int))), .int (iI (((sW S : Nat) : Int)))])), (xa X 1, .inl (xZ X, 12, .inl (fI (sS S)))), (xa X 2, .inl (xI X, 12, .inl (fI (sA S)))), (xa X 3, .inl (xI X, 12, .inl (fI (sU S)))), (xa X 4, .inl (xI X, 12, .inl (fI (sR S))))]) H := hP
  have hD : va_D (pg_in ((mC X S t))) ([(xa X 0, .inr (1, [.int (iI 0), .ref ((xa X 1)), .ref ((xa X 2)), .ref ((xa X 3)), .ref ((xa X 4)), .int (iI (((sN S : Nat) : Int))), .int (iI (((sW S : Nat) : Int)))])), (xa X 1, .inl (xZ X, 12, .inl (fI (sS S)))), (xa X 2, .inl (xI X, 12, .inl (fI (sA S)))), (xa X 3, .inl (xI X, 12, .inl (fI (sU S)))), (xa X 4, .inl (xI X, 12, .inl (fI (sR S))))]) := hD
  refine pg_if_ne (tgt := 13) hx hb dX1_isNearest_6 (by decide) (⟨by omega, by omega⟩) (fun hc1 => absurd hc1 (by omega)) (fun hc1 => ?_)
  refine lv_iconst (v := iI 1) hx hb dX1_isNearest_9 rfl ?_
  refine lv_goto (tgt := 14) hx hb dX1_isNearest_10 (by decide) ?_
  exact pg_wzret hx hb hr hlk hP hS  (iI_bool (by omega)) (congrArg (fun z : Int => some (Value.int (iI z))) (show 1 = 1 by omega)) dX1_isNearest_14
set_option maxRecDepth 100000 in
set_option maxHeartbeats 4000000 in
theorem c_X1_isNearest_1 (l : Launch) (X : pgX) (S : pgS) (t : Int) (n : Int) (hn : inI n) (h : n < 0 ∨ 32768 ≤ n) (q : Int) : pg_wr l yX1_isNearest wsX1_isNearest (rm 2 44) (xG X) (xTy X) pT (mC X S t) (mC X S 1) 0 0 [.ref ((xa X 0)), .int (iI n), .int (iI q)] (some (.int (iI 0))) := by
  refine pg_wr_of (cc := cX1_isNearest) (maxL := 3) (ret := (some .boolean)) (by decide) rfl (Nat.le_of_ble_eq_true rfl) ?_
  intro p e s m below meth c ls SC hr hlk hP hK hD hS hB hl
  obtain ⟨hx, hb, hml, hown, hts⟩ := id SC
  have hown : s.vm.findClass RX1 = some m.cls := hown
  have hl : lv_has ls 3 [(0, .ref ((xa X 0))), (1, .int (iI n)), (2, .int (iI q))] := hl
  refine lv_aload_n hx hb dX1_isNearest_0 rfl (lv_at hl 0 rfl) ?_
  refine lv_iload_n hx hb dX1_isNearest_1 rfl (lv_at hl 1 rfl) ?_
  refine lv_iconst (v := iI 1) hx hb dX1_isNearest_2 rfl ?_
  refine pg_wcallV (As := [.int (iI n), .int (iI 1)]) (rest := []) (l1 := []) (l2 := []) (w := [(xa X 0, .inr (1, [.int (iI t), .ref ((xa X 1)), .ref ((xa X 2)), .ref ((xa X 3)), .ref ((xa X 4)), .int (iI (((sN S : Nat) : Int))), .int (iI (((sW S : Nat) : Int)))])), (xa X 1, .inl (xZ X, 12, .inl (fI (sS S)))), (xa X 2, .inl (xI X, 12, .inl (fI (sA S)))), (xa X 3, .inl (xI X, 12, .inl (fI (sU S)))), (xa X 4, .inl (xI X, 12, .inl (fI (sR S))))]) (w' := [(xa X 0, .inr (1, [.int (iI 1), .ref ((xa X 1)), .ref ((xa X 2)), .ref ((xa X 3)), .ref ((xa X 4)), .int (iI (((sN S : Nat) : Int))), .int (iI (((sW S : Nat) : Int)))])), (xa X 1, .inl (xZ X, 12, .inl (fI (sS S)))), (xa X 2, .inl (xI X, 12, .inl (fI (sA S)))), (xa X 3, .inl (xI X, 12, .inl (fI (sU S)))), (xa X 4, .inl (xI X, 12, .inl (fI (sR S))))]) SC (c_X1_isNoAsked_1 l X S t n 1 ⟨by omega, by omega⟩ (by omega)) pT_st pT_h (cwV 2 hts gX1_isNearest_X1_isNoAsked rfl rfl rfl (by decide +kernel) ⟨Nat.le_of_ble_eq_true rfl, Nat.le_of_ble_eq_true rfl⟩) (va_recv hK hP (ci := 1) (q0 := 0) rfl rfl) hK hP hD hS rfl rfl hl.1 rfl (Nat.le_of_ble_eq_true rfl) dX1_isNearest_3 ⟨Nat.zero_le _, Nat.zero_le _⟩ (fun H locs hP hD hS => ?_)
  have hP : va_P (xG X) vwCl ([(xa X 0, .inr (1, [.int (iI 1), .ref ((xa X 1)), .ref ((xa X 2)), .ref ((xa X 3)), .ref ((xa X 4)), .int (iI (((sN S : Nat) : Int))), .int (iI (((sW S : Nat) : Int)))])), (xa X 1, .inl (xZ X, 12, .inl (fI (sS S)))), (xa X 2, .inl (xI X, 12, .inl (fI (sA S)))), (xa X 3, .inl (xI X, 12, .inl (fI (sU S)))), (xa X 4, .inl (xI X, 12, .inl (fI (sR S))))]) H := hP
  have hD : va_D (pg_in ((mC X S t))) ([(xa X 0, .inr (1, [.int (iI 1), .ref ((xa X 1)), .ref ((xa X 2)), .ref ((xa X 3)), .ref ((xa X 4)), .int (iI (((sN S : Nat) : Int))), .int (iI (((sW S : Nat) : Int)))])), (xa X 1, .inl (xZ X, 12, .inl (fI (sS S)))), (xa X 2, .inl (xI X, 12, .inl (fI (sA S)))), (xa X 3, .inl (xI X, 12, .inl (fI (sU S)))), (xa X 4, .inl (xI X, 12, .inl (fI (sR S))))]) := hD
  refine pg_if_ne (tgt := 13) hx hb dX1_isNearest_6 (by decide) (⟨by omega, by omega⟩) (fun hc1 => ?_) (fun hc1 => absurd hc1 (by omega))
  refine lv_iconst (v := iI 0) hx hb dX1_isNearest_13 rfl ?_
  exact pg_wzret hx hb hr hlk hP hS  (iI_bool (by omega)) (congrArg (fun z : Int => some (Value.int (iI z))) (show 0 = 0 by omega)) dX1_isNearest_14
set_option maxRecDepth 100000 in
set_option maxHeartbeats 4000000 in
theorem c_X1_isHalved_ok (l : Launch) (X : pgX) (S : pgS) (t : Int) (n : Nat) (hn : n < 32768) : pg_wr l yX1_isHalved wsX1_isHalved (rm 2 44) (xG X) (xTy X) pT (mC X S t) (mC X S 0) 0 0 [.ref ((xa X 0)), .int (iI (((n : Nat) : Int)))] (some (.int (iI 1))) := by
  refine pg_wr_of (cc := cX1_isHalved) (maxL := 2) (ret := (some .boolean)) (by decide) rfl (Nat.le_of_ble_eq_true rfl) ?_
  intro p e s m below meth c ls SC hr hlk hP hK hD hS hB hl
  obtain ⟨hx, hb, hml, hown, hts⟩ := id SC
  have hown : s.vm.findClass RX1 = some m.cls := hown
  have hl : lv_has ls 2 [(0, .ref ((xa X 0))), (1, .int (iI (((n : Nat) : Int))))] := hl
  refine lv_aload_n hx hb dX1_isHalved_0 rfl (lv_at hl 0 rfl) ?_
  refine lv_iload_n hx hb dX1_isHalved_1 rfl (lv_at hl 1 rfl) ?_
  refine lv_iconst (v := iI 1) hx hb dX1_isHalved_2 rfl ?_
  refine pg_wcallV (As := [.int (iI (((n : Nat) : Int))), .int (iI 1)]) (rest := []) (l1 := []) (l2 := []) (w := [(xa X 0, .inr (1, [.int (iI t), .ref ((xa X 1)), .ref ((xa X 2)), .ref ((xa X 3)), .ref ((xa X 4)), .int (iI (((sN S : Nat) : Int))), .int (iI (((sW S : Nat) : Int)))])), (xa X 1, .inl (xZ X, 12, .inl (fI (sS S)))), (xa X 2, .inl (xI X, 12, .inl (fI (sA S)))), (xa X 3, .inl (xI X, 12, .inl (fI (sU S)))), (xa X 4, .inl (xI X, 12, .inl (fI (sR S))))]) (w' := [(xa X 0, .inr (1, [.int (iI 0), .ref ((xa X 1)), .ref ((xa X 2)), .ref ((xa X 3)), .ref ((xa X 4)), .int (iI (((sN S : Nat) : Int))), .int (iI (((sW S : Nat) : Int)))])), (xa X 1, .inl (xZ X, 12, .inl (fI (sS S)))), (xa X 2, .inl (xI X, 12, .inl (fI (sA S)))), (xa X 3, .inl (xI X, 12, .inl (fI (sU S)))), (xa X 4, .inl (xI X, 12, .inl (fI (sR S))))]) SC (c_X1_isNoAsked_ok l X S t (((n : Nat) : Int)) 1 (by omega)) pT_st pT_h (cwV 2 hts gX1_isHalved_X1_isNoAsked rfl rfl rfl (by decide +kernel) ⟨Nat.le_of_ble_eq_true rfl, Nat.le_of_ble_eq_true rfl⟩) (va_recv hK hP (ci := 1) (q0 := 0) rfl rfl) hK hP hD hS rfl rfl hl.1 rfl (Nat.le_of_ble_eq_true rfl) dX1_isHalved_3 ⟨Nat.zero_le _, Nat.zero_le _⟩ (fun H locs hP hD hS => ?_)
  have hP : va_P (xG X) vwCl ([(xa X 0, .inr (1, [.int (iI 0), .ref ((xa X 1)), .ref ((xa X 2)), .ref ((xa X 3)), .ref ((xa X 4)), .int (iI (((sN S : Nat) : Int))), .int (iI (((sW S : Nat) : Int)))])), (xa X 1, .inl (xZ X, 12, .inl (fI (sS S)))), (xa X 2, .inl (xI X, 12, .inl (fI (sA S)))), (xa X 3, .inl (xI X, 12, .inl (fI (sU S)))), (xa X 4, .inl (xI X, 12, .inl (fI (sR S))))]) H := hP
  have hD : va_D (pg_in ((mC X S t))) ([(xa X 0, .inr (1, [.int (iI 0), .ref ((xa X 1)), .ref ((xa X 2)), .ref ((xa X 3)), .ref ((xa X 4)), .int (iI (((sN S : Nat) : Int))), .int (iI (((sW S : Nat) : Int)))])), (xa X 1, .inl (xZ X, 12, .inl (fI (sS S)))), (xa X 2, .inl (xI X, 12, .inl (fI (sA S)))), (xa X 3, .inl (xI X, 12, .inl (fI (sU S)))), (xa X 4, .inl (xI X, 12, .inl (fI (sR S))))]) := hD
  refine pg_if_ne (tgt := 13) hx hb dX1_isHalved_6 (by decide) (⟨by omega, by omega⟩) (fun hc1 => absurd hc1 (by omega)) (fun hc1 => ?_)
  refine lv_iconst (v := iI 1) hx hb dX1_isHalved_9 rfl ?_
  refine lv_goto (tgt := 14) hx hb dX1_isHalved_10 (by decide) ?_
  exact pg_wzret hx hb hr hlk hP hS  (iI_bool (by omega)) (congrArg (fun z : Int => some (Value.int (iI z))) (show 1 = 1 by omega)) dX1_isHalved_14
set_option maxRecDepth 100000 in
set_option maxHeartbeats 4000000 in
theorem c_X1_isHalved_1 (l : Launch) (X : pgX) (S : pgS) (t : Int) (n : Int) (hn : inI n) (h : n < 0 ∨ 32768 ≤ n)  : pg_wr l yX1_isHalved wsX1_isHalved (rm 2 44) (xG X) (xTy X) pT (mC X S t) (mC X S 1) 0 0 [.ref ((xa X 0)), .int (iI n)] (some (.int (iI 0))) := by
  refine pg_wr_of (cc := cX1_isHalved) (maxL := 2) (ret := (some .boolean)) (by decide) rfl (Nat.le_of_ble_eq_true rfl) ?_
  intro p e s m below meth c ls SC hr hlk hP hK hD hS hB hl
  obtain ⟨hx, hb, hml, hown, hts⟩ := id SC
  have hown : s.vm.findClass RX1 = some m.cls := hown
  have hl : lv_has ls 2 [(0, .ref ((xa X 0))), (1, .int (iI n))] := hl
  refine lv_aload_n hx hb dX1_isHalved_0 rfl (lv_at hl 0 rfl) ?_
  refine lv_iload_n hx hb dX1_isHalved_1 rfl (lv_at hl 1 rfl) ?_
  refine lv_iconst (v := iI 1) hx hb dX1_isHalved_2 rfl ?_
  refine pg_wcallV (As := [.int (iI n), .int (iI 1)]) (rest := []) (l1 := []) (l2 := []) (w := [(xa X 0, .inr (1, [.int (iI t), .ref ((xa X 1)), .ref ((xa X 2)), .ref ((xa X 3)), .ref ((xa X 4)), .int (iI (((sN S : Nat) : Int))), .int (iI (((sW S : Nat) : Int)))])), (xa X 1, .inl (xZ X, 12, .inl (fI (sS S)))), (xa X 2, .inl (xI X, 12, .inl (fI (sA S)))), (xa X 3, .inl (xI X, 12, .inl (fI (sU S)))), (xa X 4, .inl (xI X, 12, .inl (fI (sR S))))]) (w' := [(xa X 0, .inr (1, [.int (iI 1), .ref ((xa X 1)), .ref ((xa X 2)), .ref ((xa X 3)), .ref ((xa X 4)), .int (iI (((sN S : Nat) : Int))), .int (iI (((sW S : Nat) : Int)))])), (xa X 1, .inl (xZ X, 12, .inl (fI (sS S)))), (xa X 2, .inl (xI X, 12, .inl (fI (sA S)))), (xa X 3, .inl (xI X, 12, .inl (fI (sU S)))), (xa X 4, .inl (xI X, 12, .inl (fI (sR S))))]) SC (c_X1_isNoAsked_1 l X S t n 1 ⟨by omega, by omega⟩ (by omega)) pT_st pT_h (cwV 2 hts gX1_isHalved_X1_isNoAsked rfl rfl rfl (by decide +kernel) ⟨Nat.le_of_ble_eq_true rfl, Nat.le_of_ble_eq_true rfl⟩) (va_recv hK hP (ci := 1) (q0 := 0) rfl rfl) hK hP hD hS rfl rfl hl.1 rfl (Nat.le_of_ble_eq_true rfl) dX1_isHalved_3 ⟨Nat.zero_le _, Nat.zero_le _⟩ (fun H locs hP hD hS => ?_)
  have hP : va_P (xG X) vwCl ([(xa X 0, .inr (1, [.int (iI 1), .ref ((xa X 1)), .ref ((xa X 2)), .ref ((xa X 3)), .ref ((xa X 4)), .int (iI (((sN S : Nat) : Int))), .int (iI (((sW S : Nat) : Int)))])), (xa X 1, .inl (xZ X, 12, .inl (fI (sS S)))), (xa X 2, .inl (xI X, 12, .inl (fI (sA S)))), (xa X 3, .inl (xI X, 12, .inl (fI (sU S)))), (xa X 4, .inl (xI X, 12, .inl (fI (sR S))))]) H := hP
  have hD : va_D (pg_in ((mC X S t))) ([(xa X 0, .inr (1, [.int (iI 1), .ref ((xa X 1)), .ref ((xa X 2)), .ref ((xa X 3)), .ref ((xa X 4)), .int (iI (((sN S : Nat) : Int))), .int (iI (((sW S : Nat) : Int)))])), (xa X 1, .inl (xZ X, 12, .inl (fI (sS S)))), (xa X 2, .inl (xI X, 12, .inl (fI (sA S)))), (xa X 3, .inl (xI X, 12, .inl (fI (sU S)))), (xa X 4, .inl (xI X, 12, .inl (fI (sR S))))]) := hD
  refine pg_if_ne (tgt := 13) hx hb dX1_isHalved_6 (by decide) (⟨by omega, by omega⟩) (fun hc1 => ?_) (fun hc1 => absurd hc1 (by omega))
  refine lv_iconst (v := iI 0) hx hb dX1_isHalved_13 rfl ?_
  exact pg_wzret hx hb hr hlk hP hS  (iI_bool (by omega)) (congrArg (fun z : Int => some (Value.int (iI z))) (show 0 = 0 by omega)) dX1_isHalved_14
set_option maxRecDepth 100000 in
set_option maxHeartbeats 4000000 in
theorem c_X1_between_ok (l : Launch) (X : pgX) (S : pgS) (t : Int) (lo hi : Nat) (q r : Int) (hlo : lo < 32768) (hhi : hi < 32768) (hqi : inI q) (h : (hi ≤ lo ∧ r = 0) ∨ (lo < hi ∧ q = 0 ∧ r = (qs hi : Int) - (qs lo : Int)) ∨ (lo < hi ∧ q ≠ 0 ∧ r = (qs (hi / 4) : Int) - (qs (lo / 4) : Int))) : pg_wr l yX1_between wsX1_between (rm 2 50) (xG X) (xTy X) pT (mC X S t) (mC X S 0) 0 0 [.ref ((xa X 0)), .int (iI (((lo : Nat) : Int))), .int (iI (((hi : Nat) : Int))), .int (iI q)] (some (.int (iI r))) := by
  refine pg_wr_of (cc := cX1_between) (maxL := 4) (ret := (some .int)) (by decide) rfl (Nat.le_of_ble_eq_true rfl) ?_
  intro p e s m below meth c ls SC hr hlk hP hK hD hS hB hl
  obtain ⟨hx, hb, hml, hown, hts⟩ := id SC
  have hown : s.vm.findClass RX1 = some m.cls := hown
  have hl : lv_has ls 4 [(0, .ref ((xa X 0))), (1, .int (iI (((lo : Nat) : Int)))), (2, .int (iI (((hi : Nat) : Int)))), (3, .int (iI q))] := hl
  refine lv_aload_n hx hb dX1_between_0 rfl (lv_at hl 0 rfl) ?_
  refine lv_iload_n hx hb dX1_between_1 rfl (lv_at hl 1 rfl) ?_
  refine lv_iconst (v := iI 1) hx hb dX1_between_2 rfl ?_
  refine pg_wcallV (As := [.int (iI (((lo : Nat) : Int))), .int (iI 1)]) (rest := []) (l1 := []) (l2 := []) (w := [(xa X 0, .inr (1, [.int (iI t), .ref ((xa X 1)), .ref ((xa X 2)), .ref ((xa X 3)), .ref ((xa X 4)), .int (iI (((sN S : Nat) : Int))), .int (iI (((sW S : Nat) : Int)))])), (xa X 1, .inl (xZ X, 12, .inl (fI (sS S)))), (xa X 2, .inl (xI X, 12, .inl (fI (sA S)))), (xa X 3, .inl (xI X, 12, .inl (fI (sU S)))), (xa X 4, .inl (xI X, 12, .inl (fI (sR S))))]) (w' := [(xa X 0, .inr (1, [.int (iI 0), .ref ((xa X 1)), .ref ((xa X 2)), .ref ((xa X 3)), .ref ((xa X 4)), .int (iI (((sN S : Nat) : Int))), .int (iI (((sW S : Nat) : Int)))])), (xa X 1, .inl (xZ X, 12, .inl (fI (sS S)))), (xa X 2, .inl (xI X, 12, .inl (fI (sA S)))), (xa X 3, .inl (xI X, 12, .inl (fI (sU S)))), (xa X 4, .inl (xI X, 12, .inl (fI (sR S))))]) SC (c_X1_isNoAsked_ok l X S t (((lo : Nat) : Int)) 1 (by omega)) pT_st pT_h (cwV 2 hts gX1_between_X1_isNoAsked rfl rfl rfl (by decide +kernel) ⟨Nat.le_of_ble_eq_true rfl, Nat.le_of_ble_eq_true rfl⟩) (va_recv hK hP (ci := 1) (q0 := 0) rfl rfl) hK hP hD hS rfl rfl hl.1 rfl (Nat.le_of_ble_eq_true rfl) dX1_between_3 ⟨Nat.zero_le _, Nat.zero_le _⟩ (fun H locs hP hD hS => ?_)
  have hP : va_P (xG X) vwCl ([(xa X 0, .inr (1, [.int (iI 0), .ref ((xa X 1)), .ref ((xa X 2)), .ref ((xa X 3)), .ref ((xa X 4)), .int (iI (((sN S : Nat) : Int))), .int (iI (((sW S : Nat) : Int)))])), (xa X 1, .inl (xZ X, 12, .inl (fI (sS S)))), (xa X 2, .inl (xI X, 12, .inl (fI (sA S)))), (xa X 3, .inl (xI X, 12, .inl (fI (sU S)))), (xa X 4, .inl (xI X, 12, .inl (fI (sR S))))]) H := hP
  have hD : va_D (pg_in ((mC X S t))) ([(xa X 0, .inr (1, [.int (iI 0), .ref ((xa X 1)), .ref ((xa X 2)), .ref ((xa X 3)), .ref ((xa X 4)), .int (iI (((sN S : Nat) : Int))), .int (iI (((sW S : Nat) : Int)))])), (xa X 1, .inl (xZ X, 12, .inl (fI (sS S)))), (xa X 2, .inl (xI X, 12, .inl (fI (sA S)))), (xa X 3, .inl (xI X, 12, .inl (fI (sU S)))), (xa X 4, .inl (xI X, 12, .inl (fI (sR S))))]) := hD
  refine pg_if_ne (tgt := 23) hx hb dX1_between_6 (by decide) (⟨by omega, by omega⟩) (fun hc1 => absurd hc1 (by omega)) (fun hc1 => ?_)
  refine lv_aload_n hx hb dX1_between_9 rfl (lv_at hl 0 rfl) ?_
  refine lv_iload_n hx hb dX1_between_10 rfl (lv_at hl 2 rfl) ?_
  refine lv_iconst (v := iI 1) hx hb dX1_between_11 rfl ?_
  refine pg_wcallV (As := [.int (iI (((hi : Nat) : Int))), .int (iI 1)]) (rest := []) (l1 := []) (l2 := []) (w := [(xa X 0, .inr (1, [.int (iI 0), .ref ((xa X 1)), .ref ((xa X 2)), .ref ((xa X 3)), .ref ((xa X 4)), .int (iI (((sN S : Nat) : Int))), .int (iI (((sW S : Nat) : Int)))])), (xa X 1, .inl (xZ X, 12, .inl (fI (sS S)))), (xa X 2, .inl (xI X, 12, .inl (fI (sA S)))), (xa X 3, .inl (xI X, 12, .inl (fI (sU S)))), (xa X 4, .inl (xI X, 12, .inl (fI (sR S))))]) (w' := [(xa X 0, .inr (1, [.int (iI 0), .ref ((xa X 1)), .ref ((xa X 2)), .ref ((xa X 3)), .ref ((xa X 4)), .int (iI (((sN S : Nat) : Int))), .int (iI (((sW S : Nat) : Int)))])), (xa X 1, .inl (xZ X, 12, .inl (fI (sS S)))), (xa X 2, .inl (xI X, 12, .inl (fI (sA S)))), (xa X 3, .inl (xI X, 12, .inl (fI (sU S)))), (xa X 4, .inl (xI X, 12, .inl (fI (sR S))))]) SC (c_X1_isNoAsked_ok l X S 0 (((hi : Nat) : Int)) 1 (by omega)) pT_st pT_h (cwV 2 hts gX1_between_X1_isNoAsked rfl rfl rfl (by decide +kernel) ⟨Nat.le_of_ble_eq_true rfl, Nat.le_of_ble_eq_true rfl⟩) (va_recv hK hP (ci := 1) (q0 := 0) rfl rfl) hK hP hD hS rfl rfl hl.1 rfl (Nat.le_of_ble_eq_true rfl) dX1_between_12 ⟨Nat.zero_le _, Nat.zero_le _⟩ (fun H locs hP hD hS => ?_)
  have hP : va_P (xG X) vwCl ([(xa X 0, .inr (1, [.int (iI 0), .ref ((xa X 1)), .ref ((xa X 2)), .ref ((xa X 3)), .ref ((xa X 4)), .int (iI (((sN S : Nat) : Int))), .int (iI (((sW S : Nat) : Int)))])), (xa X 1, .inl (xZ X, 12, .inl (fI (sS S)))), (xa X 2, .inl (xI X, 12, .inl (fI (sA S)))), (xa X 3, .inl (xI X, 12, .inl (fI (sU S)))), (xa X 4, .inl (xI X, 12, .inl (fI (sR S))))]) H := hP
  have hD : va_D (pg_in ((mC X S t))) ([(xa X 0, .inr (1, [.int (iI 0), .ref ((xa X 1)), .ref ((xa X 2)), .ref ((xa X 3)), .ref ((xa X 4)), .int (iI (((sN S : Nat) : Int))), .int (iI (((sW S : Nat) : Int)))])), (xa X 1, .inl (xZ X, 12, .inl (fI (sS S)))), (xa X 2, .inl (xI X, 12, .inl (fI (sA S)))), (xa X 3, .inl (xI X, 12, .inl (fI (sU S)))), (xa X 4, .inl (xI X, 12, .inl (fI (sR S))))]) := hD
  refine pg_if_ne (tgt := 23) hx hb dX1_between_15 (by decide) (⟨by omega, by omega⟩) (fun hc2 => absurd hc2 (by omega)) (fun hc2 => ?_)
  refine lv_iload_n hx hb dX1_between_18 rfl (lv_at hl 2 rfl) ?_
  refine lv_iload_n hx hb dX1_between_19 rfl (lv_at hl 1 rfl) ?_
  refine pg_icmp_gt (tgt := 25) hx hb dX1_between_20 (by decide) (⟨by omega, by omega⟩) (⟨by omega, by omega⟩) (fun hc3 => ?_) (fun hc3 => ?_)
  · obtain ⟨r1, hr1⟩ : ∃ r1 : Int, (q = 0 ∧ r1 = (qs hi : Int)) ∨ (q ≠ 0 ∧ r1 = (qs (hi / 4) : Int)) := by by_cases q9 : q = 0; exact ⟨_, Or.inl ⟨q9, rfl⟩⟩; exact ⟨_, Or.inr ⟨q9, rfl⟩⟩
    obtain ⟨r2, hr2⟩ : ∃ r2 : Int, (q = 0 ∧ r2 = (qs lo : Int)) ∨ (q ≠ 0 ∧ r2 = (qs (lo / 4) : Int)) := by by_cases q9 : q = 0; exact ⟨_, Or.inl ⟨q9, rfl⟩⟩; exact ⟨_, Or.inr ⟨q9, rfl⟩⟩
    refine lv_iload_n hx hb dX1_between_25 rfl (lv_at hl 2 rfl) ?_
    refine lv_iload_n hx hb dX1_between_26 rfl (lv_at hl 3 rfl) ?_
    refine pg_callS (As := [.int (iI (((hi : Nat) : Int))), .int (iI q)]) (rest := []) SC (c_X1_wholeOf l hi q (by omega) ⟨by omega, by omega⟩ r1 hr1) pT_st pT_h (va_cwS 2 hts gX1_between_X1_wholeOf rfl rfl rfl (by decide +kernel) ⟨Nat.le_of_ble_eq_true rfl, Nat.le_of_ble_eq_true rfl⟩) rfl hl.1 rfl (Nat.le_of_ble_eq_true rfl) dX1_between_27 ⟨Nat.zero_le _, Nat.zero_le _⟩ ?_
    refine lv_iload_n hx hb dX1_between_30 rfl (lv_at hl 1 rfl) ?_
    refine lv_iload_n hx hb dX1_between_31 rfl (lv_at hl 3 rfl) ?_
    refine pg_callS (As := [.int (iI (((lo : Nat) : Int))), .int (iI q)]) (rest := [.int (iI r1)]) SC (c_X1_wholeOf l lo q (by omega) ⟨by omega, by omega⟩ r2 hr2) pT_st pT_h (va_cwS 2 hts gX1_between_X1_wholeOf rfl rfl rfl (by decide +kernel) ⟨Nat.le_of_ble_eq_true rfl, Nat.le_of_ble_eq_true rfl⟩) rfl hl.1 rfl (Nat.le_of_ble_eq_true rfl) dX1_between_32 ⟨Nat.zero_le _, Nat.zero_le _⟩ ?_
    refine pg_isub (z := r1 - r2) hx hb dX1_between_35 (rfl) ?_
    exact pg_wiret hx hb hr hlk hP hS  (congrArg (fun z : Int => some (Value.int (iI z))) (show r = r1 - r2 by omega)) dX1_between_36
  · refine lv_iconst (v := iI 0) hx hb dX1_between_23 rfl ?_
    exact pg_wiret hx hb hr hlk hP hS  (congrArg (fun z : Int => some (Value.int (iI z))) (show r = 0 by omega)) dX1_between_24
set_option maxRecDepth 100000 in
set_option maxHeartbeats 4000000 in
theorem c_X1_between_1 (l : Launch) (X : pgX) (S : pgS) (t : Int) (n n2 q : Int) (hn : inI n) (hn2 : inI n2) (h : n < 0 ∨ 32768 ≤ n ∨ n2 < 0 ∨ 32768 ≤ n2) : pg_wr l yX1_between wsX1_between (rm 2 44) (xG X) (xTy X) pT (mC X S t) (mC X S 1) 0 0 [.ref ((xa X 0)), .int (iI n), .int (iI n2), .int (iI q)] (some (.int (iI 0))) := by
  refine pg_wr_of (cc := cX1_between) (maxL := 4) (ret := (some .int)) (by decide) rfl (Nat.le_of_ble_eq_true rfl) ?_
  intro p e s m below meth c ls SC hr hlk hP hK hD hS hB hl
  obtain ⟨hx, hb, hml, hown, hts⟩ := id SC
  have hown : s.vm.findClass RX1 = some m.cls := hown
  have hl : lv_has ls 4 [(0, .ref ((xa X 0))), (1, .int (iI n)), (2, .int (iI n2)), (3, .int (iI q))] := hl
  refine lv_aload_n hx hb dX1_between_0 rfl (lv_at hl 0 rfl) ?_
  refine lv_iload_n hx hb dX1_between_1 rfl (lv_at hl 1 rfl) ?_
  refine lv_iconst (v := iI 1) hx hb dX1_between_2 rfl ?_
  by_cases hs1 : 0 ≤ n ∧ n < 32768
  · refine pg_wcallV (As := [.int (iI n), .int (iI 1)]) (rest := []) (l1 := []) (l2 := []) (w := [(xa X 0, .inr (1, [.int (iI t), .ref ((xa X 1)), .ref ((xa X 2)), .ref ((xa X 3)), .ref ((xa X 4)), .int (iI (((sN S : Nat) : Int))), .int (iI (((sW S : Nat) : Int)))])), (xa X 1, .inl (xZ X, 12, .inl (fI (sS S)))), (xa X 2, .inl (xI X, 12, .inl (fI (sA S)))), (xa X 3, .inl (xI X, 12, .inl (fI (sU S)))), (xa X 4, .inl (xI X, 12, .inl (fI (sR S))))]) (w' := [(xa X 0, .inr (1, [.int (iI 0), .ref ((xa X 1)), .ref ((xa X 2)), .ref ((xa X 3)), .ref ((xa X 4)), .int (iI (((sN S : Nat) : Int))), .int (iI (((sW S : Nat) : Int)))])), (xa X 1, .inl (xZ X, 12, .inl (fI (sS S)))), (xa X 2, .inl (xI X, 12, .inl (fI (sA S)))), (xa X 3, .inl (xI X, 12, .inl (fI (sU S)))), (xa X 4, .inl (xI X, 12, .inl (fI (sR S))))]) SC (c_X1_isNoAsked_ok l X S t n 1 (by omega)) pT_st pT_h (cwV 2 hts gX1_between_X1_isNoAsked rfl rfl rfl (by decide +kernel) ⟨Nat.le_of_ble_eq_true rfl, Nat.le_of_ble_eq_true rfl⟩) (va_recv hK hP (ci := 1) (q0 := 0) rfl rfl) hK hP hD hS rfl rfl hl.1 rfl (Nat.le_of_ble_eq_true rfl) dX1_between_3 ⟨Nat.zero_le _, Nat.zero_le _⟩ (fun H locs hP hD hS => ?_)
    have hP : va_P (xG X) vwCl ([(xa X 0, .inr (1, [.int (iI 0), .ref ((xa X 1)), .ref ((xa X 2)), .ref ((xa X 3)), .ref ((xa X 4)), .int (iI (((sN S : Nat) : Int))), .int (iI (((sW S : Nat) : Int)))])), (xa X 1, .inl (xZ X, 12, .inl (fI (sS S)))), (xa X 2, .inl (xI X, 12, .inl (fI (sA S)))), (xa X 3, .inl (xI X, 12, .inl (fI (sU S)))), (xa X 4, .inl (xI X, 12, .inl (fI (sR S))))]) H := hP
    have hD : va_D (pg_in ((mC X S t))) ([(xa X 0, .inr (1, [.int (iI 0), .ref ((xa X 1)), .ref ((xa X 2)), .ref ((xa X 3)), .ref ((xa X 4)), .int (iI (((sN S : Nat) : Int))), .int (iI (((sW S : Nat) : Int)))])), (xa X 1, .inl (xZ X, 12, .inl (fI (sS S)))), (xa X 2, .inl (xI X, 12, .inl (fI (sA S)))), (xa X 3, .inl (xI X, 12, .inl (fI (sU S)))), (xa X 4, .inl (xI X, 12, .inl (fI (sR S))))]) := hD
    refine pg_if_ne (tgt := 23) hx hb dX1_between_6 (by decide) (⟨by omega, by omega⟩) (fun hc2 => absurd hc2 (by omega)) (fun hc2 => ?_)
    refine lv_aload_n hx hb dX1_between_9 rfl (lv_at hl 0 rfl) ?_
    refine lv_iload_n hx hb dX1_between_10 rfl (lv_at hl 2 rfl) ?_
    refine lv_iconst (v := iI 1) hx hb dX1_between_11 rfl ?_
    refine pg_wcallV (As := [.int (iI n2), .int (iI 1)]) (rest := []) (l1 := []) (l2 := []) (w := [(xa X 0, .inr (1, [.int (iI 0), .ref ((xa X 1)), .ref ((xa X 2)), .ref ((xa X 3)), .ref ((xa X 4)), .int (iI (((sN S : Nat) : Int))), .int (iI (((sW S : Nat) : Int)))])), (xa X 1, .inl (xZ X, 12, .inl (fI (sS S)))), (xa X 2, .inl (xI X, 12, .inl (fI (sA S)))), (xa X 3, .inl (xI X, 12, .inl (fI (sU S)))), (xa X 4, .inl (xI X, 12, .inl (fI (sR S))))]) (w' := [(xa X 0, .inr (1, [.int (iI 1), .ref ((xa X 1)), .ref ((xa X 2)), .ref ((xa X 3)), .ref ((xa X 4)), .int (iI (((sN S : Nat) : Int))), .int (iI (((sW S : Nat) : Int)))])), (xa X 1, .inl (xZ X, 12, .inl (fI (sS S)))), (xa X 2, .inl (xI X, 12, .inl (fI (sA S)))), (xa X 3, .inl (xI X, 12, .inl (fI (sU S)))), (xa X 4, .inl (xI X, 12, .inl (fI (sR S))))]) SC (c_X1_isNoAsked_1 l X S 0 n2 1 ⟨by omega, by omega⟩ (by omega)) pT_st pT_h (cwV 2 hts gX1_between_X1_isNoAsked rfl rfl rfl (by decide +kernel) ⟨Nat.le_of_ble_eq_true rfl, Nat.le_of_ble_eq_true rfl⟩) (va_recv hK hP (ci := 1) (q0 := 0) rfl rfl) hK hP hD hS rfl rfl hl.1 rfl (Nat.le_of_ble_eq_true rfl) dX1_between_12 ⟨Nat.zero_le _, Nat.zero_le _⟩ (fun H locs hP hD hS => ?_)
    have hP : va_P (xG X) vwCl ([(xa X 0, .inr (1, [.int (iI 1), .ref ((xa X 1)), .ref ((xa X 2)), .ref ((xa X 3)), .ref ((xa X 4)), .int (iI (((sN S : Nat) : Int))), .int (iI (((sW S : Nat) : Int)))])), (xa X 1, .inl (xZ X, 12, .inl (fI (sS S)))), (xa X 2, .inl (xI X, 12, .inl (fI (sA S)))), (xa X 3, .inl (xI X, 12, .inl (fI (sU S)))), (xa X 4, .inl (xI X, 12, .inl (fI (sR S))))]) H := hP
    have hD : va_D (pg_in ((mC X S t))) ([(xa X 0, .inr (1, [.int (iI 1), .ref ((xa X 1)), .ref ((xa X 2)), .ref ((xa X 3)), .ref ((xa X 4)), .int (iI (((sN S : Nat) : Int))), .int (iI (((sW S : Nat) : Int)))])), (xa X 1, .inl (xZ X, 12, .inl (fI (sS S)))), (xa X 2, .inl (xI X, 12, .inl (fI (sA S)))), (xa X 3, .inl (xI X, 12, .inl (fI (sU S)))), (xa X 4, .inl (xI X, 12, .inl (fI (sR S))))]) := hD
    refine pg_if_ne (tgt := 23) hx hb dX1_between_15 (by decide) (⟨by omega, by omega⟩) (fun hc3 => ?_) (fun hc3 => absurd hc3 (by omega))
    refine lv_iconst (v := iI 0) hx hb dX1_between_23 rfl ?_
    exact pg_wiret hx hb hr hlk hP hS  (congrArg (fun z : Int => some (Value.int (iI z))) (show 0 = 0 by omega)) dX1_between_24
  · refine pg_wcallV (As := [.int (iI n), .int (iI 1)]) (rest := []) (l1 := []) (l2 := []) (w := [(xa X 0, .inr (1, [.int (iI t), .ref ((xa X 1)), .ref ((xa X 2)), .ref ((xa X 3)), .ref ((xa X 4)), .int (iI (((sN S : Nat) : Int))), .int (iI (((sW S : Nat) : Int)))])), (xa X 1, .inl (xZ X, 12, .inl (fI (sS S)))), (xa X 2, .inl (xI X, 12, .inl (fI (sA S)))), (xa X 3, .inl (xI X, 12, .inl (fI (sU S)))), (xa X 4, .inl (xI X, 12, .inl (fI (sR S))))]) (w' := [(xa X 0, .inr (1, [.int (iI 1), .ref ((xa X 1)), .ref ((xa X 2)), .ref ((xa X 3)), .ref ((xa X 4)), .int (iI (((sN S : Nat) : Int))), .int (iI (((sW S : Nat) : Int)))])), (xa X 1, .inl (xZ X, 12, .inl (fI (sS S)))), (xa X 2, .inl (xI X, 12, .inl (fI (sA S)))), (xa X 3, .inl (xI X, 12, .inl (fI (sU S)))), (xa X 4, .inl (xI X, 12, .inl (fI (sR S))))]) SC (c_X1_isNoAsked_1 l X S t n 1 ⟨by omega, by omega⟩ (by omega)) pT_st pT_h (cwV 2 hts gX1_between_X1_isNoAsked rfl rfl rfl (by decide +kernel) ⟨Nat.le_of_ble_eq_true rfl, Nat.le_of_ble_eq_true rfl⟩) (va_recv hK hP (ci := 1) (q0 := 0) rfl rfl) hK hP hD hS rfl rfl hl.1 rfl (Nat.le_of_ble_eq_true rfl) dX1_between_3 ⟨Nat.zero_le _, Nat.zero_le _⟩ (fun H locs hP hD hS => ?_)
    have hP : va_P (xG X) vwCl ([(xa X 0, .inr (1, [.int (iI 1), .ref ((xa X 1)), .ref ((xa X 2)), .ref ((xa X 3)), .ref ((xa X 4)), .int (iI (((sN S : Nat) : Int))), .int (iI (((sW S : Nat) : Int)))])), (xa X 1, .inl (xZ X, 12, .inl (fI (sS S)))), (xa X 2, .inl (xI X, 12, .inl (fI (sA S)))), (xa X 3, .inl (xI X, 12, .inl (fI (sU S)))), (xa X 4, .inl (xI X, 12, .inl (fI (sR S))))]) H := hP
    have hD : va_D (pg_in ((mC X S t))) ([(xa X 0, .inr (1, [.int (iI 1), .ref ((xa X 1)), .ref ((xa X 2)), .ref ((xa X 3)), .ref ((xa X 4)), .int (iI (((sN S : Nat) : Int))), .int (iI (((sW S : Nat) : Int)))])), (xa X 1, .inl (xZ X, 12, .inl (fI (sS S)))), (xa X 2, .inl (xI X, 12, .inl (fI (sA S)))), (xa X 3, .inl (xI X, 12, .inl (fI (sU S)))), (xa X 4, .inl (xI X, 12, .inl (fI (sR S))))]) := hD
    refine pg_if_ne (tgt := 23) hx hb dX1_between_6 (by decide) (⟨by omega, by omega⟩) (fun hc4 => ?_) (fun hc4 => absurd hc4 (by omega))
    refine lv_iconst (v := iI 0) hx hb dX1_between_23 rfl ?_
    exact pg_wiret hx hb hr hlk hP hS  (congrArg (fun z : Int => some (Value.int (iI z))) (show 0 = 0 by omega)) dX1_between_24
set_option maxRecDepth 100000 in
set_option maxHeartbeats 4000000 in
theorem c_X1_join_ok (l : Launch) (X : pgX) (S : pgS) (t : Int) (k : Nat) (hk : k < 12) (h1 : sS S k = 1) (hn : sN S < 12) : pg_wr l yX1_join wsX1_join (rm 3 64) (xG X) (xTy X) pT (mC X S t) (mC X (sS S, sA S, sU S, upN (sR S) (sN S) k, sN S + 1, sW S) 0) 0 0 [.ref ((xa X 0)), .int (iI (((k : Nat) : Int)))] (some (.int (iI (((sN S + 1 : Nat) : Int))))) := by
  refine pg_wr_of (cc := cX1_join) (maxL := 2) (ret := (some .int)) (by decide) rfl (Nat.le_of_ble_eq_true rfl) ?_
  intro p e s m below meth c ls SC hr hlk hP hK hD hS hB hl
  obtain ⟨hx, hb, hml, hown, hts⟩ := id SC
  have hown : s.vm.findClass RX1 = some m.cls := hown
  have hl : lv_has ls 2 [(0, .ref ((xa X 0))), (1, .int (iI (((k : Nat) : Int))))] := hl
  have hin : ∀ w ∈ u_ws RX1 TX1 7, w ∈ wsX1_join := by decide +kernel
  refine lv_aload_n hx hb dX1_join_0 rfl (lv_at hl 0 rfl) ?_
  refine lv_iload_n hx hb dX1_join_1 rfl (lv_at hl 1 rfl) ?_
  refine pg_wcallV (As := [.int (iI (((k : Nat) : Int)))]) (rest := []) (l1 := []) (l2 := []) (w := [(xa X 0, .inr (1, [.int (iI t), .ref ((xa X 1)), .ref ((xa X 2)), .ref ((xa X 3)), .ref ((xa X 4)), .int (iI (((sN S : Nat) : Int))), .int (iI (((sW S : Nat) : Int)))])), (xa X 1, .inl (xZ X, 12, .inl (fI (sS S)))), (xa X 2, .inl (xI X, 12, .inl (fI (sA S)))), (xa X 3, .inl (xI X, 12, .inl (fI (sU S)))), (xa X 4, .inl (xI X, 12, .inl (fI (sR S))))]) (w' := [(xa X 0, .inr (1, [.int (iI 0), .ref ((xa X 1)), .ref ((xa X 2)), .ref ((xa X 3)), .ref ((xa X 4)), .int (iI (((sN S : Nat) : Int))), .int (iI (((sW S : Nat) : Int)))])), (xa X 1, .inl (xZ X, 12, .inl (fI (sS S)))), (xa X 2, .inl (xI X, 12, .inl (fI (sA S)))), (xa X 3, .inl (xI X, 12, .inl (fI (sU S)))), (xa X 4, .inl (xI X, 12, .inl (fI (sR S))))]) SC (c_X1_isNoPeg_ok l X S t k hk h1) pT_st pT_h (cwV 1 hts gX1_join_X1_isNoPeg rfl rfl rfl (by decide +kernel) ⟨Nat.le_of_ble_eq_true rfl, Nat.le_of_ble_eq_true rfl⟩) (va_recv hK hP (ci := 1) (q0 := 0) rfl rfl) hK hP hD hS rfl rfl hl.1 rfl (Nat.le_of_ble_eq_true rfl) dX1_join_2 ⟨Nat.zero_le _, Nat.zero_le _⟩ (fun H locs hP hD hS => ?_)
  have hP : va_P (xG X) vwCl ([(xa X 0, .inr (1, [.int (iI 0), .ref ((xa X 1)), .ref ((xa X 2)), .ref ((xa X 3)), .ref ((xa X 4)), .int (iI (((sN S : Nat) : Int))), .int (iI (((sW S : Nat) : Int)))])), (xa X 1, .inl (xZ X, 12, .inl (fI (sS S)))), (xa X 2, .inl (xI X, 12, .inl (fI (sA S)))), (xa X 3, .inl (xI X, 12, .inl (fI (sU S)))), (xa X 4, .inl (xI X, 12, .inl (fI (sR S))))]) H := hP
  have hD : va_D (pg_in ((mC X S t))) ([(xa X 0, .inr (1, [.int (iI 0), .ref ((xa X 1)), .ref ((xa X 2)), .ref ((xa X 3)), .ref ((xa X 4)), .int (iI (((sN S : Nat) : Int))), .int (iI (((sW S : Nat) : Int)))])), (xa X 1, .inl (xZ X, 12, .inl (fI (sS S)))), (xa X 2, .inl (xI X, 12, .inl (fI (sA S)))), (xa X 3, .inl (xI X, 12, .inl (fI (sU S)))), (xa X 4, .inl (xI X, 12, .inl (fI (sR S))))]) := hD
  refine pg_if_ne (tgt := 30) hx hb dX1_join_5 (by decide) (⟨by omega, by omega⟩) (fun hc1 => absurd hc1 (by omega)) (fun hc1 => ?_)
  refine lv_aload_n hx hb dX1_join_8 rfl (lv_at hl 0 rfl) ?_
  refine lv_aload_n hx hb dX1_join_9 rfl (lv_at hl 0 rfl) ?_
  refine va_get (D := xG X) (ci := 1) (v := .int (iI (((sN S : Nat) : Int)))) (C := RX1) (T := TX1) (N := 7) hx hb hts hin hown hK hP 0 rfl rfl 5 (by decide) (hts (.fieldLink RX1 60 "PegfieldModel" "size" "I") (by decide +kernel)) (fun _ h9 => h9) rfl dX1_join_10 ?_
  refine lv_bipush (v := iI 12) hx hb dX1_join_13 (by decide +kernel) ?_
  refine pg_icmp_ne (tgt := 22) hx hb dX1_join_15 (by decide) (⟨by omega, by omega⟩) (⟨by omega, by omega⟩) (fun hc2 => ?_) (fun hc2 => absurd hc2 (by omega))
  refine lv_iconst (v := iI 0) hx hb dX1_join_22 rfl ?_
  refine lv_iconst (v := iI 3) hx hb dX1_join_23 rfl ?_
  refine pg_wcallV (As := [.int (iI 0), .int (iI 3)]) (rest := []) (l1 := []) (l2 := []) (w := [(xa X 0, .inr (1, [.int (iI 0), .ref ((xa X 1)), .ref ((xa X 2)), .ref ((xa X 3)), .ref ((xa X 4)), .int (iI (((sN S : Nat) : Int))), .int (iI (((sW S : Nat) : Int)))])), (xa X 1, .inl (xZ X, 12, .inl (fI (sS S)))), (xa X 2, .inl (xI X, 12, .inl (fI (sA S)))), (xa X 3, .inl (xI X, 12, .inl (fI (sU S)))), (xa X 4, .inl (xI X, 12, .inl (fI (sR S))))]) (w' := [(xa X 0, .inr (1, [.int (iI 0), .ref ((xa X 1)), .ref ((xa X 2)), .ref ((xa X 3)), .ref ((xa X 4)), .int (iI (((sN S : Nat) : Int))), .int (iI (((sW S : Nat) : Int)))])), (xa X 1, .inl (xZ X, 12, .inl (fI (sS S)))), (xa X 2, .inl (xI X, 12, .inl (fI (sA S)))), (xa X 3, .inl (xI X, 12, .inl (fI (sU S)))), (xa X 4, .inl (xI X, 12, .inl (fI (sR S))))]) SC (c_X1_isThrown l X S 0 0 3 0 ⟨by omega, by omega⟩ (by omega)) pT_st pT_h (cwV 2 hts gX1_join_X1_isThrown rfl rfl rfl (by decide +kernel) ⟨Nat.le_of_ble_eq_true rfl, Nat.le_of_ble_eq_true rfl⟩) (va_recv hK hP (ci := 1) (q0 := 0) rfl rfl) hK hP hD hS rfl rfl hl.1 rfl (Nat.le_of_ble_eq_true rfl) dX1_join_24 ⟨Nat.zero_le _, Nat.zero_le _⟩ (fun H locs hP hD hS => ?_)
  have hP : va_P (xG X) vwCl ([(xa X 0, .inr (1, [.int (iI 0), .ref ((xa X 1)), .ref ((xa X 2)), .ref ((xa X 3)), .ref ((xa X 4)), .int (iI (((sN S : Nat) : Int))), .int (iI (((sW S : Nat) : Int)))])), (xa X 1, .inl (xZ X, 12, .inl (fI (sS S)))), (xa X 2, .inl (xI X, 12, .inl (fI (sA S)))), (xa X 3, .inl (xI X, 12, .inl (fI (sU S)))), (xa X 4, .inl (xI X, 12, .inl (fI (sR S))))]) H := hP
  have hD : va_D (pg_in ((mC X S t))) ([(xa X 0, .inr (1, [.int (iI 0), .ref ((xa X 1)), .ref ((xa X 2)), .ref ((xa X 3)), .ref ((xa X 4)), .int (iI (((sN S : Nat) : Int))), .int (iI (((sW S : Nat) : Int)))])), (xa X 1, .inl (xZ X, 12, .inl (fI (sS S)))), (xa X 2, .inl (xI X, 12, .inl (fI (sA S)))), (xa X 3, .inl (xI X, 12, .inl (fI (sU S)))), (xa X 4, .inl (xI X, 12, .inl (fI (sR S))))]) := hD
  refine pg_if_eq (tgt := 32) hx hb dX1_join_27 (by decide) (⟨by omega, by omega⟩) (fun hc3 => ?_) (fun hc3 => absurd hc3 (by omega))
  refine lv_aload_n hx hb dX1_join_32 rfl (lv_at hl 0 rfl) ?_
  refine va_get (D := xG X) (ci := 1) (v := .ref ((xa X 4))) (C := RX1) (T := TX1) (N := 7) hx hb hts hin hown hK hP 0 rfl rfl 4 (by decide) (hts (.fieldLink RX1 20 "PegfieldModel" "ring" "[I") (by decide +kernel)) (fun _ h9 => h9) rfl dX1_join_33 ?_
  refine lv_aload_n hx hb dX1_join_36 rfl (lv_at hl 0 rfl) ?_
  refine va_get (D := xG X) (ci := 1) (v := .int (iI (((sN S : Nat) : Int)))) (C := RX1) (T := TX1) (N := 7) hx hb hts hin hown hK hP 0 rfl rfl 5 (by decide) (hts (.fieldLink RX1 60 "PegfieldModel" "size" "I") (by decide +kernel)) (fun _ h9 => h9) rfl dX1_join_37 ?_
  refine lv_iload_n hx hb dX1_join_40 rfl (lv_at hl 1 rfl) ?_
  refine pg_iast hx hb hK hP hD hS 4 1 (f := (sR S)) rfl rfl (sN S) k (rfl) (rfl) (by omega) (by decide) dX1_join_41 (fun H locs hP hD hS => ?_)
  have hP : va_P (xG X) vwCl ([(xa X 0, .inr (1, [.int (iI 0), .ref ((xa X 1)), .ref ((xa X 2)), .ref ((xa X 3)), .ref ((xa X 4)), .int (iI (((sN S : Nat) : Int))), .int (iI (((sW S : Nat) : Int)))])), (xa X 1, .inl (xZ X, 12, .inl (fI (sS S)))), (xa X 2, .inl (xI X, 12, .inl (fI (sA S)))), (xa X 3, .inl (xI X, 12, .inl (fI (sU S)))), (xa X 4, .inl (xI X, 12, .inl (fI (upN (sR S) (sN S) k))))]) H := hP
  have hD : va_D (pg_in ((mC X S t))) ([(xa X 0, .inr (1, [.int (iI 0), .ref ((xa X 1)), .ref ((xa X 2)), .ref ((xa X 3)), .ref ((xa X 4)), .int (iI (((sN S : Nat) : Int))), .int (iI (((sW S : Nat) : Int)))])), (xa X 1, .inl (xZ X, 12, .inl (fI (sS S)))), (xa X 2, .inl (xI X, 12, .inl (fI (sA S)))), (xa X 3, .inl (xI X, 12, .inl (fI (sU S)))), (xa X 4, .inl (xI X, 12, .inl (fI (upN (sR S) (sN S) k))))]) := hD
  refine lv_aload_n hx hb dX1_join_42 rfl (lv_at hl 0 rfl) ?_
  refine lv_dup hx hb dX1_join_43 rfl ?_
  refine va_get (D := xG X) (ci := 1) (v := .int (iI (((sN S : Nat) : Int)))) (C := RX1) (T := TX1) (N := 7) hx hb hts hin hown hK hP 0 rfl rfl 5 (by decide) (hts (.fieldLink RX1 60 "PegfieldModel" "size" "I") (by decide +kernel)) (fun _ h9 => h9) rfl dX1_join_44 ?_
  refine lv_iconst (v := iI 1) hx hb dX1_join_47 rfl ?_
  refine pg_iadd (z := ((sN S + 1 : Nat) : Int)) hx hb dX1_join_48 (by omega) ?_
  refine va_put (D := xG X) (ci := 1) (v := .int (iI (((sN S + 1 : Nat) : Int)))) (ty := .int) (C := RX1) (T := TX1) (N := 7) hx hb hts hin tyX1 tyX1_ok nmX1 hown hK hP hD hS 0 rfl rfl 5 (by decide) (hts (.fieldLink RX1 60 "PegfieldModel" "size" "I") (by decide +kernel)) (fun _ h9 => h9) rfl (by decide +kernel) rfl rfl (Nat.le_of_ble_eq_true rfl) dX1_join_49 (fun H locs hP hD hS => ?_)
  have hP : va_P (xG X) vwCl ([(xa X 0, .inr (1, [.int (iI 0), .ref ((xa X 1)), .ref ((xa X 2)), .ref ((xa X 3)), .ref ((xa X 4)), .int (iI (((sN S + 1 : Nat) : Int))), .int (iI (((sW S : Nat) : Int)))])), (xa X 1, .inl (xZ X, 12, .inl (fI (sS S)))), (xa X 2, .inl (xI X, 12, .inl (fI (sA S)))), (xa X 3, .inl (xI X, 12, .inl (fI (sU S)))), (xa X 4, .inl (xI X, 12, .inl (fI (upN (sR S) (sN S) k))))]) H := hP
  have hD : va_D (pg_in ((mC X S t))) ([(xa X 0, .inr (1, [.int (iI 0), .ref ((xa X 1)), .ref ((xa X 2)), .ref ((xa X 3)), .ref ((xa X 4)), .int (iI (((sN S + 1 : Nat) : Int))), .int (iI (((sW S : Nat) : Int)))])), (xa X 1, .inl (xZ X, 12, .inl (fI (sS S)))), (xa X 2, .inl (xI X, 12, .inl (fI (sA S)))), (xa X 3, .inl (xI X, 12, .inl (fI (sU S)))), (xa X 4, .inl (xI X, 12, .inl (fI (upN (sR S) (sN S) k))))]) := hD
  refine lv_aload_n hx hb dX1_join_52 rfl (lv_at hl 0 rfl) ?_
  refine va_get (D := xG X) (ci := 1) (v := .int (iI (((sN S + 1 : Nat) : Int)))) (C := RX1) (T := TX1) (N := 7) hx hb hts hin hown hK hP 0 rfl rfl 5 (by decide) (hts (.fieldLink RX1 60 "PegfieldModel" "size" "I") (by decide +kernel)) (fun _ h9 => h9) rfl dX1_join_53 ?_
  exact pg_wiret hx hb hr hlk hP hS  (congrArg (fun z : Int => some (Value.int (iI z))) (show ((sN S + 1 : Nat) : Int) = ((sN S + 1 : Nat) : Int) by rfl)) dX1_join_56
set_option maxRecDepth 100000 in
set_option maxHeartbeats 4000000 in
theorem c_X1_join_1 (l : Launch) (X : pgX) (S : pgS) (t : Int) (pp : Int) (hp : inI pp) (h : pp < 0 ∨ 12 ≤ pp)  : pg_wr l yX1_join wsX1_join (rm 3 64) (xG X) (xTy X) pT (mC X S t) (mC X S 1) 0 0 [.ref ((xa X 0)), .int (iI pp)] (some (.int (iI 0))) := by
  refine pg_wr_of (cc := cX1_join) (maxL := 2) (ret := (some .int)) (by decide) rfl (Nat.le_of_ble_eq_true rfl) ?_
  intro p e s m below meth c ls SC hr hlk hP hK hD hS hB hl
  obtain ⟨hx, hb, hml, hown, hts⟩ := id SC
  have hown : s.vm.findClass RX1 = some m.cls := hown
  have hl : lv_has ls 2 [(0, .ref ((xa X 0))), (1, .int (iI pp))] := hl
  refine lv_aload_n hx hb dX1_join_0 rfl (lv_at hl 0 rfl) ?_
  refine lv_iload_n hx hb dX1_join_1 rfl (lv_at hl 1 rfl) ?_
  refine pg_wcallV (As := [.int (iI pp)]) (rest := []) (l1 := []) (l2 := []) (w := [(xa X 0, .inr (1, [.int (iI t), .ref ((xa X 1)), .ref ((xa X 2)), .ref ((xa X 3)), .ref ((xa X 4)), .int (iI (((sN S : Nat) : Int))), .int (iI (((sW S : Nat) : Int)))])), (xa X 1, .inl (xZ X, 12, .inl (fI (sS S)))), (xa X 2, .inl (xI X, 12, .inl (fI (sA S)))), (xa X 3, .inl (xI X, 12, .inl (fI (sU S)))), (xa X 4, .inl (xI X, 12, .inl (fI (sR S))))]) (w' := [(xa X 0, .inr (1, [.int (iI 1), .ref ((xa X 1)), .ref ((xa X 2)), .ref ((xa X 3)), .ref ((xa X 4)), .int (iI (((sN S : Nat) : Int))), .int (iI (((sW S : Nat) : Int)))])), (xa X 1, .inl (xZ X, 12, .inl (fI (sS S)))), (xa X 2, .inl (xI X, 12, .inl (fI (sA S)))), (xa X 3, .inl (xI X, 12, .inl (fI (sU S)))), (xa X 4, .inl (xI X, 12, .inl (fI (sR S))))]) SC (c_X1_isNoPeg_1 l X S t pp ⟨by omega, by omega⟩ (by omega)) pT_st pT_h (cwV 1 hts gX1_join_X1_isNoPeg rfl rfl rfl (by decide +kernel) ⟨Nat.le_of_ble_eq_true rfl, Nat.le_of_ble_eq_true rfl⟩) (va_recv hK hP (ci := 1) (q0 := 0) rfl rfl) hK hP hD hS rfl rfl hl.1 rfl (Nat.le_of_ble_eq_true rfl) dX1_join_2 ⟨Nat.zero_le _, Nat.zero_le _⟩ (fun H locs hP hD hS => ?_)
  have hP : va_P (xG X) vwCl ([(xa X 0, .inr (1, [.int (iI 1), .ref ((xa X 1)), .ref ((xa X 2)), .ref ((xa X 3)), .ref ((xa X 4)), .int (iI (((sN S : Nat) : Int))), .int (iI (((sW S : Nat) : Int)))])), (xa X 1, .inl (xZ X, 12, .inl (fI (sS S)))), (xa X 2, .inl (xI X, 12, .inl (fI (sA S)))), (xa X 3, .inl (xI X, 12, .inl (fI (sU S)))), (xa X 4, .inl (xI X, 12, .inl (fI (sR S))))]) H := hP
  have hD : va_D (pg_in ((mC X S t))) ([(xa X 0, .inr (1, [.int (iI 1), .ref ((xa X 1)), .ref ((xa X 2)), .ref ((xa X 3)), .ref ((xa X 4)), .int (iI (((sN S : Nat) : Int))), .int (iI (((sW S : Nat) : Int)))])), (xa X 1, .inl (xZ X, 12, .inl (fI (sS S)))), (xa X 2, .inl (xI X, 12, .inl (fI (sA S)))), (xa X 3, .inl (xI X, 12, .inl (fI (sU S)))), (xa X 4, .inl (xI X, 12, .inl (fI (sR S))))]) := hD
  refine pg_if_ne (tgt := 30) hx hb dX1_join_5 (by decide) (⟨by omega, by omega⟩) (fun hc1 => ?_) (fun hc1 => absurd hc1 (by omega))
  refine lv_iconst (v := iI 0) hx hb dX1_join_30 rfl ?_
  exact pg_wiret hx hb hr hlk hP hS  (congrArg (fun z : Int => some (Value.int (iI z))) (show 0 = 0 by omega)) dX1_join_31
set_option maxRecDepth 100000 in
set_option maxHeartbeats 4000000 in
theorem c_X1_join_2 (l : Launch) (X : pgX) (S : pgS) (t : Int) (k : Nat) (hk : k < 12) (h1 : sS S k = 0)  : pg_wr l yX1_join wsX1_join (rm 3 64) (xG X) (xTy X) pT (mC X S t) (mC X S 2) 0 0 [.ref ((xa X 0)), .int (iI (((k : Nat) : Int)))] (some (.int (iI 0))) := by
  refine pg_wr_of (cc := cX1_join) (maxL := 2) (ret := (some .int)) (by decide) rfl (Nat.le_of_ble_eq_true rfl) ?_
  intro p e s m below meth c ls SC hr hlk hP hK hD hS hB hl
  obtain ⟨hx, hb, hml, hown, hts⟩ := id SC
  have hown : s.vm.findClass RX1 = some m.cls := hown
  have hl : lv_has ls 2 [(0, .ref ((xa X 0))), (1, .int (iI (((k : Nat) : Int))))] := hl
  refine lv_aload_n hx hb dX1_join_0 rfl (lv_at hl 0 rfl) ?_
  refine lv_iload_n hx hb dX1_join_1 rfl (lv_at hl 1 rfl) ?_
  refine pg_wcallV (As := [.int (iI (((k : Nat) : Int)))]) (rest := []) (l1 := []) (l2 := []) (w := [(xa X 0, .inr (1, [.int (iI t), .ref ((xa X 1)), .ref ((xa X 2)), .ref ((xa X 3)), .ref ((xa X 4)), .int (iI (((sN S : Nat) : Int))), .int (iI (((sW S : Nat) : Int)))])), (xa X 1, .inl (xZ X, 12, .inl (fI (sS S)))), (xa X 2, .inl (xI X, 12, .inl (fI (sA S)))), (xa X 3, .inl (xI X, 12, .inl (fI (sU S)))), (xa X 4, .inl (xI X, 12, .inl (fI (sR S))))]) (w' := [(xa X 0, .inr (1, [.int (iI 2), .ref ((xa X 1)), .ref ((xa X 2)), .ref ((xa X 3)), .ref ((xa X 4)), .int (iI (((sN S : Nat) : Int))), .int (iI (((sW S : Nat) : Int)))])), (xa X 1, .inl (xZ X, 12, .inl (fI (sS S)))), (xa X 2, .inl (xI X, 12, .inl (fI (sA S)))), (xa X 3, .inl (xI X, 12, .inl (fI (sU S)))), (xa X 4, .inl (xI X, 12, .inl (fI (sR S))))]) SC (c_X1_isNoPeg_2 l X S t k hk h1) pT_st pT_h (cwV 1 hts gX1_join_X1_isNoPeg rfl rfl rfl (by decide +kernel) ⟨Nat.le_of_ble_eq_true rfl, Nat.le_of_ble_eq_true rfl⟩) (va_recv hK hP (ci := 1) (q0 := 0) rfl rfl) hK hP hD hS rfl rfl hl.1 rfl (Nat.le_of_ble_eq_true rfl) dX1_join_2 ⟨Nat.zero_le _, Nat.zero_le _⟩ (fun H locs hP hD hS => ?_)
  have hP : va_P (xG X) vwCl ([(xa X 0, .inr (1, [.int (iI 2), .ref ((xa X 1)), .ref ((xa X 2)), .ref ((xa X 3)), .ref ((xa X 4)), .int (iI (((sN S : Nat) : Int))), .int (iI (((sW S : Nat) : Int)))])), (xa X 1, .inl (xZ X, 12, .inl (fI (sS S)))), (xa X 2, .inl (xI X, 12, .inl (fI (sA S)))), (xa X 3, .inl (xI X, 12, .inl (fI (sU S)))), (xa X 4, .inl (xI X, 12, .inl (fI (sR S))))]) H := hP
  have hD : va_D (pg_in ((mC X S t))) ([(xa X 0, .inr (1, [.int (iI 2), .ref ((xa X 1)), .ref ((xa X 2)), .ref ((xa X 3)), .ref ((xa X 4)), .int (iI (((sN S : Nat) : Int))), .int (iI (((sW S : Nat) : Int)))])), (xa X 1, .inl (xZ X, 12, .inl (fI (sS S)))), (xa X 2, .inl (xI X, 12, .inl (fI (sA S)))), (xa X 3, .inl (xI X, 12, .inl (fI (sU S)))), (xa X 4, .inl (xI X, 12, .inl (fI (sR S))))]) := hD
  refine pg_if_ne (tgt := 30) hx hb dX1_join_5 (by decide) (⟨by omega, by omega⟩) (fun hc1 => ?_) (fun hc1 => absurd hc1 (by omega))
  refine lv_iconst (v := iI 0) hx hb dX1_join_30 rfl ?_
  exact pg_wiret hx hb hr hlk hP hS  (congrArg (fun z : Int => some (Value.int (iI z))) (show 0 = 0 by omega)) dX1_join_31
set_option maxRecDepth 100000 in
set_option maxHeartbeats 4000000 in
theorem c_X1_join_3 (l : Launch) (X : pgX) (S : pgS) (t : Int) (k : Nat) (hk : k < 12) (h1 : sS S k = 1) (hn : sN S = 12) : pg_wr l yX1_join wsX1_join (rm 3 64) (xG X) (xTy X) pT (mC X S t) (mC X S 3) 0 0 [.ref ((xa X 0)), .int (iI (((k : Nat) : Int)))] (some (.int (iI 0))) := by
  refine pg_wr_of (cc := cX1_join) (maxL := 2) (ret := (some .int)) (by decide) rfl (Nat.le_of_ble_eq_true rfl) ?_
  intro p e s m below meth c ls SC hr hlk hP hK hD hS hB hl
  obtain ⟨hx, hb, hml, hown, hts⟩ := id SC
  have hown : s.vm.findClass RX1 = some m.cls := hown
  have hl : lv_has ls 2 [(0, .ref ((xa X 0))), (1, .int (iI (((k : Nat) : Int))))] := hl
  have hin : ∀ w ∈ u_ws RX1 TX1 7, w ∈ wsX1_join := by decide +kernel
  refine lv_aload_n hx hb dX1_join_0 rfl (lv_at hl 0 rfl) ?_
  refine lv_iload_n hx hb dX1_join_1 rfl (lv_at hl 1 rfl) ?_
  refine pg_wcallV (As := [.int (iI (((k : Nat) : Int)))]) (rest := []) (l1 := []) (l2 := []) (w := [(xa X 0, .inr (1, [.int (iI t), .ref ((xa X 1)), .ref ((xa X 2)), .ref ((xa X 3)), .ref ((xa X 4)), .int (iI (((sN S : Nat) : Int))), .int (iI (((sW S : Nat) : Int)))])), (xa X 1, .inl (xZ X, 12, .inl (fI (sS S)))), (xa X 2, .inl (xI X, 12, .inl (fI (sA S)))), (xa X 3, .inl (xI X, 12, .inl (fI (sU S)))), (xa X 4, .inl (xI X, 12, .inl (fI (sR S))))]) (w' := [(xa X 0, .inr (1, [.int (iI 0), .ref ((xa X 1)), .ref ((xa X 2)), .ref ((xa X 3)), .ref ((xa X 4)), .int (iI (((sN S : Nat) : Int))), .int (iI (((sW S : Nat) : Int)))])), (xa X 1, .inl (xZ X, 12, .inl (fI (sS S)))), (xa X 2, .inl (xI X, 12, .inl (fI (sA S)))), (xa X 3, .inl (xI X, 12, .inl (fI (sU S)))), (xa X 4, .inl (xI X, 12, .inl (fI (sR S))))]) SC (c_X1_isNoPeg_ok l X S t k hk h1) pT_st pT_h (cwV 1 hts gX1_join_X1_isNoPeg rfl rfl rfl (by decide +kernel) ⟨Nat.le_of_ble_eq_true rfl, Nat.le_of_ble_eq_true rfl⟩) (va_recv hK hP (ci := 1) (q0 := 0) rfl rfl) hK hP hD hS rfl rfl hl.1 rfl (Nat.le_of_ble_eq_true rfl) dX1_join_2 ⟨Nat.zero_le _, Nat.zero_le _⟩ (fun H locs hP hD hS => ?_)
  have hP : va_P (xG X) vwCl ([(xa X 0, .inr (1, [.int (iI 0), .ref ((xa X 1)), .ref ((xa X 2)), .ref ((xa X 3)), .ref ((xa X 4)), .int (iI (((sN S : Nat) : Int))), .int (iI (((sW S : Nat) : Int)))])), (xa X 1, .inl (xZ X, 12, .inl (fI (sS S)))), (xa X 2, .inl (xI X, 12, .inl (fI (sA S)))), (xa X 3, .inl (xI X, 12, .inl (fI (sU S)))), (xa X 4, .inl (xI X, 12, .inl (fI (sR S))))]) H := hP
  have hD : va_D (pg_in ((mC X S t))) ([(xa X 0, .inr (1, [.int (iI 0), .ref ((xa X 1)), .ref ((xa X 2)), .ref ((xa X 3)), .ref ((xa X 4)), .int (iI (((sN S : Nat) : Int))), .int (iI (((sW S : Nat) : Int)))])), (xa X 1, .inl (xZ X, 12, .inl (fI (sS S)))), (xa X 2, .inl (xI X, 12, .inl (fI (sA S)))), (xa X 3, .inl (xI X, 12, .inl (fI (sU S)))), (xa X 4, .inl (xI X, 12, .inl (fI (sR S))))]) := hD
  refine pg_if_ne (tgt := 30) hx hb dX1_join_5 (by decide) (⟨by omega, by omega⟩) (fun hc1 => absurd hc1 (by omega)) (fun hc1 => ?_)
  refine lv_aload_n hx hb dX1_join_8 rfl (lv_at hl 0 rfl) ?_
  refine lv_aload_n hx hb dX1_join_9 rfl (lv_at hl 0 rfl) ?_
  refine va_get (D := xG X) (ci := 1) (v := .int (iI (((sN S : Nat) : Int)))) (C := RX1) (T := TX1) (N := 7) hx hb hts hin hown hK hP 0 rfl rfl 5 (by decide) (hts (.fieldLink RX1 60 "PegfieldModel" "size" "I") (by decide +kernel)) (fun _ h9 => h9) rfl dX1_join_10 ?_
  refine lv_bipush (v := iI 12) hx hb dX1_join_13 (by decide +kernel) ?_
  refine pg_icmp_ne (tgt := 22) hx hb dX1_join_15 (by decide) (⟨by omega, by omega⟩) (⟨by omega, by omega⟩) (fun hc2 => absurd hc2 (by omega)) (fun hc2 => ?_)
  refine lv_iconst (v := iI 1) hx hb dX1_join_18 rfl ?_
  refine lv_goto (tgt := 23) hx hb dX1_join_19 (by decide) ?_
  refine lv_iconst (v := iI 3) hx hb dX1_join_23 rfl ?_
  refine pg_wcallV (As := [.int (iI 1), .int (iI 3)]) (rest := []) (l1 := []) (l2 := []) (w := [(xa X 0, .inr (1, [.int (iI 0), .ref ((xa X 1)), .ref ((xa X 2)), .ref ((xa X 3)), .ref ((xa X 4)), .int (iI (((sN S : Nat) : Int))), .int (iI (((sW S : Nat) : Int)))])), (xa X 1, .inl (xZ X, 12, .inl (fI (sS S)))), (xa X 2, .inl (xI X, 12, .inl (fI (sA S)))), (xa X 3, .inl (xI X, 12, .inl (fI (sU S)))), (xa X 4, .inl (xI X, 12, .inl (fI (sR S))))]) (w' := [(xa X 0, .inr (1, [.int (iI 3), .ref ((xa X 1)), .ref ((xa X 2)), .ref ((xa X 3)), .ref ((xa X 4)), .int (iI (((sN S : Nat) : Int))), .int (iI (((sW S : Nat) : Int)))])), (xa X 1, .inl (xZ X, 12, .inl (fI (sS S)))), (xa X 2, .inl (xI X, 12, .inl (fI (sA S)))), (xa X 3, .inl (xI X, 12, .inl (fI (sU S)))), (xa X 4, .inl (xI X, 12, .inl (fI (sR S))))]) SC (c_X1_isThrown l X S 0 1 3 3 ⟨by omega, by omega⟩ (by omega)) pT_st pT_h (cwV 2 hts gX1_join_X1_isThrown rfl rfl rfl (by decide +kernel) ⟨Nat.le_of_ble_eq_true rfl, Nat.le_of_ble_eq_true rfl⟩) (va_recv hK hP (ci := 1) (q0 := 0) rfl rfl) hK hP hD hS rfl rfl hl.1 rfl (Nat.le_of_ble_eq_true rfl) dX1_join_24 ⟨Nat.zero_le _, Nat.zero_le _⟩ (fun H locs hP hD hS => ?_)
  have hP : va_P (xG X) vwCl ([(xa X 0, .inr (1, [.int (iI 3), .ref ((xa X 1)), .ref ((xa X 2)), .ref ((xa X 3)), .ref ((xa X 4)), .int (iI (((sN S : Nat) : Int))), .int (iI (((sW S : Nat) : Int)))])), (xa X 1, .inl (xZ X, 12, .inl (fI (sS S)))), (xa X 2, .inl (xI X, 12, .inl (fI (sA S)))), (xa X 3, .inl (xI X, 12, .inl (fI (sU S)))), (xa X 4, .inl (xI X, 12, .inl (fI (sR S))))]) H := hP
  have hD : va_D (pg_in ((mC X S t))) ([(xa X 0, .inr (1, [.int (iI 3), .ref ((xa X 1)), .ref ((xa X 2)), .ref ((xa X 3)), .ref ((xa X 4)), .int (iI (((sN S : Nat) : Int))), .int (iI (((sW S : Nat) : Int)))])), (xa X 1, .inl (xZ X, 12, .inl (fI (sS S)))), (xa X 2, .inl (xI X, 12, .inl (fI (sA S)))), (xa X 3, .inl (xI X, 12, .inl (fI (sU S)))), (xa X 4, .inl (xI X, 12, .inl (fI (sR S))))]) := hD
  refine pg_if_eq (tgt := 32) hx hb dX1_join_27 (by decide) (⟨by omega, by omega⟩) (fun hc3 => absurd hc3 (by omega)) (fun hc3 => ?_)
  refine lv_iconst (v := iI 0) hx hb dX1_join_30 rfl ?_
  exact pg_wiret hx hb hr hlk hP hS  (congrArg (fun z : Int => some (Value.int (iI z))) (show 0 = 0 by omega)) dX1_join_31
set_option maxRecDepth 100000 in
set_option maxHeartbeats 4000000 in
theorem c_X1_unjoin_ok (l : Launch) (X : pgX) (S : pgS) (t : Int) (n2 : Nat) (hn : sN S = n2 + 1) (hn2 : n2 < 12) : pg_wr l yX1_unjoin wsX1_unjoin (rm 1 22) (xG X) (xTy X) pT (mC X S t) (mC X (sS S, sA S, sU S, sR S, n2, sW S) 0) 0 0 [.ref ((xa X 0))] (some (.int (iI (((sR S n2 : Nat) : Int))))) := by
  refine pg_wr_of (cc := cX1_unjoin) (maxL := 1) (ret := (some .int)) (by decide) rfl (Nat.le_of_ble_eq_true rfl) ?_
  intro p e s m below meth c ls SC hr hlk hP hK hD hS hB hl
  obtain ⟨hx, hb, hml, hown, hts⟩ := id SC
  have hown : s.vm.findClass RX1 = some m.cls := hown
  have hl : lv_has ls 1 [(0, .ref ((xa X 0)))] := hl
  have hin : ∀ w ∈ u_ws RX1 TX1 7, w ∈ wsX1_unjoin := by decide +kernel
  refine lv_aload_n hx hb dX1_unjoin_0 rfl (lv_at hl 0 rfl) ?_
  refine lv_aload_n hx hb dX1_unjoin_1 rfl (lv_at hl 0 rfl) ?_
  refine va_get (D := xG X) (ci := 1) (v := .int (iI (((sN S : Nat) : Int)))) (C := RX1) (T := TX1) (N := 7) hx hb hts hin hown hK hP 0 rfl rfl 5 (by decide) (hts (.fieldLink RX1 60 "PegfieldModel" "size" "I") (by decide +kernel)) (fun _ h9 => h9) rfl dX1_unjoin_2 ?_
  refine pg_if_ne (tgt := 12) hx hb dX1_unjoin_5 (by decide) (⟨by omega, by omega⟩) (fun hc1 => ?_) (fun hc1 => absurd hc1 (by omega))
  refine lv_iconst (v := iI 0) hx hb dX1_unjoin_12 rfl ?_
  refine lv_iconst (v := iI 1) hx hb dX1_unjoin_13 rfl ?_
  refine pg_wcallV (As := [.int (iI 0), .int (iI 1)]) (rest := []) (l1 := []) (l2 := []) (w := [(xa X 0, .inr (1, [.int (iI t), .ref ((xa X 1)), .ref ((xa X 2)), .ref ((xa X 3)), .ref ((xa X 4)), .int (iI (((sN S : Nat) : Int))), .int (iI (((sW S : Nat) : Int)))])), (xa X 1, .inl (xZ X, 12, .inl (fI (sS S)))), (xa X 2, .inl (xI X, 12, .inl (fI (sA S)))), (xa X 3, .inl (xI X, 12, .inl (fI (sU S)))), (xa X 4, .inl (xI X, 12, .inl (fI (sR S))))]) (w' := [(xa X 0, .inr (1, [.int (iI 0), .ref ((xa X 1)), .ref ((xa X 2)), .ref ((xa X 3)), .ref ((xa X 4)), .int (iI (((sN S : Nat) : Int))), .int (iI (((sW S : Nat) : Int)))])), (xa X 1, .inl (xZ X, 12, .inl (fI (sS S)))), (xa X 2, .inl (xI X, 12, .inl (fI (sA S)))), (xa X 3, .inl (xI X, 12, .inl (fI (sU S)))), (xa X 4, .inl (xI X, 12, .inl (fI (sR S))))]) SC (c_X1_isThrown l X S t 0 1 0 ⟨by omega, by omega⟩ (by omega)) pT_st pT_h (cwV 2 hts gX1_unjoin_X1_isThrown rfl rfl rfl (by decide +kernel) ⟨Nat.le_of_ble_eq_true rfl, Nat.le_of_ble_eq_true rfl⟩) (va_recv hK hP (ci := 1) (q0 := 0) rfl rfl) hK hP hD hS rfl rfl hl.1 rfl (Nat.le_of_ble_eq_true rfl) dX1_unjoin_14 ⟨Nat.zero_le _, Nat.zero_le _⟩ (fun H locs hP hD hS => ?_)
  have hP : va_P (xG X) vwCl ([(xa X 0, .inr (1, [.int (iI 0), .ref ((xa X 1)), .ref ((xa X 2)), .ref ((xa X 3)), .ref ((xa X 4)), .int (iI (((sN S : Nat) : Int))), .int (iI (((sW S : Nat) : Int)))])), (xa X 1, .inl (xZ X, 12, .inl (fI (sS S)))), (xa X 2, .inl (xI X, 12, .inl (fI (sA S)))), (xa X 3, .inl (xI X, 12, .inl (fI (sU S)))), (xa X 4, .inl (xI X, 12, .inl (fI (sR S))))]) H := hP
  have hD : va_D (pg_in ((mC X S t))) ([(xa X 0, .inr (1, [.int (iI 0), .ref ((xa X 1)), .ref ((xa X 2)), .ref ((xa X 3)), .ref ((xa X 4)), .int (iI (((sN S : Nat) : Int))), .int (iI (((sW S : Nat) : Int)))])), (xa X 1, .inl (xZ X, 12, .inl (fI (sS S)))), (xa X 2, .inl (xI X, 12, .inl (fI (sA S)))), (xa X 3, .inl (xI X, 12, .inl (fI (sU S)))), (xa X 4, .inl (xI X, 12, .inl (fI (sR S))))]) := hD
  refine pg_if_eq (tgt := 22) hx hb dX1_unjoin_17 (by decide) (⟨by omega, by omega⟩) (fun hc2 => ?_) (fun hc2 => absurd hc2 (by omega))
  refine lv_aload_n hx hb dX1_unjoin_22 rfl (lv_at hl 0 rfl) ?_
  refine lv_dup hx hb dX1_unjoin_23 rfl ?_
  refine va_get (D := xG X) (ci := 1) (v := .int (iI (((sN S : Nat) : Int)))) (C := RX1) (T := TX1) (N := 7) hx hb hts hin hown hK hP 0 rfl rfl 5 (by decide) (hts (.fieldLink RX1 60 "PegfieldModel" "size" "I") (by decide +kernel)) (fun _ h9 => h9) rfl dX1_unjoin_24 ?_
  refine lv_iconst (v := iI 1) hx hb dX1_unjoin_27 rfl ?_
  refine pg_isub (z := ((n2 : Nat) : Int)) hx hb dX1_unjoin_28 (by omega) ?_
  refine va_put (D := xG X) (ci := 1) (v := .int (iI (((n2 : Nat) : Int)))) (ty := .int) (C := RX1) (T := TX1) (N := 7) hx hb hts hin tyX1 tyX1_ok nmX1 hown hK hP hD hS 0 rfl rfl 5 (by decide) (hts (.fieldLink RX1 60 "PegfieldModel" "size" "I") (by decide +kernel)) (fun _ h9 => h9) rfl (by decide +kernel) rfl rfl (Nat.le_of_ble_eq_true rfl) dX1_unjoin_29 (fun H locs hP hD hS => ?_)
  have hP : va_P (xG X) vwCl ([(xa X 0, .inr (1, [.int (iI 0), .ref ((xa X 1)), .ref ((xa X 2)), .ref ((xa X 3)), .ref ((xa X 4)), .int (iI (((n2 : Nat) : Int))), .int (iI (((sW S : Nat) : Int)))])), (xa X 1, .inl (xZ X, 12, .inl (fI (sS S)))), (xa X 2, .inl (xI X, 12, .inl (fI (sA S)))), (xa X 3, .inl (xI X, 12, .inl (fI (sU S)))), (xa X 4, .inl (xI X, 12, .inl (fI (sR S))))]) H := hP
  have hD : va_D (pg_in ((mC X S t))) ([(xa X 0, .inr (1, [.int (iI 0), .ref ((xa X 1)), .ref ((xa X 2)), .ref ((xa X 3)), .ref ((xa X 4)), .int (iI (((n2 : Nat) : Int))), .int (iI (((sW S : Nat) : Int)))])), (xa X 1, .inl (xZ X, 12, .inl (fI (sS S)))), (xa X 2, .inl (xI X, 12, .inl (fI (sA S)))), (xa X 3, .inl (xI X, 12, .inl (fI (sU S)))), (xa X 4, .inl (xI X, 12, .inl (fI (sR S))))]) := hD
  refine lv_aload_n hx hb dX1_unjoin_32 rfl (lv_at hl 0 rfl) ?_
  refine va_get (D := xG X) (ci := 1) (v := .ref ((xa X 4))) (C := RX1) (T := TX1) (N := 7) hx hb hts hin hown hK hP 0 rfl rfl 4 (by decide) (hts (.fieldLink RX1 20 "PegfieldModel" "ring" "[I") (by decide +kernel)) (fun _ h9 => h9) rfl dX1_unjoin_33 ?_
  refine lv_aload_n hx hb dX1_unjoin_36 rfl (lv_at hl 0 rfl) ?_
  refine va_get (D := xG X) (ci := 1) (v := .int (iI (((n2 : Nat) : Int)))) (C := RX1) (T := TX1) (N := 7) hx hb hts hin hown hK hP 0 rfl rfl 5 (by decide) (hts (.fieldLink RX1 60 "PegfieldModel" "size" "I") (by decide +kernel)) (fun _ h9 => h9) rfl dX1_unjoin_37 ?_
  refine pg_iald hx hb hK hP 4 1 (f := (sR S)) rfl rfl n2 (rfl) (by omega) (by decide) dX1_unjoin_40 ?_
  exact pg_wiret hx hb hr hlk hP hS  (congrArg (fun z : Int => some (Value.int (iI z))) (show ((sR S n2 : Nat) : Int) = (((sR S) n2 : Nat) : Int) by rfl)) dX1_unjoin_41
set_option maxRecDepth 100000 in
set_option maxHeartbeats 4000000 in
theorem c_X1_unjoin_1 (l : Launch) (X : pgX) (S : pgS) (t : Int) (hn : sN S = 0) : pg_wr l yX1_unjoin wsX1_unjoin (rm 1 22) (xG X) (xTy X) pT (mC X S t) (mC X S 1) 0 0 [.ref ((xa X 0))] (some (.int (iI 0))) := by
  refine pg_wr_of (cc := cX1_unjoin) (maxL := 1) (ret := (some .int)) (by decide) rfl (Nat.le_of_ble_eq_true rfl) ?_
  intro p e s m below meth c ls SC hr hlk hP hK hD hS hB hl
  obtain ⟨hx, hb, hml, hown, hts⟩ := id SC
  have hown : s.vm.findClass RX1 = some m.cls := hown
  have hl : lv_has ls 1 [(0, .ref ((xa X 0)))] := hl
  have hin : ∀ w ∈ u_ws RX1 TX1 7, w ∈ wsX1_unjoin := by decide +kernel
  refine lv_aload_n hx hb dX1_unjoin_0 rfl (lv_at hl 0 rfl) ?_
  refine lv_aload_n hx hb dX1_unjoin_1 rfl (lv_at hl 0 rfl) ?_
  refine va_get (D := xG X) (ci := 1) (v := .int (iI (((sN S : Nat) : Int)))) (C := RX1) (T := TX1) (N := 7) hx hb hts hin hown hK hP 0 rfl rfl 5 (by decide) (hts (.fieldLink RX1 60 "PegfieldModel" "size" "I") (by decide +kernel)) (fun _ h9 => h9) rfl dX1_unjoin_2 ?_
  refine pg_if_ne (tgt := 12) hx hb dX1_unjoin_5 (by decide) (⟨by omega, by omega⟩) (fun hc1 => absurd hc1 (by omega)) (fun hc1 => ?_)
  refine lv_iconst (v := iI 1) hx hb dX1_unjoin_8 rfl ?_
  refine lv_goto (tgt := 13) hx hb dX1_unjoin_9 (by decide) ?_
  refine lv_iconst (v := iI 1) hx hb dX1_unjoin_13 rfl ?_
  refine pg_wcallV (As := [.int (iI 1), .int (iI 1)]) (rest := []) (l1 := []) (l2 := []) (w := [(xa X 0, .inr (1, [.int (iI t), .ref ((xa X 1)), .ref ((xa X 2)), .ref ((xa X 3)), .ref ((xa X 4)), .int (iI (((sN S : Nat) : Int))), .int (iI (((sW S : Nat) : Int)))])), (xa X 1, .inl (xZ X, 12, .inl (fI (sS S)))), (xa X 2, .inl (xI X, 12, .inl (fI (sA S)))), (xa X 3, .inl (xI X, 12, .inl (fI (sU S)))), (xa X 4, .inl (xI X, 12, .inl (fI (sR S))))]) (w' := [(xa X 0, .inr (1, [.int (iI 1), .ref ((xa X 1)), .ref ((xa X 2)), .ref ((xa X 3)), .ref ((xa X 4)), .int (iI (((sN S : Nat) : Int))), .int (iI (((sW S : Nat) : Int)))])), (xa X 1, .inl (xZ X, 12, .inl (fI (sS S)))), (xa X 2, .inl (xI X, 12, .inl (fI (sA S)))), (xa X 3, .inl (xI X, 12, .inl (fI (sU S)))), (xa X 4, .inl (xI X, 12, .inl (fI (sR S))))]) SC (c_X1_isThrown l X S t 1 1 1 ⟨by omega, by omega⟩ (by omega)) pT_st pT_h (cwV 2 hts gX1_unjoin_X1_isThrown rfl rfl rfl (by decide +kernel) ⟨Nat.le_of_ble_eq_true rfl, Nat.le_of_ble_eq_true rfl⟩) (va_recv hK hP (ci := 1) (q0 := 0) rfl rfl) hK hP hD hS rfl rfl hl.1 rfl (Nat.le_of_ble_eq_true rfl) dX1_unjoin_14 ⟨Nat.zero_le _, Nat.zero_le _⟩ (fun H locs hP hD hS => ?_)
  have hP : va_P (xG X) vwCl ([(xa X 0, .inr (1, [.int (iI 1), .ref ((xa X 1)), .ref ((xa X 2)), .ref ((xa X 3)), .ref ((xa X 4)), .int (iI (((sN S : Nat) : Int))), .int (iI (((sW S : Nat) : Int)))])), (xa X 1, .inl (xZ X, 12, .inl (fI (sS S)))), (xa X 2, .inl (xI X, 12, .inl (fI (sA S)))), (xa X 3, .inl (xI X, 12, .inl (fI (sU S)))), (xa X 4, .inl (xI X, 12, .inl (fI (sR S))))]) H := hP
  have hD : va_D (pg_in ((mC X S t))) ([(xa X 0, .inr (1, [.int (iI 1), .ref ((xa X 1)), .ref ((xa X 2)), .ref ((xa X 3)), .ref ((xa X 4)), .int (iI (((sN S : Nat) : Int))), .int (iI (((sW S : Nat) : Int)))])), (xa X 1, .inl (xZ X, 12, .inl (fI (sS S)))), (xa X 2, .inl (xI X, 12, .inl (fI (sA S)))), (xa X 3, .inl (xI X, 12, .inl (fI (sU S)))), (xa X 4, .inl (xI X, 12, .inl (fI (sR S))))]) := hD
  refine pg_if_eq (tgt := 22) hx hb dX1_unjoin_17 (by decide) (⟨by omega, by omega⟩) (fun hc2 => absurd hc2 (by omega)) (fun hc2 => ?_)
  refine lv_iconst (v := iI 0) hx hb dX1_unjoin_20 rfl ?_
  exact pg_wiret hx hb hr hlk hP hS  (congrArg (fun z : Int => some (Value.int (iI z))) (show 0 = 0 by omega)) dX1_unjoin_21
set_option maxRecDepth 100000 in
set_option maxHeartbeats 4000000 in
theorem c_X1_ringAt_ok (l : Launch) (X : pgX) (S : pgS) (t : Int) (k : Nat) (hk : k < 12) (hn : k < sN S) (hn2 : sN S ≤ 12) : pg_wr l yX1_ringAt wsX1_ringAt (rm 1 22) (xG X) (xTy X) pT (mC X S t) (mC X S 0) 0 0 [.ref ((xa X 0)), .int (iI (((k : Nat) : Int)))] (some (.int (iI (((sR S k : Nat) : Int))))) := by
  refine pg_wr_of (cc := cX1_ringAt) (maxL := 2) (ret := (some .int)) (by decide) rfl (Nat.le_of_ble_eq_true rfl) ?_
  intro p e s m below meth c ls SC hr hlk hP hK hD hS hB hl
  obtain ⟨hx, hb, hml, hown, hts⟩ := id SC
  have hown : s.vm.findClass RX1 = some m.cls := hown
  have hl : lv_has ls 2 [(0, .ref ((xa X 0))), (1, .int (iI (((k : Nat) : Int))))] := hl
  have hin : ∀ w ∈ u_ws RX1 TX1 7, w ∈ wsX1_ringAt := by decide +kernel
  refine lv_aload_n hx hb dX1_ringAt_0 rfl (lv_at hl 0 rfl) ?_
  refine lv_iload_n hx hb dX1_ringAt_1 rfl (lv_at hl 1 rfl) ?_
  refine lv_iconst (v := iI 0) hx hb dX1_ringAt_2 rfl ?_
  refine lv_aload_n hx hb dX1_ringAt_3 rfl (lv_at hl 0 rfl) ?_
  refine va_get (D := xG X) (ci := 1) (v := .int (iI (((sN S : Nat) : Int)))) (C := RX1) (T := TX1) (N := 7) hx hb hts hin hown hK hP 0 rfl rfl 5 (by decide) (hts (.fieldLink RX1 60 "PegfieldModel" "size" "I") (by decide +kernel)) (fun _ h9 => h9) rfl dX1_ringAt_4 ?_
  refine lv_iconst (v := iI 1) hx hb dX1_ringAt_7 rfl ?_
  refine pg_isub (z := (sN S : Int) - 1) hx hb dX1_ringAt_8 (by omega) ?_
  refine pg_callS (As := [.int (iI (((k : Nat) : Int))), .int (iI 0), .int (iI ((sN S : Int) - 1))]) (rest := [.ref ((xa X 0))]) SC (c_X1_lies l (((k : Nat) : Int)) 0 ((sN S : Int) - 1) 1 ⟨by omega, by omega⟩ ⟨by omega, by omega⟩ ⟨by omega, by omega⟩ (by omega)) pT_st pT_h (va_cwS 3 hts gX1_ringAt_X1_lies rfl rfl rfl (by decide +kernel) ⟨Nat.le_of_ble_eq_true rfl, Nat.le_of_ble_eq_true rfl⟩) rfl hl.1 rfl (Nat.le_of_ble_eq_true rfl) dX1_ringAt_9 ⟨Nat.zero_le _, Nat.zero_le _⟩ ?_
  refine pg_if_ne (tgt := 19) hx hb dX1_ringAt_12 (by decide) (⟨by omega, by omega⟩) (fun hc1 => ?_) (fun hc1 => absurd hc1 (by omega))
  refine lv_iconst (v := iI 0) hx hb dX1_ringAt_19 rfl ?_
  refine lv_iconst (v := iI 1) hx hb dX1_ringAt_20 rfl ?_
  refine pg_wcallV (As := [.int (iI 0), .int (iI 1)]) (rest := []) (l1 := []) (l2 := []) (w := [(xa X 0, .inr (1, [.int (iI t), .ref ((xa X 1)), .ref ((xa X 2)), .ref ((xa X 3)), .ref ((xa X 4)), .int (iI (((sN S : Nat) : Int))), .int (iI (((sW S : Nat) : Int)))])), (xa X 1, .inl (xZ X, 12, .inl (fI (sS S)))), (xa X 2, .inl (xI X, 12, .inl (fI (sA S)))), (xa X 3, .inl (xI X, 12, .inl (fI (sU S)))), (xa X 4, .inl (xI X, 12, .inl (fI (sR S))))]) (w' := [(xa X 0, .inr (1, [.int (iI 0), .ref ((xa X 1)), .ref ((xa X 2)), .ref ((xa X 3)), .ref ((xa X 4)), .int (iI (((sN S : Nat) : Int))), .int (iI (((sW S : Nat) : Int)))])), (xa X 1, .inl (xZ X, 12, .inl (fI (sS S)))), (xa X 2, .inl (xI X, 12, .inl (fI (sA S)))), (xa X 3, .inl (xI X, 12, .inl (fI (sU S)))), (xa X 4, .inl (xI X, 12, .inl (fI (sR S))))]) SC (c_X1_isThrown l X S t 0 1 0 ⟨by omega, by omega⟩ (by omega)) pT_st pT_h (cwV 2 hts gX1_ringAt_X1_isThrown rfl rfl rfl (by decide +kernel) ⟨Nat.le_of_ble_eq_true rfl, Nat.le_of_ble_eq_true rfl⟩) (va_recv hK hP (ci := 1) (q0 := 0) rfl rfl) hK hP hD hS rfl rfl hl.1 rfl (Nat.le_of_ble_eq_true rfl) dX1_ringAt_21 ⟨Nat.zero_le _, Nat.zero_le _⟩ (fun H locs hP hD hS => ?_)
  have hP : va_P (xG X) vwCl ([(xa X 0, .inr (1, [.int (iI 0), .ref ((xa X 1)), .ref ((xa X 2)), .ref ((xa X 3)), .ref ((xa X 4)), .int (iI (((sN S : Nat) : Int))), .int (iI (((sW S : Nat) : Int)))])), (xa X 1, .inl (xZ X, 12, .inl (fI (sS S)))), (xa X 2, .inl (xI X, 12, .inl (fI (sA S)))), (xa X 3, .inl (xI X, 12, .inl (fI (sU S)))), (xa X 4, .inl (xI X, 12, .inl (fI (sR S))))]) H := hP
  have hD : va_D (pg_in ((mC X S t))) ([(xa X 0, .inr (1, [.int (iI 0), .ref ((xa X 1)), .ref ((xa X 2)), .ref ((xa X 3)), .ref ((xa X 4)), .int (iI (((sN S : Nat) : Int))), .int (iI (((sW S : Nat) : Int)))])), (xa X 1, .inl (xZ X, 12, .inl (fI (sS S)))), (xa X 2, .inl (xI X, 12, .inl (fI (sA S)))), (xa X 3, .inl (xI X, 12, .inl (fI (sU S)))), (xa X 4, .inl (xI X, 12, .inl (fI (sR S))))]) := hD
  refine pg_if_eq (tgt := 31) hx hb dX1_ringAt_24 (by decide) (⟨by omega, by omega⟩) (fun hc2 => ?_) (fun hc2 => absurd hc2 (by omega))
  refine lv_aload_n hx hb dX1_ringAt_31 rfl (lv_at hl 0 rfl) ?_
  refine va_get (D := xG X) (ci := 1) (v := .ref ((xa X 4))) (C := RX1) (T := TX1) (N := 7) hx hb hts hin hown hK hP 0 rfl rfl 4 (by decide) (hts (.fieldLink RX1 20 "PegfieldModel" "ring" "[I") (by decide +kernel)) (fun _ h9 => h9) rfl dX1_ringAt_32 ?_
  refine lv_iload_n hx hb dX1_ringAt_35 rfl (lv_at hl 1 rfl) ?_
  refine pg_iald hx hb hK hP 4 1 (f := (sR S)) rfl rfl k (rfl) (by omega) (by decide) dX1_ringAt_36 ?_
  exact pg_wiret hx hb hr hlk hP hS  (congrArg (fun z : Int => some (Value.int (iI z))) (show ((sR S k : Nat) : Int) = (((sR S) k : Nat) : Int) by rfl)) dX1_ringAt_37
set_option maxRecDepth 100000 in
set_option maxHeartbeats 4000000 in
theorem c_X1_ringAt_1 (l : Launch) (X : pgX) (S : pgS) (t : Int) (pp : Int) (hp : inI pp) (hn : sN S ≤ 12) (h : pp < 0 ∨ (sN S : Int) ≤ pp) : pg_wr l yX1_ringAt wsX1_ringAt (rm 1 22) (xG X) (xTy X) pT (mC X S t) (mC X S 1) 0 0 [.ref ((xa X 0)), .int (iI pp)] (some (.int (iI 0))) := by
  refine pg_wr_of (cc := cX1_ringAt) (maxL := 2) (ret := (some .int)) (by decide) rfl (Nat.le_of_ble_eq_true rfl) ?_
  intro p e s m below meth c ls SC hr hlk hP hK hD hS hB hl
  obtain ⟨hx, hb, hml, hown, hts⟩ := id SC
  have hown : s.vm.findClass RX1 = some m.cls := hown
  have hl : lv_has ls 2 [(0, .ref ((xa X 0))), (1, .int (iI pp))] := hl
  have hin : ∀ w ∈ u_ws RX1 TX1 7, w ∈ wsX1_ringAt := by decide +kernel
  refine lv_aload_n hx hb dX1_ringAt_0 rfl (lv_at hl 0 rfl) ?_
  refine lv_iload_n hx hb dX1_ringAt_1 rfl (lv_at hl 1 rfl) ?_
  refine lv_iconst (v := iI 0) hx hb dX1_ringAt_2 rfl ?_
  refine lv_aload_n hx hb dX1_ringAt_3 rfl (lv_at hl 0 rfl) ?_
  refine va_get (D := xG X) (ci := 1) (v := .int (iI (((sN S : Nat) : Int)))) (C := RX1) (T := TX1) (N := 7) hx hb hts hin hown hK hP 0 rfl rfl 5 (by decide) (hts (.fieldLink RX1 60 "PegfieldModel" "size" "I") (by decide +kernel)) (fun _ h9 => h9) rfl dX1_ringAt_4 ?_
  refine lv_iconst (v := iI 1) hx hb dX1_ringAt_7 rfl ?_
  refine pg_isub (z := (sN S : Int) - 1) hx hb dX1_ringAt_8 (by omega) ?_
  refine pg_callS (As := [.int (iI pp), .int (iI 0), .int (iI ((sN S : Int) - 1))]) (rest := [.ref ((xa X 0))]) SC (c_X1_lies l pp 0 ((sN S : Int) - 1) 0 ⟨by omega, by omega⟩ ⟨by omega, by omega⟩ ⟨by omega, by omega⟩ (by omega)) pT_st pT_h (va_cwS 3 hts gX1_ringAt_X1_lies rfl rfl rfl (by decide +kernel) ⟨Nat.le_of_ble_eq_true rfl, Nat.le_of_ble_eq_true rfl⟩) rfl hl.1 rfl (Nat.le_of_ble_eq_true rfl) dX1_ringAt_9 ⟨Nat.zero_le _, Nat.zero_le _⟩ ?_
  refine pg_if_ne (tgt := 19) hx hb dX1_ringAt_12 (by decide) (⟨by omega, by omega⟩) (fun hc1 => absurd hc1 (by omega)) (fun hc1 => ?_)
  refine lv_iconst (v := iI 1) hx hb dX1_ringAt_15 rfl ?_
  refine lv_goto (tgt := 20) hx hb dX1_ringAt_16 (by decide) ?_
  refine lv_iconst (v := iI 1) hx hb dX1_ringAt_20 rfl ?_
  refine pg_wcallV (As := [.int (iI 1), .int (iI 1)]) (rest := []) (l1 := []) (l2 := []) (w := [(xa X 0, .inr (1, [.int (iI t), .ref ((xa X 1)), .ref ((xa X 2)), .ref ((xa X 3)), .ref ((xa X 4)), .int (iI (((sN S : Nat) : Int))), .int (iI (((sW S : Nat) : Int)))])), (xa X 1, .inl (xZ X, 12, .inl (fI (sS S)))), (xa X 2, .inl (xI X, 12, .inl (fI (sA S)))), (xa X 3, .inl (xI X, 12, .inl (fI (sU S)))), (xa X 4, .inl (xI X, 12, .inl (fI (sR S))))]) (w' := [(xa X 0, .inr (1, [.int (iI 1), .ref ((xa X 1)), .ref ((xa X 2)), .ref ((xa X 3)), .ref ((xa X 4)), .int (iI (((sN S : Nat) : Int))), .int (iI (((sW S : Nat) : Int)))])), (xa X 1, .inl (xZ X, 12, .inl (fI (sS S)))), (xa X 2, .inl (xI X, 12, .inl (fI (sA S)))), (xa X 3, .inl (xI X, 12, .inl (fI (sU S)))), (xa X 4, .inl (xI X, 12, .inl (fI (sR S))))]) SC (c_X1_isThrown l X S t 1 1 1 ⟨by omega, by omega⟩ (by omega)) pT_st pT_h (cwV 2 hts gX1_ringAt_X1_isThrown rfl rfl rfl (by decide +kernel) ⟨Nat.le_of_ble_eq_true rfl, Nat.le_of_ble_eq_true rfl⟩) (va_recv hK hP (ci := 1) (q0 := 0) rfl rfl) hK hP hD hS rfl rfl hl.1 rfl (Nat.le_of_ble_eq_true rfl) dX1_ringAt_21 ⟨Nat.zero_le _, Nat.zero_le _⟩ (fun H locs hP hD hS => ?_)
  have hP : va_P (xG X) vwCl ([(xa X 0, .inr (1, [.int (iI 1), .ref ((xa X 1)), .ref ((xa X 2)), .ref ((xa X 3)), .ref ((xa X 4)), .int (iI (((sN S : Nat) : Int))), .int (iI (((sW S : Nat) : Int)))])), (xa X 1, .inl (xZ X, 12, .inl (fI (sS S)))), (xa X 2, .inl (xI X, 12, .inl (fI (sA S)))), (xa X 3, .inl (xI X, 12, .inl (fI (sU S)))), (xa X 4, .inl (xI X, 12, .inl (fI (sR S))))]) H := hP
  have hD : va_D (pg_in ((mC X S t))) ([(xa X 0, .inr (1, [.int (iI 1), .ref ((xa X 1)), .ref ((xa X 2)), .ref ((xa X 3)), .ref ((xa X 4)), .int (iI (((sN S : Nat) : Int))), .int (iI (((sW S : Nat) : Int)))])), (xa X 1, .inl (xZ X, 12, .inl (fI (sS S)))), (xa X 2, .inl (xI X, 12, .inl (fI (sA S)))), (xa X 3, .inl (xI X, 12, .inl (fI (sU S)))), (xa X 4, .inl (xI X, 12, .inl (fI (sR S))))]) := hD
  refine pg_if_eq (tgt := 31) hx hb dX1_ringAt_24 (by decide) (⟨by omega, by omega⟩) (fun hc2 => absurd hc2 (by omega)) (fun hc2 => ?_)
  refine lv_iconst (v := iI 0) hx hb dX1_ringAt_27 rfl ?_
  refine lv_goto (tgt := 37) hx hb dX1_ringAt_28 (by decide) ?_
  exact pg_wiret hx hb hr hlk hP hS  (congrArg (fun z : Int => some (Value.int (iI z))) (show 0 = 0 by omega)) dX1_ringAt_37
set_option maxRecDepth 100000 in
set_option maxHeartbeats 4000000 in
theorem c_X1_sideBits_ok (l : Launch) (X : pgX) (S : pgS) (t : Int) (hok : pgOk S) (hA : (da S (sN S)).natAbs < 32768) : pg_wr l yX1_sideBits wsX1_sideBits (rm 3 76) (xG X) (xTy X) pT (mC X S t) (mC X S 0) 0 0 [.ref ((xa X 0))] (some (.long (lI (((bx (16 * (da S (sN S)).natAbs) : Nat) : Int))))) := by
  refine pg_wr_of (cc := cX1_sideBits) (maxL := 2) (ret := (some .long)) (by decide) rfl (Nat.le_of_ble_eq_true rfl) ?_
  intro p e s m below meth c ls SC hr hlk hP hK hD hS hB hl
  obtain ⟨hx, hb, hml, hown, hts⟩ := id SC
  have hown : s.vm.findClass RX1 = some m.cls := hown
  have hl : lv_has ls 2 [(0, .ref ((xa X 0)))] := hl
  have hN : sN S ≤ 12 := hok.2.2.2.2.1
  have hda := da_b hok (sN S)
  refine lv_aload_n hx hb dX1_sideBits_0 rfl (lv_at hl 0 rfl) ?_
  refine pg_callV (As := []) (rest := []) SC (c_X1_doubleArea l X S t hok) mB_st (mB_h hP hK) (cwV 0 hts gX1_sideBits_X1_doubleArea rfl rfl rfl (by decide +kernel) ⟨Nat.le_of_ble_eq_true rfl, Nat.le_of_ble_eq_true rfl⟩) (va_recv hK hP (ci := 1) (q0 := 0) rfl rfl) rfl hl.1 rfl (Nat.le_of_ble_eq_true rfl) dX1_sideBits_1 ⟨Nat.zero_le _, Nat.zero_le _⟩ ?_
  refine pg_if_ge (tgt := 15) hx hb dX1_sideBits_4 (by decide) (⟨by omega, by omega⟩) (fun hc1 => ?_) (fun hc1 => ?_)
  · refine lv_aload_n hx hb dX1_sideBits_15 rfl (lv_at hl 0 rfl) ?_
    refine pg_callV (As := []) (rest := []) SC (c_X1_doubleArea l X S t hok) mB_st (mB_h hP hK) (cwV 0 hts gX1_sideBits_X1_doubleArea rfl rfl rfl (by decide +kernel) ⟨Nat.le_of_ble_eq_true rfl, Nat.le_of_ble_eq_true rfl⟩) (va_recv hK hP (ci := 1) (q0 := 0) rfl rfl) rfl hl.1 rfl (Nat.le_of_ble_eq_true rfl) dX1_sideBits_16 ⟨Nat.zero_le _, Nat.zero_le _⟩ ?_
    refine pg_ti (y := iI (((da S (sN S)).natAbs : Nat) : Int)) (congrArg iI (by omega)) ?_
    refine lv_istore_n (lv' := [(1, .int (iI ((((da S (sN S)).natAbs : Nat) : Int)))), (0, .ref ((xa X 0)))]) hx hb dX1_sideBits_19 rfl hl (by decide) rfl (fun ls hl => ?_)
    refine lv_aload_n hx hb dX1_sideBits_20 rfl (lv_at hl 1 rfl) ?_
    refine lv_iload_n hx hb dX1_sideBits_21 rfl (lv_at hl 0 rfl) ?_
    refine lv_sipush (v := iI 32767) hx hb dX1_sideBits_22 (by decide +kernel) ?_
    refine pg_icmp_le (tgt := 32) hx hb dX1_sideBits_25 (by decide) (⟨by omega, by omega⟩) (⟨by omega, by omega⟩) (fun hc2 => ?_) (fun hc2 => absurd hc2 (by omega))
    refine lv_iconst (v := iI 0) hx hb dX1_sideBits_32 rfl ?_
    refine lv_iconst (v := iI 1) hx hb dX1_sideBits_33 rfl ?_
    refine pg_wcallV (As := [.int (iI 0), .int (iI 1)]) (rest := []) (l1 := []) (l2 := []) (w := [(xa X 0, .inr (1, [.int (iI t), .ref ((xa X 1)), .ref ((xa X 2)), .ref ((xa X 3)), .ref ((xa X 4)), .int (iI (((sN S : Nat) : Int))), .int (iI (((sW S : Nat) : Int)))])), (xa X 1, .inl (xZ X, 12, .inl (fI (sS S)))), (xa X 2, .inl (xI X, 12, .inl (fI (sA S)))), (xa X 3, .inl (xI X, 12, .inl (fI (sU S)))), (xa X 4, .inl (xI X, 12, .inl (fI (sR S))))]) (w' := [(xa X 0, .inr (1, [.int (iI 0), .ref ((xa X 1)), .ref ((xa X 2)), .ref ((xa X 3)), .ref ((xa X 4)), .int (iI (((sN S : Nat) : Int))), .int (iI (((sW S : Nat) : Int)))])), (xa X 1, .inl (xZ X, 12, .inl (fI (sS S)))), (xa X 2, .inl (xI X, 12, .inl (fI (sA S)))), (xa X 3, .inl (xI X, 12, .inl (fI (sU S)))), (xa X 4, .inl (xI X, 12, .inl (fI (sR S))))]) SC (c_X1_isThrown l X S t 0 1 0 ⟨by omega, by omega⟩ (by omega)) pT_st pT_h (cwV 2 hts gX1_sideBits_X1_isThrown rfl rfl rfl (by decide +kernel) ⟨Nat.le_of_ble_eq_true rfl, Nat.le_of_ble_eq_true rfl⟩) (va_recv hK hP (ci := 1) (q0 := 0) rfl rfl) hK hP hD hS rfl rfl hl.1 rfl (Nat.le_of_ble_eq_true rfl) dX1_sideBits_34 ⟨Nat.zero_le _, Nat.zero_le _⟩ (fun H locs hP hD hS => ?_)
    have hP : va_P (xG X) vwCl ([(xa X 0, .inr (1, [.int (iI 0), .ref ((xa X 1)), .ref ((xa X 2)), .ref ((xa X 3)), .ref ((xa X 4)), .int (iI (((sN S : Nat) : Int))), .int (iI (((sW S : Nat) : Int)))])), (xa X 1, .inl (xZ X, 12, .inl (fI (sS S)))), (xa X 2, .inl (xI X, 12, .inl (fI (sA S)))), (xa X 3, .inl (xI X, 12, .inl (fI (sU S)))), (xa X 4, .inl (xI X, 12, .inl (fI (sR S))))]) H := hP
    have hD : va_D (pg_in ((mC X S t))) ([(xa X 0, .inr (1, [.int (iI 0), .ref ((xa X 1)), .ref ((xa X 2)), .ref ((xa X 3)), .ref ((xa X 4)), .int (iI (((sN S : Nat) : Int))), .int (iI (((sW S : Nat) : Int)))])), (xa X 1, .inl (xZ X, 12, .inl (fI (sS S)))), (xa X 2, .inl (xI X, 12, .inl (fI (sA S)))), (xa X 3, .inl (xI X, 12, .inl (fI (sU S)))), (xa X 4, .inl (xI X, 12, .inl (fI (sR S))))]) := hD
    refine pg_if_eq (tgt := 44) hx hb dX1_sideBits_37 (by decide) (⟨by omega, by omega⟩) (fun hc3 => ?_) (fun hc3 => absurd hc3 (by omega))
    refine lv_iload_n hx hb dX1_sideBits_44 rfl (lv_at hl 0 rfl) ?_
    refine lv_iconst (v := iI 0) hx hb dX1_sideBits_45 rfl ?_
    refine pg_callS (As := [.int (iI ((((da S (sN S)).natAbs : Nat) : Int))), .int (iI 0)]) (rest := []) SC (c_X1_bitsOf l (da S (sN S)).natAbs 0 (16 * (da S (sN S)).natAbs) hA ⟨by decide, by decide⟩ (Or.inl ⟨rfl, rfl⟩)) pT_st pT_h (va_cwS 2 hts gX1_sideBits_X1_bitsOf rfl rfl rfl (by decide +kernel) ⟨Nat.le_of_ble_eq_true rfl, Nat.le_of_ble_eq_true rfl⟩) rfl hl.1 rfl (Nat.le_of_ble_eq_true rfl) dX1_sideBits_46 ⟨Nat.zero_le _, Nat.zero_le _⟩ ?_
    exact pg_wlret hx hb hr hlk hP hS  (congrArg (fun z : Int => some (Value.long (lI z))) (show ((bx (16 * (da S (sN S)).natAbs) : Nat) : Int) = ((bx (16 * (da S (sN S)).natAbs) : Nat) : Int) by rfl)) dX1_sideBits_49
  · refine lv_aload_n hx hb dX1_sideBits_7 rfl (lv_at hl 0 rfl) ?_
    refine pg_callV (As := []) (rest := []) SC (c_X1_doubleArea l X S t hok) mB_st (mB_h hP hK) (cwV 0 hts gX1_sideBits_X1_doubleArea rfl rfl rfl (by decide +kernel) ⟨Nat.le_of_ble_eq_true rfl, Nat.le_of_ble_eq_true rfl⟩) (va_recv hK hP (ci := 1) (q0 := 0) rfl rfl) rfl hl.1 rfl (Nat.le_of_ble_eq_true rfl) dX1_sideBits_8 ⟨Nat.zero_le _, Nat.zero_le _⟩ ?_
    refine pg_ineg (z := (((da S (sN S)).natAbs : Nat) : Int)) hx hb dX1_sideBits_11 (by omega) ?_
    refine lv_goto (tgt := 19) hx hb dX1_sideBits_12 (by decide) ?_
    refine pg_ti (y := iI (((da S (sN S)).natAbs : Nat) : Int)) (congrArg iI (by omega)) ?_
    refine lv_istore_n (lv' := [(1, .int (iI ((((da S (sN S)).natAbs : Nat) : Int)))), (0, .ref ((xa X 0)))]) hx hb dX1_sideBits_19 rfl hl (by decide) rfl (fun ls hl => ?_)
    refine lv_aload_n hx hb dX1_sideBits_20 rfl (lv_at hl 1 rfl) ?_
    refine lv_iload_n hx hb dX1_sideBits_21 rfl (lv_at hl 0 rfl) ?_
    refine lv_sipush (v := iI 32767) hx hb dX1_sideBits_22 (by decide +kernel) ?_
    refine pg_icmp_le (tgt := 32) hx hb dX1_sideBits_25 (by decide) (⟨by omega, by omega⟩) (⟨by omega, by omega⟩) (fun hc4 => ?_) (fun hc4 => absurd hc4 (by omega))
    refine lv_iconst (v := iI 0) hx hb dX1_sideBits_32 rfl ?_
    refine lv_iconst (v := iI 1) hx hb dX1_sideBits_33 rfl ?_
    refine pg_wcallV (As := [.int (iI 0), .int (iI 1)]) (rest := []) (l1 := []) (l2 := []) (w := [(xa X 0, .inr (1, [.int (iI t), .ref ((xa X 1)), .ref ((xa X 2)), .ref ((xa X 3)), .ref ((xa X 4)), .int (iI (((sN S : Nat) : Int))), .int (iI (((sW S : Nat) : Int)))])), (xa X 1, .inl (xZ X, 12, .inl (fI (sS S)))), (xa X 2, .inl (xI X, 12, .inl (fI (sA S)))), (xa X 3, .inl (xI X, 12, .inl (fI (sU S)))), (xa X 4, .inl (xI X, 12, .inl (fI (sR S))))]) (w' := [(xa X 0, .inr (1, [.int (iI 0), .ref ((xa X 1)), .ref ((xa X 2)), .ref ((xa X 3)), .ref ((xa X 4)), .int (iI (((sN S : Nat) : Int))), .int (iI (((sW S : Nat) : Int)))])), (xa X 1, .inl (xZ X, 12, .inl (fI (sS S)))), (xa X 2, .inl (xI X, 12, .inl (fI (sA S)))), (xa X 3, .inl (xI X, 12, .inl (fI (sU S)))), (xa X 4, .inl (xI X, 12, .inl (fI (sR S))))]) SC (c_X1_isThrown l X S t 0 1 0 ⟨by omega, by omega⟩ (by omega)) pT_st pT_h (cwV 2 hts gX1_sideBits_X1_isThrown rfl rfl rfl (by decide +kernel) ⟨Nat.le_of_ble_eq_true rfl, Nat.le_of_ble_eq_true rfl⟩) (va_recv hK hP (ci := 1) (q0 := 0) rfl rfl) hK hP hD hS rfl rfl hl.1 rfl (Nat.le_of_ble_eq_true rfl) dX1_sideBits_34 ⟨Nat.zero_le _, Nat.zero_le _⟩ (fun H locs hP hD hS => ?_)
    have hP : va_P (xG X) vwCl ([(xa X 0, .inr (1, [.int (iI 0), .ref ((xa X 1)), .ref ((xa X 2)), .ref ((xa X 3)), .ref ((xa X 4)), .int (iI (((sN S : Nat) : Int))), .int (iI (((sW S : Nat) : Int)))])), (xa X 1, .inl (xZ X, 12, .inl (fI (sS S)))), (xa X 2, .inl (xI X, 12, .inl (fI (sA S)))), (xa X 3, .inl (xI X, 12, .inl (fI (sU S)))), (xa X 4, .inl (xI X, 12, .inl (fI (sR S))))]) H := hP
    have hD : va_D (pg_in ((mC X S t))) ([(xa X 0, .inr (1, [.int (iI 0), .ref ((xa X 1)), .ref ((xa X 2)), .ref ((xa X 3)), .ref ((xa X 4)), .int (iI (((sN S : Nat) : Int))), .int (iI (((sW S : Nat) : Int)))])), (xa X 1, .inl (xZ X, 12, .inl (fI (sS S)))), (xa X 2, .inl (xI X, 12, .inl (fI (sA S)))), (xa X 3, .inl (xI X, 12, .inl (fI (sU S)))), (xa X 4, .inl (xI X, 12, .inl (fI (sR S))))]) := hD
    refine pg_if_eq (tgt := 44) hx hb dX1_sideBits_37 (by decide) (⟨by omega, by omega⟩) (fun hc5 => ?_) (fun hc5 => absurd hc5 (by omega))
    refine lv_iload_n hx hb dX1_sideBits_44 rfl (lv_at hl 0 rfl) ?_
    refine lv_iconst (v := iI 0) hx hb dX1_sideBits_45 rfl ?_
    refine pg_callS (As := [.int (iI ((((da S (sN S)).natAbs : Nat) : Int))), .int (iI 0)]) (rest := []) SC (c_X1_bitsOf l (da S (sN S)).natAbs 0 (16 * (da S (sN S)).natAbs) hA ⟨by decide, by decide⟩ (Or.inl ⟨rfl, rfl⟩)) pT_st pT_h (va_cwS 2 hts gX1_sideBits_X1_bitsOf rfl rfl rfl (by decide +kernel) ⟨Nat.le_of_ble_eq_true rfl, Nat.le_of_ble_eq_true rfl⟩) rfl hl.1 rfl (Nat.le_of_ble_eq_true rfl) dX1_sideBits_46 ⟨Nat.zero_le _, Nat.zero_le _⟩ ?_
    exact pg_wlret hx hb hr hlk hP hS  (congrArg (fun z : Int => some (Value.long (lI z))) (show ((bx (16 * (da S (sN S)).natAbs) : Nat) : Int) = ((bx (16 * (da S (sN S)).natAbs) : Nat) : Int) by rfl)) dX1_sideBits_49
set_option maxRecDepth 100000 in
set_option maxHeartbeats 4000000 in
theorem c_X1_sideBits_1 (l : Launch) (X : pgX) (S : pgS) (t : Int) (hok : pgOk S) (hA : 32768 ≤ (da S (sN S)).natAbs) : pg_wr l yX1_sideBits wsX1_sideBits (rm 2 43) (xG X) (xTy X) pT (mC X S t) (mC X S 1) 0 0 [.ref ((xa X 0))] (some (.long (lI 0))) := by
  refine pg_wr_of (cc := cX1_sideBits) (maxL := 2) (ret := (some .long)) (by decide) rfl (Nat.le_of_ble_eq_true rfl) ?_
  intro p e s m below meth c ls SC hr hlk hP hK hD hS hB hl
  obtain ⟨hx, hb, hml, hown, hts⟩ := id SC
  have hown : s.vm.findClass RX1 = some m.cls := hown
  have hl : lv_has ls 2 [(0, .ref ((xa X 0)))] := hl
  have hN : sN S ≤ 12 := hok.2.2.2.2.1
  have hda := da_b hok (sN S)
  refine lv_aload_n hx hb dX1_sideBits_0 rfl (lv_at hl 0 rfl) ?_
  refine pg_callV (As := []) (rest := []) SC (c_X1_doubleArea l X S t hok) mB_st (mB_h hP hK) (cwV 0 hts gX1_sideBits_X1_doubleArea rfl rfl rfl (by decide +kernel) ⟨Nat.le_of_ble_eq_true rfl, Nat.le_of_ble_eq_true rfl⟩) (va_recv hK hP (ci := 1) (q0 := 0) rfl rfl) rfl hl.1 rfl (Nat.le_of_ble_eq_true rfl) dX1_sideBits_1 ⟨Nat.zero_le _, Nat.zero_le _⟩ ?_
  refine pg_if_ge (tgt := 15) hx hb dX1_sideBits_4 (by decide) (⟨by omega, by omega⟩) (fun hc1 => ?_) (fun hc1 => ?_)
  · refine lv_aload_n hx hb dX1_sideBits_15 rfl (lv_at hl 0 rfl) ?_
    refine pg_callV (As := []) (rest := []) SC (c_X1_doubleArea l X S t hok) mB_st (mB_h hP hK) (cwV 0 hts gX1_sideBits_X1_doubleArea rfl rfl rfl (by decide +kernel) ⟨Nat.le_of_ble_eq_true rfl, Nat.le_of_ble_eq_true rfl⟩) (va_recv hK hP (ci := 1) (q0 := 0) rfl rfl) rfl hl.1 rfl (Nat.le_of_ble_eq_true rfl) dX1_sideBits_16 ⟨Nat.zero_le _, Nat.zero_le _⟩ ?_
    refine pg_ti (y := iI (((da S (sN S)).natAbs : Nat) : Int)) (congrArg iI (by omega)) ?_
    refine lv_istore_n (lv' := [(1, .int (iI ((((da S (sN S)).natAbs : Nat) : Int)))), (0, .ref ((xa X 0)))]) hx hb dX1_sideBits_19 rfl hl (by decide) rfl (fun ls hl => ?_)
    refine lv_aload_n hx hb dX1_sideBits_20 rfl (lv_at hl 1 rfl) ?_
    refine lv_iload_n hx hb dX1_sideBits_21 rfl (lv_at hl 0 rfl) ?_
    refine lv_sipush (v := iI 32767) hx hb dX1_sideBits_22 (by decide +kernel) ?_
    refine pg_icmp_le (tgt := 32) hx hb dX1_sideBits_25 (by decide) (⟨by omega, by omega⟩) (⟨by omega, by omega⟩) (fun hc2 => absurd hc2 (by omega)) (fun hc2 => ?_)
    refine lv_iconst (v := iI 1) hx hb dX1_sideBits_28 rfl ?_
    refine lv_goto (tgt := 33) hx hb dX1_sideBits_29 (by decide) ?_
    refine lv_iconst (v := iI 1) hx hb dX1_sideBits_33 rfl ?_
    refine pg_wcallV (As := [.int (iI 1), .int (iI 1)]) (rest := []) (l1 := []) (l2 := []) (w := [(xa X 0, .inr (1, [.int (iI t), .ref ((xa X 1)), .ref ((xa X 2)), .ref ((xa X 3)), .ref ((xa X 4)), .int (iI (((sN S : Nat) : Int))), .int (iI (((sW S : Nat) : Int)))])), (xa X 1, .inl (xZ X, 12, .inl (fI (sS S)))), (xa X 2, .inl (xI X, 12, .inl (fI (sA S)))), (xa X 3, .inl (xI X, 12, .inl (fI (sU S)))), (xa X 4, .inl (xI X, 12, .inl (fI (sR S))))]) (w' := [(xa X 0, .inr (1, [.int (iI 1), .ref ((xa X 1)), .ref ((xa X 2)), .ref ((xa X 3)), .ref ((xa X 4)), .int (iI (((sN S : Nat) : Int))), .int (iI (((sW S : Nat) : Int)))])), (xa X 1, .inl (xZ X, 12, .inl (fI (sS S)))), (xa X 2, .inl (xI X, 12, .inl (fI (sA S)))), (xa X 3, .inl (xI X, 12, .inl (fI (sU S)))), (xa X 4, .inl (xI X, 12, .inl (fI (sR S))))]) SC (c_X1_isThrown l X S t 1 1 1 ⟨by omega, by omega⟩ (by omega)) pT_st pT_h (cwV 2 hts gX1_sideBits_X1_isThrown rfl rfl rfl (by decide +kernel) ⟨Nat.le_of_ble_eq_true rfl, Nat.le_of_ble_eq_true rfl⟩) (va_recv hK hP (ci := 1) (q0 := 0) rfl rfl) hK hP hD hS rfl rfl hl.1 rfl (Nat.le_of_ble_eq_true rfl) dX1_sideBits_34 ⟨Nat.zero_le _, Nat.zero_le _⟩ (fun H locs hP hD hS => ?_)
    have hP : va_P (xG X) vwCl ([(xa X 0, .inr (1, [.int (iI 1), .ref ((xa X 1)), .ref ((xa X 2)), .ref ((xa X 3)), .ref ((xa X 4)), .int (iI (((sN S : Nat) : Int))), .int (iI (((sW S : Nat) : Int)))])), (xa X 1, .inl (xZ X, 12, .inl (fI (sS S)))), (xa X 2, .inl (xI X, 12, .inl (fI (sA S)))), (xa X 3, .inl (xI X, 12, .inl (fI (sU S)))), (xa X 4, .inl (xI X, 12, .inl (fI (sR S))))]) H := hP
    have hD : va_D (pg_in ((mC X S t))) ([(xa X 0, .inr (1, [.int (iI 1), .ref ((xa X 1)), .ref ((xa X 2)), .ref ((xa X 3)), .ref ((xa X 4)), .int (iI (((sN S : Nat) : Int))), .int (iI (((sW S : Nat) : Int)))])), (xa X 1, .inl (xZ X, 12, .inl (fI (sS S)))), (xa X 2, .inl (xI X, 12, .inl (fI (sA S)))), (xa X 3, .inl (xI X, 12, .inl (fI (sU S)))), (xa X 4, .inl (xI X, 12, .inl (fI (sR S))))]) := hD
    refine pg_if_eq (tgt := 44) hx hb dX1_sideBits_37 (by decide) (⟨by omega, by omega⟩) (fun hc3 => absurd hc3 (by omega)) (fun hc3 => ?_)
    refine lv_lconst (v := lI 0) hx hb dX1_sideBits_40 rfl ?_
    refine lv_goto (tgt := 49) hx hb dX1_sideBits_41 (by decide) ?_
    exact pg_wlret hx hb hr hlk hP hS  (congrArg (fun z : Int => some (Value.long (lI z))) (show 0 = 0 by omega)) dX1_sideBits_49
  · refine lv_aload_n hx hb dX1_sideBits_7 rfl (lv_at hl 0 rfl) ?_
    refine pg_callV (As := []) (rest := []) SC (c_X1_doubleArea l X S t hok) mB_st (mB_h hP hK) (cwV 0 hts gX1_sideBits_X1_doubleArea rfl rfl rfl (by decide +kernel) ⟨Nat.le_of_ble_eq_true rfl, Nat.le_of_ble_eq_true rfl⟩) (va_recv hK hP (ci := 1) (q0 := 0) rfl rfl) rfl hl.1 rfl (Nat.le_of_ble_eq_true rfl) dX1_sideBits_8 ⟨Nat.zero_le _, Nat.zero_le _⟩ ?_
    refine pg_ineg (z := (((da S (sN S)).natAbs : Nat) : Int)) hx hb dX1_sideBits_11 (by omega) ?_
    refine lv_goto (tgt := 19) hx hb dX1_sideBits_12 (by decide) ?_
    refine pg_ti (y := iI (((da S (sN S)).natAbs : Nat) : Int)) (congrArg iI (by omega)) ?_
    refine lv_istore_n (lv' := [(1, .int (iI ((((da S (sN S)).natAbs : Nat) : Int)))), (0, .ref ((xa X 0)))]) hx hb dX1_sideBits_19 rfl hl (by decide) rfl (fun ls hl => ?_)
    refine lv_aload_n hx hb dX1_sideBits_20 rfl (lv_at hl 1 rfl) ?_
    refine lv_iload_n hx hb dX1_sideBits_21 rfl (lv_at hl 0 rfl) ?_
    refine lv_sipush (v := iI 32767) hx hb dX1_sideBits_22 (by decide +kernel) ?_
    refine pg_icmp_le (tgt := 32) hx hb dX1_sideBits_25 (by decide) (⟨by omega, by omega⟩) (⟨by omega, by omega⟩) (fun hc4 => absurd hc4 (by omega)) (fun hc4 => ?_)
    refine lv_iconst (v := iI 1) hx hb dX1_sideBits_28 rfl ?_
    refine lv_goto (tgt := 33) hx hb dX1_sideBits_29 (by decide) ?_
    refine lv_iconst (v := iI 1) hx hb dX1_sideBits_33 rfl ?_
    refine pg_wcallV (As := [.int (iI 1), .int (iI 1)]) (rest := []) (l1 := []) (l2 := []) (w := [(xa X 0, .inr (1, [.int (iI t), .ref ((xa X 1)), .ref ((xa X 2)), .ref ((xa X 3)), .ref ((xa X 4)), .int (iI (((sN S : Nat) : Int))), .int (iI (((sW S : Nat) : Int)))])), (xa X 1, .inl (xZ X, 12, .inl (fI (sS S)))), (xa X 2, .inl (xI X, 12, .inl (fI (sA S)))), (xa X 3, .inl (xI X, 12, .inl (fI (sU S)))), (xa X 4, .inl (xI X, 12, .inl (fI (sR S))))]) (w' := [(xa X 0, .inr (1, [.int (iI 1), .ref ((xa X 1)), .ref ((xa X 2)), .ref ((xa X 3)), .ref ((xa X 4)), .int (iI (((sN S : Nat) : Int))), .int (iI (((sW S : Nat) : Int)))])), (xa X 1, .inl (xZ X, 12, .inl (fI (sS S)))), (xa X 2, .inl (xI X, 12, .inl (fI (sA S)))), (xa X 3, .inl (xI X, 12, .inl (fI (sU S)))), (xa X 4, .inl (xI X, 12, .inl (fI (sR S))))]) SC (c_X1_isThrown l X S t 1 1 1 ⟨by omega, by omega⟩ (by omega)) pT_st pT_h (cwV 2 hts gX1_sideBits_X1_isThrown rfl rfl rfl (by decide +kernel) ⟨Nat.le_of_ble_eq_true rfl, Nat.le_of_ble_eq_true rfl⟩) (va_recv hK hP (ci := 1) (q0 := 0) rfl rfl) hK hP hD hS rfl rfl hl.1 rfl (Nat.le_of_ble_eq_true rfl) dX1_sideBits_34 ⟨Nat.zero_le _, Nat.zero_le _⟩ (fun H locs hP hD hS => ?_)
    have hP : va_P (xG X) vwCl ([(xa X 0, .inr (1, [.int (iI 1), .ref ((xa X 1)), .ref ((xa X 2)), .ref ((xa X 3)), .ref ((xa X 4)), .int (iI (((sN S : Nat) : Int))), .int (iI (((sW S : Nat) : Int)))])), (xa X 1, .inl (xZ X, 12, .inl (fI (sS S)))), (xa X 2, .inl (xI X, 12, .inl (fI (sA S)))), (xa X 3, .inl (xI X, 12, .inl (fI (sU S)))), (xa X 4, .inl (xI X, 12, .inl (fI (sR S))))]) H := hP
    have hD : va_D (pg_in ((mC X S t))) ([(xa X 0, .inr (1, [.int (iI 1), .ref ((xa X 1)), .ref ((xa X 2)), .ref ((xa X 3)), .ref ((xa X 4)), .int (iI (((sN S : Nat) : Int))), .int (iI (((sW S : Nat) : Int)))])), (xa X 1, .inl (xZ X, 12, .inl (fI (sS S)))), (xa X 2, .inl (xI X, 12, .inl (fI (sA S)))), (xa X 3, .inl (xI X, 12, .inl (fI (sU S)))), (xa X 4, .inl (xI X, 12, .inl (fI (sR S))))]) := hD
    refine pg_if_eq (tgt := 44) hx hb dX1_sideBits_37 (by decide) (⟨by omega, by omega⟩) (fun hc5 => absurd hc5 (by omega)) (fun hc5 => ?_)
    refine lv_lconst (v := lI 0) hx hb dX1_sideBits_40 rfl ?_
    refine lv_goto (tgt := 49) hx hb dX1_sideBits_41 (by decide) ?_
    exact pg_wlret hx hb hr hlk hP hS  (congrArg (fun z : Int => some (Value.long (lI z))) (show 0 = 0 by omega)) dX1_sideBits_49
