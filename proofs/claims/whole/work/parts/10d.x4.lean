set_option maxRecDepth 100000 in
set_option maxHeartbeats 4000000 in
theorem c_X0_doubleOf (l : Launch) (M : Nat) (hM : M < 2 ^ 20) : pg_ro l yX0_doubleOf wsX0_doubleOf (rm 1 21) pT [.long (lI (((bx M : Nat) : Int)))] (some (.double ((dbl M)))) := by
  refine pg_ro_of (cc := cX0_doubleOf) (maxL := 4) (ret := (some .double)) (by decide) rfl (Nat.le_of_ble_eq_true rfl) ?_
  intro p e s m below meth c ls SC hr hlk hB hl
  obtain ⟨hx, hb, hml, hown, hts⟩ := id SC
  have hown : s.vm.findClass RX0 = some m.cls := hown
  have hl : lv_has ls 4 [(0, .long (lI (((bx M : Nat) : Int))))] := hl
  have hbx := bx_lt hM
  refine lv_lload_n hx hb dX0_doubleOf_0 rfl (lv_at hl 0 rfl) ?_
  refine lv_lconst (v := lI 0) hx hb dX0_doubleOf_1 rfl ?_
  refine pg_lcmp hx hb dX0_doubleOf_2 (⟨by omega, by omega⟩) (⟨by omega, by omega⟩) (fun z1 hz1 => ?_)
  refine pg_if_ne (tgt := 8) hx hb dX0_doubleOf_3 (by decide) (⟨by omega, by omega⟩) (fun hc2 => ?_) (fun hc2 => ?_)
  · have hM0 : M ≠ 0 := by intro q9; have h9 : bx M = 0 := (by rw [q9]; rfl); omega
    have hpw : pw M ≤ 9 := pw_small (by omega)
    obtain ⟨u1, u2, -, -⟩ := un_spec hM0 hM
    refine lv_lconst (v := lI 1) hx hb dX0_doubleOf_8 rfl ?_
    refine lv_lload_n hx hb dX0_doubleOf_9 rfl (lv_at hl 0 rfl) ?_
    refine pg_callS (As := [.long (lI (((bx M : Nat) : Int)))]) (rest := [.long (lI 1)]) SC (c_X0_placesM l M hM hM0) pT_st pT_h (va_cwS 1 hts gX0_doubleOf_X0_placesAfterPoint rfl rfl rfl (by decide +kernel) ⟨Nat.le_of_ble_eq_true rfl, Nat.le_of_ble_eq_true rfl⟩) rfl hl.1 rfl (Nat.le_of_ble_eq_true rfl) dX0_doubleOf_10 ⟨Nat.zero_le _, Nat.zero_le _⟩ ?_
    refine pg_lshl (z := 2 ^ (54 - pw M)) (n := 1) (j := 54 - pw M) hx hb dX0_doubleOf_13 (rfl) (by omega) (by omega) (Nat.one_mul _) ?_
    refine lv_l2d hx hb dX0_doubleOf_14 (pg_td (y := (dB (1023 + (54 - pw M)) (2 ^ 52))) (by have h9 := l2d_2 (9 - pw M) (by omega); rw [show 45 + (9 - pw M) = 54 - pw M by omega] at h9; exact h9) ?_)
    refine lv_dstore_n (lv' := [(2, .double ((dB (1023 + (54 - pw M)) (2 ^ 52)))), (0, .long (lI (((bx M : Nat) : Int))))]) hx hb dX0_doubleOf_15 rfl hl (by decide) rfl (fun ls hl => ?_)
    refine lv_dload_n hx hb dX0_doubleOf_16 rfl (lv_at hl 0 rfl) ?_
    refine lv_dconst1 hx hb dX0_doubleOf_17 ?_
    refine pg_td (y := (dB 1023 (2 ^ 52))) (by decide +kernel) ?_
    have hdc : FP.dcmp ((dB (1023 + (54 - pw M)) (2 ^ 52))) ((dB 1023 (2 ^ 52))) = some .gt := by exact dcmp_D (by decide) (by decide) (by decide) (by decide) (by omega) (by omega) (by decide) (by decide) (by unfold dN; omega)
    refine lv_dcmp hx hb dX0_doubleOf_18 (pg_ti (y := iI 1) (by rw [hdc]; decide +kernel) ?_)
    refine pg_if_lt (tgt := 32) hx hb dX0_doubleOf_19 (by decide) (⟨by omega, by omega⟩) (fun hc3 => absurd hc3 (by omega)) (fun hc3 => ?_)
    refine lv_lload_n hx hb dX0_doubleOf_22 rfl (lv_at hl 1 rfl) ?_
    refine pg_callS (As := [.long (lI (((bx M : Nat) : Int)))]) (rest := []) SC (c_X0_unitsM l M hM hM0) pT_st pT_h (va_cwS 1 hts gX0_doubleOf_X0_unitsOf rfl rfl rfl (by decide +kernel) ⟨Nat.le_of_ble_eq_true rfl, Nat.le_of_ble_eq_true rfl⟩) rfl hl.1 rfl (Nat.le_of_ble_eq_true rfl) dX0_doubleOf_23 ⟨Nat.zero_le _, Nat.zero_le _⟩ ?_
    refine lv_l2d hx hb dX0_doubleOf_26 (pg_td (y := (dB 1075 (un M))) (l2d_u u1 u2) ?_)
    refine lv_dload_n hx hb dX0_doubleOf_27 rfl (lv_at hl 0 rfl) ?_
    have hdv : FP.ddiv ((dB 1075 (un M))) ((dB (1023 + (54 - pw M)) (2 ^ 52))) = (dbl M) := by rw [ddiv_D u1 u2 (by decide) (by omega) (by omega), dbl_eq hM0]; congr 1; omega
    refine lv_ddiv hx hb dX0_doubleOf_28 (by rw [hdv]; rw [dbl_eq hM0]; exact vf_dB (by omega) u1 u2) (pg_td hdv ?_)
    refine lv_goto (tgt := 33) hx hb dX0_doubleOf_29 (by decide) ?_
    exact pg_dret hx hb hr hlk  (by rfl) dX0_doubleOf_33
  · have hM0 : M = 0 := Classical.byContradiction (fun q9 => by have h9 := bx_pos q9; omega)
    refine lv_dconst0 hx hb dX0_doubleOf_6 ?_
    refine pg_td (y := (0 : UInt64)) (by decide +kernel) ?_
    exact pg_dret hx hb hr hlk  (by rw [hM0]; rfl) dX0_doubleOf_7
set_option maxRecDepth 100000 in
set_option maxHeartbeats 4000000 in
theorem c_X0_root_ok (l : Launch) (X : pgX) (S : pgS) (n : Nat) (q : Int) (M : Nat) (hn : n < 32768) (hqi : inI q) (hM : (q = 0 ∧ (M : Int) = 16 * n) ∨ (q = 1 ∧ (M : Int) = 4 * n))  : pg_ro l yX0_root wsX0_root (rm 2 53) (xB X S) [.ref ((xa X 0)), .int (iI (((n : Nat) : Int))), .int (iI q)] (some (.double ((dbl M)))) := by
  refine pg_ro_of (cc := cX0_root) (maxL := 3) (ret := (some .double)) (by decide) rfl (Nat.le_of_ble_eq_true rfl) ?_
  intro p e s m below meth c ls SC hr hlk hB hl
  obtain ⟨hx, hb, hml, hown, hts⟩ := id SC
  have hown : s.vm.findClass RX0 = some m.cls := hown
  obtain ⟨hP, hK⟩ := id hB
  have hl : lv_has ls 3 [(0, .ref ((xa X 0))), (1, .int (iI (((n : Nat) : Int)))), (2, .int (iI q))] := hl
  have hM2 : M < 2 ^ 20 := by omega
  refine lv_iload_n hx hb dX0_root_0 rfl (lv_at hl 1 rfl) ?_
  refine pg_callSv (As := [.int (iI (((n : Nat) : Int)))]) (rest := []) SC (c_X0_requireNumber_ok l n ⟨by omega, by omega⟩) pT_st pT_h (va_cwS 1 hts gX0_root_X0_requireNumber rfl rfl rfl (by decide +kernel) ⟨Nat.le_of_ble_eq_true rfl, Nat.le_of_ble_eq_true rfl⟩) rfl hl.1 rfl (Nat.le_of_ble_eq_true rfl) dX0_root_1 ⟨Nat.zero_le _, Nat.zero_le _⟩ ?_
  refine lv_iload_n hx hb dX0_root_4 rfl (lv_at hl 1 rfl) ?_
  refine lv_iload_n hx hb dX0_root_5 rfl (lv_at hl 2 rfl) ?_
  refine pg_callS (As := [.int (iI (((n : Nat) : Int))), .int (iI q)]) (rest := []) SC (c_X0_sixteenthsOf l n q M hqi hM) pT_st pT_h (va_cwS 2 hts gX0_root_X0_sixteenthsOf rfl rfl rfl (by decide +kernel) ⟨Nat.le_of_ble_eq_true rfl, Nat.le_of_ble_eq_true rfl⟩) rfl hl.1 rfl (Nat.le_of_ble_eq_true rfl) dX0_root_6 ⟨Nat.zero_le _, Nat.zero_le _⟩ ?_
  refine pg_callS (As := [.int (iI (((M : Nat) : Int)))]) (rest := []) SC (c_X0_bitsOfRoot l M hM2) pT_st pT_h (va_cwS 1 hts gX0_root_X0_bitsOfRoot rfl rfl rfl (by decide +kernel) ⟨Nat.le_of_ble_eq_true rfl, Nat.le_of_ble_eq_true rfl⟩) rfl hl.1 rfl (Nat.le_of_ble_eq_true rfl) dX0_root_9 ⟨Nat.zero_le _, Nat.zero_le _⟩ ?_
  refine pg_callS (As := [.long (lI (((bx M : Nat) : Int)))]) (rest := []) SC (c_X0_doubleOf l M hM2) pT_st pT_h (va_cwS 1 hts gX0_root_X0_doubleOf rfl rfl rfl (by decide +kernel) ⟨Nat.le_of_ble_eq_true rfl, Nat.le_of_ble_eq_true rfl⟩) rfl hl.1 rfl (Nat.le_of_ble_eq_true rfl) dX0_root_12 ⟨Nat.zero_le _, Nat.zero_le _⟩ ?_
  exact pg_dret hx hb hr hlk  (by rfl) dX0_root_15
set_option maxRecDepth 100000 in
set_option maxHeartbeats 4000000 in
theorem c_X0_isRootSound (l : Launch) (X : pgX) (S : pgS) (n : Nat) (hn : n < 32768) : pg_ro l yX0_isRootSound wsX0_isRootSound (rm 3 81) (xB X S) [.ref ((xa X 0)), .int (iI (((n : Nat) : Int)))] (some (.int (iI 1))) := by
  refine pg_ro_of (cc := cX0_isRootSound) (maxL := 2) (ret := (some .boolean)) (by decide) rfl (Nat.le_of_ble_eq_true rfl) ?_
  intro p e s m below meth c ls SC hr hlk hB hl
  obtain ⟨hx, hb, hml, hown, hts⟩ := id SC
  have hown : s.vm.findClass RX0 = some m.cls := hown
  obtain ⟨hP, hK⟩ := id hB
  have hl : lv_has ls 2 [(0, .ref ((xa X 0))), (1, .int (iI (((n : Nat) : Int))))] := hl
  refine lv_aload_n hx hb dX0_isRootSound_0 rfl (lv_at hl 0 rfl) ?_
  refine lv_iload_n hx hb dX0_isRootSound_1 rfl (lv_at hl 1 rfl) ?_
  refine lv_iconst (v := iI 0) hx hb dX0_isRootSound_2 rfl ?_
  refine pg_callV (As := [.int (iI (((n : Nat) : Int))), .int (iI 0)]) (rest := []) SC (c_X0_isNearest_ok l X S n 0 (16 * n) (by omega) ⟨by decide, by decide⟩ (by omega)) xB_st (xB_h hP hK) (cwV 2 hts gX0_isRootSound_X0_isNearest rfl rfl rfl (by decide +kernel) ⟨Nat.le_of_ble_eq_true rfl, Nat.le_of_ble_eq_true rfl⟩) (va_recv hK hP (ci := 0) (q0 := 0) rfl rfl) rfl hl.1 rfl (Nat.le_of_ble_eq_true rfl) dX0_isRootSound_3 ⟨Nat.zero_le _, Nat.zero_le _⟩ ?_
  refine pg_if_eq (tgt := 30) hx hb dX0_isRootSound_6 (by decide) (⟨by omega, by omega⟩) (fun hc1 => absurd hc1 (by omega)) (fun hc1 => ?_)
  refine lv_aload_n hx hb dX0_isRootSound_9 rfl (lv_at hl 0 rfl) ?_
  refine lv_iload_n hx hb dX0_isRootSound_10 rfl (lv_at hl 1 rfl) ?_
  refine lv_iconst (v := iI 1) hx hb dX0_isRootSound_11 rfl ?_
  refine pg_callV (As := [.int (iI (((n : Nat) : Int))), .int (iI 1)]) (rest := []) SC (c_X0_isNearest_ok l X S n 1 (4 * n) (by omega) ⟨by decide, by decide⟩ (by omega)) xB_st (xB_h hP hK) (cwV 2 hts gX0_isRootSound_X0_isNearest rfl rfl rfl (by decide +kernel) ⟨Nat.le_of_ble_eq_true rfl, Nat.le_of_ble_eq_true rfl⟩) (va_recv hK hP (ci := 0) (q0 := 0) rfl rfl) rfl hl.1 rfl (Nat.le_of_ble_eq_true rfl) dX0_isRootSound_12 ⟨Nat.zero_le _, Nat.zero_le _⟩ ?_
  refine pg_if_eq (tgt := 30) hx hb dX0_isRootSound_15 (by decide) (⟨by omega, by omega⟩) (fun hc2 => absurd hc2 (by omega)) (fun hc2 => ?_)
  refine lv_aload_n hx hb dX0_isRootSound_18 rfl (lv_at hl 0 rfl) ?_
  refine lv_iload_n hx hb dX0_isRootSound_19 rfl (lv_at hl 1 rfl) ?_
  refine pg_callV (As := [.int (iI (((n : Nat) : Int)))]) (rest := []) SC (c_X0_isHalved_ok l X S n hn) xB_st (xB_h hP hK) (cwV 1 hts gX0_isRootSound_X0_isHalved rfl rfl rfl (by decide +kernel) ⟨Nat.le_of_ble_eq_true rfl, Nat.le_of_ble_eq_true rfl⟩) (va_recv hK hP (ci := 0) (q0 := 0) rfl rfl) rfl hl.1 rfl (Nat.le_of_ble_eq_true rfl) dX0_isRootSound_20 ⟨Nat.zero_le _, Nat.zero_le _⟩ ?_
  refine pg_if_eq (tgt := 30) hx hb dX0_isRootSound_23 (by decide) (⟨by omega, by omega⟩) (fun hc3 => absurd hc3 (by omega)) (fun hc3 => ?_)
  refine lv_iconst (v := iI 1) hx hb dX0_isRootSound_26 rfl ?_
  refine lv_goto (tgt := 31) hx hb dX0_isRootSound_27 (by decide) ?_
  exact pg_zret hx hb hr hlk  (iI_bool (by omega)) (congrArg (fun z : Int => some (Value.int (iI z))) (show 1 = 1 by omega)) dX0_isRootSound_31
set_option maxRecDepth 100000 in
set_option maxHeartbeats 4000000 in
theorem c_X0_arePairsSound (l : Launch) (X : pgX) (S : pgS) (hok : pgOk S)  : pg_ro l yX0_arePairsSound wsX0_arePairsSound (rm 5 114) (xB X S) [.ref ((xa X 0))] (some (.int (iI 1))) := by
  refine pg_ro_of (cc := cX0_arePairsSound) (maxL := 3) (ret := (some .boolean)) (by decide) rfl (Nat.le_of_ble_eq_true rfl) ?_
  intro p e s m below meth c ls SC hr hlk hB hl
  obtain ⟨hx, hb, hml, hown, hts⟩ := id SC
  have hown : s.vm.findClass RX0 = some m.cls := hown
  obtain ⟨hP, hK⟩ := id hB
  have hl : lv_has ls 3 [(0, .ref ((xa X 0)))] := hl
  refine lv_iconst (v := iI 0) hx hb dX0_arePairsSound_0 rfl ?_
  refine lv_istore_n (lv' := [(1, .int (iI 0)), (0, .ref ((xa X 0)))]) hx hb dX0_arePairsSound_1 rfl hl (by decide) rfl (fun ls hl => ?_)
  have loop1 : ∀ (fu : Nat) (i : Nat), (i ≤ 12) → 12 - i < fu → ∀ ls : Array Slot, lv_has ls 3 [(0, .ref ((xa X 0))), (1, .int (iI (((i : Nat) : Int))))] → W p l e (rm 5 114) s m ([.ref ((xa X 0))] : List Value).toArray below meth c s.heap [] 0 0 (MQ below (pg_Q (some (.int (iI 1)))) ([.ref ((xa X 0))] : List Value).toArray s 0 0 (fun _ => False)) (F0 m 2 ls []) := by
    intro fu
    induction fu with
    | zero => intros; omega
    | succ fu ih1 =>
      intro i hi hm1 ls hl
      refine lv_iload_n hx hb dX0_arePairsSound_2 rfl (lv_at hl 1 rfl) ?_
      refine lv_bipush (v := iI 12) hx hb dX0_arePairsSound_3 (by decide +kernel) ?_
      refine pg_icmp_ge (tgt := 75) hx hb dX0_arePairsSound_5 (by decide) (⟨by omega, by omega⟩) (⟨by omega, by omega⟩) (fun hc2 => ?_) (fun hc2 => ?_)
      · refine lv_iconst (v := iI 1) hx hb dX0_arePairsSound_75 rfl ?_
        exact pg_zret hx hb hr hlk  (iI_bool (by omega)) (congrArg (fun z : Int => some (Value.int (iI z))) (show 1 = 1 by omega)) dX0_arePairsSound_76
      · refine lv_iload_n hx hb dX0_arePairsSound_8 rfl (lv_at hl 1 rfl) ?_
        refine lv_iconst (v := iI 1) hx hb dX0_arePairsSound_9 rfl ?_
        refine pg_iadd (z := ((i + 1 : Nat) : Int)) hx hb dX0_arePairsSound_10 (by omega) ?_
        refine lv_istore_n (lv' := [(2, .int (iI (((i + 1 : Nat) : Int)))), (0, .ref ((xa X 0))), (1, .int (iI (((i : Nat) : Int))))]) hx hb dX0_arePairsSound_11 rfl hl (by decide) rfl (fun ls hl => ?_)
        have loop3 : ∀ (fu : Nat) (j : Nat), (i + 1 ≤ j) → (j ≤ 12) → 12 - j < fu → ∀ ls : Array Slot, lv_has ls 3 [(0, .ref ((xa X 0))), (1, .int (iI (((i : Nat) : Int)))), (2, .int (iI (((j : Nat) : Int))))] → W p l e (rm 5 114) s m ([.ref ((xa X 0))] : List Value).toArray below meth c s.heap [] 0 0 (MQ below (pg_Q (some (.int (iI 1)))) ([.ref ((xa X 0))] : List Value).toArray s 0 0 (fun _ => False)) (F0 m 12 ls []) := by
          intro fu
          induction fu with
          | zero => intros; omega
          | succ fu ih3 =>
            intro j hj1 hj2 hm3 ls hl
            refine lv_iload_n hx hb dX0_arePairsSound_12 rfl (lv_at hl 2 rfl) ?_
            refine lv_bipush (v := iI 12) hx hb dX0_arePairsSound_13 (by decide +kernel) ?_
            refine pg_icmp_ge (tgt := 69) hx hb dX0_arePairsSound_15 (by decide) (⟨by omega, by omega⟩) (⟨by omega, by omega⟩) (fun hc4 => ?_) (fun hc4 => ?_)
            · refine lv_iinc (v := iI (((i + 1 : Nat) : Int))) (lv' := [(1, .int (iI (((i + 1 : Nat) : Int)))), (0, .ref ((xa X 0))), (2, .int (iI (((j : Nat) : Int))))]) hx hb dX0_arePairsSound_69 hl (k := 1) rfl (iI_addp (by omega)) (by decide) rfl (fun ls hl => ?_)
              refine lv_goto (tgt := 2) hx hb dX0_arePairsSound_72 (by decide) ?_
              exact ih1 (i + 1) (by omega) (by omega) ls (lv_sub hl [1, 0] rfl)
            · have h1 := hok.1 i
              have h2 := hok.1 j
              refine lv_aload_n hx hb dX0_arePairsSound_18 rfl (lv_at hl 0 rfl) ?_
              refine lv_iload_n hx hb dX0_arePairsSound_19 rfl (lv_at hl 1 rfl) ?_
              refine pg_callV (As := [.int (iI (((i : Nat) : Int)))]) (rest := []) SC (c_X0_stands l X S i (by omega) (hok.1 i)) xB_st (xB_h hP hK) (cwV 1 hts gX0_arePairsSound_X0_stands rfl rfl rfl (by decide +kernel) ⟨Nat.le_of_ble_eq_true rfl, Nat.le_of_ble_eq_true rfl⟩) (va_recv hK hP (ci := 0) (q0 := 0) rfl rfl) rfl hl.1 rfl (Nat.le_of_ble_eq_true rfl) dX0_arePairsSound_20 ⟨Nat.zero_le _, Nat.zero_le _⟩ ?_
              refine pg_if_eq (tgt := 63) hx hb dX0_arePairsSound_23 (by decide) (⟨by omega, by omega⟩) (fun hc5 => ?_) (fun hc5 => ?_)
              · refine lv_iinc (v := iI (((j + 1 : Nat) : Int))) (lv' := [(2, .int (iI (((j + 1 : Nat) : Int)))), (0, .ref ((xa X 0))), (1, .int (iI (((i : Nat) : Int))))]) hx hb dX0_arePairsSound_63 hl (k := 2) rfl (iI_addp (by omega)) (by decide) rfl (fun ls hl => ?_)
                refine lv_goto (tgt := 12) hx hb dX0_arePairsSound_66 (by decide) ?_
                exact ih3 (j + 1) (by omega) (by omega) (by omega) ls (lv_sub hl [1, 2, 0] rfl)
              · refine lv_aload_n hx hb dX0_arePairsSound_26 rfl (lv_at hl 0 rfl) ?_
                refine lv_iload_n hx hb dX0_arePairsSound_27 rfl (lv_at hl 2 rfl) ?_
                refine pg_callV (As := [.int (iI (((j : Nat) : Int)))]) (rest := []) SC (c_X0_stands l X S j (by omega) (hok.1 j)) xB_st (xB_h hP hK) (cwV 1 hts gX0_arePairsSound_X0_stands rfl rfl rfl (by decide +kernel) ⟨Nat.le_of_ble_eq_true rfl, Nat.le_of_ble_eq_true rfl⟩) (va_recv hK hP (ci := 0) (q0 := 0) rfl rfl) rfl hl.1 rfl (Nat.le_of_ble_eq_true rfl) dX0_arePairsSound_28 ⟨Nat.zero_le _, Nat.zero_le _⟩ ?_
                refine pg_if_eq (tgt := 63) hx hb dX0_arePairsSound_31 (by decide) (⟨by omega, by omega⟩) (fun hc6 => ?_) (fun hc6 => ?_)
                · refine lv_iinc (v := iI (((j + 1 : Nat) : Int))) (lv' := [(2, .int (iI (((j + 1 : Nat) : Int)))), (0, .ref ((xa X 0))), (1, .int (iI (((i : Nat) : Int))))]) hx hb dX0_arePairsSound_63 hl (k := 2) rfl (iI_addp (by omega)) (by decide) rfl (fun ls hl => ?_)
                  refine lv_goto (tgt := 12) hx hb dX0_arePairsSound_66 (by decide) ?_
                  exact ih3 (j + 1) (by omega) (by omega) (by omega) ls (lv_sub hl [1, 2, 0] rfl)
                · refine lv_aload_n hx hb dX0_arePairsSound_34 rfl (lv_at hl 0 rfl) ?_
                  refine lv_iload_n hx hb dX0_arePairsSound_35 rfl (lv_at hl 1 rfl) ?_
                  refine lv_iload_n hx hb dX0_arePairsSound_36 rfl (lv_at hl 2 rfl) ?_
                  refine pg_callV (As := [.int (iI (((i : Nat) : Int))), .int (iI (((j : Nat) : Int)))]) (rest := []) SC (c_X0_isSteady_ok l X S hok i j (by omega) (by omega) (by omega) (by omega)) xB_st (xB_h hP hK) (cwV 2 hts gX0_arePairsSound_X0_isSteady rfl rfl rfl (by decide +kernel) ⟨Nat.le_of_ble_eq_true rfl, Nat.le_of_ble_eq_true rfl⟩) (va_recv hK hP (ci := 0) (q0 := 0) rfl rfl) rfl hl.1 rfl (Nat.le_of_ble_eq_true rfl) dX0_arePairsSound_37 ⟨Nat.zero_le _, Nat.zero_le _⟩ ?_
                  refine pg_if_eq (tgt := 61) hx hb dX0_arePairsSound_40 (by decide) (⟨by omega, by omega⟩) (fun hc7 => absurd hc7 (by omega)) (fun hc7 => ?_)
                  refine lv_aload_n hx hb dX0_arePairsSound_43 rfl (lv_at hl 0 rfl) ?_
                  refine lv_iload_n hx hb dX0_arePairsSound_44 rfl (lv_at hl 1 rfl) ?_
                  refine lv_iload_n hx hb dX0_arePairsSound_45 rfl (lv_at hl 2 rfl) ?_
                  refine pg_callV (As := [.int (iI (((i : Nat) : Int))), .int (iI (((j : Nat) : Int)))]) (rest := []) SC (c_X0_isDoubled_ok l X S hok i j (by omega) (by omega) (by omega) (by omega)) xB_st (xB_h hP hK) (cwV 2 hts gX0_arePairsSound_X0_isDoubled rfl rfl rfl (by decide +kernel) ⟨Nat.le_of_ble_eq_true rfl, Nat.le_of_ble_eq_true rfl⟩) (va_recv hK hP (ci := 0) (q0 := 0) rfl rfl) rfl hl.1 rfl (Nat.le_of_ble_eq_true rfl) dX0_arePairsSound_46 ⟨Nat.zero_le _, Nat.zero_le _⟩ ?_
                  refine pg_if_eq (tgt := 61) hx hb dX0_arePairsSound_49 (by decide) (⟨by omega, by omega⟩) (fun hc8 => absurd hc8 (by omega)) (fun hc8 => ?_)
                  refine lv_aload_n hx hb dX0_arePairsSound_52 rfl (lv_at hl 0 rfl) ?_
                  refine lv_iload_n hx hb dX0_arePairsSound_53 rfl (lv_at hl 1 rfl) ?_
                  refine lv_iload_n hx hb dX0_arePairsSound_54 rfl (lv_at hl 2 rfl) ?_
                  refine pg_callV (As := [.int (iI (((i : Nat) : Int))), .int (iI (((j : Nat) : Int)))]) (rest := []) SC (c_X0_isClose_ok l X S hok i j (by omega) (by omega) (by omega) (by omega)) xB_st (xB_h hP hK) (cwV 2 hts gX0_arePairsSound_X0_isClose rfl rfl rfl (by decide +kernel) ⟨Nat.le_of_ble_eq_true rfl, Nat.le_of_ble_eq_true rfl⟩) (va_recv hK hP (ci := 0) (q0 := 0) rfl rfl) rfl hl.1 rfl (Nat.le_of_ble_eq_true rfl) dX0_arePairsSound_55 ⟨Nat.zero_le _, Nat.zero_le _⟩ ?_
                  refine pg_if_ne (tgt := 63) hx hb dX0_arePairsSound_58 (by decide) (⟨by omega, by omega⟩) (fun hc9 => ?_) (fun hc9 => absurd hc9 (by omega))
                  refine lv_iinc (v := iI (((j + 1 : Nat) : Int))) (lv' := [(2, .int (iI (((j + 1 : Nat) : Int)))), (0, .ref ((xa X 0))), (1, .int (iI (((i : Nat) : Int))))]) hx hb dX0_arePairsSound_63 hl (k := 2) rfl (iI_addp (by omega)) (by decide) rfl (fun ls hl => ?_)
                  refine lv_goto (tgt := 12) hx hb dX0_arePairsSound_66 (by decide) ?_
                  exact ih3 (j + 1) (by omega) (by omega) (by omega) ls (lv_sub hl [1, 2, 0] rfl)
        refine loop3 (12 + 1) (i + 1) (by omega) (by omega) (by omega) ls (lv_sub hl [1, 2, 0] rfl)
  refine loop1 (12 + 1) 0 (by omega) (by omega) ls (lv_sub hl [1, 0] rfl)
set_option maxRecDepth 100000 in
set_option maxHeartbeats 4000000 in
theorem c_X0_isStraightByAll (l : Launch) (X : pgX) (S : pgS) (hok : pgOk S) (a b : Nat) (ha : a < 12) (hb2 : b < 12) (sa : sS S a = 1) (sb : sS S b = 1) : pg_ro l yX0_isStraightByAll wsX0_isStraightByAll (rm 4 93) (xB X S) [.ref ((xa X 0)), .int (iI (((a : Nat) : Int))), .int (iI (((b : Nat) : Int)))] (some (.int (iI 1))) := by
  refine pg_ro_of (cc := cX0_isStraightByAll) (maxL := 4) (ret := (some .boolean)) (by decide) rfl (Nat.le_of_ble_eq_true rfl) ?_
  intro p e s m below meth c ls SC hr hlk hB hl
  obtain ⟨hx, hb, hml, hown, hts⟩ := id SC
  have hown : s.vm.findClass RX0 = some m.cls := hown
  obtain ⟨hP, hK⟩ := id hB
  have hl : lv_has ls 4 [(0, .ref ((xa X 0))), (1, .int (iI (((a : Nat) : Int)))), (2, .int (iI (((b : Nat) : Int))))] := hl
  refine lv_iconst (v := iI 0) hx hb dX0_isStraightByAll_0 rfl ?_
  refine lv_istore_n (lv' := [(3, .int (iI 0)), (0, .ref ((xa X 0))), (1, .int (iI (((a : Nat) : Int)))), (2, .int (iI (((b : Nat) : Int))))]) hx hb dX0_isStraightByAll_1 rfl hl (by decide) rfl (fun ls hl => ?_)
  have loop1 : ∀ (fu : Nat) (j : Nat), (j ≤ 12) → 12 - j < fu → ∀ ls : Array Slot, lv_has ls 4 [(0, .ref ((xa X 0))), (1, .int (iI (((a : Nat) : Int)))), (2, .int (iI (((b : Nat) : Int)))), (3, .int (iI (((j : Nat) : Int))))] → W p l e (rm 4 93) s m ([.ref ((xa X 0)), .int (iI (((a : Nat) : Int))), .int (iI (((b : Nat) : Int)))] : List Value).toArray below meth c s.heap [] 0 0 (MQ below (pg_Q (some (.int (iI 1)))) ([.ref ((xa X 0)), .int (iI (((a : Nat) : Int))), .int (iI (((b : Nat) : Int)))] : List Value).toArray s 0 0 (fun _ => False)) (F0 m 2 ls []) := by
    intro fu
    induction fu with
    | zero => intros; omega
    | succ fu ih1 =>
      intro j hj hm1 ls hl
      refine lv_iload_n hx hb dX0_isStraightByAll_2 rfl (lv_at hl 3 rfl) ?_
      refine lv_bipush (v := iI 12) hx hb dX0_isStraightByAll_3 (by decide +kernel) ?_
      refine pg_icmp_ge (tgt := 44) hx hb dX0_isStraightByAll_5 (by decide) (⟨by omega, by omega⟩) (⟨by omega, by omega⟩) (fun hc2 => ?_) (fun hc2 => ?_)
      · refine lv_iconst (v := iI 1) hx hb dX0_isStraightByAll_44 rfl ?_
        exact pg_zret hx hb hr hlk  (iI_bool (by omega)) (congrArg (fun z : Int => some (Value.int (iI z))) (show 1 = 1 by omega)) dX0_isStraightByAll_45
      · refine lv_iload_n hx hb dX0_isStraightByAll_8 rfl (lv_at hl 3 rfl) ?_
        refine lv_iload_n hx hb dX0_isStraightByAll_9 rfl (lv_at hl 1 rfl) ?_
        refine pg_icmp_eq (tgt := 38) hx hb dX0_isStraightByAll_10 (by decide) (⟨by omega, by omega⟩) (⟨by omega, by omega⟩) (fun hc3 => ?_) (fun hc3 => ?_)
        · refine lv_iinc (v := iI (((j + 1 : Nat) : Int))) (lv' := [(3, .int (iI (((j + 1 : Nat) : Int)))), (0, .ref ((xa X 0))), (1, .int (iI (((a : Nat) : Int)))), (2, .int (iI (((b : Nat) : Int))))]) hx hb dX0_isStraightByAll_38 hl (k := 3) rfl (iI_addp (by omega)) (by decide) rfl (fun ls hl => ?_)
          refine lv_goto (tgt := 2) hx hb dX0_isStraightByAll_41 (by decide) ?_
          exact ih1 (j + 1) (by omega) (by omega) ls (lv_sub hl [1, 2, 3, 0] rfl)
        · refine lv_iload_n hx hb dX0_isStraightByAll_13 rfl (lv_at hl 3 rfl) ?_
          refine lv_iload_n hx hb dX0_isStraightByAll_14 rfl (lv_at hl 2 rfl) ?_
          refine pg_icmp_eq (tgt := 38) hx hb dX0_isStraightByAll_15 (by decide) (⟨by omega, by omega⟩) (⟨by omega, by omega⟩) (fun hc4 => ?_) (fun hc4 => ?_)
          · refine lv_iinc (v := iI (((j + 1 : Nat) : Int))) (lv' := [(3, .int (iI (((j + 1 : Nat) : Int)))), (0, .ref ((xa X 0))), (1, .int (iI (((a : Nat) : Int)))), (2, .int (iI (((b : Nat) : Int))))]) hx hb dX0_isStraightByAll_38 hl (k := 3) rfl (iI_addp (by omega)) (by decide) rfl (fun ls hl => ?_)
            refine lv_goto (tgt := 2) hx hb dX0_isStraightByAll_41 (by decide) ?_
            exact ih1 (j + 1) (by omega) (by omega) ls (lv_sub hl [1, 2, 3, 0] rfl)
          · have h1 := hok.1 j
            refine lv_aload_n hx hb dX0_isStraightByAll_18 rfl (lv_at hl 0 rfl) ?_
            refine lv_iload_n hx hb dX0_isStraightByAll_19 rfl (lv_at hl 3 rfl) ?_
            refine pg_callV (As := [.int (iI (((j : Nat) : Int)))]) (rest := []) SC (c_X0_stands l X S j (by omega) (hok.1 j)) xB_st (xB_h hP hK) (cwV 1 hts gX0_isStraightByAll_X0_stands rfl rfl rfl (by decide +kernel) ⟨Nat.le_of_ble_eq_true rfl, Nat.le_of_ble_eq_true rfl⟩) (va_recv hK hP (ci := 0) (q0 := 0) rfl rfl) rfl hl.1 rfl (Nat.le_of_ble_eq_true rfl) dX0_isStraightByAll_20 ⟨Nat.zero_le _, Nat.zero_le _⟩ ?_
            refine pg_if_eq (tgt := 38) hx hb dX0_isStraightByAll_23 (by decide) (⟨by omega, by omega⟩) (fun hc5 => ?_) (fun hc5 => ?_)
            · refine lv_iinc (v := iI (((j + 1 : Nat) : Int))) (lv' := [(3, .int (iI (((j + 1 : Nat) : Int)))), (0, .ref ((xa X 0))), (1, .int (iI (((a : Nat) : Int)))), (2, .int (iI (((b : Nat) : Int))))]) hx hb dX0_isStraightByAll_38 hl (k := 3) rfl (iI_addp (by omega)) (by decide) rfl (fun ls hl => ?_)
              refine lv_goto (tgt := 2) hx hb dX0_isStraightByAll_41 (by decide) ?_
              exact ih1 (j + 1) (by omega) (by omega) ls (lv_sub hl [1, 2, 3, 0] rfl)
            · refine lv_aload_n hx hb dX0_isStraightByAll_26 rfl (lv_at hl 0 rfl) ?_
              refine lv_iload_n hx hb dX0_isStraightByAll_27 rfl (lv_at hl 1 rfl) ?_
              refine lv_iload_n hx hb dX0_isStraightByAll_28 rfl (lv_at hl 3 rfl) ?_
              refine lv_iload_n hx hb dX0_isStraightByAll_29 rfl (lv_at hl 2 rfl) ?_
              refine pg_callV (As := [.int (iI (((a : Nat) : Int))), .int (iI (((j : Nat) : Int))), .int (iI (((b : Nat) : Int)))]) (rest := []) SC (c_X0_isStraight_ok l X S hok a j b ha (by omega) hb2 sa (by omega) sb) xB_st (xB_h hP hK) (cwV 3 hts gX0_isStraightByAll_X0_isStraight rfl rfl rfl (by decide +kernel) ⟨Nat.le_of_ble_eq_true rfl, Nat.le_of_ble_eq_true rfl⟩) (va_recv hK hP (ci := 0) (q0 := 0) rfl rfl) rfl hl.1 rfl (Nat.le_of_ble_eq_true rfl) dX0_isStraightByAll_30 ⟨Nat.zero_le _, Nat.zero_le _⟩ ?_
              refine pg_if_ne (tgt := 38) hx hb dX0_isStraightByAll_33 (by decide) (⟨by omega, by omega⟩) (fun hc6 => ?_) (fun hc6 => absurd hc6 (by omega))
              refine lv_iinc (v := iI (((j + 1 : Nat) : Int))) (lv' := [(3, .int (iI (((j + 1 : Nat) : Int)))), (0, .ref ((xa X 0))), (1, .int (iI (((a : Nat) : Int)))), (2, .int (iI (((b : Nat) : Int))))]) hx hb dX0_isStraightByAll_38 hl (k := 3) rfl (iI_addp (by omega)) (by decide) rfl (fun ls hl => ?_)
              refine lv_goto (tgt := 2) hx hb dX0_isStraightByAll_41 (by decide) ?_
              exact ih1 (j + 1) (by omega) (by omega) ls (lv_sub hl [1, 2, 3, 0] rfl)
  refine loop1 (12 + 1) 0 (by omega) (by omega) ls (lv_sub hl [1, 2, 3, 0] rfl)
set_option maxRecDepth 100000 in
set_option maxHeartbeats 4000000 in
theorem c_X0_areThreesSound (l : Launch) (X : pgX) (S : pgS) (hok : pgOk S)  : pg_ro l yX0_areThreesSound wsX0_areThreesSound (rm 5 116) (xB X S) [.ref ((xa X 0))] (some (.int (iI 1))) := by
  refine pg_ro_of (cc := cX0_areThreesSound) (maxL := 3) (ret := (some .boolean)) (by decide) rfl (Nat.le_of_ble_eq_true rfl) ?_
  intro p e s m below meth c ls SC hr hlk hB hl
  obtain ⟨hx, hb, hml, hown, hts⟩ := id SC
  have hown : s.vm.findClass RX0 = some m.cls := hown
  obtain ⟨hP, hK⟩ := id hB
  have hl : lv_has ls 3 [(0, .ref ((xa X 0)))] := hl
  refine lv_iconst (v := iI 0) hx hb dX0_areThreesSound_0 rfl ?_
  refine lv_istore_n (lv' := [(1, .int (iI 0)), (0, .ref ((xa X 0)))]) hx hb dX0_areThreesSound_1 rfl hl (by decide) rfl (fun ls hl => ?_)
  have loop1 : ∀ (fu : Nat) (i : Nat), (i ≤ 12) → 12 - i < fu → ∀ ls : Array Slot, lv_has ls 3 [(0, .ref ((xa X 0))), (1, .int (iI (((i : Nat) : Int))))] → W p l e (rm 5 116) s m ([.ref ((xa X 0))] : List Value).toArray below meth c s.heap [] 0 0 (MQ below (pg_Q (some (.int (iI 1)))) ([.ref ((xa X 0))] : List Value).toArray s 0 0 (fun _ => False)) (F0 m 2 ls []) := by
    intro fu
    induction fu with
    | zero => intros; omega
    | succ fu ih1 =>
      intro i hi hm1 ls hl
      refine lv_iload_n hx hb dX0_areThreesSound_2 rfl (lv_at hl 1 rfl) ?_
      refine lv_bipush (v := iI 12) hx hb dX0_areThreesSound_3 (by decide +kernel) ?_
      refine pg_icmp_ge (tgt := 57) hx hb dX0_areThreesSound_5 (by decide) (⟨by omega, by omega⟩) (⟨by omega, by omega⟩) (fun hc2 => ?_) (fun hc2 => ?_)
      · refine lv_iconst (v := iI 1) hx hb dX0_areThreesSound_57 rfl ?_
        exact pg_zret hx hb hr hlk  (iI_bool (by omega)) (congrArg (fun z : Int => some (Value.int (iI z))) (show 1 = 1 by omega)) dX0_areThreesSound_58
      · refine lv_iload_n hx hb dX0_areThreesSound_8 rfl (lv_at hl 1 rfl) ?_
        refine lv_iconst (v := iI 1) hx hb dX0_areThreesSound_9 rfl ?_
        refine pg_iadd (z := ((i + 1 : Nat) : Int)) hx hb dX0_areThreesSound_10 (by omega) ?_
        refine lv_istore_n (lv' := [(2, .int (iI (((i + 1 : Nat) : Int)))), (0, .ref ((xa X 0))), (1, .int (iI (((i : Nat) : Int))))]) hx hb dX0_areThreesSound_11 rfl hl (by decide) rfl (fun ls hl => ?_)
        have loop3 : ∀ (fu : Nat) (j : Nat), (i + 1 ≤ j) → (j ≤ 12) → 12 - j < fu → ∀ ls : Array Slot, lv_has ls 3 [(0, .ref ((xa X 0))), (1, .int (iI (((i : Nat) : Int)))), (2, .int (iI (((j : Nat) : Int))))] → W p l e (rm 5 116) s m ([.ref ((xa X 0))] : List Value).toArray below meth c s.heap [] 0 0 (MQ below (pg_Q (some (.int (iI 1)))) ([.ref ((xa X 0))] : List Value).toArray s 0 0 (fun _ => False)) (F0 m 12 ls []) := by
          intro fu
          induction fu with
          | zero => intros; omega
          | succ fu ih3 =>
            intro j hj1 hj2 hm3 ls hl
            refine lv_iload_n hx hb dX0_areThreesSound_12 rfl (lv_at hl 2 rfl) ?_
            refine lv_bipush (v := iI 12) hx hb dX0_areThreesSound_13 (by decide +kernel) ?_
            refine pg_icmp_ge (tgt := 51) hx hb dX0_areThreesSound_15 (by decide) (⟨by omega, by omega⟩) (⟨by omega, by omega⟩) (fun hc4 => ?_) (fun hc4 => ?_)
            · refine lv_iinc (v := iI (((i + 1 : Nat) : Int))) (lv' := [(1, .int (iI (((i + 1 : Nat) : Int)))), (0, .ref ((xa X 0))), (2, .int (iI (((j : Nat) : Int))))]) hx hb dX0_areThreesSound_51 hl (k := 1) rfl (iI_addp (by omega)) (by decide) rfl (fun ls hl => ?_)
              refine lv_goto (tgt := 2) hx hb dX0_areThreesSound_54 (by decide) ?_
              exact ih1 (i + 1) (by omega) (by omega) ls (lv_sub hl [1, 0] rfl)
            · have h1 := hok.1 i
              have h2 := hok.1 j
              refine lv_aload_n hx hb dX0_areThreesSound_18 rfl (lv_at hl 0 rfl) ?_
              refine lv_iload_n hx hb dX0_areThreesSound_19 rfl (lv_at hl 1 rfl) ?_
              refine pg_callV (As := [.int (iI (((i : Nat) : Int)))]) (rest := []) SC (c_X0_stands l X S i (by omega) (hok.1 i)) xB_st (xB_h hP hK) (cwV 1 hts gX0_areThreesSound_X0_stands rfl rfl rfl (by decide +kernel) ⟨Nat.le_of_ble_eq_true rfl, Nat.le_of_ble_eq_true rfl⟩) (va_recv hK hP (ci := 0) (q0 := 0) rfl rfl) rfl hl.1 rfl (Nat.le_of_ble_eq_true rfl) dX0_areThreesSound_20 ⟨Nat.zero_le _, Nat.zero_le _⟩ ?_
              refine pg_if_eq (tgt := 45) hx hb dX0_areThreesSound_23 (by decide) (⟨by omega, by omega⟩) (fun hc5 => ?_) (fun hc5 => ?_)
              · refine lv_iinc (v := iI (((j + 1 : Nat) : Int))) (lv' := [(2, .int (iI (((j + 1 : Nat) : Int)))), (0, .ref ((xa X 0))), (1, .int (iI (((i : Nat) : Int))))]) hx hb dX0_areThreesSound_45 hl (k := 2) rfl (iI_addp (by omega)) (by decide) rfl (fun ls hl => ?_)
                refine lv_goto (tgt := 12) hx hb dX0_areThreesSound_48 (by decide) ?_
                exact ih3 (j + 1) (by omega) (by omega) (by omega) ls (lv_sub hl [1, 2, 0] rfl)
              · refine lv_aload_n hx hb dX0_areThreesSound_26 rfl (lv_at hl 0 rfl) ?_
                refine lv_iload_n hx hb dX0_areThreesSound_27 rfl (lv_at hl 2 rfl) ?_
                refine pg_callV (As := [.int (iI (((j : Nat) : Int)))]) (rest := []) SC (c_X0_stands l X S j (by omega) (hok.1 j)) xB_st (xB_h hP hK) (cwV 1 hts gX0_areThreesSound_X0_stands rfl rfl rfl (by decide +kernel) ⟨Nat.le_of_ble_eq_true rfl, Nat.le_of_ble_eq_true rfl⟩) (va_recv hK hP (ci := 0) (q0 := 0) rfl rfl) rfl hl.1 rfl (Nat.le_of_ble_eq_true rfl) dX0_areThreesSound_28 ⟨Nat.zero_le _, Nat.zero_le _⟩ ?_
                refine pg_if_eq (tgt := 45) hx hb dX0_areThreesSound_31 (by decide) (⟨by omega, by omega⟩) (fun hc6 => ?_) (fun hc6 => ?_)
                · refine lv_iinc (v := iI (((j + 1 : Nat) : Int))) (lv' := [(2, .int (iI (((j + 1 : Nat) : Int)))), (0, .ref ((xa X 0))), (1, .int (iI (((i : Nat) : Int))))]) hx hb dX0_areThreesSound_45 hl (k := 2) rfl (iI_addp (by omega)) (by decide) rfl (fun ls hl => ?_)
                  refine lv_goto (tgt := 12) hx hb dX0_areThreesSound_48 (by decide) ?_
                  exact ih3 (j + 1) (by omega) (by omega) (by omega) ls (lv_sub hl [1, 2, 0] rfl)
                · refine lv_aload_n hx hb dX0_areThreesSound_34 rfl (lv_at hl 0 rfl) ?_
                  refine lv_iload_n hx hb dX0_areThreesSound_35 rfl (lv_at hl 1 rfl) ?_
                  refine lv_iload_n hx hb dX0_areThreesSound_36 rfl (lv_at hl 2 rfl) ?_
                  refine pg_callV (As := [.int (iI (((i : Nat) : Int))), .int (iI (((j : Nat) : Int)))]) (rest := []) SC (c_X0_isStraightByAll l X S hok i j (by omega) (by omega) (by omega) (by omega)) xB_st (xB_h hP hK) (cwV 2 hts gX0_areThreesSound_X0_isStraightByAll rfl rfl rfl (by decide +kernel) ⟨Nat.le_of_ble_eq_true rfl, Nat.le_of_ble_eq_true rfl⟩) (va_recv hK hP (ci := 0) (q0 := 0) rfl rfl) rfl hl.1 rfl (Nat.le_of_ble_eq_true rfl) dX0_areThreesSound_37 ⟨Nat.zero_le _, Nat.zero_le _⟩ ?_
                  refine pg_if_ne (tgt := 45) hx hb dX0_areThreesSound_40 (by decide) (⟨by omega, by omega⟩) (fun hc7 => ?_) (fun hc7 => absurd hc7 (by omega))
                  refine lv_iinc (v := iI (((j + 1 : Nat) : Int))) (lv' := [(2, .int (iI (((j + 1 : Nat) : Int)))), (0, .ref ((xa X 0))), (1, .int (iI (((i : Nat) : Int))))]) hx hb dX0_areThreesSound_45 hl (k := 2) rfl (iI_addp (by omega)) (by decide) rfl (fun ls hl => ?_)
                  refine lv_goto (tgt := 12) hx hb dX0_areThreesSound_48 (by decide) ?_
                  exact ih3 (j + 1) (by omega) (by omega) (by omega) ls (lv_sub hl [1, 2, 0] rfl)
        refine loop3 (12 + 1) (i + 1) (by omega) (by omega) (by omega) ls (lv_sub hl [1, 2, 0] rfl)
  refine loop1 (12 + 1) 0 (by omega) (by omega) ls (lv_sub hl [1, 0] rfl)
set_option maxRecDepth 100000 in
set_option maxHeartbeats 4000000 in
theorem c_X0_isAreaSound (l : Launch) (X : pgX) (S : pgS) (hok : pgOk S)  : pg_ro l yX0_isAreaSound wsX0_isAreaSound (rm 4 102) (xB X S) [.ref ((xa X 0))] (some (.int (iI 1))) := by
  refine pg_ro_of (cc := cX0_isAreaSound) (maxL := 2) (ret := (some .boolean)) (by decide) rfl (Nat.le_of_ble_eq_true rfl) ?_
  intro p e s m below meth c ls SC hr hlk hB hl
  obtain ⟨hx, hb, hml, hown, hts⟩ := id SC
  have hown : s.vm.findClass RX0 = some m.cls := hown
  obtain ⟨hP, hK⟩ := id hB
  have hl : lv_has ls 2 [(0, .ref ((xa X 0)))] := hl
  have hN : sN S ≤ 12 := hok.2.2.2.2.1
  have hda := da_b hok (sN S)
  obtain ⟨A, hAe⟩ : ∃ A, A = (da S (sN S)).natAbs := ⟨_, rfl⟩
  have hA9 : A < 200000 := by omega
  refine lv_aload_n hx hb dX0_isAreaSound_0 rfl (lv_at hl 0 rfl) ?_
  refine pg_callV (As := []) (rest := []) SC (c_X0_doubleArea l X S hok) xB_st (xB_h hP hK) (cwV 0 hts gX0_isAreaSound_X0_doubleArea rfl rfl rfl (by decide +kernel) ⟨Nat.le_of_ble_eq_true rfl, Nat.le_of_ble_eq_true rfl⟩) (va_recv hK hP (ci := 0) (q0 := 0) rfl rfl) rfl hl.1 rfl (Nat.le_of_ble_eq_true rfl) dX0_isAreaSound_1 ⟨Nat.zero_le _, Nat.zero_le _⟩ ?_
  refine va_mabs hx hb (hml.trans hl.1.symm) hown (hts (.methodLink RX0 154 Lib.Math.abs.name) (by decide +kernel)) (hts (.static Lib.Math.abs.name) (by decide +kernel)) (hts (.initialized "java/lang/Math") (by decide +kernel)) (hts (.code Lib.Math.abs.name Lib.Math.abs.code 1 (some .int)) (by decide +kernel)) (Nat.le_of_ble_eq_true rfl) (Nat.le_of_ble_eq_true rfl) (Nat.zero_le _) (Nat.zero_le _) dX0_isAreaSound_4 (pg_ti (iI_abs (⟨by omega, by omega⟩)) ?_)
  refine lv_istore_n (lv' := [(1, .int (iI (((Int.natAbs (da S (sN S)) : Nat) : Int)))), (0, .ref ((xa X 0)))]) hx hb dX0_isAreaSound_7 rfl hl (by decide) rfl (fun ls hl => ?_)
  have hAe2 : (((da S (sN S)).natAbs : Nat) : Int) = (A : Int) := by rw [hAe]
  refine lv_iload_n hx hb dX0_isAreaSound_8 rfl (lv_at hl 0 rfl) ?_
  by_cases hs1 : A < 32768
  · refine pg_callS (As := [.int (iI (((Int.natAbs (da S (sN S)) : Nat) : Int)))]) (rest := []) SC (c_X0_isNumber l (da S (sN S)).natAbs 1 ⟨by omega, by omega⟩ (by omega)) pT_st pT_h (va_cwS 1 hts gX0_isAreaSound_X0_isNumber rfl rfl rfl (by decide +kernel) ⟨Nat.le_of_ble_eq_true rfl, Nat.le_of_ble_eq_true rfl⟩) rfl hl.1 rfl (Nat.le_of_ble_eq_true rfl) dX0_isAreaSound_9 ⟨Nat.zero_le _, Nat.zero_le _⟩ ?_
    refine pg_if_ne (tgt := 17) hx hb dX0_isAreaSound_12 (by decide) (⟨by omega, by omega⟩) (fun hc2 => ?_) (fun hc2 => absurd hc2 (by omega))
    refine lv_aload_n hx hb dX0_isAreaSound_17 rfl (lv_at hl 1 rfl) ?_
    refine lv_iload_n hx hb dX0_isAreaSound_18 rfl (lv_at hl 0 rfl) ?_
    refine pg_callV (As := [.int (iI (((Int.natAbs (da S (sN S)) : Nat) : Int)))]) (rest := []) SC (c_X0_isRootSound l X S (da S (sN S)).natAbs (by omega)) xB_st (xB_h hP hK) (cwV 1 hts gX0_isAreaSound_X0_isRootSound rfl rfl rfl (by decide +kernel) ⟨Nat.le_of_ble_eq_true rfl, Nat.le_of_ble_eq_true rfl⟩) (va_recv hK hP (ci := 0) (q0 := 0) rfl rfl) rfl hl.1 rfl (Nat.le_of_ble_eq_true rfl) dX0_isAreaSound_19 ⟨Nat.zero_le _, Nat.zero_le _⟩ ?_
    refine pg_if_ne (tgt := 27) hx hb dX0_isAreaSound_22 (by decide) (⟨by omega, by omega⟩) (fun hc3 => ?_) (fun hc3 => absurd hc3 (by omega))
    refine lv_iload_n hx hb dX0_isAreaSound_27 rfl (lv_at hl 0 rfl) ?_
    refine pg_if_eq (tgt := 59) hx hb dX0_isAreaSound_28 (by decide) (⟨by omega, by omega⟩) (fun hc4 => ?_) (fun hc4 => ?_)
    · refine lv_iconst (v := iI 1) hx hb dX0_isAreaSound_59 rfl ?_
      refine lv_goto (tgt := 64) hx hb dX0_isAreaSound_60 (by decide) ?_
      exact pg_zret hx hb hr hlk  (iI_bool (by omega)) (congrArg (fun z : Int => some (Value.int (iI z))) (show 1 = 1 by omega)) dX0_isAreaSound_64
    · refine lv_aload_n hx hb dX0_isAreaSound_31 rfl (lv_at hl 1 rfl) ?_
      refine lv_iload_n hx hb dX0_isAreaSound_32 rfl (lv_at hl 0 rfl) ?_
      refine lv_iconst (v := iI 1) hx hb dX0_isAreaSound_33 rfl ?_
      refine pg_isub (z := (((da S (sN S)).natAbs - 1 : Nat) : Int)) hx hb dX0_isAreaSound_34 (by omega) ?_
      refine pg_callV (As := [.int (iI ((((da S (sN S)).natAbs - 1 : Nat) : Int)))]) (rest := []) SC (c_X0_isRootSound l X S ((da S (sN S)).natAbs - 1) (by omega)) xB_st (xB_h hP hK) (cwV 1 hts gX0_isAreaSound_X0_isRootSound rfl rfl rfl (by decide +kernel) ⟨Nat.le_of_ble_eq_true rfl, Nat.le_of_ble_eq_true rfl⟩) (va_recv hK hP (ci := 0) (q0 := 0) rfl rfl) rfl hl.1 rfl (Nat.le_of_ble_eq_true rfl) dX0_isAreaSound_35 ⟨Nat.zero_le _, Nat.zero_le _⟩ ?_
      refine pg_if_eq (tgt := 63) hx hb dX0_isAreaSound_38 (by decide) (⟨by omega, by omega⟩) (fun hc5 => absurd hc5 (by omega)) (fun hc5 => ?_)
      refine lv_aload_n hx hb dX0_isAreaSound_41 rfl (lv_at hl 1 rfl) ?_
      refine lv_iload_n hx hb dX0_isAreaSound_42 rfl (lv_at hl 0 rfl) ?_
      refine lv_iconst (v := iI 0) hx hb dX0_isAreaSound_43 rfl ?_
      refine pg_callV (As := [.int (iI (((Int.natAbs (da S (sN S)) : Nat) : Int))), .int (iI 0)]) (rest := []) SC (c_X0_root_ok l X S ((da S (sN S)).natAbs) 0 (16 * (da S (sN S)).natAbs) (by omega) ⟨by decide, by decide⟩ (by omega)) xB_st (xB_h hP hK) (cwV 2 hts gX0_isAreaSound_X0_root rfl rfl rfl (by decide +kernel) ⟨Nat.le_of_ble_eq_true rfl, Nat.le_of_ble_eq_true rfl⟩) (va_recv hK hP (ci := 0) (q0 := 0) rfl rfl) rfl hl.1 rfl (Nat.le_of_ble_eq_true rfl) dX0_isAreaSound_44 ⟨Nat.zero_le _, Nat.zero_le _⟩ ?_
      refine lv_aload_n hx hb dX0_isAreaSound_47 rfl (lv_at hl 1 rfl) ?_
      refine lv_iload_n hx hb dX0_isAreaSound_48 rfl (lv_at hl 0 rfl) ?_
      refine lv_iconst (v := iI 1) hx hb dX0_isAreaSound_49 rfl ?_
      refine pg_isub (z := (((da S (sN S)).natAbs - 1 : Nat) : Int)) hx hb dX0_isAreaSound_50 (by omega) ?_
      refine lv_iconst (v := iI 0) hx hb dX0_isAreaSound_51 rfl ?_
      refine pg_callV (As := [.int (iI ((((da S (sN S)).natAbs - 1 : Nat) : Int))), .int (iI 0)]) (rest := [.double ((dbl (16 * (da S (sN S)).natAbs)))]) SC (c_X0_root_ok l X S ((da S (sN S)).natAbs - 1) 0 (16 * ((da S (sN S)).natAbs - 1)) (by omega) ⟨by decide, by decide⟩ (by omega)) xB_st (xB_h hP hK) (cwV 2 hts gX0_isAreaSound_X0_root rfl rfl rfl (by decide +kernel) ⟨Nat.le_of_ble_eq_true rfl, Nat.le_of_ble_eq_true rfl⟩) (va_recv hK hP (ci := 0) (q0 := 0) rfl rfl) rfl hl.1 rfl (Nat.le_of_ble_eq_true rfl) dX0_isAreaSound_52 ⟨Nat.zero_le _, Nat.zero_le _⟩ ?_
      have hdc : FP.dcmp ((dbl (16 * (da S (sN S)).natAbs))) ((dbl (16 * ((da S (sN S)).natAbs - 1)))) = some .gt := by exact dbl_gt (by omega) (by omega)
      refine lv_dcmp hx hb dX0_isAreaSound_55 (pg_ti (y := iI 1) (by rw [hdc]; decide +kernel) ?_)
      refine pg_if_le (tgt := 63) hx hb dX0_isAreaSound_56 (by decide) (⟨by omega, by omega⟩) (fun hc6 => absurd hc6 (by omega)) (fun hc6 => ?_)
      refine lv_iconst (v := iI 1) hx hb dX0_isAreaSound_59 rfl ?_
      refine lv_goto (tgt := 64) hx hb dX0_isAreaSound_60 (by decide) ?_
      exact pg_zret hx hb hr hlk  (iI_bool (by omega)) (congrArg (fun z : Int => some (Value.int (iI z))) (show 1 = 1 by omega)) dX0_isAreaSound_64
  · refine pg_callS (As := [.int (iI (((Int.natAbs (da S (sN S)) : Nat) : Int)))]) (rest := []) SC (c_X0_isNumber l (da S (sN S)).natAbs 0 ⟨by omega, by omega⟩ (by omega)) pT_st pT_h (va_cwS 1 hts gX0_isAreaSound_X0_isNumber rfl rfl rfl (by decide +kernel) ⟨Nat.le_of_ble_eq_true rfl, Nat.le_of_ble_eq_true rfl⟩) rfl hl.1 rfl (Nat.le_of_ble_eq_true rfl) dX0_isAreaSound_9 ⟨Nat.zero_le _, Nat.zero_le _⟩ ?_
    refine pg_if_ne (tgt := 17) hx hb dX0_isAreaSound_12 (by decide) (⟨by omega, by omega⟩) (fun hc7 => absurd hc7 (by omega)) (fun hc7 => ?_)
    refine lv_iconst (v := iI 1) hx hb dX0_isAreaSound_15 rfl ?_
    exact pg_zret hx hb hr hlk  (iI_bool (by omega)) (congrArg (fun z : Int => some (Value.int (iI z))) (show 1 = 1 by omega)) dX0_isAreaSound_16
set_option maxRecDepth 100000 in
set_option maxHeartbeats 4000000 in
theorem c_X0_isSound (l : Launch) (X : pgX) (S : pgS) (hok : pgOk S)  : pg_ro l yX0_isSound wsX0_isSound (rm 6 138) (xB X S) [.ref ((xa X 0))] (some (.int (iI 1))) := by
  refine pg_ro_of (cc := cX0_isSound) (maxL := 1) (ret := (some .boolean)) (by decide) rfl (Nat.le_of_ble_eq_true rfl) ?_
  intro p e s m below meth c ls SC hr hlk hB hl
  obtain ⟨hx, hb, hml, hown, hts⟩ := id SC
  have hown : s.vm.findClass RX0 = some m.cls := hown
  obtain ⟨hP, hK⟩ := id hB
  have hl : lv_has ls 1 [(0, .ref ((xa X 0)))] := hl
  refine lv_aload_n hx hb dX0_isSound_0 rfl (lv_at hl 0 rfl) ?_
  refine pg_callV (As := []) (rest := []) SC (c_X0_arePairsSound l X S hok) xB_st (xB_h hP hK) (cwV 0 hts gX0_isSound_X0_arePairsSound rfl rfl rfl (by decide +kernel) ⟨Nat.le_of_ble_eq_true rfl, Nat.le_of_ble_eq_true rfl⟩) (va_recv hK hP (ci := 0) (q0 := 0) rfl rfl) rfl hl.1 rfl (Nat.le_of_ble_eq_true rfl) dX0_isSound_1 ⟨Nat.zero_le _, Nat.zero_le _⟩ ?_
  refine pg_if_eq (tgt := 25) hx hb dX0_isSound_4 (by decide) (⟨by omega, by omega⟩) (fun hc1 => absurd hc1 (by omega)) (fun hc1 => ?_)
  refine lv_aload_n hx hb dX0_isSound_7 rfl (lv_at hl 0 rfl) ?_
  refine pg_callV (As := []) (rest := []) SC (c_X0_areThreesSound l X S hok) xB_st (xB_h hP hK) (cwV 0 hts gX0_isSound_X0_areThreesSound rfl rfl rfl (by decide +kernel) ⟨Nat.le_of_ble_eq_true rfl, Nat.le_of_ble_eq_true rfl⟩) (va_recv hK hP (ci := 0) (q0 := 0) rfl rfl) rfl hl.1 rfl (Nat.le_of_ble_eq_true rfl) dX0_isSound_8 ⟨Nat.zero_le _, Nat.zero_le _⟩ ?_
  refine pg_if_eq (tgt := 25) hx hb dX0_isSound_11 (by decide) (⟨by omega, by omega⟩) (fun hc2 => absurd hc2 (by omega)) (fun hc2 => ?_)
  refine lv_aload_n hx hb dX0_isSound_14 rfl (lv_at hl 0 rfl) ?_
  refine pg_callV (As := []) (rest := []) SC (c_X0_isAreaSound l X S hok) xB_st (xB_h hP hK) (cwV 0 hts gX0_isSound_X0_isAreaSound rfl rfl rfl (by decide +kernel) ⟨Nat.le_of_ble_eq_true rfl, Nat.le_of_ble_eq_true rfl⟩) (va_recv hK hP (ci := 0) (q0 := 0) rfl rfl) rfl hl.1 rfl (Nat.le_of_ble_eq_true rfl) dX0_isSound_15 ⟨Nat.zero_le _, Nat.zero_le _⟩ ?_
  refine pg_if_eq (tgt := 25) hx hb dX0_isSound_18 (by decide) (⟨by omega, by omega⟩) (fun hc3 => absurd hc3 (by omega)) (fun hc3 => ?_)
  refine lv_iconst (v := iI 1) hx hb dX0_isSound_21 rfl ?_
  refine lv_goto (tgt := 26) hx hb dX0_isSound_22 (by decide) ?_
  exact pg_zret hx hb hr hlk  (iI_bool (by omega)) (congrArg (fun z : Int => some (Value.int (iI z))) (show 1 = 1 by omega)) dX0_isSound_26
set_option maxRecDepth 100000 in
set_option maxHeartbeats 4000000 in
theorem c_X0_moveTo (l : Launch) (X : pgX) (S : pgS) (k a u : Nat) (hk : k < 12) : pg_wr l yX0_moveTo wsX0_moveTo (rm 1 20) (xG X) (xTy X) pT (xC X S) (xC X (upN (sS S) k 1, upN (sA S) k a, upN (sU S) k u, sR S, sN S, sW S)) 0 0 [.ref ((xa X 0)), .int (iI (((k : Nat) : Int))), .int (iI (((a : Nat) : Int))), .int (iI (((u : Nat) : Int)))] (none) := by
  refine pg_wr_of (cc := cX0_moveTo) (maxL := 4) (ret := none) (by decide) rfl (Nat.le_of_ble_eq_true rfl) ?_
  intro p e s m below meth c ls SC hr hlk hP hK hD hS hB hl
  obtain ⟨hx, hb, hml, hown, hts⟩ := id SC
  have hown : s.vm.findClass RX0 = some m.cls := hown
  have hl : lv_has ls 4 [(0, .ref ((xa X 0))), (1, .int (iI (((k : Nat) : Int)))), (2, .int (iI (((a : Nat) : Int)))), (3, .int (iI (((u : Nat) : Int))))] := hl
  have hin : ∀ w ∈ u_ws RX0 TX0 6, w ∈ wsX0_moveTo := by decide +kernel
  refine lv_iload_n hx hb dX0_moveTo_0 rfl (lv_at hl 1 rfl) ?_
  refine pg_callS (As := [.int (iI (((k : Nat) : Int)))]) (rest := []) SC (c_X0_isPeg l (((k : Nat) : Int)) 1 ⟨by omega, by omega⟩ (by omega)) pT_st pT_h (va_cwS 1 hts gX0_moveTo_X0_isPeg rfl rfl rfl (by decide +kernel) ⟨Nat.le_of_ble_eq_true rfl, Nat.le_of_ble_eq_true rfl⟩) rfl hl.1 rfl (Nat.le_of_ble_eq_true rfl) dX0_moveTo_1 ⟨Nat.zero_le _, Nat.zero_le _⟩ ?_
  refine pg_if_eq (tgt := 28) hx hb dX0_moveTo_4 (by decide) (⟨by omega, by omega⟩) (fun hc1 => absurd hc1 (by omega)) (fun hc1 => ?_)
  refine lv_aload_n hx hb dX0_moveTo_7 rfl (lv_at hl 0 rfl) ?_
  refine va_get (D := xG X) (ci := 0) (v := .ref ((xa X 1))) (C := RX0) (T := TX0) (N := 6) hx hb hts hin hown hK hP 0 rfl rfl 0 (by decide) (hts (.fieldLink RX0 9 "Pegfield" "standing" "[Z") (by decide +kernel)) (fun _ h9 => h9) rfl dX0_moveTo_8 ?_
  refine lv_iload_n hx hb dX0_moveTo_11 rfl (lv_at hl 1 rfl) ?_
  refine lv_iconst (v := iI 1) hx hb dX0_moveTo_12 rfl ?_
  refine pg_zast hx hb hK hP hD hS 1 0 (f := (sS S)) rfl rfl k 1 (rfl) (rfl) (by omega) (by omega) (by decide) dX0_moveTo_13 (fun H locs hP hD hS => ?_)
  have hP : va_P (xG X) vwCl ([(xa X 0, .inr (0, [.ref ((xa X 1)), .ref ((xa X 2)), .ref ((xa X 3)), .ref ((xa X 4)), .int (iI (((sN S : Nat) : Int))), .int (iI (((sW S : Nat) : Int)))])), (xa X 1, .inl (xZ X, 12, .inl (fI (upN (sS S) k 1)))), (xa X 2, .inl (xI X, 12, .inl (fI (sA S)))), (xa X 3, .inl (xI X, 12, .inl (fI (sU S)))), (xa X 4, .inl (xI X, 12, .inl (fI (sR S))))]) H := hP
  have hD : va_D (pg_in ((xC X S))) ([(xa X 0, .inr (0, [.ref ((xa X 1)), .ref ((xa X 2)), .ref ((xa X 3)), .ref ((xa X 4)), .int (iI (((sN S : Nat) : Int))), .int (iI (((sW S : Nat) : Int)))])), (xa X 1, .inl (xZ X, 12, .inl (fI (upN (sS S) k 1)))), (xa X 2, .inl (xI X, 12, .inl (fI (sA S)))), (xa X 3, .inl (xI X, 12, .inl (fI (sU S)))), (xa X 4, .inl (xI X, 12, .inl (fI (sR S))))]) := hD
  refine lv_aload_n hx hb dX0_moveTo_14 rfl (lv_at hl 0 rfl) ?_
  refine va_get (D := xG X) (ci := 0) (v := .ref ((xa X 2))) (C := RX0) (T := TX0) (N := 6) hx hb hts hin hown hK hP 0 rfl rfl 1 (by decide) (hts (.fieldLink RX0 13 "Pegfield" "acrossOf" "[I") (by decide +kernel)) (fun _ h9 => h9) rfl dX0_moveTo_15 ?_
  refine lv_iload_n hx hb dX0_moveTo_18 rfl (lv_at hl 1 rfl) ?_
  refine lv_iload_n hx hb dX0_moveTo_19 rfl (lv_at hl 2 rfl) ?_
  refine pg_iast hx hb hK hP hD hS 2 1 (f := (sA S)) rfl rfl k a (rfl) (rfl) (by omega) (by decide) dX0_moveTo_20 (fun H locs hP hD hS => ?_)
  have hP : va_P (xG X) vwCl ([(xa X 0, .inr (0, [.ref ((xa X 1)), .ref ((xa X 2)), .ref ((xa X 3)), .ref ((xa X 4)), .int (iI (((sN S : Nat) : Int))), .int (iI (((sW S : Nat) : Int)))])), (xa X 1, .inl (xZ X, 12, .inl (fI (upN (sS S) k 1)))), (xa X 2, .inl (xI X, 12, .inl (fI (upN (sA S) k a)))), (xa X 3, .inl (xI X, 12, .inl (fI (sU S)))), (xa X 4, .inl (xI X, 12, .inl (fI (sR S))))]) H := hP
  have hD : va_D (pg_in ((xC X S))) ([(xa X 0, .inr (0, [.ref ((xa X 1)), .ref ((xa X 2)), .ref ((xa X 3)), .ref ((xa X 4)), .int (iI (((sN S : Nat) : Int))), .int (iI (((sW S : Nat) : Int)))])), (xa X 1, .inl (xZ X, 12, .inl (fI (upN (sS S) k 1)))), (xa X 2, .inl (xI X, 12, .inl (fI (upN (sA S) k a)))), (xa X 3, .inl (xI X, 12, .inl (fI (sU S)))), (xa X 4, .inl (xI X, 12, .inl (fI (sR S))))]) := hD
  refine lv_aload_n hx hb dX0_moveTo_21 rfl (lv_at hl 0 rfl) ?_
  refine va_get (D := xG X) (ci := 0) (v := .ref ((xa X 3))) (C := RX0) (T := TX0) (N := 6) hx hb hts hin hown hK hP 0 rfl rfl 2 (by decide) (hts (.fieldLink RX0 17 "Pegfield" "upOf" "[I") (by decide +kernel)) (fun _ h9 => h9) rfl dX0_moveTo_22 ?_
  refine lv_iload_n hx hb dX0_moveTo_25 rfl (lv_at hl 1 rfl) ?_
  refine lv_iload_n hx hb dX0_moveTo_26 rfl (lv_at hl 3 rfl) ?_
  refine pg_iast hx hb hK hP hD hS 3 1 (f := (sU S)) rfl rfl k u (rfl) (rfl) (by omega) (by decide) dX0_moveTo_27 (fun H locs hP hD hS => ?_)
  have hP : va_P (xG X) vwCl ([(xa X 0, .inr (0, [.ref ((xa X 1)), .ref ((xa X 2)), .ref ((xa X 3)), .ref ((xa X 4)), .int (iI (((sN S : Nat) : Int))), .int (iI (((sW S : Nat) : Int)))])), (xa X 1, .inl (xZ X, 12, .inl (fI (upN (sS S) k 1)))), (xa X 2, .inl (xI X, 12, .inl (fI (upN (sA S) k a)))), (xa X 3, .inl (xI X, 12, .inl (fI (upN (sU S) k u)))), (xa X 4, .inl (xI X, 12, .inl (fI (sR S))))]) H := hP
  have hD : va_D (pg_in ((xC X S))) ([(xa X 0, .inr (0, [.ref ((xa X 1)), .ref ((xa X 2)), .ref ((xa X 3)), .ref ((xa X 4)), .int (iI (((sN S : Nat) : Int))), .int (iI (((sW S : Nat) : Int)))])), (xa X 1, .inl (xZ X, 12, .inl (fI (upN (sS S) k 1)))), (xa X 2, .inl (xI X, 12, .inl (fI (upN (sA S) k a)))), (xa X 3, .inl (xI X, 12, .inl (fI (upN (sU S) k u)))), (xa X 4, .inl (xI X, 12, .inl (fI (sR S))))]) := hD
  exact pg_wvret hx hb hr hlk hP hS  rfl dX0_moveTo_28
set_option maxRecDepth 100000 in
set_option maxHeartbeats 4000000 in
theorem c_X0_put_ok (l : Launch) (X : pgX) (S : pgS) (k a u : Nat) (hk : k < 12) (ha : a < 91) (hu : u < 91) (h1 : sS S k ≤ 1) : pg_wr l yX0_put wsX0_put (rm 2 43) (xG X) (xTy X) pT (xC X S) (xC X (upN (sS S) k 1, upN (sA S) k a, upN (sU S) k u, sR S, sN S, sW S)) 0 0 [.ref ((xa X 0)), .int (iI (((k : Nat) : Int))), .int (iI (((a : Nat) : Int))), .int (iI (((u : Nat) : Int)))] (some (.int (iI (1 - (sS S k : Int))))) := by
  refine pg_wr_of (cc := cX0_put) (maxL := 5) (ret := (some .boolean)) (by decide) rfl (Nat.le_of_ble_eq_true rfl) ?_
  intro p e s m below meth c ls SC hr hlk hP hK hD hS hB hl
  obtain ⟨hx, hb, hml, hown, hts⟩ := id SC
  have hown : s.vm.findClass RX0 = some m.cls := hown
  have hl : lv_has ls 5 [(0, .ref ((xa X 0))), (1, .int (iI (((k : Nat) : Int)))), (2, .int (iI (((a : Nat) : Int)))), (3, .int (iI (((u : Nat) : Int))))] := hl
  refine lv_iload_n hx hb dX0_put_0 rfl (lv_at hl 1 rfl) ?_
  refine pg_callSv (As := [.int (iI (((k : Nat) : Int)))]) (rest := []) SC (c_X0_requirePeg_ok l (((k : Nat) : Int)) ⟨by omega, by omega⟩) pT_st pT_h (va_cwS 1 hts gX0_put_X0_requirePeg rfl rfl rfl (by decide +kernel) ⟨Nat.le_of_ble_eq_true rfl, Nat.le_of_ble_eq_true rfl⟩) rfl hl.1 rfl (Nat.le_of_ble_eq_true rfl) dX0_put_1 ⟨Nat.zero_le _, Nat.zero_le _⟩ ?_
  refine lv_iload_n hx hb dX0_put_4 rfl (lv_at hl 2 rfl) ?_
  refine pg_callS (As := [.int (iI (((a : Nat) : Int)))]) (rest := []) SC (c_X0_isPlace l (((a : Nat) : Int)) 1 ⟨by omega, by omega⟩ (by omega)) pT_st pT_h (va_cwS 1 hts gX0_put_X0_isPlace rfl rfl rfl (by decide +kernel) ⟨Nat.le_of_ble_eq_true rfl, Nat.le_of_ble_eq_true rfl⟩) rfl hl.1 rfl (Nat.le_of_ble_eq_true rfl) dX0_put_5 ⟨Nat.zero_le _, Nat.zero_le _⟩ ?_
  refine pg_if_eq (tgt := 18) hx hb dX0_put_8 (by decide) (⟨by omega, by omega⟩) (fun hc1 => absurd hc1 (by omega)) (fun hc1 => ?_)
  refine lv_iload_n hx hb dX0_put_11 rfl (lv_at hl 3 rfl) ?_
  refine pg_callS (As := [.int (iI (((u : Nat) : Int)))]) (rest := []) SC (c_X0_isPlace l (((u : Nat) : Int)) 1 ⟨by omega, by omega⟩ (by omega)) pT_st pT_h (va_cwS 1 hts gX0_put_X0_isPlace rfl rfl rfl (by decide +kernel) ⟨Nat.le_of_ble_eq_true rfl, Nat.le_of_ble_eq_true rfl⟩) rfl hl.1 rfl (Nat.le_of_ble_eq_true rfl) dX0_put_12 ⟨Nat.zero_le _, Nat.zero_le _⟩ ?_
  refine pg_if_ne (tgt := 28) hx hb dX0_put_15 (by decide) (⟨by omega, by omega⟩) (fun hc2 => ?_) (fun hc2 => absurd hc2 (by omega))
  refine lv_aload_n hx hb dX0_put_28 rfl (lv_at hl 0 rfl) ?_
  refine lv_iload_n hx hb dX0_put_29 rfl (lv_at hl 1 rfl) ?_
  refine pg_callV (As := [.int (iI (((k : Nat) : Int)))]) (rest := []) SC (c_X0_stands l X S k hk h1) xB_st (xB_h hP hK) (cwV 1 hts gX0_put_X0_stands rfl rfl rfl (by decide +kernel) ⟨Nat.le_of_ble_eq_true rfl, Nat.le_of_ble_eq_true rfl⟩) (va_recv hK hP (ci := 0) (q0 := 0) rfl rfl) rfl hl.1 rfl (Nat.le_of_ble_eq_true rfl) dX0_put_30 ⟨Nat.zero_le _, Nat.zero_le _⟩ ?_
  refine pg_if_ne (tgt := 40) hx hb dX0_put_33 (by decide) (⟨by omega, by omega⟩) (fun hc3 => ?_) (fun hc3 => ?_)
  · refine lv_iconst (v := iI 0) hx hb dX0_put_40 rfl ?_
    refine lv_istore (lv' := [(4, .int (iI 0)), (0, .ref ((xa X 0))), (1, .int (iI (((k : Nat) : Int)))), (2, .int (iI (((a : Nat) : Int)))), (3, .int (iI (((u : Nat) : Int))))]) hx hb dX0_put_41 hl (by decide) rfl (fun ls hl => ?_)
    refine lv_aload_n hx hb dX0_put_43 rfl (lv_at hl 1 rfl) ?_
    refine lv_iload_n hx hb dX0_put_44 rfl (lv_at hl 2 rfl) ?_
    refine lv_iload_n hx hb dX0_put_45 rfl (lv_at hl 3 rfl) ?_
    refine lv_iload_n hx hb dX0_put_46 rfl (lv_at hl 4 rfl) ?_
    refine pg_wcallVv (As := [.int (iI (((k : Nat) : Int))), .int (iI (((a : Nat) : Int))), .int (iI (((u : Nat) : Int)))]) (rest := []) (l1 := []) (l2 := []) (w := [(xa X 0, .inr (0, [.ref ((xa X 1)), .ref ((xa X 2)), .ref ((xa X 3)), .ref ((xa X 4)), .int (iI (((sN S : Nat) : Int))), .int (iI (((sW S : Nat) : Int)))])), (xa X 1, .inl (xZ X, 12, .inl (fI (sS S)))), (xa X 2, .inl (xI X, 12, .inl (fI (sA S)))), (xa X 3, .inl (xI X, 12, .inl (fI (sU S)))), (xa X 4, .inl (xI X, 12, .inl (fI (sR S))))]) (w' := [(xa X 0, .inr (0, [.ref ((xa X 1)), .ref ((xa X 2)), .ref ((xa X 3)), .ref ((xa X 4)), .int (iI (((sN S : Nat) : Int))), .int (iI (((sW S : Nat) : Int)))])), (xa X 1, .inl (xZ X, 12, .inl (fI (upN (sS S) k 1)))), (xa X 2, .inl (xI X, 12, .inl (fI (upN (sA S) k a)))), (xa X 3, .inl (xI X, 12, .inl (fI (upN (sU S) k u)))), (xa X 4, .inl (xI X, 12, .inl (fI (sR S))))]) SC (c_X0_moveTo l X S k a u hk) pT_st pT_h (cwV 3 hts gX0_put_X0_moveTo rfl rfl rfl (by decide +kernel) ⟨Nat.le_of_ble_eq_true rfl, Nat.le_of_ble_eq_true rfl⟩) (va_recv hK hP (ci := 0) (q0 := 0) rfl rfl) hK hP hD hS rfl rfl hl.1 rfl (Nat.le_of_ble_eq_true rfl) dX0_put_47 ⟨Nat.zero_le _, Nat.zero_le _⟩ (fun H locs hP hD hS => ?_)
    have hP : va_P (xG X) vwCl ([(xa X 0, .inr (0, [.ref ((xa X 1)), .ref ((xa X 2)), .ref ((xa X 3)), .ref ((xa X 4)), .int (iI (((sN S : Nat) : Int))), .int (iI (((sW S : Nat) : Int)))])), (xa X 1, .inl (xZ X, 12, .inl (fI (upN (sS S) k 1)))), (xa X 2, .inl (xI X, 12, .inl (fI (upN (sA S) k a)))), (xa X 3, .inl (xI X, 12, .inl (fI (upN (sU S) k u)))), (xa X 4, .inl (xI X, 12, .inl (fI (sR S))))]) H := hP
    have hD : va_D (pg_in ((xC X S))) ([(xa X 0, .inr (0, [.ref ((xa X 1)), .ref ((xa X 2)), .ref ((xa X 3)), .ref ((xa X 4)), .int (iI (((sN S : Nat) : Int))), .int (iI (((sW S : Nat) : Int)))])), (xa X 1, .inl (xZ X, 12, .inl (fI (upN (sS S) k 1)))), (xa X 2, .inl (xI X, 12, .inl (fI (upN (sA S) k a)))), (xa X 3, .inl (xI X, 12, .inl (fI (upN (sU S) k u)))), (xa X 4, .inl (xI X, 12, .inl (fI (sR S))))]) := hD
    refine lv_iload hx hb dX0_put_50 (lv_at hl 0 rfl) ?_
    exact pg_wzret hx hb hr hlk hP hS  (iI_bool (by omega)) (congrArg (fun z : Int => some (Value.int (iI z))) (show 1 - (sS S k : Int) = 0 by omega)) dX0_put_52
  · refine lv_iconst (v := iI 1) hx hb dX0_put_36 rfl ?_
    refine lv_goto (tgt := 41) hx hb dX0_put_37 (by decide) ?_
    refine lv_istore (lv' := [(4, .int (iI 1)), (0, .ref ((xa X 0))), (1, .int (iI (((k : Nat) : Int)))), (2, .int (iI (((a : Nat) : Int)))), (3, .int (iI (((u : Nat) : Int))))]) hx hb dX0_put_41 hl (by decide) rfl (fun ls hl => ?_)
    refine lv_aload_n hx hb dX0_put_43 rfl (lv_at hl 1 rfl) ?_
    refine lv_iload_n hx hb dX0_put_44 rfl (lv_at hl 2 rfl) ?_
    refine lv_iload_n hx hb dX0_put_45 rfl (lv_at hl 3 rfl) ?_
    refine lv_iload_n hx hb dX0_put_46 rfl (lv_at hl 4 rfl) ?_
    refine pg_wcallVv (As := [.int (iI (((k : Nat) : Int))), .int (iI (((a : Nat) : Int))), .int (iI (((u : Nat) : Int)))]) (rest := []) (l1 := []) (l2 := []) (w := [(xa X 0, .inr (0, [.ref ((xa X 1)), .ref ((xa X 2)), .ref ((xa X 3)), .ref ((xa X 4)), .int (iI (((sN S : Nat) : Int))), .int (iI (((sW S : Nat) : Int)))])), (xa X 1, .inl (xZ X, 12, .inl (fI (sS S)))), (xa X 2, .inl (xI X, 12, .inl (fI (sA S)))), (xa X 3, .inl (xI X, 12, .inl (fI (sU S)))), (xa X 4, .inl (xI X, 12, .inl (fI (sR S))))]) (w' := [(xa X 0, .inr (0, [.ref ((xa X 1)), .ref ((xa X 2)), .ref ((xa X 3)), .ref ((xa X 4)), .int (iI (((sN S : Nat) : Int))), .int (iI (((sW S : Nat) : Int)))])), (xa X 1, .inl (xZ X, 12, .inl (fI (upN (sS S) k 1)))), (xa X 2, .inl (xI X, 12, .inl (fI (upN (sA S) k a)))), (xa X 3, .inl (xI X, 12, .inl (fI (upN (sU S) k u)))), (xa X 4, .inl (xI X, 12, .inl (fI (sR S))))]) SC (c_X0_moveTo l X S k a u hk) pT_st pT_h (cwV 3 hts gX0_put_X0_moveTo rfl rfl rfl (by decide +kernel) ⟨Nat.le_of_ble_eq_true rfl, Nat.le_of_ble_eq_true rfl⟩) (va_recv hK hP (ci := 0) (q0 := 0) rfl rfl) hK hP hD hS rfl rfl hl.1 rfl (Nat.le_of_ble_eq_true rfl) dX0_put_47 ⟨Nat.zero_le _, Nat.zero_le _⟩ (fun H locs hP hD hS => ?_)
    have hP : va_P (xG X) vwCl ([(xa X 0, .inr (0, [.ref ((xa X 1)), .ref ((xa X 2)), .ref ((xa X 3)), .ref ((xa X 4)), .int (iI (((sN S : Nat) : Int))), .int (iI (((sW S : Nat) : Int)))])), (xa X 1, .inl (xZ X, 12, .inl (fI (upN (sS S) k 1)))), (xa X 2, .inl (xI X, 12, .inl (fI (upN (sA S) k a)))), (xa X 3, .inl (xI X, 12, .inl (fI (upN (sU S) k u)))), (xa X 4, .inl (xI X, 12, .inl (fI (sR S))))]) H := hP
    have hD : va_D (pg_in ((xC X S))) ([(xa X 0, .inr (0, [.ref ((xa X 1)), .ref ((xa X 2)), .ref ((xa X 3)), .ref ((xa X 4)), .int (iI (((sN S : Nat) : Int))), .int (iI (((sW S : Nat) : Int)))])), (xa X 1, .inl (xZ X, 12, .inl (fI (upN (sS S) k 1)))), (xa X 2, .inl (xI X, 12, .inl (fI (upN (sA S) k a)))), (xa X 3, .inl (xI X, 12, .inl (fI (upN (sU S) k u)))), (xa X 4, .inl (xI X, 12, .inl (fI (sR S))))]) := hD
    refine lv_iload hx hb dX0_put_50 (lv_at hl 0 rfl) ?_
    exact pg_wzret hx hb hr hlk hP hS  (iI_bool (by omega)) (congrArg (fun z : Int => some (Value.int (iI z))) (show 1 - (sS S k : Int) = 1 by omega)) dX0_put_52
set_option maxRecDepth 100000 in
set_option maxHeartbeats 4000000 in
theorem c_X0_take_ok (l : Launch) (X : pgX) (S : pgS) (hok : pgOk S) (k : Nat) (hk : k < 12) (h1 : sS S k = 1) (hr9 : ∀ j, j < sN S → sR S j ≠ k) : pg_wr l yX0_take wsX0_take (rm 3 62) (xG X) (xTy X) pT (xC X S) (xC X (upN (sS S) k 0, sA S, sU S, sR S, sN S, sW S)) 0 0 [.ref ((xa X 0)), .int (iI (((k : Nat) : Int)))] (none) := by
  refine pg_wr_of (cc := cX0_take) (maxL := 2) (ret := none) (by decide) rfl (Nat.le_of_ble_eq_true rfl) ?_
  intro p e s m below meth c ls SC hr hlk hP hK hD hS hB hl
  obtain ⟨hx, hb, hml, hown, hts⟩ := id SC
  have hown : s.vm.findClass RX0 = some m.cls := hown
  have hl : lv_has ls 2 [(0, .ref ((xa X 0))), (1, .int (iI (((k : Nat) : Int))))] := hl
  have hin : ∀ w ∈ u_ws RX0 TX0 6, w ∈ wsX0_take := by decide +kernel
  refine lv_iload_n hx hb dX0_take_0 rfl (lv_at hl 1 rfl) ?_
  refine pg_callSv (As := [.int (iI (((k : Nat) : Int)))]) (rest := []) SC (c_X0_requirePeg_ok l (((k : Nat) : Int)) ⟨by omega, by omega⟩) pT_st pT_h (va_cwS 1 hts gX0_take_X0_requirePeg rfl rfl rfl (by decide +kernel) ⟨Nat.le_of_ble_eq_true rfl, Nat.le_of_ble_eq_true rfl⟩) rfl hl.1 rfl (Nat.le_of_ble_eq_true rfl) dX0_take_1 ⟨Nat.zero_le _, Nat.zero_le _⟩ ?_
  refine lv_aload_n hx hb dX0_take_4 rfl (lv_at hl 0 rfl) ?_
  refine lv_iload_n hx hb dX0_take_5 rfl (lv_at hl 1 rfl) ?_
  refine pg_callVv (As := [.int (iI (((k : Nat) : Int)))]) (rest := []) SC (c_X0_requireStanding_ok l X S k hk h1) xB_st (xB_h hP hK) (cwV 1 hts gX0_take_X0_requireStanding rfl rfl rfl (by decide +kernel) ⟨Nat.le_of_ble_eq_true rfl, Nat.le_of_ble_eq_true rfl⟩) (va_recv hK hP (ci := 0) (q0 := 0) rfl rfl) rfl hl.1 rfl (Nat.le_of_ble_eq_true rfl) dX0_take_6 ⟨Nat.zero_le _, Nat.zero_le _⟩ ?_
  refine lv_aload_n hx hb dX0_take_9 rfl (lv_at hl 0 rfl) ?_
  refine lv_iload_n hx hb dX0_take_10 rfl (lv_at hl 1 rfl) ?_
  refine pg_callV (As := [.int (iI (((k : Nat) : Int)))]) (rest := []) SC (c_X0_isInRing l X S hok k hk 0 (Or.inr ⟨hr9, rfl⟩)) xB_st (xB_h hP hK) (cwV 1 hts gX0_take_X0_isInRing rfl rfl rfl (by decide +kernel) ⟨Nat.le_of_ble_eq_true rfl, Nat.le_of_ble_eq_true rfl⟩) (va_recv hK hP (ci := 0) (q0 := 0) rfl rfl) rfl hl.1 rfl (Nat.le_of_ble_eq_true rfl) dX0_take_11 ⟨Nat.zero_le _, Nat.zero_le _⟩ ?_
  refine pg_if_eq (tgt := 27) hx hb dX0_take_14 (by decide) (⟨by omega, by omega⟩) (fun hc1 => ?_) (fun hc1 => absurd hc1 (by omega))
  refine lv_iload_n hx hb dX0_take_27 rfl (lv_at hl 1 rfl) ?_
  refine pg_callS (As := [.int (iI (((k : Nat) : Int)))]) (rest := []) SC (c_X0_isPeg l (((k : Nat) : Int)) 1 ⟨by omega, by omega⟩ (by omega)) pT_st pT_h (va_cwS 1 hts gX0_take_X0_isPeg rfl rfl rfl (by decide +kernel) ⟨Nat.le_of_ble_eq_true rfl, Nat.le_of_ble_eq_true rfl⟩) rfl hl.1 rfl (Nat.le_of_ble_eq_true rfl) dX0_take_28 ⟨Nat.zero_le _, Nat.zero_le _⟩ ?_
  refine pg_if_eq (tgt := 41) hx hb dX0_take_31 (by decide) (⟨by omega, by omega⟩) (fun hc2 => absurd hc2 (by omega)) (fun hc2 => ?_)
  refine lv_aload_n hx hb dX0_take_34 rfl (lv_at hl 0 rfl) ?_
  refine va_get (D := xG X) (ci := 0) (v := .ref ((xa X 1))) (C := RX0) (T := TX0) (N := 6) hx hb hts hin hown hK hP 0 rfl rfl 0 (by decide) (hts (.fieldLink RX0 9 "Pegfield" "standing" "[Z") (by decide +kernel)) (fun _ h9 => h9) rfl dX0_take_35 ?_
  refine lv_iload_n hx hb dX0_take_38 rfl (lv_at hl 1 rfl) ?_
  refine lv_iconst (v := iI 0) hx hb dX0_take_39 rfl ?_
  refine pg_zast hx hb hK hP hD hS 1 0 (f := (sS S)) rfl rfl k 0 (rfl) (rfl) (by omega) (by omega) (by decide) dX0_take_40 (fun H locs hP hD hS => ?_)
  have hP : va_P (xG X) vwCl ([(xa X 0, .inr (0, [.ref ((xa X 1)), .ref ((xa X 2)), .ref ((xa X 3)), .ref ((xa X 4)), .int (iI (((sN S : Nat) : Int))), .int (iI (((sW S : Nat) : Int)))])), (xa X 1, .inl (xZ X, 12, .inl (fI (upN (sS S) k 0)))), (xa X 2, .inl (xI X, 12, .inl (fI (sA S)))), (xa X 3, .inl (xI X, 12, .inl (fI (sU S)))), (xa X 4, .inl (xI X, 12, .inl (fI (sR S))))]) H := hP
  have hD : va_D (pg_in ((xC X S))) ([(xa X 0, .inr (0, [.ref ((xa X 1)), .ref ((xa X 2)), .ref ((xa X 3)), .ref ((xa X 4)), .int (iI (((sN S : Nat) : Int))), .int (iI (((sW S : Nat) : Int)))])), (xa X 1, .inl (xZ X, 12, .inl (fI (upN (sS S) k 0)))), (xa X 2, .inl (xI X, 12, .inl (fI (sA S)))), (xa X 3, .inl (xI X, 12, .inl (fI (sU S)))), (xa X 4, .inl (xI X, 12, .inl (fI (sR S))))]) := hD
  exact pg_wvret hx hb hr hlk hP hS  rfl dX0_take_41
set_option maxRecDepth 100000 in
set_option maxHeartbeats 4000000 in
theorem c_X0_step_n (l : Launch) (X : pgX) (S : pgS) (k a2 u2 : Nat) (hk : k < 12) (h1 : sS S k = 1) (ha9 : a2 < 91) (hu9 : u2 < 91) (ha : a2 = sA S k) (hu : u2 = sU S k + 1) : pg_wr l yX0_step wsX0_step (rm 3 62) (xG X) (xTy X) pT (xC X S) (xC X (upN (sS S) k 1, upN (sA S) k a2, upN (sU S) k u2, sR S, sN S, sW S)) 0 0 [.ref ((xa X 0)), .int (iI (((k : Nat) : Int))), .int (iI 110)] (some (.int (iI 1))) := by
  refine pg_wr_of (cc := cX0_step) (maxL := 5) (ret := (some .boolean)) (by decide) rfl (Nat.le_of_ble_eq_true rfl) ?_
  intro p e s m below meth c ls SC hr hlk hP hK hD hS hB hl
  obtain ⟨hx, hb, hml, hown, hts⟩ := id SC
  have hown : s.vm.findClass RX0 = some m.cls := hown
  have hl : lv_has ls 5 [(0, .ref ((xa X 0))), (1, .int (iI (((k : Nat) : Int)))), (2, .int (iI 110))] := hl
  refine lv_iload_n hx hb dX0_step_0 rfl (lv_at hl 1 rfl) ?_
  refine pg_callSv (As := [.int (iI (((k : Nat) : Int)))]) (rest := []) SC (c_X0_requirePeg_ok l (((k : Nat) : Int)) ⟨by omega, by omega⟩) pT_st pT_h (va_cwS 1 hts gX0_step_X0_requirePeg rfl rfl rfl (by decide +kernel) ⟨Nat.le_of_ble_eq_true rfl, Nat.le_of_ble_eq_true rfl⟩) rfl hl.1 rfl (Nat.le_of_ble_eq_true rfl) dX0_step_1 ⟨Nat.zero_le _, Nat.zero_le _⟩ ?_
  refine lv_aload_n hx hb dX0_step_4 rfl (lv_at hl 0 rfl) ?_
  refine lv_iload_n hx hb dX0_step_5 rfl (lv_at hl 1 rfl) ?_
  refine pg_callVv (As := [.int (iI (((k : Nat) : Int)))]) (rest := []) SC (c_X0_requireStanding_ok l X S k hk h1) xB_st (xB_h hP hK) (cwV 1 hts gX0_step_X0_requireStanding rfl rfl rfl (by decide +kernel) ⟨Nat.le_of_ble_eq_true rfl, Nat.le_of_ble_eq_true rfl⟩) (va_recv hK hP (ci := 0) (q0 := 0) rfl rfl) rfl hl.1 rfl (Nat.le_of_ble_eq_true rfl) dX0_step_6 ⟨Nat.zero_le _, Nat.zero_le _⟩ ?_
  refine lv_iload_n hx hb dX0_step_9 rfl (lv_at hl 2 rfl) ?_
  refine lv_bipush (v := iI 110) hx hb dX0_step_10 (by decide +kernel) ?_
  refine pg_icmp_eq (tgt := 43) hx hb dX0_step_12 (by decide) (⟨by omega, by omega⟩) (⟨by omega, by omega⟩) (fun hc1 => ?_) (fun hc1 => absurd hc1 (by omega))
  refine lv_aload_n hx hb dX0_step_43 rfl (lv_at hl 0 rfl) ?_
  refine lv_iload_n hx hb dX0_step_44 rfl (lv_at hl 1 rfl) ?_
  refine pg_callV (As := [.int (iI (((k : Nat) : Int)))]) (rest := []) SC (c_X0_across l X S k hk) xB_st (xB_h hP hK) (cwV 1 hts gX0_step_X0_across rfl rfl rfl (by decide +kernel) ⟨Nat.le_of_ble_eq_true rfl, Nat.le_of_ble_eq_true rfl⟩) (va_recv hK hP (ci := 0) (q0 := 0) rfl rfl) rfl hl.1 rfl (Nat.le_of_ble_eq_true rfl) dX0_step_45 ⟨Nat.zero_le _, Nat.zero_le _⟩ ?_
  refine lv_iload_n hx hb dX0_step_48 rfl (lv_at hl 2 rfl) ?_
  refine lv_bipush (v := iI 101) hx hb dX0_step_49 (by decide +kernel) ?_
  refine pg_icmp_ne (tgt := 58) hx hb dX0_step_51 (by decide) (⟨by omega, by omega⟩) (⟨by omega, by omega⟩) (fun hc2 => ?_) (fun hc2 => absurd hc2 (by omega))
  refine lv_iload_n hx hb dX0_step_58 rfl (lv_at hl 2 rfl) ?_
  refine lv_bipush (v := iI 119) hx hb dX0_step_59 (by decide +kernel) ?_
  refine pg_icmp_ne (tgt := 68) hx hb dX0_step_61 (by decide) (⟨by omega, by omega⟩) (⟨by omega, by omega⟩) (fun hc3 => ?_) (fun hc3 => absurd hc3 (by omega))
  refine lv_iconst (v := iI 0) hx hb dX0_step_68 rfl ?_
  refine pg_iadd (z := ((a2 : Nat) : Int)) hx hb dX0_step_69 (by omega) ?_
  refine lv_istore_n (lv' := [(3, .int (iI (((a2 : Nat) : Int)))), (0, .ref ((xa X 0))), (1, .int (iI (((k : Nat) : Int)))), (2, .int (iI 110))]) hx hb dX0_step_70 rfl hl (by decide) rfl (fun ls hl => ?_)
  refine lv_aload_n hx hb dX0_step_71 rfl (lv_at hl 1 rfl) ?_
  refine lv_iload_n hx hb dX0_step_72 rfl (lv_at hl 2 rfl) ?_
  refine pg_callV (As := [.int (iI (((k : Nat) : Int)))]) (rest := []) SC (c_X0_up l X S k hk) xB_st (xB_h hP hK) (cwV 1 hts gX0_step_X0_up rfl rfl rfl (by decide +kernel) ⟨Nat.le_of_ble_eq_true rfl, Nat.le_of_ble_eq_true rfl⟩) (va_recv hK hP (ci := 0) (q0 := 0) rfl rfl) rfl hl.1 rfl (Nat.le_of_ble_eq_true rfl) dX0_step_73 ⟨Nat.zero_le _, Nat.zero_le _⟩ ?_
  refine lv_iload_n hx hb dX0_step_76 rfl (lv_at hl 3 rfl) ?_
  refine lv_bipush (v := iI 110) hx hb dX0_step_77 (by decide +kernel) ?_
  refine pg_icmp_ne (tgt := 86) hx hb dX0_step_79 (by decide) (⟨by omega, by omega⟩) (⟨by omega, by omega⟩) (fun hc4 => absurd hc4 (by omega)) (fun hc4 => ?_)
  refine lv_iconst (v := iI 1) hx hb dX0_step_82 rfl ?_
  refine lv_goto (tgt := 97) hx hb dX0_step_83 (by decide) ?_
  refine pg_iadd (z := ((u2 : Nat) : Int)) hx hb dX0_step_97 (by omega) ?_
  refine lv_istore (lv' := [(4, .int (iI (((u2 : Nat) : Int)))), (3, .int (iI (((a2 : Nat) : Int)))), (0, .ref ((xa X 0))), (1, .int (iI (((k : Nat) : Int)))), (2, .int (iI 110))]) hx hb dX0_step_98 hl (by decide) rfl (fun ls hl => ?_)
  refine lv_iload_n hx hb dX0_step_100 rfl (lv_at hl 1 rfl) ?_
  refine pg_callS (As := [.int (iI (((a2 : Nat) : Int)))]) (rest := []) SC (c_X0_isPlace l (((a2 : Nat) : Int)) 1 ⟨by omega, by omega⟩ (by omega)) pT_st pT_h (va_cwS 1 hts gX0_step_X0_isPlace rfl rfl rfl (by decide +kernel) ⟨Nat.le_of_ble_eq_true rfl, Nat.le_of_ble_eq_true rfl⟩) rfl hl.1 rfl (Nat.le_of_ble_eq_true rfl) dX0_step_101 ⟨Nat.zero_le _, Nat.zero_le _⟩ ?_
  refine pg_if_eq (tgt := 115) hx hb dX0_step_104 (by decide) (⟨by omega, by omega⟩) (fun hc5 => absurd hc5 (by omega)) (fun hc5 => ?_)
  refine lv_iload hx hb dX0_step_107 (lv_at hl 0 rfl) ?_
  refine pg_callS (As := [.int (iI (((u2 : Nat) : Int)))]) (rest := []) SC (c_X0_isPlace l (((u2 : Nat) : Int)) 1 ⟨by omega, by omega⟩ (by omega)) pT_st pT_h (va_cwS 1 hts gX0_step_X0_isPlace rfl rfl rfl (by decide +kernel) ⟨Nat.le_of_ble_eq_true rfl, Nat.le_of_ble_eq_true rfl⟩) rfl hl.1 rfl (Nat.le_of_ble_eq_true rfl) dX0_step_109 ⟨Nat.zero_le _, Nat.zero_le _⟩ ?_
  refine pg_if_ne (tgt := 117) hx hb dX0_step_112 (by decide) (⟨by omega, by omega⟩) (fun hc6 => ?_) (fun hc6 => absurd hc6 (by omega))
  refine lv_aload_n hx hb dX0_step_117 rfl (lv_at hl 2 rfl) ?_
  refine lv_iload_n hx hb dX0_step_118 rfl (lv_at hl 3 rfl) ?_
  refine lv_iload_n hx hb dX0_step_119 rfl (lv_at hl 1 rfl) ?_
  refine lv_iload hx hb dX0_step_120 (lv_at hl 0 rfl) ?_
  refine pg_wcallVv (As := [.int (iI (((k : Nat) : Int))), .int (iI (((a2 : Nat) : Int))), .int (iI (((u2 : Nat) : Int)))]) (rest := []) (l1 := []) (l2 := []) (w := [(xa X 0, .inr (0, [.ref ((xa X 1)), .ref ((xa X 2)), .ref ((xa X 3)), .ref ((xa X 4)), .int (iI (((sN S : Nat) : Int))), .int (iI (((sW S : Nat) : Int)))])), (xa X 1, .inl (xZ X, 12, .inl (fI (sS S)))), (xa X 2, .inl (xI X, 12, .inl (fI (sA S)))), (xa X 3, .inl (xI X, 12, .inl (fI (sU S)))), (xa X 4, .inl (xI X, 12, .inl (fI (sR S))))]) (w' := [(xa X 0, .inr (0, [.ref ((xa X 1)), .ref ((xa X 2)), .ref ((xa X 3)), .ref ((xa X 4)), .int (iI (((sN S : Nat) : Int))), .int (iI (((sW S : Nat) : Int)))])), (xa X 1, .inl (xZ X, 12, .inl (fI (upN (sS S) k 1)))), (xa X 2, .inl (xI X, 12, .inl (fI (upN (sA S) k a2)))), (xa X 3, .inl (xI X, 12, .inl (fI (upN (sU S) k u2)))), (xa X 4, .inl (xI X, 12, .inl (fI (sR S))))]) SC (c_X0_moveTo l X S k a2 u2 hk) pT_st pT_h (cwV 3 hts gX0_step_X0_moveTo rfl rfl rfl (by decide +kernel) ⟨Nat.le_of_ble_eq_true rfl, Nat.le_of_ble_eq_true rfl⟩) (va_recv hK hP (ci := 0) (q0 := 0) rfl rfl) hK hP hD hS rfl rfl hl.1 rfl (Nat.le_of_ble_eq_true rfl) dX0_step_122 ⟨Nat.zero_le _, Nat.zero_le _⟩ (fun H locs hP hD hS => ?_)
  have hP : va_P (xG X) vwCl ([(xa X 0, .inr (0, [.ref ((xa X 1)), .ref ((xa X 2)), .ref ((xa X 3)), .ref ((xa X 4)), .int (iI (((sN S : Nat) : Int))), .int (iI (((sW S : Nat) : Int)))])), (xa X 1, .inl (xZ X, 12, .inl (fI (upN (sS S) k 1)))), (xa X 2, .inl (xI X, 12, .inl (fI (upN (sA S) k a2)))), (xa X 3, .inl (xI X, 12, .inl (fI (upN (sU S) k u2)))), (xa X 4, .inl (xI X, 12, .inl (fI (sR S))))]) H := hP
  have hD : va_D (pg_in ((xC X S))) ([(xa X 0, .inr (0, [.ref ((xa X 1)), .ref ((xa X 2)), .ref ((xa X 3)), .ref ((xa X 4)), .int (iI (((sN S : Nat) : Int))), .int (iI (((sW S : Nat) : Int)))])), (xa X 1, .inl (xZ X, 12, .inl (fI (upN (sS S) k 1)))), (xa X 2, .inl (xI X, 12, .inl (fI (upN (sA S) k a2)))), (xa X 3, .inl (xI X, 12, .inl (fI (upN (sU S) k u2)))), (xa X 4, .inl (xI X, 12, .inl (fI (sR S))))]) := hD
  refine lv_iconst (v := iI 1) hx hb dX0_step_125 rfl ?_
  exact pg_wzret hx hb hr hlk hP hS  (iI_bool (by omega)) (congrArg (fun z : Int => some (Value.int (iI z))) (show 1 = 1 by omega)) dX0_step_126
set_option maxRecDepth 100000 in
set_option maxHeartbeats 4000000 in
theorem c_X0_stepno_n (l : Launch) (X : pgX) (S : pgS) (hok : pgOk S) (k : Nat) (hk : k < 12) (h1 : sS S k = 1) (hed : sU S k = 90) : pg_ro l yX0_step wsX0_step (rm 3 62) (xB X S) [.ref ((xa X 0)), .int (iI (((k : Nat) : Int))), .int (iI 110)] (some (.int (iI 0))) := by
  refine pg_ro_of (cc := cX0_step) (maxL := 5) (ret := (some .boolean)) (by decide) rfl (Nat.le_of_ble_eq_true rfl) ?_
  intro p e s m below meth c ls SC hr hlk hB hl
  obtain ⟨hx, hb, hml, hown, hts⟩ := id SC
  have hown : s.vm.findClass RX0 = some m.cls := hown
  obtain ⟨hP, hK⟩ := id hB
  have hl : lv_has ls 5 [(0, .ref ((xa X 0))), (1, .int (iI (((k : Nat) : Int)))), (2, .int (iI 110))] := hl
  have q2 := hok.2.1 k
  have q3 := hok.2.2.1 k
  refine lv_iload_n hx hb dX0_step_0 rfl (lv_at hl 1 rfl) ?_
  refine pg_callSv (As := [.int (iI (((k : Nat) : Int)))]) (rest := []) SC (c_X0_requirePeg_ok l (((k : Nat) : Int)) ⟨by omega, by omega⟩) pT_st pT_h (va_cwS 1 hts gX0_step_X0_requirePeg rfl rfl rfl (by decide +kernel) ⟨Nat.le_of_ble_eq_true rfl, Nat.le_of_ble_eq_true rfl⟩) rfl hl.1 rfl (Nat.le_of_ble_eq_true rfl) dX0_step_1 ⟨Nat.zero_le _, Nat.zero_le _⟩ ?_
  refine lv_aload_n hx hb dX0_step_4 rfl (lv_at hl 0 rfl) ?_
  refine lv_iload_n hx hb dX0_step_5 rfl (lv_at hl 1 rfl) ?_
  refine pg_callVv (As := [.int (iI (((k : Nat) : Int)))]) (rest := []) SC (c_X0_requireStanding_ok l X S k hk h1) xB_st (xB_h hP hK) (cwV 1 hts gX0_step_X0_requireStanding rfl rfl rfl (by decide +kernel) ⟨Nat.le_of_ble_eq_true rfl, Nat.le_of_ble_eq_true rfl⟩) (va_recv hK hP (ci := 0) (q0 := 0) rfl rfl) rfl hl.1 rfl (Nat.le_of_ble_eq_true rfl) dX0_step_6 ⟨Nat.zero_le _, Nat.zero_le _⟩ ?_
  refine lv_iload_n hx hb dX0_step_9 rfl (lv_at hl 2 rfl) ?_
  refine lv_bipush (v := iI 110) hx hb dX0_step_10 (by decide +kernel) ?_
  refine pg_icmp_eq (tgt := 43) hx hb dX0_step_12 (by decide) (⟨by omega, by omega⟩) (⟨by omega, by omega⟩) (fun hc1 => ?_) (fun hc1 => absurd hc1 (by omega))
  refine lv_aload_n hx hb dX0_step_43 rfl (lv_at hl 0 rfl) ?_
  refine lv_iload_n hx hb dX0_step_44 rfl (lv_at hl 1 rfl) ?_
  refine pg_callV (As := [.int (iI (((k : Nat) : Int)))]) (rest := []) SC (c_X0_across l X S k hk) xB_st (xB_h hP hK) (cwV 1 hts gX0_step_X0_across rfl rfl rfl (by decide +kernel) ⟨Nat.le_of_ble_eq_true rfl, Nat.le_of_ble_eq_true rfl⟩) (va_recv hK hP (ci := 0) (q0 := 0) rfl rfl) rfl hl.1 rfl (Nat.le_of_ble_eq_true rfl) dX0_step_45 ⟨Nat.zero_le _, Nat.zero_le _⟩ ?_
  refine lv_iload_n hx hb dX0_step_48 rfl (lv_at hl 2 rfl) ?_
  refine lv_bipush (v := iI 101) hx hb dX0_step_49 (by decide +kernel) ?_
  refine pg_icmp_ne (tgt := 58) hx hb dX0_step_51 (by decide) (⟨by omega, by omega⟩) (⟨by omega, by omega⟩) (fun hc2 => ?_) (fun hc2 => absurd hc2 (by omega))
  refine lv_iload_n hx hb dX0_step_58 rfl (lv_at hl 2 rfl) ?_
  refine lv_bipush (v := iI 119) hx hb dX0_step_59 (by decide +kernel) ?_
  refine pg_icmp_ne (tgt := 68) hx hb dX0_step_61 (by decide) (⟨by omega, by omega⟩) (⟨by omega, by omega⟩) (fun hc3 => ?_) (fun hc3 => absurd hc3 (by omega))
  refine lv_iconst (v := iI 0) hx hb dX0_step_68 rfl ?_
  refine pg_iadd (z := (sA S k : Int)) hx hb dX0_step_69 (by omega) ?_
  refine lv_istore_n (lv' := [(3, .int (iI ((sA S k : Int)))), (0, .ref ((xa X 0))), (1, .int (iI (((k : Nat) : Int)))), (2, .int (iI 110))]) hx hb dX0_step_70 rfl hl (by decide) rfl (fun ls hl => ?_)
  refine lv_aload_n hx hb dX0_step_71 rfl (lv_at hl 1 rfl) ?_
  refine lv_iload_n hx hb dX0_step_72 rfl (lv_at hl 2 rfl) ?_
  refine pg_callV (As := [.int (iI (((k : Nat) : Int)))]) (rest := []) SC (c_X0_up l X S k hk) xB_st (xB_h hP hK) (cwV 1 hts gX0_step_X0_up rfl rfl rfl (by decide +kernel) ⟨Nat.le_of_ble_eq_true rfl, Nat.le_of_ble_eq_true rfl⟩) (va_recv hK hP (ci := 0) (q0 := 0) rfl rfl) rfl hl.1 rfl (Nat.le_of_ble_eq_true rfl) dX0_step_73 ⟨Nat.zero_le _, Nat.zero_le _⟩ ?_
  refine lv_iload_n hx hb dX0_step_76 rfl (lv_at hl 3 rfl) ?_
  refine lv_bipush (v := iI 110) hx hb dX0_step_77 (by decide +kernel) ?_
  refine pg_icmp_ne (tgt := 86) hx hb dX0_step_79 (by decide) (⟨by omega, by omega⟩) (⟨by omega, by omega⟩) (fun hc4 => absurd hc4 (by omega)) (fun hc4 => ?_)
  refine lv_iconst (v := iI 1) hx hb dX0_step_82 rfl ?_
  refine lv_goto (tgt := 97) hx hb dX0_step_83 (by decide) ?_
  refine pg_iadd (z := (sU S k : Int) + 1) hx hb dX0_step_97 (by omega) ?_
  refine lv_istore (lv' := [(4, .int (iI ((sU S k : Int) + 1))), (3, .int (iI ((sA S k : Int)))), (0, .ref ((xa X 0))), (1, .int (iI (((k : Nat) : Int)))), (2, .int (iI 110))]) hx hb dX0_step_98 hl (by decide) rfl (fun ls hl => ?_)
  refine lv_iload_n hx hb dX0_step_100 rfl (lv_at hl 1 rfl) ?_
  refine pg_callS (As := [.int (iI ((sA S k : Int)))]) (rest := []) SC (c_X0_isPlace l ((sA S k : Int)) 1 ⟨by omega, by omega⟩ (by omega)) pT_st pT_h (va_cwS 1 hts gX0_step_X0_isPlace rfl rfl rfl (by decide +kernel) ⟨Nat.le_of_ble_eq_true rfl, Nat.le_of_ble_eq_true rfl⟩) rfl hl.1 rfl (Nat.le_of_ble_eq_true rfl) dX0_step_101 ⟨Nat.zero_le _, Nat.zero_le _⟩ ?_
  refine pg_if_eq (tgt := 115) hx hb dX0_step_104 (by decide) (⟨by omega, by omega⟩) (fun hc5 => absurd hc5 (by omega)) (fun hc5 => ?_)
  refine lv_iload hx hb dX0_step_107 (lv_at hl 0 rfl) ?_
  refine pg_callS (As := [.int (iI ((sU S k : Int) + 1))]) (rest := []) SC (c_X0_isPlace l ((sU S k : Int) + 1) 0 ⟨by omega, by omega⟩ (by omega)) pT_st pT_h (va_cwS 1 hts gX0_step_X0_isPlace rfl rfl rfl (by decide +kernel) ⟨Nat.le_of_ble_eq_true rfl, Nat.le_of_ble_eq_true rfl⟩) rfl hl.1 rfl (Nat.le_of_ble_eq_true rfl) dX0_step_109 ⟨Nat.zero_le _, Nat.zero_le _⟩ ?_
  refine pg_if_ne (tgt := 117) hx hb dX0_step_112 (by decide) (⟨by omega, by omega⟩) (fun hc6 => absurd hc6 (by omega)) (fun hc6 => ?_)
  refine lv_iconst (v := iI 0) hx hb dX0_step_115 rfl ?_
  exact pg_zret hx hb hr hlk  (iI_bool (by omega)) (congrArg (fun z : Int => some (Value.int (iI z))) (show 0 = 0 by omega)) dX0_step_116
set_option maxRecDepth 100000 in
set_option maxHeartbeats 4000000 in
theorem c_X0_step_s (l : Launch) (X : pgX) (S : pgS) (k a2 u2 : Nat) (hk : k < 12) (h1 : sS S k = 1) (ha9 : a2 < 91) (hu9 : u2 < 91) (ha : a2 = sA S k) (hu : u2 + 1 = sU S k) : pg_wr l yX0_step wsX0_step (rm 3 62) (xG X) (xTy X) pT (xC X S) (xC X (upN (sS S) k 1, upN (sA S) k a2, upN (sU S) k u2, sR S, sN S, sW S)) 0 0 [.ref ((xa X 0)), .int (iI (((k : Nat) : Int))), .int (iI 115)] (some (.int (iI 1))) := by
  refine pg_wr_of (cc := cX0_step) (maxL := 5) (ret := (some .boolean)) (by decide) rfl (Nat.le_of_ble_eq_true rfl) ?_
  intro p e s m below meth c ls SC hr hlk hP hK hD hS hB hl
  obtain ⟨hx, hb, hml, hown, hts⟩ := id SC
  have hown : s.vm.findClass RX0 = some m.cls := hown
  have hl : lv_has ls 5 [(0, .ref ((xa X 0))), (1, .int (iI (((k : Nat) : Int)))), (2, .int (iI 115))] := hl
  refine lv_iload_n hx hb dX0_step_0 rfl (lv_at hl 1 rfl) ?_
  refine pg_callSv (As := [.int (iI (((k : Nat) : Int)))]) (rest := []) SC (c_X0_requirePeg_ok l (((k : Nat) : Int)) ⟨by omega, by omega⟩) pT_st pT_h (va_cwS 1 hts gX0_step_X0_requirePeg rfl rfl rfl (by decide +kernel) ⟨Nat.le_of_ble_eq_true rfl, Nat.le_of_ble_eq_true rfl⟩) rfl hl.1 rfl (Nat.le_of_ble_eq_true rfl) dX0_step_1 ⟨Nat.zero_le _, Nat.zero_le _⟩ ?_
  refine lv_aload_n hx hb dX0_step_4 rfl (lv_at hl 0 rfl) ?_
  refine lv_iload_n hx hb dX0_step_5 rfl (lv_at hl 1 rfl) ?_
  refine pg_callVv (As := [.int (iI (((k : Nat) : Int)))]) (rest := []) SC (c_X0_requireStanding_ok l X S k hk h1) xB_st (xB_h hP hK) (cwV 1 hts gX0_step_X0_requireStanding rfl rfl rfl (by decide +kernel) ⟨Nat.le_of_ble_eq_true rfl, Nat.le_of_ble_eq_true rfl⟩) (va_recv hK hP (ci := 0) (q0 := 0) rfl rfl) rfl hl.1 rfl (Nat.le_of_ble_eq_true rfl) dX0_step_6 ⟨Nat.zero_le _, Nat.zero_le _⟩ ?_
  refine lv_iload_n hx hb dX0_step_9 rfl (lv_at hl 2 rfl) ?_
  refine lv_bipush (v := iI 110) hx hb dX0_step_10 (by decide +kernel) ?_
  refine pg_icmp_eq (tgt := 43) hx hb dX0_step_12 (by decide) (⟨by omega, by omega⟩) (⟨by omega, by omega⟩) (fun hc1 => absurd hc1 (by omega)) (fun hc1 => ?_)
  refine lv_iload_n hx hb dX0_step_15 rfl (lv_at hl 2 rfl) ?_
  refine lv_bipush (v := iI 115) hx hb dX0_step_16 (by decide +kernel) ?_
  refine pg_icmp_eq (tgt := 43) hx hb dX0_step_18 (by decide) (⟨by omega, by omega⟩) (⟨by omega, by omega⟩) (fun hc2 => ?_) (fun hc2 => absurd hc2 (by omega))
  refine lv_aload_n hx hb dX0_step_43 rfl (lv_at hl 0 rfl) ?_
  refine lv_iload_n hx hb dX0_step_44 rfl (lv_at hl 1 rfl) ?_
  refine pg_callV (As := [.int (iI (((k : Nat) : Int)))]) (rest := []) SC (c_X0_across l X S k hk) xB_st (xB_h hP hK) (cwV 1 hts gX0_step_X0_across rfl rfl rfl (by decide +kernel) ⟨Nat.le_of_ble_eq_true rfl, Nat.le_of_ble_eq_true rfl⟩) (va_recv hK hP (ci := 0) (q0 := 0) rfl rfl) rfl hl.1 rfl (Nat.le_of_ble_eq_true rfl) dX0_step_45 ⟨Nat.zero_le _, Nat.zero_le _⟩ ?_
  refine lv_iload_n hx hb dX0_step_48 rfl (lv_at hl 2 rfl) ?_
  refine lv_bipush (v := iI 101) hx hb dX0_step_49 (by decide +kernel) ?_
  refine pg_icmp_ne (tgt := 58) hx hb dX0_step_51 (by decide) (⟨by omega, by omega⟩) (⟨by omega, by omega⟩) (fun hc3 => ?_) (fun hc3 => absurd hc3 (by omega))
  refine lv_iload_n hx hb dX0_step_58 rfl (lv_at hl 2 rfl) ?_
  refine lv_bipush (v := iI 119) hx hb dX0_step_59 (by decide +kernel) ?_
  refine pg_icmp_ne (tgt := 68) hx hb dX0_step_61 (by decide) (⟨by omega, by omega⟩) (⟨by omega, by omega⟩) (fun hc4 => ?_) (fun hc4 => absurd hc4 (by omega))
  refine lv_iconst (v := iI 0) hx hb dX0_step_68 rfl ?_
  refine pg_iadd (z := ((a2 : Nat) : Int)) hx hb dX0_step_69 (by omega) ?_
  refine lv_istore_n (lv' := [(3, .int (iI (((a2 : Nat) : Int)))), (0, .ref ((xa X 0))), (1, .int (iI (((k : Nat) : Int)))), (2, .int (iI 115))]) hx hb dX0_step_70 rfl hl (by decide) rfl (fun ls hl => ?_)
  refine lv_aload_n hx hb dX0_step_71 rfl (lv_at hl 1 rfl) ?_
  refine lv_iload_n hx hb dX0_step_72 rfl (lv_at hl 2 rfl) ?_
  refine pg_callV (As := [.int (iI (((k : Nat) : Int)))]) (rest := []) SC (c_X0_up l X S k hk) xB_st (xB_h hP hK) (cwV 1 hts gX0_step_X0_up rfl rfl rfl (by decide +kernel) ⟨Nat.le_of_ble_eq_true rfl, Nat.le_of_ble_eq_true rfl⟩) (va_recv hK hP (ci := 0) (q0 := 0) rfl rfl) rfl hl.1 rfl (Nat.le_of_ble_eq_true rfl) dX0_step_73 ⟨Nat.zero_le _, Nat.zero_le _⟩ ?_
  refine lv_iload_n hx hb dX0_step_76 rfl (lv_at hl 3 rfl) ?_
  refine lv_bipush (v := iI 110) hx hb dX0_step_77 (by decide +kernel) ?_
  refine pg_icmp_ne (tgt := 86) hx hb dX0_step_79 (by decide) (⟨by omega, by omega⟩) (⟨by omega, by omega⟩) (fun hc5 => ?_) (fun hc5 => absurd hc5 (by omega))
  refine lv_iload_n hx hb dX0_step_86 rfl (lv_at hl 3 rfl) ?_
  refine lv_bipush (v := iI 115) hx hb dX0_step_87 (by decide +kernel) ?_
  refine pg_icmp_ne (tgt := 96) hx hb dX0_step_89 (by decide) (⟨by omega, by omega⟩) (⟨by omega, by omega⟩) (fun hc6 => absurd hc6 (by omega)) (fun hc6 => ?_)
  refine lv_iconst (v := iI (-1)) hx hb dX0_step_92 rfl ?_
  refine lv_goto (tgt := 97) hx hb dX0_step_93 (by decide) ?_
  refine pg_iadd (z := ((u2 : Nat) : Int)) hx hb dX0_step_97 (by omega) ?_
  refine lv_istore (lv' := [(4, .int (iI (((u2 : Nat) : Int)))), (3, .int (iI (((a2 : Nat) : Int)))), (0, .ref ((xa X 0))), (1, .int (iI (((k : Nat) : Int)))), (2, .int (iI 115))]) hx hb dX0_step_98 hl (by decide) rfl (fun ls hl => ?_)
  refine lv_iload_n hx hb dX0_step_100 rfl (lv_at hl 1 rfl) ?_
  refine pg_callS (As := [.int (iI (((a2 : Nat) : Int)))]) (rest := []) SC (c_X0_isPlace l (((a2 : Nat) : Int)) 1 ⟨by omega, by omega⟩ (by omega)) pT_st pT_h (va_cwS 1 hts gX0_step_X0_isPlace rfl rfl rfl (by decide +kernel) ⟨Nat.le_of_ble_eq_true rfl, Nat.le_of_ble_eq_true rfl⟩) rfl hl.1 rfl (Nat.le_of_ble_eq_true rfl) dX0_step_101 ⟨Nat.zero_le _, Nat.zero_le _⟩ ?_
  refine pg_if_eq (tgt := 115) hx hb dX0_step_104 (by decide) (⟨by omega, by omega⟩) (fun hc7 => absurd hc7 (by omega)) (fun hc7 => ?_)
  refine lv_iload hx hb dX0_step_107 (lv_at hl 0 rfl) ?_
  refine pg_callS (As := [.int (iI (((u2 : Nat) : Int)))]) (rest := []) SC (c_X0_isPlace l (((u2 : Nat) : Int)) 1 ⟨by omega, by omega⟩ (by omega)) pT_st pT_h (va_cwS 1 hts gX0_step_X0_isPlace rfl rfl rfl (by decide +kernel) ⟨Nat.le_of_ble_eq_true rfl, Nat.le_of_ble_eq_true rfl⟩) rfl hl.1 rfl (Nat.le_of_ble_eq_true rfl) dX0_step_109 ⟨Nat.zero_le _, Nat.zero_le _⟩ ?_
  refine pg_if_ne (tgt := 117) hx hb dX0_step_112 (by decide) (⟨by omega, by omega⟩) (fun hc8 => ?_) (fun hc8 => absurd hc8 (by omega))
  refine lv_aload_n hx hb dX0_step_117 rfl (lv_at hl 2 rfl) ?_
  refine lv_iload_n hx hb dX0_step_118 rfl (lv_at hl 3 rfl) ?_
  refine lv_iload_n hx hb dX0_step_119 rfl (lv_at hl 1 rfl) ?_
  refine lv_iload hx hb dX0_step_120 (lv_at hl 0 rfl) ?_
  refine pg_wcallVv (As := [.int (iI (((k : Nat) : Int))), .int (iI (((a2 : Nat) : Int))), .int (iI (((u2 : Nat) : Int)))]) (rest := []) (l1 := []) (l2 := []) (w := [(xa X 0, .inr (0, [.ref ((xa X 1)), .ref ((xa X 2)), .ref ((xa X 3)), .ref ((xa X 4)), .int (iI (((sN S : Nat) : Int))), .int (iI (((sW S : Nat) : Int)))])), (xa X 1, .inl (xZ X, 12, .inl (fI (sS S)))), (xa X 2, .inl (xI X, 12, .inl (fI (sA S)))), (xa X 3, .inl (xI X, 12, .inl (fI (sU S)))), (xa X 4, .inl (xI X, 12, .inl (fI (sR S))))]) (w' := [(xa X 0, .inr (0, [.ref ((xa X 1)), .ref ((xa X 2)), .ref ((xa X 3)), .ref ((xa X 4)), .int (iI (((sN S : Nat) : Int))), .int (iI (((sW S : Nat) : Int)))])), (xa X 1, .inl (xZ X, 12, .inl (fI (upN (sS S) k 1)))), (xa X 2, .inl (xI X, 12, .inl (fI (upN (sA S) k a2)))), (xa X 3, .inl (xI X, 12, .inl (fI (upN (sU S) k u2)))), (xa X 4, .inl (xI X, 12, .inl (fI (sR S))))]) SC (c_X0_moveTo l X S k a2 u2 hk) pT_st pT_h (cwV 3 hts gX0_step_X0_moveTo rfl rfl rfl (by decide +kernel) ⟨Nat.le_of_ble_eq_true rfl, Nat.le_of_ble_eq_true rfl⟩) (va_recv hK hP (ci := 0) (q0 := 0) rfl rfl) hK hP hD hS rfl rfl hl.1 rfl (Nat.le_of_ble_eq_true rfl) dX0_step_122 ⟨Nat.zero_le _, Nat.zero_le _⟩ (fun H locs hP hD hS => ?_)
  have hP : va_P (xG X) vwCl ([(xa X 0, .inr (0, [.ref ((xa X 1)), .ref ((xa X 2)), .ref ((xa X 3)), .ref ((xa X 4)), .int (iI (((sN S : Nat) : Int))), .int (iI (((sW S : Nat) : Int)))])), (xa X 1, .inl (xZ X, 12, .inl (fI (upN (sS S) k 1)))), (xa X 2, .inl (xI X, 12, .inl (fI (upN (sA S) k a2)))), (xa X 3, .inl (xI X, 12, .inl (fI (upN (sU S) k u2)))), (xa X 4, .inl (xI X, 12, .inl (fI (sR S))))]) H := hP
  have hD : va_D (pg_in ((xC X S))) ([(xa X 0, .inr (0, [.ref ((xa X 1)), .ref ((xa X 2)), .ref ((xa X 3)), .ref ((xa X 4)), .int (iI (((sN S : Nat) : Int))), .int (iI (((sW S : Nat) : Int)))])), (xa X 1, .inl (xZ X, 12, .inl (fI (upN (sS S) k 1)))), (xa X 2, .inl (xI X, 12, .inl (fI (upN (sA S) k a2)))), (xa X 3, .inl (xI X, 12, .inl (fI (upN (sU S) k u2)))), (xa X 4, .inl (xI X, 12, .inl (fI (sR S))))]) := hD
  refine lv_iconst (v := iI 1) hx hb dX0_step_125 rfl ?_
  exact pg_wzret hx hb hr hlk hP hS  (iI_bool (by omega)) (congrArg (fun z : Int => some (Value.int (iI z))) (show 1 = 1 by omega)) dX0_step_126
set_option maxRecDepth 100000 in
set_option maxHeartbeats 4000000 in
theorem c_X0_stepno_s (l : Launch) (X : pgX) (S : pgS) (hok : pgOk S) (k : Nat) (hk : k < 12) (h1 : sS S k = 1) (hed : sU S k = 0) : pg_ro l yX0_step wsX0_step (rm 3 62) (xB X S) [.ref ((xa X 0)), .int (iI (((k : Nat) : Int))), .int (iI 115)] (some (.int (iI 0))) := by
  refine pg_ro_of (cc := cX0_step) (maxL := 5) (ret := (some .boolean)) (by decide) rfl (Nat.le_of_ble_eq_true rfl) ?_
  intro p e s m below meth c ls SC hr hlk hB hl
  obtain ⟨hx, hb, hml, hown, hts⟩ := id SC
  have hown : s.vm.findClass RX0 = some m.cls := hown
  obtain ⟨hP, hK⟩ := id hB
  have hl : lv_has ls 5 [(0, .ref ((xa X 0))), (1, .int (iI (((k : Nat) : Int)))), (2, .int (iI 115))] := hl
  have q2 := hok.2.1 k
  have q3 := hok.2.2.1 k
  refine lv_iload_n hx hb dX0_step_0 rfl (lv_at hl 1 rfl) ?_
  refine pg_callSv (As := [.int (iI (((k : Nat) : Int)))]) (rest := []) SC (c_X0_requirePeg_ok l (((k : Nat) : Int)) ⟨by omega, by omega⟩) pT_st pT_h (va_cwS 1 hts gX0_step_X0_requirePeg rfl rfl rfl (by decide +kernel) ⟨Nat.le_of_ble_eq_true rfl, Nat.le_of_ble_eq_true rfl⟩) rfl hl.1 rfl (Nat.le_of_ble_eq_true rfl) dX0_step_1 ⟨Nat.zero_le _, Nat.zero_le _⟩ ?_
  refine lv_aload_n hx hb dX0_step_4 rfl (lv_at hl 0 rfl) ?_
  refine lv_iload_n hx hb dX0_step_5 rfl (lv_at hl 1 rfl) ?_
  refine pg_callVv (As := [.int (iI (((k : Nat) : Int)))]) (rest := []) SC (c_X0_requireStanding_ok l X S k hk h1) xB_st (xB_h hP hK) (cwV 1 hts gX0_step_X0_requireStanding rfl rfl rfl (by decide +kernel) ⟨Nat.le_of_ble_eq_true rfl, Nat.le_of_ble_eq_true rfl⟩) (va_recv hK hP (ci := 0) (q0 := 0) rfl rfl) rfl hl.1 rfl (Nat.le_of_ble_eq_true rfl) dX0_step_6 ⟨Nat.zero_le _, Nat.zero_le _⟩ ?_
  refine lv_iload_n hx hb dX0_step_9 rfl (lv_at hl 2 rfl) ?_
  refine lv_bipush (v := iI 110) hx hb dX0_step_10 (by decide +kernel) ?_
  refine pg_icmp_eq (tgt := 43) hx hb dX0_step_12 (by decide) (⟨by omega, by omega⟩) (⟨by omega, by omega⟩) (fun hc1 => absurd hc1 (by omega)) (fun hc1 => ?_)
  refine lv_iload_n hx hb dX0_step_15 rfl (lv_at hl 2 rfl) ?_
  refine lv_bipush (v := iI 115) hx hb dX0_step_16 (by decide +kernel) ?_
  refine pg_icmp_eq (tgt := 43) hx hb dX0_step_18 (by decide) (⟨by omega, by omega⟩) (⟨by omega, by omega⟩) (fun hc2 => ?_) (fun hc2 => absurd hc2 (by omega))
  refine lv_aload_n hx hb dX0_step_43 rfl (lv_at hl 0 rfl) ?_
  refine lv_iload_n hx hb dX0_step_44 rfl (lv_at hl 1 rfl) ?_
  refine pg_callV (As := [.int (iI (((k : Nat) : Int)))]) (rest := []) SC (c_X0_across l X S k hk) xB_st (xB_h hP hK) (cwV 1 hts gX0_step_X0_across rfl rfl rfl (by decide +kernel) ⟨Nat.le_of_ble_eq_true rfl, Nat.le_of_ble_eq_true rfl⟩) (va_recv hK hP (ci := 0) (q0 := 0) rfl rfl) rfl hl.1 rfl (Nat.le_of_ble_eq_true rfl) dX0_step_45 ⟨Nat.zero_le _, Nat.zero_le _⟩ ?_
  refine lv_iload_n hx hb dX0_step_48 rfl (lv_at hl 2 rfl) ?_
  refine lv_bipush (v := iI 101) hx hb dX0_step_49 (by decide +kernel) ?_
  refine pg_icmp_ne (tgt := 58) hx hb dX0_step_51 (by decide) (⟨by omega, by omega⟩) (⟨by omega, by omega⟩) (fun hc3 => ?_) (fun hc3 => absurd hc3 (by omega))
  refine lv_iload_n hx hb dX0_step_58 rfl (lv_at hl 2 rfl) ?_
  refine lv_bipush (v := iI 119) hx hb dX0_step_59 (by decide +kernel) ?_
  refine pg_icmp_ne (tgt := 68) hx hb dX0_step_61 (by decide) (⟨by omega, by omega⟩) (⟨by omega, by omega⟩) (fun hc4 => ?_) (fun hc4 => absurd hc4 (by omega))
  refine lv_iconst (v := iI 0) hx hb dX0_step_68 rfl ?_
  refine pg_iadd (z := (sA S k : Int)) hx hb dX0_step_69 (by omega) ?_
  refine lv_istore_n (lv' := [(3, .int (iI ((sA S k : Int)))), (0, .ref ((xa X 0))), (1, .int (iI (((k : Nat) : Int)))), (2, .int (iI 115))]) hx hb dX0_step_70 rfl hl (by decide) rfl (fun ls hl => ?_)
  refine lv_aload_n hx hb dX0_step_71 rfl (lv_at hl 1 rfl) ?_
  refine lv_iload_n hx hb dX0_step_72 rfl (lv_at hl 2 rfl) ?_
  refine pg_callV (As := [.int (iI (((k : Nat) : Int)))]) (rest := []) SC (c_X0_up l X S k hk) xB_st (xB_h hP hK) (cwV 1 hts gX0_step_X0_up rfl rfl rfl (by decide +kernel) ⟨Nat.le_of_ble_eq_true rfl, Nat.le_of_ble_eq_true rfl⟩) (va_recv hK hP (ci := 0) (q0 := 0) rfl rfl) rfl hl.1 rfl (Nat.le_of_ble_eq_true rfl) dX0_step_73 ⟨Nat.zero_le _, Nat.zero_le _⟩ ?_
  refine lv_iload_n hx hb dX0_step_76 rfl (lv_at hl 3 rfl) ?_
  refine lv_bipush (v := iI 110) hx hb dX0_step_77 (by decide +kernel) ?_
  refine pg_icmp_ne (tgt := 86) hx hb dX0_step_79 (by decide) (⟨by omega, by omega⟩) (⟨by omega, by omega⟩) (fun hc5 => ?_) (fun hc5 => absurd hc5 (by omega))
  refine lv_iload_n hx hb dX0_step_86 rfl (lv_at hl 3 rfl) ?_
  refine lv_bipush (v := iI 115) hx hb dX0_step_87 (by decide +kernel) ?_
  refine pg_icmp_ne (tgt := 96) hx hb dX0_step_89 (by decide) (⟨by omega, by omega⟩) (⟨by omega, by omega⟩) (fun hc6 => absurd hc6 (by omega)) (fun hc6 => ?_)
  refine lv_iconst (v := iI (-1)) hx hb dX0_step_92 rfl ?_
  refine lv_goto (tgt := 97) hx hb dX0_step_93 (by decide) ?_
  refine pg_iadd (z := (sU S k : Int) - 1) hx hb dX0_step_97 (by omega) ?_
  refine lv_istore (lv' := [(4, .int (iI ((sU S k : Int) - 1))), (3, .int (iI ((sA S k : Int)))), (0, .ref ((xa X 0))), (1, .int (iI (((k : Nat) : Int)))), (2, .int (iI 115))]) hx hb dX0_step_98 hl (by decide) rfl (fun ls hl => ?_)
  refine lv_iload_n hx hb dX0_step_100 rfl (lv_at hl 1 rfl) ?_
  refine pg_callS (As := [.int (iI ((sA S k : Int)))]) (rest := []) SC (c_X0_isPlace l ((sA S k : Int)) 1 ⟨by omega, by omega⟩ (by omega)) pT_st pT_h (va_cwS 1 hts gX0_step_X0_isPlace rfl rfl rfl (by decide +kernel) ⟨Nat.le_of_ble_eq_true rfl, Nat.le_of_ble_eq_true rfl⟩) rfl hl.1 rfl (Nat.le_of_ble_eq_true rfl) dX0_step_101 ⟨Nat.zero_le _, Nat.zero_le _⟩ ?_
  refine pg_if_eq (tgt := 115) hx hb dX0_step_104 (by decide) (⟨by omega, by omega⟩) (fun hc7 => absurd hc7 (by omega)) (fun hc7 => ?_)
  refine lv_iload hx hb dX0_step_107 (lv_at hl 0 rfl) ?_
  refine pg_callS (As := [.int (iI ((sU S k : Int) - 1))]) (rest := []) SC (c_X0_isPlace l ((sU S k : Int) - 1) 0 ⟨by omega, by omega⟩ (by omega)) pT_st pT_h (va_cwS 1 hts gX0_step_X0_isPlace rfl rfl rfl (by decide +kernel) ⟨Nat.le_of_ble_eq_true rfl, Nat.le_of_ble_eq_true rfl⟩) rfl hl.1 rfl (Nat.le_of_ble_eq_true rfl) dX0_step_109 ⟨Nat.zero_le _, Nat.zero_le _⟩ ?_
  refine pg_if_ne (tgt := 117) hx hb dX0_step_112 (by decide) (⟨by omega, by omega⟩) (fun hc8 => absurd hc8 (by omega)) (fun hc8 => ?_)
  refine lv_iconst (v := iI 0) hx hb dX0_step_115 rfl ?_
  exact pg_zret hx hb hr hlk  (iI_bool (by omega)) (congrArg (fun z : Int => some (Value.int (iI z))) (show 0 = 0 by omega)) dX0_step_116
set_option maxRecDepth 100000 in
set_option maxHeartbeats 4000000 in
theorem c_X0_step_e (l : Launch) (X : pgX) (S : pgS) (k a2 u2 : Nat) (hk : k < 12) (h1 : sS S k = 1) (ha9 : a2 < 91) (hu9 : u2 < 91) (ha : a2 = sA S k + 1) (hu : u2 = sU S k) : pg_wr l yX0_step wsX0_step (rm 3 62) (xG X) (xTy X) pT (xC X S) (xC X (upN (sS S) k 1, upN (sA S) k a2, upN (sU S) k u2, sR S, sN S, sW S)) 0 0 [.ref ((xa X 0)), .int (iI (((k : Nat) : Int))), .int (iI 101)] (some (.int (iI 1))) := by
  refine pg_wr_of (cc := cX0_step) (maxL := 5) (ret := (some .boolean)) (by decide) rfl (Nat.le_of_ble_eq_true rfl) ?_
  intro p e s m below meth c ls SC hr hlk hP hK hD hS hB hl
  obtain ⟨hx, hb, hml, hown, hts⟩ := id SC
  have hown : s.vm.findClass RX0 = some m.cls := hown
  have hl : lv_has ls 5 [(0, .ref ((xa X 0))), (1, .int (iI (((k : Nat) : Int)))), (2, .int (iI 101))] := hl
  refine lv_iload_n hx hb dX0_step_0 rfl (lv_at hl 1 rfl) ?_
  refine pg_callSv (As := [.int (iI (((k : Nat) : Int)))]) (rest := []) SC (c_X0_requirePeg_ok l (((k : Nat) : Int)) ⟨by omega, by omega⟩) pT_st pT_h (va_cwS 1 hts gX0_step_X0_requirePeg rfl rfl rfl (by decide +kernel) ⟨Nat.le_of_ble_eq_true rfl, Nat.le_of_ble_eq_true rfl⟩) rfl hl.1 rfl (Nat.le_of_ble_eq_true rfl) dX0_step_1 ⟨Nat.zero_le _, Nat.zero_le _⟩ ?_
  refine lv_aload_n hx hb dX0_step_4 rfl (lv_at hl 0 rfl) ?_
  refine lv_iload_n hx hb dX0_step_5 rfl (lv_at hl 1 rfl) ?_
  refine pg_callVv (As := [.int (iI (((k : Nat) : Int)))]) (rest := []) SC (c_X0_requireStanding_ok l X S k hk h1) xB_st (xB_h hP hK) (cwV 1 hts gX0_step_X0_requireStanding rfl rfl rfl (by decide +kernel) ⟨Nat.le_of_ble_eq_true rfl, Nat.le_of_ble_eq_true rfl⟩) (va_recv hK hP (ci := 0) (q0 := 0) rfl rfl) rfl hl.1 rfl (Nat.le_of_ble_eq_true rfl) dX0_step_6 ⟨Nat.zero_le _, Nat.zero_le _⟩ ?_
  refine lv_iload_n hx hb dX0_step_9 rfl (lv_at hl 2 rfl) ?_
  refine lv_bipush (v := iI 110) hx hb dX0_step_10 (by decide +kernel) ?_
  refine pg_icmp_eq (tgt := 43) hx hb dX0_step_12 (by decide) (⟨by omega, by omega⟩) (⟨by omega, by omega⟩) (fun hc1 => absurd hc1 (by omega)) (fun hc1 => ?_)
  refine lv_iload_n hx hb dX0_step_15 rfl (lv_at hl 2 rfl) ?_
  refine lv_bipush (v := iI 115) hx hb dX0_step_16 (by decide +kernel) ?_
  refine pg_icmp_eq (tgt := 43) hx hb dX0_step_18 (by decide) (⟨by omega, by omega⟩) (⟨by omega, by omega⟩) (fun hc2 => absurd hc2 (by omega)) (fun hc2 => ?_)
  refine lv_iload_n hx hb dX0_step_21 rfl (lv_at hl 2 rfl) ?_
  refine lv_bipush (v := iI 101) hx hb dX0_step_22 (by decide +kernel) ?_
  refine pg_icmp_eq (tgt := 43) hx hb dX0_step_24 (by decide) (⟨by omega, by omega⟩) (⟨by omega, by omega⟩) (fun hc3 => ?_) (fun hc3 => absurd hc3 (by omega))
  refine lv_aload_n hx hb dX0_step_43 rfl (lv_at hl 0 rfl) ?_
  refine lv_iload_n hx hb dX0_step_44 rfl (lv_at hl 1 rfl) ?_
  refine pg_callV (As := [.int (iI (((k : Nat) : Int)))]) (rest := []) SC (c_X0_across l X S k hk) xB_st (xB_h hP hK) (cwV 1 hts gX0_step_X0_across rfl rfl rfl (by decide +kernel) ⟨Nat.le_of_ble_eq_true rfl, Nat.le_of_ble_eq_true rfl⟩) (va_recv hK hP (ci := 0) (q0 := 0) rfl rfl) rfl hl.1 rfl (Nat.le_of_ble_eq_true rfl) dX0_step_45 ⟨Nat.zero_le _, Nat.zero_le _⟩ ?_
  refine lv_iload_n hx hb dX0_step_48 rfl (lv_at hl 2 rfl) ?_
  refine lv_bipush (v := iI 101) hx hb dX0_step_49 (by decide +kernel) ?_
  refine pg_icmp_ne (tgt := 58) hx hb dX0_step_51 (by decide) (⟨by omega, by omega⟩) (⟨by omega, by omega⟩) (fun hc4 => absurd hc4 (by omega)) (fun hc4 => ?_)
  refine lv_iconst (v := iI 1) hx hb dX0_step_54 rfl ?_
  refine lv_goto (tgt := 69) hx hb dX0_step_55 (by decide) ?_
  refine pg_iadd (z := ((a2 : Nat) : Int)) hx hb dX0_step_69 (by omega) ?_
  refine lv_istore_n (lv' := [(3, .int (iI (((a2 : Nat) : Int)))), (0, .ref ((xa X 0))), (1, .int (iI (((k : Nat) : Int)))), (2, .int (iI 101))]) hx hb dX0_step_70 rfl hl (by decide) rfl (fun ls hl => ?_)
  refine lv_aload_n hx hb dX0_step_71 rfl (lv_at hl 1 rfl) ?_
  refine lv_iload_n hx hb dX0_step_72 rfl (lv_at hl 2 rfl) ?_
  refine pg_callV (As := [.int (iI (((k : Nat) : Int)))]) (rest := []) SC (c_X0_up l X S k hk) xB_st (xB_h hP hK) (cwV 1 hts gX0_step_X0_up rfl rfl rfl (by decide +kernel) ⟨Nat.le_of_ble_eq_true rfl, Nat.le_of_ble_eq_true rfl⟩) (va_recv hK hP (ci := 0) (q0 := 0) rfl rfl) rfl hl.1 rfl (Nat.le_of_ble_eq_true rfl) dX0_step_73 ⟨Nat.zero_le _, Nat.zero_le _⟩ ?_
  refine lv_iload_n hx hb dX0_step_76 rfl (lv_at hl 3 rfl) ?_
  refine lv_bipush (v := iI 110) hx hb dX0_step_77 (by decide +kernel) ?_
  refine pg_icmp_ne (tgt := 86) hx hb dX0_step_79 (by decide) (⟨by omega, by omega⟩) (⟨by omega, by omega⟩) (fun hc5 => ?_) (fun hc5 => absurd hc5 (by omega))
  refine lv_iload_n hx hb dX0_step_86 rfl (lv_at hl 3 rfl) ?_
  refine lv_bipush (v := iI 115) hx hb dX0_step_87 (by decide +kernel) ?_
  refine pg_icmp_ne (tgt := 96) hx hb dX0_step_89 (by decide) (⟨by omega, by omega⟩) (⟨by omega, by omega⟩) (fun hc6 => ?_) (fun hc6 => absurd hc6 (by omega))
  refine lv_iconst (v := iI 0) hx hb dX0_step_96 rfl ?_
  refine pg_iadd (z := ((u2 : Nat) : Int)) hx hb dX0_step_97 (by omega) ?_
  refine lv_istore (lv' := [(4, .int (iI (((u2 : Nat) : Int)))), (3, .int (iI (((a2 : Nat) : Int)))), (0, .ref ((xa X 0))), (1, .int (iI (((k : Nat) : Int)))), (2, .int (iI 101))]) hx hb dX0_step_98 hl (by decide) rfl (fun ls hl => ?_)
  refine lv_iload_n hx hb dX0_step_100 rfl (lv_at hl 1 rfl) ?_
  refine pg_callS (As := [.int (iI (((a2 : Nat) : Int)))]) (rest := []) SC (c_X0_isPlace l (((a2 : Nat) : Int)) 1 ⟨by omega, by omega⟩ (by omega)) pT_st pT_h (va_cwS 1 hts gX0_step_X0_isPlace rfl rfl rfl (by decide +kernel) ⟨Nat.le_of_ble_eq_true rfl, Nat.le_of_ble_eq_true rfl⟩) rfl hl.1 rfl (Nat.le_of_ble_eq_true rfl) dX0_step_101 ⟨Nat.zero_le _, Nat.zero_le _⟩ ?_
  refine pg_if_eq (tgt := 115) hx hb dX0_step_104 (by decide) (⟨by omega, by omega⟩) (fun hc7 => absurd hc7 (by omega)) (fun hc7 => ?_)
  refine lv_iload hx hb dX0_step_107 (lv_at hl 0 rfl) ?_
  refine pg_callS (As := [.int (iI (((u2 : Nat) : Int)))]) (rest := []) SC (c_X0_isPlace l (((u2 : Nat) : Int)) 1 ⟨by omega, by omega⟩ (by omega)) pT_st pT_h (va_cwS 1 hts gX0_step_X0_isPlace rfl rfl rfl (by decide +kernel) ⟨Nat.le_of_ble_eq_true rfl, Nat.le_of_ble_eq_true rfl⟩) rfl hl.1 rfl (Nat.le_of_ble_eq_true rfl) dX0_step_109 ⟨Nat.zero_le _, Nat.zero_le _⟩ ?_
  refine pg_if_ne (tgt := 117) hx hb dX0_step_112 (by decide) (⟨by omega, by omega⟩) (fun hc8 => ?_) (fun hc8 => absurd hc8 (by omega))
  refine lv_aload_n hx hb dX0_step_117 rfl (lv_at hl 2 rfl) ?_
  refine lv_iload_n hx hb dX0_step_118 rfl (lv_at hl 3 rfl) ?_
  refine lv_iload_n hx hb dX0_step_119 rfl (lv_at hl 1 rfl) ?_
  refine lv_iload hx hb dX0_step_120 (lv_at hl 0 rfl) ?_
  refine pg_wcallVv (As := [.int (iI (((k : Nat) : Int))), .int (iI (((a2 : Nat) : Int))), .int (iI (((u2 : Nat) : Int)))]) (rest := []) (l1 := []) (l2 := []) (w := [(xa X 0, .inr (0, [.ref ((xa X 1)), .ref ((xa X 2)), .ref ((xa X 3)), .ref ((xa X 4)), .int (iI (((sN S : Nat) : Int))), .int (iI (((sW S : Nat) : Int)))])), (xa X 1, .inl (xZ X, 12, .inl (fI (sS S)))), (xa X 2, .inl (xI X, 12, .inl (fI (sA S)))), (xa X 3, .inl (xI X, 12, .inl (fI (sU S)))), (xa X 4, .inl (xI X, 12, .inl (fI (sR S))))]) (w' := [(xa X 0, .inr (0, [.ref ((xa X 1)), .ref ((xa X 2)), .ref ((xa X 3)), .ref ((xa X 4)), .int (iI (((sN S : Nat) : Int))), .int (iI (((sW S : Nat) : Int)))])), (xa X 1, .inl (xZ X, 12, .inl (fI (upN (sS S) k 1)))), (xa X 2, .inl (xI X, 12, .inl (fI (upN (sA S) k a2)))), (xa X 3, .inl (xI X, 12, .inl (fI (upN (sU S) k u2)))), (xa X 4, .inl (xI X, 12, .inl (fI (sR S))))]) SC (c_X0_moveTo l X S k a2 u2 hk) pT_st pT_h (cwV 3 hts gX0_step_X0_moveTo rfl rfl rfl (by decide +kernel) ⟨Nat.le_of_ble_eq_true rfl, Nat.le_of_ble_eq_true rfl⟩) (va_recv hK hP (ci := 0) (q0 := 0) rfl rfl) hK hP hD hS rfl rfl hl.1 rfl (Nat.le_of_ble_eq_true rfl) dX0_step_122 ⟨Nat.zero_le _, Nat.zero_le _⟩ (fun H locs hP hD hS => ?_)
  have hP : va_P (xG X) vwCl ([(xa X 0, .inr (0, [.ref ((xa X 1)), .ref ((xa X 2)), .ref ((xa X 3)), .ref ((xa X 4)), .int (iI (((sN S : Nat) : Int))), .int (iI (((sW S : Nat) : Int)))])), (xa X 1, .inl (xZ X, 12, .inl (fI (upN (sS S) k 1)))), (xa X 2, .inl (xI X, 12, .inl (fI (upN (sA S) k a2)))), (xa X 3, .inl (xI X, 12, .inl (fI (upN (sU S) k u2)))), (xa X 4, .inl (xI X, 12, .inl (fI (sR S))))]) H := hP
  have hD : va_D (pg_in ((xC X S))) ([(xa X 0, .inr (0, [.ref ((xa X 1)), .ref ((xa X 2)), .ref ((xa X 3)), .ref ((xa X 4)), .int (iI (((sN S : Nat) : Int))), .int (iI (((sW S : Nat) : Int)))])), (xa X 1, .inl (xZ X, 12, .inl (fI (upN (sS S) k 1)))), (xa X 2, .inl (xI X, 12, .inl (fI (upN (sA S) k a2)))), (xa X 3, .inl (xI X, 12, .inl (fI (upN (sU S) k u2)))), (xa X 4, .inl (xI X, 12, .inl (fI (sR S))))]) := hD
  refine lv_iconst (v := iI 1) hx hb dX0_step_125 rfl ?_
  exact pg_wzret hx hb hr hlk hP hS  (iI_bool (by omega)) (congrArg (fun z : Int => some (Value.int (iI z))) (show 1 = 1 by omega)) dX0_step_126
set_option maxRecDepth 100000 in
set_option maxHeartbeats 4000000 in
theorem c_X0_stepno_e (l : Launch) (X : pgX) (S : pgS) (hok : pgOk S) (k : Nat) (hk : k < 12) (h1 : sS S k = 1) (hed : sA S k = 90) : pg_ro l yX0_step wsX0_step (rm 3 62) (xB X S) [.ref ((xa X 0)), .int (iI (((k : Nat) : Int))), .int (iI 101)] (some (.int (iI 0))) := by
  refine pg_ro_of (cc := cX0_step) (maxL := 5) (ret := (some .boolean)) (by decide) rfl (Nat.le_of_ble_eq_true rfl) ?_
  intro p e s m below meth c ls SC hr hlk hB hl
  obtain ⟨hx, hb, hml, hown, hts⟩ := id SC
  have hown : s.vm.findClass RX0 = some m.cls := hown
  obtain ⟨hP, hK⟩ := id hB
  have hl : lv_has ls 5 [(0, .ref ((xa X 0))), (1, .int (iI (((k : Nat) : Int)))), (2, .int (iI 101))] := hl
  have q2 := hok.2.1 k
  have q3 := hok.2.2.1 k
  refine lv_iload_n hx hb dX0_step_0 rfl (lv_at hl 1 rfl) ?_
  refine pg_callSv (As := [.int (iI (((k : Nat) : Int)))]) (rest := []) SC (c_X0_requirePeg_ok l (((k : Nat) : Int)) ⟨by omega, by omega⟩) pT_st pT_h (va_cwS 1 hts gX0_step_X0_requirePeg rfl rfl rfl (by decide +kernel) ⟨Nat.le_of_ble_eq_true rfl, Nat.le_of_ble_eq_true rfl⟩) rfl hl.1 rfl (Nat.le_of_ble_eq_true rfl) dX0_step_1 ⟨Nat.zero_le _, Nat.zero_le _⟩ ?_
  refine lv_aload_n hx hb dX0_step_4 rfl (lv_at hl 0 rfl) ?_
  refine lv_iload_n hx hb dX0_step_5 rfl (lv_at hl 1 rfl) ?_
  refine pg_callVv (As := [.int (iI (((k : Nat) : Int)))]) (rest := []) SC (c_X0_requireStanding_ok l X S k hk h1) xB_st (xB_h hP hK) (cwV 1 hts gX0_step_X0_requireStanding rfl rfl rfl (by decide +kernel) ⟨Nat.le_of_ble_eq_true rfl, Nat.le_of_ble_eq_true rfl⟩) (va_recv hK hP (ci := 0) (q0 := 0) rfl rfl) rfl hl.1 rfl (Nat.le_of_ble_eq_true rfl) dX0_step_6 ⟨Nat.zero_le _, Nat.zero_le _⟩ ?_
  refine lv_iload_n hx hb dX0_step_9 rfl (lv_at hl 2 rfl) ?_
  refine lv_bipush (v := iI 110) hx hb dX0_step_10 (by decide +kernel) ?_
  refine pg_icmp_eq (tgt := 43) hx hb dX0_step_12 (by decide) (⟨by omega, by omega⟩) (⟨by omega, by omega⟩) (fun hc1 => absurd hc1 (by omega)) (fun hc1 => ?_)
  refine lv_iload_n hx hb dX0_step_15 rfl (lv_at hl 2 rfl) ?_
  refine lv_bipush (v := iI 115) hx hb dX0_step_16 (by decide +kernel) ?_
  refine pg_icmp_eq (tgt := 43) hx hb dX0_step_18 (by decide) (⟨by omega, by omega⟩) (⟨by omega, by omega⟩) (fun hc2 => absurd hc2 (by omega)) (fun hc2 => ?_)
  refine lv_iload_n hx hb dX0_step_21 rfl (lv_at hl 2 rfl) ?_
  refine lv_bipush (v := iI 101) hx hb dX0_step_22 (by decide +kernel) ?_
  refine pg_icmp_eq (tgt := 43) hx hb dX0_step_24 (by decide) (⟨by omega, by omega⟩) (⟨by omega, by omega⟩) (fun hc3 => ?_) (fun hc3 => absurd hc3 (by omega))
  refine lv_aload_n hx hb dX0_step_43 rfl (lv_at hl 0 rfl) ?_
  refine lv_iload_n hx hb dX0_step_44 rfl (lv_at hl 1 rfl) ?_
  refine pg_callV (As := [.int (iI (((k : Nat) : Int)))]) (rest := []) SC (c_X0_across l X S k hk) xB_st (xB_h hP hK) (cwV 1 hts gX0_step_X0_across rfl rfl rfl (by decide +kernel) ⟨Nat.le_of_ble_eq_true rfl, Nat.le_of_ble_eq_true rfl⟩) (va_recv hK hP (ci := 0) (q0 := 0) rfl rfl) rfl hl.1 rfl (Nat.le_of_ble_eq_true rfl) dX0_step_45 ⟨Nat.zero_le _, Nat.zero_le _⟩ ?_
  refine lv_iload_n hx hb dX0_step_48 rfl (lv_at hl 2 rfl) ?_
  refine lv_bipush (v := iI 101) hx hb dX0_step_49 (by decide +kernel) ?_
  refine pg_icmp_ne (tgt := 58) hx hb dX0_step_51 (by decide) (⟨by omega, by omega⟩) (⟨by omega, by omega⟩) (fun hc4 => absurd hc4 (by omega)) (fun hc4 => ?_)
  refine lv_iconst (v := iI 1) hx hb dX0_step_54 rfl ?_
  refine lv_goto (tgt := 69) hx hb dX0_step_55 (by decide) ?_
  refine pg_iadd (z := (sA S k : Int) + 1) hx hb dX0_step_69 (by omega) ?_
  refine lv_istore_n (lv' := [(3, .int (iI ((sA S k : Int) + 1))), (0, .ref ((xa X 0))), (1, .int (iI (((k : Nat) : Int)))), (2, .int (iI 101))]) hx hb dX0_step_70 rfl hl (by decide) rfl (fun ls hl => ?_)
  refine lv_aload_n hx hb dX0_step_71 rfl (lv_at hl 1 rfl) ?_
  refine lv_iload_n hx hb dX0_step_72 rfl (lv_at hl 2 rfl) ?_
  refine pg_callV (As := [.int (iI (((k : Nat) : Int)))]) (rest := []) SC (c_X0_up l X S k hk) xB_st (xB_h hP hK) (cwV 1 hts gX0_step_X0_up rfl rfl rfl (by decide +kernel) ⟨Nat.le_of_ble_eq_true rfl, Nat.le_of_ble_eq_true rfl⟩) (va_recv hK hP (ci := 0) (q0 := 0) rfl rfl) rfl hl.1 rfl (Nat.le_of_ble_eq_true rfl) dX0_step_73 ⟨Nat.zero_le _, Nat.zero_le _⟩ ?_
  refine lv_iload_n hx hb dX0_step_76 rfl (lv_at hl 3 rfl) ?_
  refine lv_bipush (v := iI 110) hx hb dX0_step_77 (by decide +kernel) ?_
  refine pg_icmp_ne (tgt := 86) hx hb dX0_step_79 (by decide) (⟨by omega, by omega⟩) (⟨by omega, by omega⟩) (fun hc5 => ?_) (fun hc5 => absurd hc5 (by omega))
  refine lv_iload_n hx hb dX0_step_86 rfl (lv_at hl 3 rfl) ?_
  refine lv_bipush (v := iI 115) hx hb dX0_step_87 (by decide +kernel) ?_
  refine pg_icmp_ne (tgt := 96) hx hb dX0_step_89 (by decide) (⟨by omega, by omega⟩) (⟨by omega, by omega⟩) (fun hc6 => ?_) (fun hc6 => absurd hc6 (by omega))
  refine lv_iconst (v := iI 0) hx hb dX0_step_96 rfl ?_
  refine pg_iadd (z := (sU S k : Int)) hx hb dX0_step_97 (by omega) ?_
  refine lv_istore (lv' := [(4, .int (iI ((sU S k : Int)))), (3, .int (iI ((sA S k : Int) + 1))), (0, .ref ((xa X 0))), (1, .int (iI (((k : Nat) : Int)))), (2, .int (iI 101))]) hx hb dX0_step_98 hl (by decide) rfl (fun ls hl => ?_)
  refine lv_iload_n hx hb dX0_step_100 rfl (lv_at hl 1 rfl) ?_
  refine pg_callS (As := [.int (iI ((sA S k : Int) + 1))]) (rest := []) SC (c_X0_isPlace l ((sA S k : Int) + 1) 0 ⟨by omega, by omega⟩ (by omega)) pT_st pT_h (va_cwS 1 hts gX0_step_X0_isPlace rfl rfl rfl (by decide +kernel) ⟨Nat.le_of_ble_eq_true rfl, Nat.le_of_ble_eq_true rfl⟩) rfl hl.1 rfl (Nat.le_of_ble_eq_true rfl) dX0_step_101 ⟨Nat.zero_le _, Nat.zero_le _⟩ ?_
  refine pg_if_eq (tgt := 115) hx hb dX0_step_104 (by decide) (⟨by omega, by omega⟩) (fun hc7 => ?_) (fun hc7 => absurd hc7 (by omega))
  refine lv_iconst (v := iI 0) hx hb dX0_step_115 rfl ?_
  exact pg_zret hx hb hr hlk  (iI_bool (by omega)) (congrArg (fun z : Int => some (Value.int (iI z))) (show 0 = 0 by omega)) dX0_step_116
set_option maxRecDepth 100000 in
set_option maxHeartbeats 4000000 in
theorem c_X0_step_w (l : Launch) (X : pgX) (S : pgS) (k a2 u2 : Nat) (hk : k < 12) (h1 : sS S k = 1) (ha9 : a2 < 91) (hu9 : u2 < 91) (ha : a2 + 1 = sA S k) (hu : u2 = sU S k) : pg_wr l yX0_step wsX0_step (rm 3 62) (xG X) (xTy X) pT (xC X S) (xC X (upN (sS S) k 1, upN (sA S) k a2, upN (sU S) k u2, sR S, sN S, sW S)) 0 0 [.ref ((xa X 0)), .int (iI (((k : Nat) : Int))), .int (iI 119)] (some (.int (iI 1))) := by
  refine pg_wr_of (cc := cX0_step) (maxL := 5) (ret := (some .boolean)) (by decide) rfl (Nat.le_of_ble_eq_true rfl) ?_
  intro p e s m below meth c ls SC hr hlk hP hK hD hS hB hl
  obtain ⟨hx, hb, hml, hown, hts⟩ := id SC
  have hown : s.vm.findClass RX0 = some m.cls := hown
  have hl : lv_has ls 5 [(0, .ref ((xa X 0))), (1, .int (iI (((k : Nat) : Int)))), (2, .int (iI 119))] := hl
  refine lv_iload_n hx hb dX0_step_0 rfl (lv_at hl 1 rfl) ?_
  refine pg_callSv (As := [.int (iI (((k : Nat) : Int)))]) (rest := []) SC (c_X0_requirePeg_ok l (((k : Nat) : Int)) ⟨by omega, by omega⟩) pT_st pT_h (va_cwS 1 hts gX0_step_X0_requirePeg rfl rfl rfl (by decide +kernel) ⟨Nat.le_of_ble_eq_true rfl, Nat.le_of_ble_eq_true rfl⟩) rfl hl.1 rfl (Nat.le_of_ble_eq_true rfl) dX0_step_1 ⟨Nat.zero_le _, Nat.zero_le _⟩ ?_
  refine lv_aload_n hx hb dX0_step_4 rfl (lv_at hl 0 rfl) ?_
  refine lv_iload_n hx hb dX0_step_5 rfl (lv_at hl 1 rfl) ?_
  refine pg_callVv (As := [.int (iI (((k : Nat) : Int)))]) (rest := []) SC (c_X0_requireStanding_ok l X S k hk h1) xB_st (xB_h hP hK) (cwV 1 hts gX0_step_X0_requireStanding rfl rfl rfl (by decide +kernel) ⟨Nat.le_of_ble_eq_true rfl, Nat.le_of_ble_eq_true rfl⟩) (va_recv hK hP (ci := 0) (q0 := 0) rfl rfl) rfl hl.1 rfl (Nat.le_of_ble_eq_true rfl) dX0_step_6 ⟨Nat.zero_le _, Nat.zero_le _⟩ ?_
  refine lv_iload_n hx hb dX0_step_9 rfl (lv_at hl 2 rfl) ?_
  refine lv_bipush (v := iI 110) hx hb dX0_step_10 (by decide +kernel) ?_
  refine pg_icmp_eq (tgt := 43) hx hb dX0_step_12 (by decide) (⟨by omega, by omega⟩) (⟨by omega, by omega⟩) (fun hc1 => absurd hc1 (by omega)) (fun hc1 => ?_)
  refine lv_iload_n hx hb dX0_step_15 rfl (lv_at hl 2 rfl) ?_
  refine lv_bipush (v := iI 115) hx hb dX0_step_16 (by decide +kernel) ?_
  refine pg_icmp_eq (tgt := 43) hx hb dX0_step_18 (by decide) (⟨by omega, by omega⟩) (⟨by omega, by omega⟩) (fun hc2 => absurd hc2 (by omega)) (fun hc2 => ?_)
  refine lv_iload_n hx hb dX0_step_21 rfl (lv_at hl 2 rfl) ?_
  refine lv_bipush (v := iI 101) hx hb dX0_step_22 (by decide +kernel) ?_
  refine pg_icmp_eq (tgt := 43) hx hb dX0_step_24 (by decide) (⟨by omega, by omega⟩) (⟨by omega, by omega⟩) (fun hc3 => absurd hc3 (by omega)) (fun hc3 => ?_)
  refine lv_iload_n hx hb dX0_step_27 rfl (lv_at hl 2 rfl) ?_
  refine lv_bipush (v := iI 119) hx hb dX0_step_28 (by decide +kernel) ?_
  refine pg_icmp_eq (tgt := 43) hx hb dX0_step_30 (by decide) (⟨by omega, by omega⟩) (⟨by omega, by omega⟩) (fun hc4 => ?_) (fun hc4 => absurd hc4 (by omega))
  refine lv_aload_n hx hb dX0_step_43 rfl (lv_at hl 0 rfl) ?_
  refine lv_iload_n hx hb dX0_step_44 rfl (lv_at hl 1 rfl) ?_
  refine pg_callV (As := [.int (iI (((k : Nat) : Int)))]) (rest := []) SC (c_X0_across l X S k hk) xB_st (xB_h hP hK) (cwV 1 hts gX0_step_X0_across rfl rfl rfl (by decide +kernel) ⟨Nat.le_of_ble_eq_true rfl, Nat.le_of_ble_eq_true rfl⟩) (va_recv hK hP (ci := 0) (q0 := 0) rfl rfl) rfl hl.1 rfl (Nat.le_of_ble_eq_true rfl) dX0_step_45 ⟨Nat.zero_le _, Nat.zero_le _⟩ ?_
  refine lv_iload_n hx hb dX0_step_48 rfl (lv_at hl 2 rfl) ?_
  refine lv_bipush (v := iI 101) hx hb dX0_step_49 (by decide +kernel) ?_
  refine pg_icmp_ne (tgt := 58) hx hb dX0_step_51 (by decide) (⟨by omega, by omega⟩) (⟨by omega, by omega⟩) (fun hc5 => ?_) (fun hc5 => absurd hc5 (by omega))
  refine lv_iload_n hx hb dX0_step_58 rfl (lv_at hl 2 rfl) ?_
  refine lv_bipush (v := iI 119) hx hb dX0_step_59 (by decide +kernel) ?_
  refine pg_icmp_ne (tgt := 68) hx hb dX0_step_61 (by decide) (⟨by omega, by omega⟩) (⟨by omega, by omega⟩) (fun hc6 => absurd hc6 (by omega)) (fun hc6 => ?_)
  refine lv_iconst (v := iI (-1)) hx hb dX0_step_64 rfl ?_
  refine lv_goto (tgt := 69) hx hb dX0_step_65 (by decide) ?_
  refine pg_iadd (z := ((a2 : Nat) : Int)) hx hb dX0_step_69 (by omega) ?_
  refine lv_istore_n (lv' := [(3, .int (iI (((a2 : Nat) : Int)))), (0, .ref ((xa X 0))), (1, .int (iI (((k : Nat) : Int)))), (2, .int (iI 119))]) hx hb dX0_step_70 rfl hl (by decide) rfl (fun ls hl => ?_)
  refine lv_aload_n hx hb dX0_step_71 rfl (lv_at hl 1 rfl) ?_
  refine lv_iload_n hx hb dX0_step_72 rfl (lv_at hl 2 rfl) ?_
  refine pg_callV (As := [.int (iI (((k : Nat) : Int)))]) (rest := []) SC (c_X0_up l X S k hk) xB_st (xB_h hP hK) (cwV 1 hts gX0_step_X0_up rfl rfl rfl (by decide +kernel) ⟨Nat.le_of_ble_eq_true rfl, Nat.le_of_ble_eq_true rfl⟩) (va_recv hK hP (ci := 0) (q0 := 0) rfl rfl) rfl hl.1 rfl (Nat.le_of_ble_eq_true rfl) dX0_step_73 ⟨Nat.zero_le _, Nat.zero_le _⟩ ?_
  refine lv_iload_n hx hb dX0_step_76 rfl (lv_at hl 3 rfl) ?_
  refine lv_bipush (v := iI 110) hx hb dX0_step_77 (by decide +kernel) ?_
  refine pg_icmp_ne (tgt := 86) hx hb dX0_step_79 (by decide) (⟨by omega, by omega⟩) (⟨by omega, by omega⟩) (fun hc7 => ?_) (fun hc7 => absurd hc7 (by omega))
  refine lv_iload_n hx hb dX0_step_86 rfl (lv_at hl 3 rfl) ?_
  refine lv_bipush (v := iI 115) hx hb dX0_step_87 (by decide +kernel) ?_
  refine pg_icmp_ne (tgt := 96) hx hb dX0_step_89 (by decide) (⟨by omega, by omega⟩) (⟨by omega, by omega⟩) (fun hc8 => ?_) (fun hc8 => absurd hc8 (by omega))
  refine lv_iconst (v := iI 0) hx hb dX0_step_96 rfl ?_
  refine pg_iadd (z := ((u2 : Nat) : Int)) hx hb dX0_step_97 (by omega) ?_
  refine lv_istore (lv' := [(4, .int (iI (((u2 : Nat) : Int)))), (3, .int (iI (((a2 : Nat) : Int)))), (0, .ref ((xa X 0))), (1, .int (iI (((k : Nat) : Int)))), (2, .int (iI 119))]) hx hb dX0_step_98 hl (by decide) rfl (fun ls hl => ?_)
  refine lv_iload_n hx hb dX0_step_100 rfl (lv_at hl 1 rfl) ?_
  refine pg_callS (As := [.int (iI (((a2 : Nat) : Int)))]) (rest := []) SC (c_X0_isPlace l (((a2 : Nat) : Int)) 1 ⟨by omega, by omega⟩ (by omega)) pT_st pT_h (va_cwS 1 hts gX0_step_X0_isPlace rfl rfl rfl (by decide +kernel) ⟨Nat.le_of_ble_eq_true rfl, Nat.le_of_ble_eq_true rfl⟩) rfl hl.1 rfl (Nat.le_of_ble_eq_true rfl) dX0_step_101 ⟨Nat.zero_le _, Nat.zero_le _⟩ ?_
  refine pg_if_eq (tgt := 115) hx hb dX0_step_104 (by decide) (⟨by omega, by omega⟩) (fun hc9 => absurd hc9 (by omega)) (fun hc9 => ?_)
  refine lv_iload hx hb dX0_step_107 (lv_at hl 0 rfl) ?_
  refine pg_callS (As := [.int (iI (((u2 : Nat) : Int)))]) (rest := []) SC (c_X0_isPlace l (((u2 : Nat) : Int)) 1 ⟨by omega, by omega⟩ (by omega)) pT_st pT_h (va_cwS 1 hts gX0_step_X0_isPlace rfl rfl rfl (by decide +kernel) ⟨Nat.le_of_ble_eq_true rfl, Nat.le_of_ble_eq_true rfl⟩) rfl hl.1 rfl (Nat.le_of_ble_eq_true rfl) dX0_step_109 ⟨Nat.zero_le _, Nat.zero_le _⟩ ?_
  refine pg_if_ne (tgt := 117) hx hb dX0_step_112 (by decide) (⟨by omega, by omega⟩) (fun hc10 => ?_) (fun hc10 => absurd hc10 (by omega))
  refine lv_aload_n hx hb dX0_step_117 rfl (lv_at hl 2 rfl) ?_
  refine lv_iload_n hx hb dX0_step_118 rfl (lv_at hl 3 rfl) ?_
  refine lv_iload_n hx hb dX0_step_119 rfl (lv_at hl 1 rfl) ?_
  refine lv_iload hx hb dX0_step_120 (lv_at hl 0 rfl) ?_
  refine pg_wcallVv (As := [.int (iI (((k : Nat) : Int))), .int (iI (((a2 : Nat) : Int))), .int (iI (((u2 : Nat) : Int)))]) (rest := []) (l1 := []) (l2 := []) (w := [(xa X 0, .inr (0, [.ref ((xa X 1)), .ref ((xa X 2)), .ref ((xa X 3)), .ref ((xa X 4)), .int (iI (((sN S : Nat) : Int))), .int (iI (((sW S : Nat) : Int)))])), (xa X 1, .inl (xZ X, 12, .inl (fI (sS S)))), (xa X 2, .inl (xI X, 12, .inl (fI (sA S)))), (xa X 3, .inl (xI X, 12, .inl (fI (sU S)))), (xa X 4, .inl (xI X, 12, .inl (fI (sR S))))]) (w' := [(xa X 0, .inr (0, [.ref ((xa X 1)), .ref ((xa X 2)), .ref ((xa X 3)), .ref ((xa X 4)), .int (iI (((sN S : Nat) : Int))), .int (iI (((sW S : Nat) : Int)))])), (xa X 1, .inl (xZ X, 12, .inl (fI (upN (sS S) k 1)))), (xa X 2, .inl (xI X, 12, .inl (fI (upN (sA S) k a2)))), (xa X 3, .inl (xI X, 12, .inl (fI (upN (sU S) k u2)))), (xa X 4, .inl (xI X, 12, .inl (fI (sR S))))]) SC (c_X0_moveTo l X S k a2 u2 hk) pT_st pT_h (cwV 3 hts gX0_step_X0_moveTo rfl rfl rfl (by decide +kernel) ⟨Nat.le_of_ble_eq_true rfl, Nat.le_of_ble_eq_true rfl⟩) (va_recv hK hP (ci := 0) (q0 := 0) rfl rfl) hK hP hD hS rfl rfl hl.1 rfl (Nat.le_of_ble_eq_true rfl) dX0_step_122 ⟨Nat.zero_le _, Nat.zero_le _⟩ (fun H locs hP hD hS => ?_)
  have hP : va_P (xG X) vwCl ([(xa X 0, .inr (0, [.ref ((xa X 1)), .ref ((xa X 2)), .ref ((xa X 3)), .ref ((xa X 4)), .int (iI (((sN S : Nat) : Int))), .int (iI (((sW S : Nat) : Int)))])), (xa X 1, .inl (xZ X, 12, .inl (fI (upN (sS S) k 1)))), (xa X 2, .inl (xI X, 12, .inl (fI (upN (sA S) k a2)))), (xa X 3, .inl (xI X, 12, .inl (fI (upN (sU S) k u2)))), (xa X 4, .inl (xI X, 12, .inl (fI (sR S))))]) H := hP
  have hD : va_D (pg_in ((xC X S))) ([(xa X 0, .inr (0, [.ref ((xa X 1)), .ref ((xa X 2)), .ref ((xa X 3)), .ref ((xa X 4)), .int (iI (((sN S : Nat) : Int))), .int (iI (((sW S : Nat) : Int)))])), (xa X 1, .inl (xZ X, 12, .inl (fI (upN (sS S) k 1)))), (xa X 2, .inl (xI X, 12, .inl (fI (upN (sA S) k a2)))), (xa X 3, .inl (xI X, 12, .inl (fI (upN (sU S) k u2)))), (xa X 4, .inl (xI X, 12, .inl (fI (sR S))))]) := hD
  refine lv_iconst (v := iI 1) hx hb dX0_step_125 rfl ?_
  exact pg_wzret hx hb hr hlk hP hS  (iI_bool (by omega)) (congrArg (fun z : Int => some (Value.int (iI z))) (show 1 = 1 by omega)) dX0_step_126
set_option maxRecDepth 100000 in
set_option maxHeartbeats 4000000 in
theorem c_X0_stepno_w (l : Launch) (X : pgX) (S : pgS) (hok : pgOk S) (k : Nat) (hk : k < 12) (h1 : sS S k = 1) (hed : sA S k = 0) : pg_ro l yX0_step wsX0_step (rm 3 62) (xB X S) [.ref ((xa X 0)), .int (iI (((k : Nat) : Int))), .int (iI 119)] (some (.int (iI 0))) := by
  refine pg_ro_of (cc := cX0_step) (maxL := 5) (ret := (some .boolean)) (by decide) rfl (Nat.le_of_ble_eq_true rfl) ?_
  intro p e s m below meth c ls SC hr hlk hB hl
  obtain ⟨hx, hb, hml, hown, hts⟩ := id SC
  have hown : s.vm.findClass RX0 = some m.cls := hown
  obtain ⟨hP, hK⟩ := id hB
  have hl : lv_has ls 5 [(0, .ref ((xa X 0))), (1, .int (iI (((k : Nat) : Int)))), (2, .int (iI 119))] := hl
  have q2 := hok.2.1 k
  have q3 := hok.2.2.1 k
  refine lv_iload_n hx hb dX0_step_0 rfl (lv_at hl 1 rfl) ?_
  refine pg_callSv (As := [.int (iI (((k : Nat) : Int)))]) (rest := []) SC (c_X0_requirePeg_ok l (((k : Nat) : Int)) ⟨by omega, by omega⟩) pT_st pT_h (va_cwS 1 hts gX0_step_X0_requirePeg rfl rfl rfl (by decide +kernel) ⟨Nat.le_of_ble_eq_true rfl, Nat.le_of_ble_eq_true rfl⟩) rfl hl.1 rfl (Nat.le_of_ble_eq_true rfl) dX0_step_1 ⟨Nat.zero_le _, Nat.zero_le _⟩ ?_
  refine lv_aload_n hx hb dX0_step_4 rfl (lv_at hl 0 rfl) ?_
  refine lv_iload_n hx hb dX0_step_5 rfl (lv_at hl 1 rfl) ?_
  refine pg_callVv (As := [.int (iI (((k : Nat) : Int)))]) (rest := []) SC (c_X0_requireStanding_ok l X S k hk h1) xB_st (xB_h hP hK) (cwV 1 hts gX0_step_X0_requireStanding rfl rfl rfl (by decide +kernel) ⟨Nat.le_of_ble_eq_true rfl, Nat.le_of_ble_eq_true rfl⟩) (va_recv hK hP (ci := 0) (q0 := 0) rfl rfl) rfl hl.1 rfl (Nat.le_of_ble_eq_true rfl) dX0_step_6 ⟨Nat.zero_le _, Nat.zero_le _⟩ ?_
  refine lv_iload_n hx hb dX0_step_9 rfl (lv_at hl 2 rfl) ?_
  refine lv_bipush (v := iI 110) hx hb dX0_step_10 (by decide +kernel) ?_
  refine pg_icmp_eq (tgt := 43) hx hb dX0_step_12 (by decide) (⟨by omega, by omega⟩) (⟨by omega, by omega⟩) (fun hc1 => absurd hc1 (by omega)) (fun hc1 => ?_)
  refine lv_iload_n hx hb dX0_step_15 rfl (lv_at hl 2 rfl) ?_
  refine lv_bipush (v := iI 115) hx hb dX0_step_16 (by decide +kernel) ?_
  refine pg_icmp_eq (tgt := 43) hx hb dX0_step_18 (by decide) (⟨by omega, by omega⟩) (⟨by omega, by omega⟩) (fun hc2 => absurd hc2 (by omega)) (fun hc2 => ?_)
  refine lv_iload_n hx hb dX0_step_21 rfl (lv_at hl 2 rfl) ?_
  refine lv_bipush (v := iI 101) hx hb dX0_step_22 (by decide +kernel) ?_
  refine pg_icmp_eq (tgt := 43) hx hb dX0_step_24 (by decide) (⟨by omega, by omega⟩) (⟨by omega, by omega⟩) (fun hc3 => absurd hc3 (by omega)) (fun hc3 => ?_)
  refine lv_iload_n hx hb dX0_step_27 rfl (lv_at hl 2 rfl) ?_
  refine lv_bipush (v := iI 119) hx hb dX0_step_28 (by decide +kernel) ?_
  refine pg_icmp_eq (tgt := 43) hx hb dX0_step_30 (by decide) (⟨by omega, by omega⟩) (⟨by omega, by omega⟩) (fun hc4 => ?_) (fun hc4 => absurd hc4 (by omega))
  refine lv_aload_n hx hb dX0_step_43 rfl (lv_at hl 0 rfl) ?_
  refine lv_iload_n hx hb dX0_step_44 rfl (lv_at hl 1 rfl) ?_
  refine pg_callV (As := [.int (iI (((k : Nat) : Int)))]) (rest := []) SC (c_X0_across l X S k hk) xB_st (xB_h hP hK) (cwV 1 hts gX0_step_X0_across rfl rfl rfl (by decide +kernel) ⟨Nat.le_of_ble_eq_true rfl, Nat.le_of_ble_eq_true rfl⟩) (va_recv hK hP (ci := 0) (q0 := 0) rfl rfl) rfl hl.1 rfl (Nat.le_of_ble_eq_true rfl) dX0_step_45 ⟨Nat.zero_le _, Nat.zero_le _⟩ ?_
  refine lv_iload_n hx hb dX0_step_48 rfl (lv_at hl 2 rfl) ?_
  refine lv_bipush (v := iI 101) hx hb dX0_step_49 (by decide +kernel) ?_
  refine pg_icmp_ne (tgt := 58) hx hb dX0_step_51 (by decide) (⟨by omega, by omega⟩) (⟨by omega, by omega⟩) (fun hc5 => ?_) (fun hc5 => absurd hc5 (by omega))
  refine lv_iload_n hx hb dX0_step_58 rfl (lv_at hl 2 rfl) ?_
  refine lv_bipush (v := iI 119) hx hb dX0_step_59 (by decide +kernel) ?_
  refine pg_icmp_ne (tgt := 68) hx hb dX0_step_61 (by decide) (⟨by omega, by omega⟩) (⟨by omega, by omega⟩) (fun hc6 => absurd hc6 (by omega)) (fun hc6 => ?_)
  refine lv_iconst (v := iI (-1)) hx hb dX0_step_64 rfl ?_
  refine lv_goto (tgt := 69) hx hb dX0_step_65 (by decide) ?_
  refine pg_iadd (z := (sA S k : Int) - 1) hx hb dX0_step_69 (by omega) ?_
  refine lv_istore_n (lv' := [(3, .int (iI ((sA S k : Int) - 1))), (0, .ref ((xa X 0))), (1, .int (iI (((k : Nat) : Int)))), (2, .int (iI 119))]) hx hb dX0_step_70 rfl hl (by decide) rfl (fun ls hl => ?_)
  refine lv_aload_n hx hb dX0_step_71 rfl (lv_at hl 1 rfl) ?_
  refine lv_iload_n hx hb dX0_step_72 rfl (lv_at hl 2 rfl) ?_
  refine pg_callV (As := [.int (iI (((k : Nat) : Int)))]) (rest := []) SC (c_X0_up l X S k hk) xB_st (xB_h hP hK) (cwV 1 hts gX0_step_X0_up rfl rfl rfl (by decide +kernel) ⟨Nat.le_of_ble_eq_true rfl, Nat.le_of_ble_eq_true rfl⟩) (va_recv hK hP (ci := 0) (q0 := 0) rfl rfl) rfl hl.1 rfl (Nat.le_of_ble_eq_true rfl) dX0_step_73 ⟨Nat.zero_le _, Nat.zero_le _⟩ ?_
  refine lv_iload_n hx hb dX0_step_76 rfl (lv_at hl 3 rfl) ?_
  refine lv_bipush (v := iI 110) hx hb dX0_step_77 (by decide +kernel) ?_
  refine pg_icmp_ne (tgt := 86) hx hb dX0_step_79 (by decide) (⟨by omega, by omega⟩) (⟨by omega, by omega⟩) (fun hc7 => ?_) (fun hc7 => absurd hc7 (by omega))
  refine lv_iload_n hx hb dX0_step_86 rfl (lv_at hl 3 rfl) ?_
  refine lv_bipush (v := iI 115) hx hb dX0_step_87 (by decide +kernel) ?_
  refine pg_icmp_ne (tgt := 96) hx hb dX0_step_89 (by decide) (⟨by omega, by omega⟩) (⟨by omega, by omega⟩) (fun hc8 => ?_) (fun hc8 => absurd hc8 (by omega))
  refine lv_iconst (v := iI 0) hx hb dX0_step_96 rfl ?_
  refine pg_iadd (z := (sU S k : Int)) hx hb dX0_step_97 (by omega) ?_
  refine lv_istore (lv' := [(4, .int (iI ((sU S k : Int)))), (3, .int (iI ((sA S k : Int) - 1))), (0, .ref ((xa X 0))), (1, .int (iI (((k : Nat) : Int)))), (2, .int (iI 119))]) hx hb dX0_step_98 hl (by decide) rfl (fun ls hl => ?_)
  refine lv_iload_n hx hb dX0_step_100 rfl (lv_at hl 1 rfl) ?_
  refine pg_callS (As := [.int (iI ((sA S k : Int) - 1))]) (rest := []) SC (c_X0_isPlace l ((sA S k : Int) - 1) 0 ⟨by omega, by omega⟩ (by omega)) pT_st pT_h (va_cwS 1 hts gX0_step_X0_isPlace rfl rfl rfl (by decide +kernel) ⟨Nat.le_of_ble_eq_true rfl, Nat.le_of_ble_eq_true rfl⟩) rfl hl.1 rfl (Nat.le_of_ble_eq_true rfl) dX0_step_101 ⟨Nat.zero_le _, Nat.zero_le _⟩ ?_
  refine pg_if_eq (tgt := 115) hx hb dX0_step_104 (by decide) (⟨by omega, by omega⟩) (fun hc9 => ?_) (fun hc9 => absurd hc9 (by omega))
  refine lv_iconst (v := iI 0) hx hb dX0_step_115 rfl ?_
  exact pg_zret hx hb hr hlk  (iI_bool (by omega)) (congrArg (fun z : Int => some (Value.int (iI z))) (show 0 = 0 by omega)) dX0_step_116
set_option maxRecDepth 100000 in
set_option maxHeartbeats 4000000 in
theorem c_X0_widen (l : Launch) (X : pgX) (S : pgS) (w2 : Nat) (r : Int) (hw : sW S ≤ 1) (hw2 : w2 ≤ 1) (h : (sW S = w2 ∧ r = 0) ∨ (sW S ≠ w2 ∧ r = 1)) : pg_wr l yX0_widen wsX0_widen (rm 0 0) (xG X) (xTy X) pT (xC X S) (xC X (sS S, sA S, sU S, sR S, sN S, w2)) 0 0 [.ref ((xa X 0)), .int (iI (((w2 : Nat) : Int)))] (some (.int (iI r))) := by
  refine pg_wr_of (cc := cX0_widen) (maxL := 3) (ret := (some .boolean)) (by decide) rfl (Nat.le_of_ble_eq_true rfl) ?_
  intro p e s m below meth c ls SC hr hlk hP hK hD hS hB hl
  obtain ⟨hx, hb, hml, hown, hts⟩ := id SC
  have hown : s.vm.findClass RX0 = some m.cls := hown
  have hl : lv_has ls 3 [(0, .ref ((xa X 0))), (1, .int (iI (((w2 : Nat) : Int))))] := hl
  have hin : ∀ w ∈ u_ws RX0 TX0 6, w ∈ wsX0_widen := by decide +kernel
  refine lv_aload_n hx hb dX0_widen_0 rfl (lv_at hl 0 rfl) ?_
  refine va_get (D := xG X) (ci := 0) (v := .int (iI (((sW S : Nat) : Int)))) (C := RX0) (T := TX0) (N := 6) hx hb hts hin hown hK hP 0 rfl rfl 5 (by decide) (hts (.fieldLink RX0 27 "Pegfield" "wide" "Z") (by decide +kernel)) (fun _ h9 => h9) rfl dX0_widen_1 ?_
  refine lv_iload_n hx hb dX0_widen_4 rfl (lv_at hl 1 rfl) ?_
  refine pg_icmp_eq (tgt := 12) hx hb dX0_widen_5 (by decide) (⟨by omega, by omega⟩) (⟨by omega, by omega⟩) (fun hc1 => ?_) (fun hc1 => ?_)
  · refine lv_iconst (v := iI 0) hx hb dX0_widen_12 rfl ?_
    refine lv_istore_n (lv' := [(2, .int (iI 0)), (0, .ref ((xa X 0))), (1, .int (iI (((w2 : Nat) : Int))))]) hx hb dX0_widen_13 rfl hl (by decide) rfl (fun ls hl => ?_)
    refine lv_aload_n hx hb dX0_widen_14 rfl (lv_at hl 1 rfl) ?_
    refine lv_iload_n hx hb dX0_widen_15 rfl (lv_at hl 2 rfl) ?_
    refine va_put (D := xG X) (ci := 0) (v := .int (iI (((w2 : Nat) : Int)))) (ty := .boolean) (C := RX0) (T := TX0) (N := 6) hx hb hts hin tyX0 tyX0_ok nmX0 hown hK hP hD hS 0 rfl rfl 5 (by decide) (hts (.fieldLink RX0 27 "Pegfield" "wide" "Z") (by decide +kernel)) (fun _ h9 => h9) rfl (by decide +kernel) (iI_bool (by omega)) (fits_bool (by omega)) (Nat.le_of_ble_eq_true rfl) dX0_widen_16 (fun H locs hP hD hS => ?_)
    have hP : va_P (xG X) vwCl ([(xa X 0, .inr (0, [.ref ((xa X 1)), .ref ((xa X 2)), .ref ((xa X 3)), .ref ((xa X 4)), .int (iI (((sN S : Nat) : Int))), .int (iI (((w2 : Nat) : Int)))])), (xa X 1, .inl (xZ X, 12, .inl (fI (sS S)))), (xa X 2, .inl (xI X, 12, .inl (fI (sA S)))), (xa X 3, .inl (xI X, 12, .inl (fI (sU S)))), (xa X 4, .inl (xI X, 12, .inl (fI (sR S))))]) H := hP
    have hD : va_D (pg_in ((xC X S))) ([(xa X 0, .inr (0, [.ref ((xa X 1)), .ref ((xa X 2)), .ref ((xa X 3)), .ref ((xa X 4)), .int (iI (((sN S : Nat) : Int))), .int (iI (((w2 : Nat) : Int)))])), (xa X 1, .inl (xZ X, 12, .inl (fI (sS S)))), (xa X 2, .inl (xI X, 12, .inl (fI (sA S)))), (xa X 3, .inl (xI X, 12, .inl (fI (sU S)))), (xa X 4, .inl (xI X, 12, .inl (fI (sR S))))]) := hD
    refine lv_iload_n hx hb dX0_widen_19 rfl (lv_at hl 0 rfl) ?_
    exact pg_wzret hx hb hr hlk hP hS  (iI_bool (by omega)) (congrArg (fun z : Int => some (Value.int (iI z))) (show r = 0 by omega)) dX0_widen_20
  · refine lv_iconst (v := iI 1) hx hb dX0_widen_8 rfl ?_
    refine lv_goto (tgt := 13) hx hb dX0_widen_9 (by decide) ?_
    refine lv_istore_n (lv' := [(2, .int (iI 1)), (0, .ref ((xa X 0))), (1, .int (iI (((w2 : Nat) : Int))))]) hx hb dX0_widen_13 rfl hl (by decide) rfl (fun ls hl => ?_)
    refine lv_aload_n hx hb dX0_widen_14 rfl (lv_at hl 1 rfl) ?_
    refine lv_iload_n hx hb dX0_widen_15 rfl (lv_at hl 2 rfl) ?_
    refine va_put (D := xG X) (ci := 0) (v := .int (iI (((w2 : Nat) : Int)))) (ty := .boolean) (C := RX0) (T := TX0) (N := 6) hx hb hts hin tyX0 tyX0_ok nmX0 hown hK hP hD hS 0 rfl rfl 5 (by decide) (hts (.fieldLink RX0 27 "Pegfield" "wide" "Z") (by decide +kernel)) (fun _ h9 => h9) rfl (by decide +kernel) (iI_bool (by omega)) (fits_bool (by omega)) (Nat.le_of_ble_eq_true rfl) dX0_widen_16 (fun H locs hP hD hS => ?_)
    have hP : va_P (xG X) vwCl ([(xa X 0, .inr (0, [.ref ((xa X 1)), .ref ((xa X 2)), .ref ((xa X 3)), .ref ((xa X 4)), .int (iI (((sN S : Nat) : Int))), .int (iI (((w2 : Nat) : Int)))])), (xa X 1, .inl (xZ X, 12, .inl (fI (sS S)))), (xa X 2, .inl (xI X, 12, .inl (fI (sA S)))), (xa X 3, .inl (xI X, 12, .inl (fI (sU S)))), (xa X 4, .inl (xI X, 12, .inl (fI (sR S))))]) H := hP
    have hD : va_D (pg_in ((xC X S))) ([(xa X 0, .inr (0, [.ref ((xa X 1)), .ref ((xa X 2)), .ref ((xa X 3)), .ref ((xa X 4)), .int (iI (((sN S : Nat) : Int))), .int (iI (((w2 : Nat) : Int)))])), (xa X 1, .inl (xZ X, 12, .inl (fI (sS S)))), (xa X 2, .inl (xI X, 12, .inl (fI (sA S)))), (xa X 3, .inl (xI X, 12, .inl (fI (sU S)))), (xa X 4, .inl (xI X, 12, .inl (fI (sR S))))]) := hD
    refine lv_iload_n hx hb dX0_widen_19 rfl (lv_at hl 0 rfl) ?_
    exact pg_wzret hx hb hr hlk hP hS  (iI_bool (by omega)) (congrArg (fun z : Int => some (Value.int (iI z))) (show r = 1 by omega)) dX0_widen_20
set_option maxRecDepth 100000 in
set_option maxHeartbeats 4000000 in
theorem c_X0_join_ok (l : Launch) (X : pgX) (S : pgS) (k : Nat) (hk : k < 12) (h1 : sS S k = 1) (hn : sN S < 12) : pg_wr l yX0_join wsX0_join (rm 3 62) (xG X) (xTy X) pT (xC X S) (xC X (sS S, sA S, sU S, upN (sR S) (sN S) k, sN S + 1, sW S)) 0 0 [.ref ((xa X 0)), .int (iI (((k : Nat) : Int)))] (some (.int (iI (((sN S + 1 : Nat) : Int))))) := by
  refine pg_wr_of (cc := cX0_join) (maxL := 2) (ret := (some .int)) (by decide) rfl (Nat.le_of_ble_eq_true rfl) ?_
  intro p e s m below meth c ls SC hr hlk hP hK hD hS hB hl
  obtain ⟨hx, hb, hml, hown, hts⟩ := id SC
  have hown : s.vm.findClass RX0 = some m.cls := hown
  have hl : lv_has ls 2 [(0, .ref ((xa X 0))), (1, .int (iI (((k : Nat) : Int))))] := hl
  have hin : ∀ w ∈ u_ws RX0 TX0 6, w ∈ wsX0_join := by decide +kernel
  refine lv_iload_n hx hb dX0_join_0 rfl (lv_at hl 1 rfl) ?_
  refine pg_callSv (As := [.int (iI (((k : Nat) : Int)))]) (rest := []) SC (c_X0_requirePeg_ok l (((k : Nat) : Int)) ⟨by omega, by omega⟩) pT_st pT_h (va_cwS 1 hts gX0_join_X0_requirePeg rfl rfl rfl (by decide +kernel) ⟨Nat.le_of_ble_eq_true rfl, Nat.le_of_ble_eq_true rfl⟩) rfl hl.1 rfl (Nat.le_of_ble_eq_true rfl) dX0_join_1 ⟨Nat.zero_le _, Nat.zero_le _⟩ ?_
  refine lv_aload_n hx hb dX0_join_4 rfl (lv_at hl 0 rfl) ?_
  refine lv_iload_n hx hb dX0_join_5 rfl (lv_at hl 1 rfl) ?_
  refine pg_callVv (As := [.int (iI (((k : Nat) : Int)))]) (rest := []) SC (c_X0_requireStanding_ok l X S k hk h1) xB_st (xB_h hP hK) (cwV 1 hts gX0_join_X0_requireStanding rfl rfl rfl (by decide +kernel) ⟨Nat.le_of_ble_eq_true rfl, Nat.le_of_ble_eq_true rfl⟩) (va_recv hK hP (ci := 0) (q0 := 0) rfl rfl) rfl hl.1 rfl (Nat.le_of_ble_eq_true rfl) dX0_join_6 ⟨Nat.zero_le _, Nat.zero_le _⟩ ?_
  refine lv_aload_n hx hb dX0_join_9 rfl (lv_at hl 0 rfl) ?_
  refine va_get (D := xG X) (ci := 0) (v := .int (iI (((sN S : Nat) : Int)))) (C := RX0) (T := TX0) (N := 6) hx hb hts hin hown hK hP 0 rfl rfl 4 (by decide) (hts (.fieldLink RX0 23 "Pegfield" "ringSize" "I") (by decide +kernel)) (fun _ h9 => h9) rfl dX0_join_10 ?_
  refine pg_if_lt (tgt := 25) hx hb dX0_join_13 (by decide) (⟨by omega, by omega⟩) (fun hc1 => absurd hc1 (by omega)) (fun hc1 => ?_)
  refine lv_aload_n hx hb dX0_join_16 rfl (lv_at hl 0 rfl) ?_
  refine va_get (D := xG X) (ci := 0) (v := .int (iI (((sN S : Nat) : Int)))) (C := RX0) (T := TX0) (N := 6) hx hb hts hin hown hK hP 0 rfl rfl 4 (by decide) (hts (.fieldLink RX0 23 "Pegfield" "ringSize" "I") (by decide +kernel)) (fun _ h9 => h9) rfl dX0_join_17 ?_
  refine lv_bipush (v := iI 12) hx hb dX0_join_20 (by decide +kernel) ?_
  refine pg_icmp_lt (tgt := 35) hx hb dX0_join_22 (by decide) (⟨by omega, by omega⟩) (⟨by omega, by omega⟩) (fun hc2 => ?_) (fun hc2 => absurd hc2 (by omega))
  refine lv_aload_n hx hb dX0_join_35 rfl (lv_at hl 0 rfl) ?_
  refine va_get (D := xG X) (ci := 0) (v := .ref ((xa X 4))) (C := RX0) (T := TX0) (N := 6) hx hb hts hin hown hK hP 0 rfl rfl 3 (by decide) (hts (.fieldLink RX0 20 "Pegfield" "ring" "[I") (by decide +kernel)) (fun _ h9 => h9) rfl dX0_join_36 ?_
  refine lv_aload_n hx hb dX0_join_39 rfl (lv_at hl 0 rfl) ?_
  refine va_get (D := xG X) (ci := 0) (v := .int (iI (((sN S : Nat) : Int)))) (C := RX0) (T := TX0) (N := 6) hx hb hts hin hown hK hP 0 rfl rfl 4 (by decide) (hts (.fieldLink RX0 23 "Pegfield" "ringSize" "I") (by decide +kernel)) (fun _ h9 => h9) rfl dX0_join_40 ?_
  refine lv_iload_n hx hb dX0_join_43 rfl (lv_at hl 1 rfl) ?_
  refine pg_iast hx hb hK hP hD hS 4 1 (f := (sR S)) rfl rfl (sN S) k (rfl) (rfl) (by omega) (by decide) dX0_join_44 (fun H locs hP hD hS => ?_)
  have hP : va_P (xG X) vwCl ([(xa X 0, .inr (0, [.ref ((xa X 1)), .ref ((xa X 2)), .ref ((xa X 3)), .ref ((xa X 4)), .int (iI (((sN S : Nat) : Int))), .int (iI (((sW S : Nat) : Int)))])), (xa X 1, .inl (xZ X, 12, .inl (fI (sS S)))), (xa X 2, .inl (xI X, 12, .inl (fI (sA S)))), (xa X 3, .inl (xI X, 12, .inl (fI (sU S)))), (xa X 4, .inl (xI X, 12, .inl (fI (upN (sR S) (sN S) k))))]) H := hP
  have hD : va_D (pg_in ((xC X S))) ([(xa X 0, .inr (0, [.ref ((xa X 1)), .ref ((xa X 2)), .ref ((xa X 3)), .ref ((xa X 4)), .int (iI (((sN S : Nat) : Int))), .int (iI (((sW S : Nat) : Int)))])), (xa X 1, .inl (xZ X, 12, .inl (fI (sS S)))), (xa X 2, .inl (xI X, 12, .inl (fI (sA S)))), (xa X 3, .inl (xI X, 12, .inl (fI (sU S)))), (xa X 4, .inl (xI X, 12, .inl (fI (upN (sR S) (sN S) k))))]) := hD
  refine lv_aload_n hx hb dX0_join_45 rfl (lv_at hl 0 rfl) ?_
  refine lv_dup hx hb dX0_join_46 rfl ?_
  refine va_get (D := xG X) (ci := 0) (v := .int (iI (((sN S : Nat) : Int)))) (C := RX0) (T := TX0) (N := 6) hx hb hts hin hown hK hP 0 rfl rfl 4 (by decide) (hts (.fieldLink RX0 23 "Pegfield" "ringSize" "I") (by decide +kernel)) (fun _ h9 => h9) rfl dX0_join_47 ?_
  refine lv_iconst (v := iI 1) hx hb dX0_join_50 rfl ?_
  refine pg_iadd (z := ((sN S + 1 : Nat) : Int)) hx hb dX0_join_51 (by omega) ?_
  refine va_put (D := xG X) (ci := 0) (v := .int (iI (((sN S + 1 : Nat) : Int)))) (ty := .int) (C := RX0) (T := TX0) (N := 6) hx hb hts hin tyX0 tyX0_ok nmX0 hown hK hP hD hS 0 rfl rfl 4 (by decide) (hts (.fieldLink RX0 23 "Pegfield" "ringSize" "I") (by decide +kernel)) (fun _ h9 => h9) rfl (by decide +kernel) rfl rfl (Nat.le_of_ble_eq_true rfl) dX0_join_52 (fun H locs hP hD hS => ?_)
  have hP : va_P (xG X) vwCl ([(xa X 0, .inr (0, [.ref ((xa X 1)), .ref ((xa X 2)), .ref ((xa X 3)), .ref ((xa X 4)), .int (iI (((sN S + 1 : Nat) : Int))), .int (iI (((sW S : Nat) : Int)))])), (xa X 1, .inl (xZ X, 12, .inl (fI (sS S)))), (xa X 2, .inl (xI X, 12, .inl (fI (sA S)))), (xa X 3, .inl (xI X, 12, .inl (fI (sU S)))), (xa X 4, .inl (xI X, 12, .inl (fI (upN (sR S) (sN S) k))))]) H := hP
  have hD : va_D (pg_in ((xC X S))) ([(xa X 0, .inr (0, [.ref ((xa X 1)), .ref ((xa X 2)), .ref ((xa X 3)), .ref ((xa X 4)), .int (iI (((sN S + 1 : Nat) : Int))), .int (iI (((sW S : Nat) : Int)))])), (xa X 1, .inl (xZ X, 12, .inl (fI (sS S)))), (xa X 2, .inl (xI X, 12, .inl (fI (sA S)))), (xa X 3, .inl (xI X, 12, .inl (fI (sU S)))), (xa X 4, .inl (xI X, 12, .inl (fI (upN (sR S) (sN S) k))))]) := hD
  refine lv_aload_n hx hb dX0_join_55 rfl (lv_at hl 0 rfl) ?_
  refine va_get (D := xG X) (ci := 0) (v := .int (iI (((sN S + 1 : Nat) : Int)))) (C := RX0) (T := TX0) (N := 6) hx hb hts hin hown hK hP 0 rfl rfl 4 (by decide) (hts (.fieldLink RX0 23 "Pegfield" "ringSize" "I") (by decide +kernel)) (fun _ h9 => h9) rfl dX0_join_56 ?_
  exact pg_wiret hx hb hr hlk hP hS  (congrArg (fun z : Int => some (Value.int (iI z))) (show ((sN S + 1 : Nat) : Int) = ((sN S + 1 : Nat) : Int) by omega)) dX0_join_59
set_option maxRecDepth 100000 in
set_option maxHeartbeats 4000000 in
theorem c_X0_unjoin_ok (l : Launch) (X : pgX) (S : pgS) (n2 : Nat) (hn : sN S = n2 + 1) (hn2 : n2 < 12) : pg_wr l yX0_unjoin wsX0_unjoin (rm 1 21) (xG X) (xTy X) pT (xC X S) (xC X (sS S, sA S, sU S, sR S, n2, sW S)) 0 0 [.ref ((xa X 0))] (some (.int (iI (((sR S n2 : Nat) : Int))))) := by
  refine pg_wr_of (cc := cX0_unjoin) (maxL := 1) (ret := (some .int)) (by decide) rfl (Nat.le_of_ble_eq_true rfl) ?_
  intro p e s m below meth c ls SC hr hlk hP hK hD hS hB hl
  obtain ⟨hx, hb, hml, hown, hts⟩ := id SC
  have hown : s.vm.findClass RX0 = some m.cls := hown
  have hl : lv_has ls 1 [(0, .ref ((xa X 0)))] := hl
  have hin : ∀ w ∈ u_ws RX0 TX0 6, w ∈ wsX0_unjoin := by decide +kernel
  refine lv_aload_n hx hb dX0_unjoin_0 rfl (lv_at hl 0 rfl) ?_
  refine va_get (D := xG X) (ci := 0) (v := .int (iI (((sN S : Nat) : Int)))) (C := RX0) (T := TX0) (N := 6) hx hb hts hin hown hK hP 0 rfl rfl 4 (by decide) (hts (.fieldLink RX0 23 "Pegfield" "ringSize" "I") (by decide +kernel)) (fun _ h9 => h9) rfl dX0_unjoin_1 ?_
  refine pg_if_gt (tgt := 17) hx hb dX0_unjoin_4 (by decide) (⟨by omega, by omega⟩) (fun hc1 => ?_) (fun hc1 => absurd hc1 (by omega))
  refine lv_aload_n hx hb dX0_unjoin_17 rfl (lv_at hl 0 rfl) ?_
  refine lv_dup hx hb dX0_unjoin_18 rfl ?_
  refine va_get (D := xG X) (ci := 0) (v := .int (iI (((sN S : Nat) : Int)))) (C := RX0) (T := TX0) (N := 6) hx hb hts hin hown hK hP 0 rfl rfl 4 (by decide) (hts (.fieldLink RX0 23 "Pegfield" "ringSize" "I") (by decide +kernel)) (fun _ h9 => h9) rfl dX0_unjoin_19 ?_
  refine lv_iconst (v := iI 1) hx hb dX0_unjoin_22 rfl ?_
  refine pg_isub (z := ((n2 : Nat) : Int)) hx hb dX0_unjoin_23 (by omega) ?_
  refine va_put (D := xG X) (ci := 0) (v := .int (iI (((n2 : Nat) : Int)))) (ty := .int) (C := RX0) (T := TX0) (N := 6) hx hb hts hin tyX0 tyX0_ok nmX0 hown hK hP hD hS 0 rfl rfl 4 (by decide) (hts (.fieldLink RX0 23 "Pegfield" "ringSize" "I") (by decide +kernel)) (fun _ h9 => h9) rfl (by decide +kernel) rfl rfl (Nat.le_of_ble_eq_true rfl) dX0_unjoin_24 (fun H locs hP hD hS => ?_)
  have hP : va_P (xG X) vwCl ([(xa X 0, .inr (0, [.ref ((xa X 1)), .ref ((xa X 2)), .ref ((xa X 3)), .ref ((xa X 4)), .int (iI (((n2 : Nat) : Int))), .int (iI (((sW S : Nat) : Int)))])), (xa X 1, .inl (xZ X, 12, .inl (fI (sS S)))), (xa X 2, .inl (xI X, 12, .inl (fI (sA S)))), (xa X 3, .inl (xI X, 12, .inl (fI (sU S)))), (xa X 4, .inl (xI X, 12, .inl (fI (sR S))))]) H := hP
  have hD : va_D (pg_in ((xC X S))) ([(xa X 0, .inr (0, [.ref ((xa X 1)), .ref ((xa X 2)), .ref ((xa X 3)), .ref ((xa X 4)), .int (iI (((n2 : Nat) : Int))), .int (iI (((sW S : Nat) : Int)))])), (xa X 1, .inl (xZ X, 12, .inl (fI (sS S)))), (xa X 2, .inl (xI X, 12, .inl (fI (sA S)))), (xa X 3, .inl (xI X, 12, .inl (fI (sU S)))), (xa X 4, .inl (xI X, 12, .inl (fI (sR S))))]) := hD
  refine lv_aload_n hx hb dX0_unjoin_27 rfl (lv_at hl 0 rfl) ?_
  refine lv_aload_n hx hb dX0_unjoin_28 rfl (lv_at hl 0 rfl) ?_
  refine va_get (D := xG X) (ci := 0) (v := .int (iI (((n2 : Nat) : Int)))) (C := RX0) (T := TX0) (N := 6) hx hb hts hin hown hK hP 0 rfl rfl 4 (by decide) (hts (.fieldLink RX0 23 "Pegfield" "ringSize" "I") (by decide +kernel)) (fun _ h9 => h9) rfl dX0_unjoin_29 ?_
  refine pg_callV (As := [.int (iI (((n2 : Nat) : Int)))]) (rest := []) SC (c_X0_pegInRing l X (sS S, sA S, sU S, sR S, n2, sW S) n2 hn2) xB_st (xB_h hP hK) (cwV 1 hts gX0_unjoin_X0_pegInRing rfl rfl rfl (by decide +kernel) ⟨Nat.le_of_ble_eq_true rfl, Nat.le_of_ble_eq_true rfl⟩) (va_recv hK hP (ci := 0) (q0 := 0) rfl rfl) rfl hl.1 rfl (Nat.le_of_ble_eq_true rfl) dX0_unjoin_32 ⟨Nat.zero_le _, Nat.zero_le _⟩ ?_
  exact pg_wiret hx hb hr hlk hP hS  (congrArg (fun z : Int => some (Value.int (iI z))) (show ((sR S n2 : Nat) : Int) = ((sR S n2 : Nat) : Int) by rfl)) dX0_unjoin_35
set_option maxRecDepth 100000 in
set_option maxHeartbeats 4000000 in
theorem c_X0_ringAt_ok (l : Launch) (X : pgX) (S : pgS) (k : Nat) (hk : k < 12) (hn : k < sN S) (hn2 : sN S ≤ 12) : pg_ro l yX0_ringAt wsX0_ringAt (rm 1 21) (xB X S) [.ref ((xa X 0)), .int (iI (((k : Nat) : Int)))] (some (.int (iI (((sR S k : Nat) : Int))))) := by
  refine pg_ro_of (cc := cX0_ringAt) (maxL := 2) (ret := (some .int)) (by decide) rfl (Nat.le_of_ble_eq_true rfl) ?_
  intro p e s m below meth c ls SC hr hlk hB hl
  obtain ⟨hx, hb, hml, hown, hts⟩ := id SC
  have hown : s.vm.findClass RX0 = some m.cls := hown
  obtain ⟨hP, hK⟩ := id hB
  have hl : lv_has ls 2 [(0, .ref ((xa X 0))), (1, .int (iI (((k : Nat) : Int))))] := hl
  have hin : ∀ w ∈ u_ws RX0 TX0 6, w ∈ wsX0_ringAt := by decide +kernel
  refine lv_iload_n hx hb dX0_ringAt_0 rfl (lv_at hl 1 rfl) ?_
  refine pg_if_lt (tgt := 12) hx hb dX0_ringAt_1 (by decide) (⟨by omega, by omega⟩) (fun hc1 => absurd hc1 (by omega)) (fun hc1 => ?_)
  refine lv_iload_n hx hb dX0_ringAt_4 rfl (lv_at hl 1 rfl) ?_
  refine lv_aload_n hx hb dX0_ringAt_5 rfl (lv_at hl 0 rfl) ?_
  refine va_get (D := xG X) (ci := 0) (v := .int (iI (((sN S : Nat) : Int)))) (C := RX0) (T := TX0) (N := 6) hx hb hts hin hown hK hP 0 rfl rfl 4 (by decide) (hts (.fieldLink RX0 23 "Pegfield" "ringSize" "I") (by decide +kernel)) (fun _ h9 => h9) rfl dX0_ringAt_6 ?_
  refine pg_icmp_lt (tgt := 22) hx hb dX0_ringAt_9 (by decide) (⟨by omega, by omega⟩) (⟨by omega, by omega⟩) (fun hc2 => ?_) (fun hc2 => absurd hc2 (by omega))
  refine lv_aload_n hx hb dX0_ringAt_22 rfl (lv_at hl 0 rfl) ?_
  refine lv_iload_n hx hb dX0_ringAt_23 rfl (lv_at hl 1 rfl) ?_
  refine pg_callV (As := [.int (iI (((k : Nat) : Int)))]) (rest := []) SC (c_X0_pegInRing l X S k hk) xB_st (xB_h hP hK) (cwV 1 hts gX0_ringAt_X0_pegInRing rfl rfl rfl (by decide +kernel) ⟨Nat.le_of_ble_eq_true rfl, Nat.le_of_ble_eq_true rfl⟩) (va_recv hK hP (ci := 0) (q0 := 0) rfl rfl) rfl hl.1 rfl (Nat.le_of_ble_eq_true rfl) dX0_ringAt_24 ⟨Nat.zero_le _, Nat.zero_le _⟩ ?_
  exact pg_iret hx hb hr hlk  (congrArg (fun z : Int => some (Value.int (iI z))) (show ((sR S k : Nat) : Int) = ((sR S k : Nat) : Int) by rfl)) dX0_ringAt_27
