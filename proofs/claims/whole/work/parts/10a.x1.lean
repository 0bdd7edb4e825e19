set_option maxRecDepth 100000 in
set_option maxHeartbeats 4000000 in
theorem c_X0_isPeg (l : Launch) (pp r : Int) (hp : inI pp) (h : (0 ≤ pp ∧ pp < 12 ∧ r = 1) ∨ ((pp < 0 ∨ 12 ≤ pp) ∧ r = 0)) : pg_ro l yX0_isPeg wsX0_isPeg (rm 0 0) pT [.int (iI pp)] (some (.int (iI r))) := by
  refine pg_ro_of (cc := cX0_isPeg) (maxL := 1) (ret := (some .boolean)) (by decide) rfl (Nat.le_of_ble_eq_true rfl) ?_
  intro p e s m below meth c ls SC hr hlk hB hl
  obtain ⟨hx, hb, hml, hown, hts⟩ := id SC
  have hown : s.vm.findClass RX0 = some m.cls := hown
  have hl : lv_has ls 1 [(0, .int (iI pp))] := hl
  refine lv_iload_n hx hb dX0_isPeg_0 rfl (lv_at hl 0 rfl) ?_
  refine pg_if_lt (tgt := 14) hx hb dX0_isPeg_1 (by decide) (⟨by omega, by omega⟩) (fun hc1 => ?_) (fun hc1 => ?_)
  · refine lv_iconst (v := iI 0) hx hb dX0_isPeg_14 rfl ?_
    exact pg_zret hx hb hr hlk  (iI_bool (by omega)) (congrArg (fun z : Int => some (Value.int (iI z))) (show r = 0 by omega)) dX0_isPeg_15
  · refine lv_iload_n hx hb dX0_isPeg_4 rfl (lv_at hl 0 rfl) ?_
    refine lv_bipush (v := iI 12) hx hb dX0_isPeg_5 (by decide +kernel) ?_
    refine pg_icmp_ge (tgt := 14) hx hb dX0_isPeg_7 (by decide) (⟨by omega, by omega⟩) (⟨by omega, by omega⟩) (fun hc2 => ?_) (fun hc2 => ?_)
    · refine lv_iconst (v := iI 0) hx hb dX0_isPeg_14 rfl ?_
      exact pg_zret hx hb hr hlk  (iI_bool (by omega)) (congrArg (fun z : Int => some (Value.int (iI z))) (show r = 0 by omega)) dX0_isPeg_15
    · refine lv_iconst (v := iI 1) hx hb dX0_isPeg_10 rfl ?_
      refine lv_goto (tgt := 15) hx hb dX0_isPeg_11 (by decide) ?_
      exact pg_zret hx hb hr hlk  (iI_bool (by omega)) (congrArg (fun z : Int => some (Value.int (iI z))) (show r = 1 by omega)) dX0_isPeg_15
set_option maxRecDepth 100000 in
set_option maxHeartbeats 4000000 in
theorem c_X0_isPlace (l : Launch) (pp r : Int) (hp : inI pp) (h : (0 ≤ pp ∧ pp < 91 ∧ r = 1) ∨ ((pp < 0 ∨ 91 ≤ pp) ∧ r = 0)) : pg_ro l yX0_isPlace wsX0_isPlace (rm 0 0) pT [.int (iI pp)] (some (.int (iI r))) := by
  refine pg_ro_of (cc := cX0_isPlace) (maxL := 1) (ret := (some .boolean)) (by decide) rfl (Nat.le_of_ble_eq_true rfl) ?_
  intro p e s m below meth c ls SC hr hlk hB hl
  obtain ⟨hx, hb, hml, hown, hts⟩ := id SC
  have hown : s.vm.findClass RX0 = some m.cls := hown
  have hl : lv_has ls 1 [(0, .int (iI pp))] := hl
  refine lv_iload_n hx hb dX0_isPlace_0 rfl (lv_at hl 0 rfl) ?_
  refine pg_if_lt (tgt := 14) hx hb dX0_isPlace_1 (by decide) (⟨by omega, by omega⟩) (fun hc1 => ?_) (fun hc1 => ?_)
  · refine lv_iconst (v := iI 0) hx hb dX0_isPlace_14 rfl ?_
    exact pg_zret hx hb hr hlk  (iI_bool (by omega)) (congrArg (fun z : Int => some (Value.int (iI z))) (show r = 0 by omega)) dX0_isPlace_15
  · refine lv_iload_n hx hb dX0_isPlace_4 rfl (lv_at hl 0 rfl) ?_
    refine lv_bipush (v := iI 91) hx hb dX0_isPlace_5 (by decide +kernel) ?_
    refine pg_icmp_ge (tgt := 14) hx hb dX0_isPlace_7 (by decide) (⟨by omega, by omega⟩) (⟨by omega, by omega⟩) (fun hc2 => ?_) (fun hc2 => ?_)
    · refine lv_iconst (v := iI 0) hx hb dX0_isPlace_14 rfl ?_
      exact pg_zret hx hb hr hlk  (iI_bool (by omega)) (congrArg (fun z : Int => some (Value.int (iI z))) (show r = 0 by omega)) dX0_isPlace_15
    · refine lv_iconst (v := iI 1) hx hb dX0_isPlace_10 rfl ?_
      refine lv_goto (tgt := 15) hx hb dX0_isPlace_11 (by decide) ?_
      exact pg_zret hx hb hr hlk  (iI_bool (by omega)) (congrArg (fun z : Int => some (Value.int (iI z))) (show r = 1 by omega)) dX0_isPlace_15
set_option maxRecDepth 100000 in
set_option maxHeartbeats 4000000 in
theorem c_X0_isNumber (l : Launch) (pp r : Int) (hp : inI pp) (h : (0 ≤ pp ∧ pp < 32768 ∧ r = 1) ∨ ((pp < 0 ∨ 32768 ≤ pp) ∧ r = 0)) : pg_ro l yX0_isNumber wsX0_isNumber (rm 0 0) pT [.int (iI pp)] (some (.int (iI r))) := by
  refine pg_ro_of (cc := cX0_isNumber) (maxL := 1) (ret := (some .boolean)) (by decide) rfl (Nat.le_of_ble_eq_true rfl) ?_
  intro p e s m below meth c ls SC hr hlk hB hl
  obtain ⟨hx, hb, hml, hown, hts⟩ := id SC
  have hown : s.vm.findClass RX0 = some m.cls := hown
  have hl : lv_has ls 1 [(0, .int (iI pp))] := hl
  refine lv_iload_n hx hb dX0_isNumber_0 rfl (lv_at hl 0 rfl) ?_
  refine pg_if_lt (tgt := 15) hx hb dX0_isNumber_1 (by decide) (⟨by omega, by omega⟩) (fun hc1 => ?_) (fun hc1 => ?_)
  · refine lv_iconst (v := iI 0) hx hb dX0_isNumber_15 rfl ?_
    exact pg_zret hx hb hr hlk  (iI_bool (by omega)) (congrArg (fun z : Int => some (Value.int (iI z))) (show r = 0 by omega)) dX0_isNumber_16
  · refine lv_iload_n hx hb dX0_isNumber_4 rfl (lv_at hl 0 rfl) ?_
    refine lv_sipush (v := iI 32767) hx hb dX0_isNumber_5 (by decide +kernel) ?_
    refine pg_icmp_gt (tgt := 15) hx hb dX0_isNumber_8 (by decide) (⟨by omega, by omega⟩) (⟨by omega, by omega⟩) (fun hc2 => ?_) (fun hc2 => ?_)
    · refine lv_iconst (v := iI 0) hx hb dX0_isNumber_15 rfl ?_
      exact pg_zret hx hb hr hlk  (iI_bool (by omega)) (congrArg (fun z : Int => some (Value.int (iI z))) (show r = 0 by omega)) dX0_isNumber_16
    · refine lv_iconst (v := iI 1) hx hb dX0_isNumber_11 rfl ?_
      refine lv_goto (tgt := 16) hx hb dX0_isNumber_12 (by decide) ?_
      exact pg_zret hx hb hr hlk  (iI_bool (by omega)) (congrArg (fun z : Int => some (Value.int (iI z))) (show r = 1 by omega)) dX0_isNumber_16
set_option maxRecDepth 100000 in
set_option maxHeartbeats 4000000 in
theorem c_X0_sixteenthsOf (l : Launch) (nn qq r : Int) (hq : inI qq) (h : (qq = 0 ∧ r = 16 * nn) ∨ (qq = 1 ∧ r = 4 * nn)) : pg_ro l yX0_sixteenthsOf wsX0_sixteenthsOf (rm 0 0) pT [.int (iI nn), .int (iI qq)] (some (.int (iI r))) := by
  refine pg_ro_of (cc := cX0_sixteenthsOf) (maxL := 2) (ret := (some .int)) (by decide) rfl (Nat.le_of_ble_eq_true rfl) ?_
  intro p e s m below meth c ls SC hr hlk hB hl
  obtain ⟨hx, hb, hml, hown, hts⟩ := id SC
  have hown : s.vm.findClass RX0 = some m.cls := hown
  have hl : lv_has ls 2 [(0, .int (iI nn)), (1, .int (iI qq))] := hl
  refine lv_iload_n hx hb dX0_sixteenthsOf_0 rfl (lv_at hl 1 rfl) ?_
  refine pg_if_eq (tgt := 10) hx hb dX0_sixteenthsOf_1 (by decide) (⟨by omega, by omega⟩) (fun hc1 => ?_) (fun hc1 => ?_)
  · refine lv_bipush (v := iI 16) hx hb dX0_sixteenthsOf_10 (by decide +kernel) ?_
    refine lv_iload_n hx hb dX0_sixteenthsOf_12 rfl (lv_at hl 0 rfl) ?_
    refine pg_imul (z := 16 * nn) hx hb dX0_sixteenthsOf_13 (rfl) ?_
    exact pg_iret hx hb hr hlk  (congrArg (fun z : Int => some (Value.int (iI z))) (show r = 16 * nn by omega)) dX0_sixteenthsOf_14
  · refine lv_iconst (v := iI 4) hx hb dX0_sixteenthsOf_4 rfl ?_
    refine lv_iload_n hx hb dX0_sixteenthsOf_5 rfl (lv_at hl 0 rfl) ?_
    refine pg_imul (z := 4 * nn) hx hb dX0_sixteenthsOf_6 (rfl) ?_
    refine lv_goto (tgt := 14) hx hb dX0_sixteenthsOf_7 (by decide) ?_
    exact pg_iret hx hb hr hlk  (congrArg (fun z : Int => some (Value.int (iI z))) (show r = 4 * nn by omega)) dX0_sixteenthsOf_14
set_option maxRecDepth 100000 in
set_option maxHeartbeats 4000000 in
theorem c_X0_squareSum (l : Launch) (aa bb ww r : Int) (hw : inI ww) (h : (ww = 0 ∧ r = aa * aa + bb * bb) ∨ (ww = 1 ∧ r = 4 * (aa * aa + bb * bb))) : pg_ro l yX0_squareSum wsX0_squareSum (rm 0 0) pT [.int (iI aa), .int (iI bb), .int (iI ww)] (some (.int (iI r))) := by
  refine pg_ro_of (cc := cX0_squareSum) (maxL := 4) (ret := (some .int)) (by decide) rfl (Nat.le_of_ble_eq_true rfl) ?_
  intro p e s m below meth c ls SC hr hlk hB hl
  obtain ⟨hx, hb, hml, hown, hts⟩ := id SC
  have hown : s.vm.findClass RX0 = some m.cls := hown
  have hl : lv_has ls 4 [(0, .int (iI aa)), (1, .int (iI bb)), (2, .int (iI ww))] := hl
  refine lv_iload_n hx hb dX0_squareSum_0 rfl (lv_at hl 0 rfl) ?_
  refine lv_iload_n hx hb dX0_squareSum_1 rfl (lv_at hl 0 rfl) ?_
  refine pg_imul (z := aa * aa) hx hb dX0_squareSum_2 (rfl) ?_
  refine lv_iload_n hx hb dX0_squareSum_3 rfl (lv_at hl 1 rfl) ?_
  refine lv_iload_n hx hb dX0_squareSum_4 rfl (lv_at hl 1 rfl) ?_
  refine pg_imul (z := bb * bb) hx hb dX0_squareSum_5 (rfl) ?_
  refine pg_iadd (z := (aa * aa) + (bb * bb)) hx hb dX0_squareSum_6 (rfl) ?_
  refine lv_istore_n (lv' := [(3, .int (iI ((aa * aa) + (bb * bb)))), (0, .int (iI aa)), (1, .int (iI bb)), (2, .int (iI ww))]) hx hb dX0_squareSum_7 rfl hl (by decide) rfl (fun ls hl => ?_)
  refine lv_iload_n hx hb dX0_squareSum_8 rfl (lv_at hl 3 rfl) ?_
  refine pg_if_eq (tgt := 18) hx hb dX0_squareSum_9 (by decide) (⟨by omega, by omega⟩) (fun hc1 => ?_) (fun hc1 => ?_)
  · refine lv_iload_n hx hb dX0_squareSum_18 rfl (lv_at hl 0 rfl) ?_
    exact pg_iret hx hb hr hlk  (congrArg (fun z : Int => some (Value.int (iI z))) (show r = (aa * aa) + (bb * bb) by omega)) dX0_squareSum_19
  · refine lv_iconst (v := iI 4) hx hb dX0_squareSum_12 rfl ?_
    refine lv_iload_n hx hb dX0_squareSum_13 rfl (lv_at hl 0 rfl) ?_
    refine pg_imul (z := 4 * ((aa * aa) + (bb * bb))) hx hb dX0_squareSum_14 (rfl) ?_
    refine lv_goto (tgt := 19) hx hb dX0_squareSum_15 (by decide) ?_
    exact pg_iret hx hb hr hlk  (congrArg (fun z : Int => some (Value.int (iI z))) (show r = 4 * ((aa * aa) + (bb * bb)) by omega)) dX0_squareSum_19
set_option maxRecDepth 100000 in
set_option maxHeartbeats 4000000 in
/-- the whole part of the root of N times 2^P, digit by digit -/
theorem c_X0_rootDigits (l : Launch) (N P : Nat) (hN : N < 2 ^ 20) (hP : P ≤ 53) (hNP : N * 4 ^ P < 2 ^ 110) : pg_ro l yX0_rootDigits wsX0_rootDigits (rm 0 0) pT [.int (iI (((N : Nat) : Int))), .int (iI (((P : Nat) : Int)))] (some (.long (lI (((qs (N * 4 ^ P) : Nat) : Int))))) := by
  refine pg_ro_of (cc := cX0_rootDigits) (maxL := 9) (ret := (some .long)) (by decide) rfl (Nat.le_of_ble_eq_true rfl) ?_
  intro p e s m below meth c ls SC hr hlk hB hl
  obtain ⟨hx, hb, hml, hown, hts⟩ := id SC
  have hown : s.vm.findClass RX0 = some m.cls := hown
  have hl : lv_has ls 9 [(0, .int (iI (((N : Nat) : Int)))), (1, .int (iI (((P : Nat) : Int))))] := hl
  refine lv_lconst (v := lI 0) hx hb dX0_rootDigits_0 rfl ?_
  refine lv_lstore_n (lv' := [(2, .long (lI 0)), (0, .int (iI (((N : Nat) : Int)))), (1, .int (iI (((P : Nat) : Int))))]) hx hb dX0_rootDigits_1 rfl hl (by decide) rfl (fun ls hl => ?_)
  refine lv_lconst (v := lI 0) hx hb dX0_rootDigits_2 rfl ?_
  refine lv_lstore (lv' := [(4, .long (lI 0)), (2, .long (lI 0)), (0, .int (iI (((N : Nat) : Int)))), (1, .int (iI (((P : Nat) : Int))))]) hx hb dX0_rootDigits_3 hl (by decide) rfl (fun ls hl => ?_)
  refine lv_bipush (v := iI 9) hx hb dX0_rootDigits_5 (by decide +kernel) ?_
  refine lv_istore (lv' := [(6, .int (iI 9)), (4, .long (lI 0)), (2, .long (lI 0)), (0, .int (iI (((N : Nat) : Int)))), (1, .int (iI (((P : Nat) : Int))))]) hx hb dX0_rootDigits_7 hl (by decide) rfl (fun ls hl => ?_)
  have loop1 : ∀ (fu : Nat) (i : Nat) (d : Nat) (r : Nat), (i ≤ 10 + P) → (d = qs (N * 4 ^ i / 4 ^ 10)) → (r = N * 4 ^ i / 4 ^ 10 - qs (N * 4 ^ i / 4 ^ 10) * qs (N * 4 ^ i / 4 ^ 10)) → 10 + P - i < fu → ∀ ls : Array Slot, lv_has ls 9 [(0, .int (iI (((N : Nat) : Int)))), (1, .int (iI (((P : Nat) : Int)))), (2, .long (lI (((d : Nat) : Int)))), (4, .long (lI (((r : Nat) : Int)))), (6, .int (iI (9 - (i : Int))))] → W p l e (rm 0 0) s m ([.int (iI (((N : Nat) : Int))), .int (iI (((P : Nat) : Int)))] : List Value).toArray below meth c s.heap [] 0 0 (MQ below (pg_Q (some (.long (lI (((qs (N * 4 ^ P) : Nat) : Int)))))) ([.int (iI (((N : Nat) : Int))), .int (iI (((P : Nat) : Int)))] : List Value).toArray s 0 0 (fun _ => False)) (F0 m 9 ls []) := by
    intro fu
    induction fu with
    | zero => intros; omega
    | succ fu ih1 =>
      intro i d r hi hd hrr hm1 ls hl
      obtain ⟨hd55, hr2⟩ := rd_b (rd_V hNP hi) hd hrr
      obtain ⟨dg, hdg⟩ : ∃ dg, dg = N * 4 ^ (i + 1) / 4 ^ 10 % 4 := ⟨_, rfl⟩
      have hdg4 : dg < 4 := by omega
      have hnx := rd_next hd hrr hdg
      refine lv_iload hx hb dX0_rootDigits_9 (lv_at hl 4 rfl) ?_
      refine lv_iload_n hx hb dX0_rootDigits_11 rfl (lv_at hl 1 rfl) ?_
      refine pg_ineg (z := -(P : Int)) hx hb dX0_rootDigits_12 (by omega) ?_
      refine pg_icmp_lt (tgt := 77) hx hb dX0_rootDigits_13 (by decide) (⟨by omega, by omega⟩) (⟨by omega, by omega⟩) (fun hc2 => ?_) (fun hc2 => ?_)
      · refine lv_lload_n hx hb dX0_rootDigits_77 rfl (lv_at hl 2 rfl) ?_
        exact pg_lret hx hb hr hlk  (congrArg (fun z : Int => some (Value.long (lI z))) (show ((qs (N * 4 ^ P) : Nat) : Int) = ((d : Nat) : Int) by exact congrArg (fun n : Nat => (n : Int)) (rd_end hi (by omega) hd))) dX0_rootDigits_78
      · refine lv_lload hx hb dX0_rootDigits_16 (lv_at hl 3 rfl) ?_
        refine lv_iconst (v := iI 2) hx hb dX0_rootDigits_18 rfl ?_
        refine pg_lshl (z := 4 * r) (n := r) (j := 2) hx hb dX0_rootDigits_19 (rfl) (rfl) (by decide) (by omega) ?_
        refine lv_iload hx hb dX0_rootDigits_20 (lv_at hl 4 rfl) ?_
        refine pg_if_lt (tgt := 36) hx hb dX0_rootDigits_22 (by decide) (⟨by omega, by omega⟩) (fun hc3 => ?_) (fun hc3 => ?_)
        · refine lv_iconst (v := iI 0) hx hb dX0_rootDigits_36 rfl ?_
          refine pg_i2l hx hb dX0_rootDigits_37 (⟨by omega, by omega⟩) ?_
          refine pg_ladd (z := ((4 * r + dg : Nat) : Int)) hx hb dX0_rootDigits_38 (by have h9 := vd_out4 (N := N) (c := 10) (i := i) (by omega); omega) ?_
          refine lv_lstore (lv' := [(4, .long (lI (((4 * r + dg : Nat) : Int)))), (0, .int (iI (((N : Nat) : Int)))), (1, .int (iI (((P : Nat) : Int)))), (2, .long (lI (((d : Nat) : Int)))), (6, .int (iI (9 - (i : Int))))]) hx hb dX0_rootDigits_39 hl (by decide) rfl (fun ls hl => ?_)
          refine lv_lload_n hx hb dX0_rootDigits_41 rfl (lv_at hl 3 rfl) ?_
          refine lv_iconst (v := iI 2) hx hb dX0_rootDigits_42 rfl ?_
          refine pg_lshl (z := 4 * d) (n := d) (j := 2) hx hb dX0_rootDigits_43 (rfl) (rfl) (by decide) (by omega) ?_
          refine lv_lconst (v := lI 1) hx hb dX0_rootDigits_44 rfl ?_
          refine pg_ladd (z := ((4 * d + 1 : Nat) : Int)) hx hb dX0_rootDigits_45 (by omega) ?_
          refine lv_lstore (lv' := [(7, .long (lI (((4 * d + 1 : Nat) : Int)))), (4, .long (lI (((4 * r + dg : Nat) : Int)))), (0, .int (iI (((N : Nat) : Int)))), (1, .int (iI (((P : Nat) : Int)))), (2, .long (lI (((d : Nat) : Int)))), (6, .int (iI (9 - (i : Int))))]) hx hb dX0_rootDigits_46 hl (by decide) rfl (fun ls hl => ?_)
          refine lv_lload_n hx hb dX0_rootDigits_48 rfl (lv_at hl 4 rfl) ?_
          refine lv_iconst (v := iI 1) hx hb dX0_rootDigits_49 rfl ?_
          refine pg_lshl (z := 2 * d) (n := d) (j := 1) hx hb dX0_rootDigits_50 (rfl) (rfl) (by decide) (by omega) ?_
          refine lv_lstore_n (lv' := [(2, .long (lI (((2 * d : Nat) : Int)))), (7, .long (lI (((4 * d + 1 : Nat) : Int)))), (4, .long (lI (((4 * r + dg : Nat) : Int)))), (0, .int (iI (((N : Nat) : Int)))), (1, .int (iI (((P : Nat) : Int)))), (6, .int (iI (9 - (i : Int))))]) hx hb dX0_rootDigits_51 rfl hl (by decide) rfl (fun ls hl => ?_)
          refine lv_lload hx hb dX0_rootDigits_52 (lv_at hl 2 rfl) ?_
          refine lv_lload hx hb dX0_rootDigits_54 (lv_at hl 1 rfl) ?_
          refine pg_lcmp hx hb dX0_rootDigits_56 (⟨by omega, by omega⟩) (⟨by omega, by omega⟩) (fun z4 hz4 => ?_)
          refine pg_if_lt (tgt := 71) hx hb dX0_rootDigits_57 (by decide) (⟨by omega, by omega⟩) (fun hc5 => ?_) (fun hc5 => ?_)
          · refine lv_iinc (v := iI (9 - ((i + 1 : Nat) : Int))) (lv' := [(6, .int (iI (9 - ((i + 1 : Nat) : Int)))), (2, .long (lI (((2 * d : Nat) : Int)))), (7, .long (lI (((4 * d + 1 : Nat) : Int)))), (4, .long (lI (((4 * r + dg : Nat) : Int)))), (0, .int (iI (((N : Nat) : Int)))), (1, .int (iI (((P : Nat) : Int))))]) hx hb dX0_rootDigits_71 hl (k := 5) rfl (iI_addp (by omega)) (by decide) rfl (fun ls hl => ?_)
            refine lv_goto (tgt := 9) hx hb dX0_rootDigits_74 (by decide) ?_
            exact ih1 (i + 1) (2 * d) (4 * r + dg) (by omega) ((hnx.2 (by omega)).1) ((hnx.2 (by omega)).2) (by omega) ls (lv_sub hl [4, 5, 1, 3, 0] rfl)
          · refine lv_lload hx hb dX0_rootDigits_60 (lv_at hl 2 rfl) ?_
            refine lv_lload hx hb dX0_rootDigits_62 (lv_at hl 1 rfl) ?_
            refine pg_lsub (z := ((4 * r + dg - (4 * d + 1) : Nat) : Int)) hx hb dX0_rootDigits_64 (by omega) ?_
            refine lv_lstore (lv' := [(4, .long (lI (((4 * r + dg - (4 * d + 1) : Nat) : Int)))), (2, .long (lI (((2 * d : Nat) : Int)))), (7, .long (lI (((4 * d + 1 : Nat) : Int)))), (0, .int (iI (((N : Nat) : Int)))), (1, .int (iI (((P : Nat) : Int)))), (6, .int (iI (9 - (i : Int))))]) hx hb dX0_rootDigits_65 hl (by decide) rfl (fun ls hl => ?_)
            refine lv_lload_n hx hb dX0_rootDigits_67 rfl (lv_at hl 1 rfl) ?_
            refine lv_lconst (v := lI 1) hx hb dX0_rootDigits_68 rfl ?_
            refine pg_ladd (z := ((2 * d + 1 : Nat) : Int)) hx hb dX0_rootDigits_69 (by omega) ?_
            refine lv_lstore_n (lv' := [(2, .long (lI (((2 * d + 1 : Nat) : Int)))), (4, .long (lI (((4 * r + dg - (4 * d + 1) : Nat) : Int)))), (7, .long (lI (((4 * d + 1 : Nat) : Int)))), (0, .int (iI (((N : Nat) : Int)))), (1, .int (iI (((P : Nat) : Int)))), (6, .int (iI (9 - (i : Int))))]) hx hb dX0_rootDigits_70 rfl hl (by decide) rfl (fun ls hl => ?_)
            refine lv_iinc (v := iI (9 - ((i + 1 : Nat) : Int))) (lv' := [(6, .int (iI (9 - ((i + 1 : Nat) : Int)))), (2, .long (lI (((2 * d + 1 : Nat) : Int)))), (4, .long (lI (((4 * r + dg - (4 * d + 1) : Nat) : Int)))), (7, .long (lI (((4 * d + 1 : Nat) : Int)))), (0, .int (iI (((N : Nat) : Int)))), (1, .int (iI (((P : Nat) : Int))))]) hx hb dX0_rootDigits_71 hl (k := 5) rfl (iI_addp (by omega)) (by decide) rfl (fun ls hl => ?_)
            refine lv_goto (tgt := 9) hx hb dX0_rootDigits_74 (by decide) ?_
            exact ih1 (i + 1) (2 * d + 1) (4 * r + dg - (4 * d + 1)) (by omega) ((hnx.1 (by omega)).1) ((hnx.1 (by omega)).2) (by omega) ls (lv_sub hl [4, 5, 1, 2, 0] rfl)
        · have hq1 : N / 2 ^ (2 * (10 - 1 - i)) ≤ N := Nat.div_le_self _ _
          have hq2 : N / 2 ^ (2 * (10 - 1 - i)) % 4 = dg := by rw [hdg]; exact rd_dig (by omega)
          obtain ⟨q, hqe⟩ : ∃ q, q = N / 2 ^ (2 * (10 - 1 - i)) := ⟨_, rfl⟩
          rw [← hqe] at hq1 hq2
          refine lv_iload_n hx hb dX0_rootDigits_25 rfl (lv_at hl 0 rfl) ?_
          refine lv_iconst (v := iI 2) hx hb dX0_rootDigits_26 rfl ?_
          refine lv_iload hx hb dX0_rootDigits_27 (lv_at hl 4 rfl) ?_
          refine pg_imul (z := 2 * (9 - (i : Int))) hx hb dX0_rootDigits_29 (rfl) ?_
          refine pg_ishr (z := q) (n := N) (j := 2 * (10 - 1 - i)) hx hb dX0_rootDigits_30 (rfl) (by omega) (by omega) (by omega) (hqe.symm) ?_
          refine lv_iconst (v := iI 3) hx hb dX0_rootDigits_31 rfl ?_
          refine pg_iand (z := dg) (a := q) (b := 3) hx hb dX0_rootDigits_32 (rfl) (rfl) (by omega) (by decide) (by rw [and3]; exact hq2) ?_
          refine lv_goto (tgt := 37) hx hb dX0_rootDigits_33 (by decide) ?_
          refine pg_i2l hx hb dX0_rootDigits_37 (⟨by omega, by omega⟩) ?_
          refine pg_ladd (z := ((4 * r + dg : Nat) : Int)) hx hb dX0_rootDigits_38 (by omega) ?_
          refine lv_lstore (lv' := [(4, .long (lI (((4 * r + dg : Nat) : Int)))), (0, .int (iI (((N : Nat) : Int)))), (1, .int (iI (((P : Nat) : Int)))), (2, .long (lI (((d : Nat) : Int)))), (6, .int (iI (9 - (i : Int))))]) hx hb dX0_rootDigits_39 hl (by decide) rfl (fun ls hl => ?_)
          refine lv_lload_n hx hb dX0_rootDigits_41 rfl (lv_at hl 3 rfl) ?_
          refine lv_iconst (v := iI 2) hx hb dX0_rootDigits_42 rfl ?_
          refine pg_lshl (z := 4 * d) (n := d) (j := 2) hx hb dX0_rootDigits_43 (rfl) (rfl) (by decide) (by omega) ?_
          refine lv_lconst (v := lI 1) hx hb dX0_rootDigits_44 rfl ?_
          refine pg_ladd (z := ((4 * d + 1 : Nat) : Int)) hx hb dX0_rootDigits_45 (by omega) ?_
          refine lv_lstore (lv' := [(7, .long (lI (((4 * d + 1 : Nat) : Int)))), (4, .long (lI (((4 * r + dg : Nat) : Int)))), (0, .int (iI (((N : Nat) : Int)))), (1, .int (iI (((P : Nat) : Int)))), (2, .long (lI (((d : Nat) : Int)))), (6, .int (iI (9 - (i : Int))))]) hx hb dX0_rootDigits_46 hl (by decide) rfl (fun ls hl => ?_)
          refine lv_lload_n hx hb dX0_rootDigits_48 rfl (lv_at hl 4 rfl) ?_
          refine lv_iconst (v := iI 1) hx hb dX0_rootDigits_49 rfl ?_
          refine pg_lshl (z := 2 * d) (n := d) (j := 1) hx hb dX0_rootDigits_50 (rfl) (rfl) (by decide) (by omega) ?_
          refine lv_lstore_n (lv' := [(2, .long (lI (((2 * d : Nat) : Int)))), (7, .long (lI (((4 * d + 1 : Nat) : Int)))), (4, .long (lI (((4 * r + dg : Nat) : Int)))), (0, .int (iI (((N : Nat) : Int)))), (1, .int (iI (((P : Nat) : Int)))), (6, .int (iI (9 - (i : Int))))]) hx hb dX0_rootDigits_51 rfl hl (by decide) rfl (fun ls hl => ?_)
          refine lv_lload hx hb dX0_rootDigits_52 (lv_at hl 2 rfl) ?_
          refine lv_lload hx hb dX0_rootDigits_54 (lv_at hl 1 rfl) ?_
          refine pg_lcmp hx hb dX0_rootDigits_56 (⟨by omega, by omega⟩) (⟨by omega, by omega⟩) (fun z6 hz6 => ?_)
          refine pg_if_lt (tgt := 71) hx hb dX0_rootDigits_57 (by decide) (⟨by omega, by omega⟩) (fun hc7 => ?_) (fun hc7 => ?_)
          · refine lv_iinc (v := iI (9 - ((i + 1 : Nat) : Int))) (lv' := [(6, .int (iI (9 - ((i + 1 : Nat) : Int)))), (2, .long (lI (((2 * d : Nat) : Int)))), (7, .long (lI (((4 * d + 1 : Nat) : Int)))), (4, .long (lI (((4 * r + dg : Nat) : Int)))), (0, .int (iI (((N : Nat) : Int)))), (1, .int (iI (((P : Nat) : Int))))]) hx hb dX0_rootDigits_71 hl (k := 5) rfl (iI_addp (by omega)) (by decide) rfl (fun ls hl => ?_)
            refine lv_goto (tgt := 9) hx hb dX0_rootDigits_74 (by decide) ?_
            exact ih1 (i + 1) (2 * d) (4 * r + dg) (by omega) ((hnx.2 (by omega)).1) ((hnx.2 (by omega)).2) (by omega) ls (lv_sub hl [4, 5, 1, 3, 0] rfl)
          · refine lv_lload hx hb dX0_rootDigits_60 (lv_at hl 2 rfl) ?_
            refine lv_lload hx hb dX0_rootDigits_62 (lv_at hl 1 rfl) ?_
            refine pg_lsub (z := ((4 * r + dg - (4 * d + 1) : Nat) : Int)) hx hb dX0_rootDigits_64 (by omega) ?_
            refine lv_lstore (lv' := [(4, .long (lI (((4 * r + dg - (4 * d + 1) : Nat) : Int)))), (2, .long (lI (((2 * d : Nat) : Int)))), (7, .long (lI (((4 * d + 1 : Nat) : Int)))), (0, .int (iI (((N : Nat) : Int)))), (1, .int (iI (((P : Nat) : Int)))), (6, .int (iI (9 - (i : Int))))]) hx hb dX0_rootDigits_65 hl (by decide) rfl (fun ls hl => ?_)
            refine lv_lload_n hx hb dX0_rootDigits_67 rfl (lv_at hl 1 rfl) ?_
            refine lv_lconst (v := lI 1) hx hb dX0_rootDigits_68 rfl ?_
            refine pg_ladd (z := ((2 * d + 1 : Nat) : Int)) hx hb dX0_rootDigits_69 (by omega) ?_
            refine lv_lstore_n (lv' := [(2, .long (lI (((2 * d + 1 : Nat) : Int)))), (4, .long (lI (((4 * r + dg - (4 * d + 1) : Nat) : Int)))), (7, .long (lI (((4 * d + 1 : Nat) : Int)))), (0, .int (iI (((N : Nat) : Int)))), (1, .int (iI (((P : Nat) : Int)))), (6, .int (iI (9 - (i : Int))))]) hx hb dX0_rootDigits_70 rfl hl (by decide) rfl (fun ls hl => ?_)
            refine lv_iinc (v := iI (9 - ((i + 1 : Nat) : Int))) (lv' := [(6, .int (iI (9 - ((i + 1 : Nat) : Int)))), (2, .long (lI (((2 * d + 1 : Nat) : Int)))), (4, .long (lI (((4 * r + dg - (4 * d + 1) : Nat) : Int)))), (7, .long (lI (((4 * d + 1 : Nat) : Int)))), (0, .int (iI (((N : Nat) : Int)))), (1, .int (iI (((P : Nat) : Int))))]) hx hb dX0_rootDigits_71 hl (k := 5) rfl (iI_addp (by omega)) (by decide) rfl (fun ls hl => ?_)
            refine lv_goto (tgt := 9) hx hb dX0_rootDigits_74 (by decide) ?_
            exact ih1 (i + 1) (2 * d + 1) (4 * r + dg - (4 * d + 1)) (by omega) ((hnx.1 (by omega)).1) ((hnx.1 (by omega)).2) (by omega) ls (lv_sub hl [4, 5, 1, 2, 0] rfl)
  refine loop1 (10 + P + 1) 0 0 0 (Nat.zero_le _) (by rw [vd_0 (by omega)]; rfl) (by rw [vd_0 (by omega)]; rfl) (by omega) ls (lv_sub hl [3, 4, 2, 1, 0] rfl)
set_option maxRecDepth 100000 in
set_option maxHeartbeats 4000000 in
theorem c_X0_highestPair (l : Launch) (N : Nat) (hN : N < 2 ^ 20) (hN0 : N ≠ 0) : pg_ro l yX0_highestPair wsX0_highestPair (rm 0 0) pT [.int (iI (((N : Nat) : Int)))] (some (.int (iI (((pw N : Nat) : Int))))) := by
  refine pg_ro_of (cc := cX0_highestPair) (maxL := 2) (ret := (some .int)) (by decide) rfl (Nat.le_of_ble_eq_true rfl) ?_
  intro p e s m below meth c ls SC hr hlk hB hl
  obtain ⟨hx, hb, hml, hown, hts⟩ := id SC
  have hown : s.vm.findClass RX0 = some m.cls := hown
  have hl : lv_has ls 2 [(0, .int (iI (((N : Nat) : Int))))] := hl
  refine lv_bipush (v := iI 9) hx hb dX0_highestPair_0 (by decide +kernel) ?_
  refine lv_istore_n (lv' := [(1, .int (iI 9)), (0, .int (iI (((N : Nat) : Int))))]) hx hb dX0_highestPair_2 rfl hl (by decide) rfl (fun ls hl => ?_)
  have loop1 : ∀ (fu : Nat) (k : Nat), (k ≤ 9) → (N < 4 ^ (k + 1)) → k < fu → ∀ ls : Array Slot, lv_has ls 2 [(0, .int (iI (((N : Nat) : Int)))), (1, .int (iI (((k : Nat) : Int))))] → W p l e (rm 0 0) s m ([.int (iI (((N : Nat) : Int)))] : List Value).toArray below meth c s.heap [] 0 0 (MQ below (pg_Q (some (.int (iI (((pw N : Nat) : Int)))))) ([.int (iI (((N : Nat) : Int)))] : List Value).toArray s 0 0 (fun _ => False)) (F0 m 3 ls []) := by
    intro fu
    induction fu with
    | zero => intros; omega
    | succ fu ih1 =>
      intro k hk hkN hm1 ls hl
      refine lv_iload_n hx hb dX0_highestPair_3 rfl (lv_at hl 1 rfl) ?_
      refine pg_if_le (tgt := 21) hx hb dX0_highestPair_4 (by decide) (⟨by omega, by omega⟩) (fun hc2 => ?_) (fun hc2 => ?_)
      · refine lv_iload_n hx hb dX0_highestPair_21 rfl (lv_at hl 1 rfl) ?_
        exact pg_iret hx hb hr hlk  (congrArg (fun z : Int => some (Value.int (iI z))) (show ((pw N : Nat) : Int) = ((k : Nat) : Int) by exact congrArg (fun n : Nat => (n : Int)) (pw_uniq (by rw [show k = 0 by omega]; omega) hkN))) dX0_highestPair_22
      · obtain ⟨q, hqe⟩ : ∃ q, q = N / 2 ^ (2 * k) := ⟨_, rfl⟩
        have hq1 : q ≤ N := by rw [hqe]; exact Nat.div_le_self _ _
        refine lv_iload_n hx hb dX0_highestPair_7 rfl (lv_at hl 0 rfl) ?_
        refine lv_iconst (v := iI 2) hx hb dX0_highestPair_8 rfl ?_
        refine lv_iload_n hx hb dX0_highestPair_9 rfl (lv_at hl 1 rfl) ?_
        refine pg_imul (z := 2 * (k : Int)) hx hb dX0_highestPair_10 (rfl) ?_
        refine pg_ishr (z := q) (n := N) (j := 2 * k) hx hb dX0_highestPair_11 (rfl) (by omega) (by omega) (by omega) (hqe.symm) ?_
        refine pg_if_ne (tgt := 21) hx hb dX0_highestPair_12 (by decide) (⟨by omega, by omega⟩) (fun hc3 => ?_) (fun hc3 => ?_)
        · refine lv_iload_n hx hb dX0_highestPair_21 rfl (lv_at hl 1 rfl) ?_
          exact pg_iret hx hb hr hlk  (congrArg (fun z : Int => some (Value.int (iI z))) (show ((pw N : Nat) : Int) = ((k : Nat) : Int) by exact congrArg (fun n : Nat => (n : Int)) (pw_uniq (by rw [p4]; exact Nat.le_of_not_lt (fun h9 => absurd (Nat.div_eq_of_lt h9) (by rw [← hqe]; omega))) hkN))) dX0_highestPair_22
        · have hlt : N < 2 ^ (2 * k) := (Nat.div_eq_zero_iff_lt (Nat.pow_pos (by decide))).mp (by rw [← hqe]; omega)
          refine lv_iinc (v := iI (((k - 1 : Nat) : Int))) (lv' := [(1, .int (iI (((k - 1 : Nat) : Int)))), (0, .int (iI (((N : Nat) : Int))))]) hx hb dX0_highestPair_15 hl (k := 1) rfl (iI_addp (by omega)) (by decide) rfl (fun ls hl => ?_)
          refine lv_goto (tgt := 3) hx hb dX0_highestPair_18 (by decide) ?_
          exact ih1 (k - 1) (by omega) (by rw [show k - 1 + 1 = k by omega, p4]; exact hlt) (by omega) ls (lv_sub hl [1, 0] rfl)
  refine loop1 (9 + 1) 9 (by omega) (by omega) (by omega) ls (lv_sub hl [1, 0] rfl)
set_option maxRecDepth 100000 in
set_option maxHeartbeats 4000000 in
theorem c_X0_wholePart (l : Launch) (N : Nat) (hN : N < 2 ^ 20) : pg_ro l yX0_wholePart wsX0_wholePart (rm 1 28) pT [.int (iI (((N : Nat) : Int)))] (some (.int (iI (((qs N : Nat) : Int))))) := by
  refine pg_ro_of (cc := cX0_wholePart) (maxL := 1) (ret := (some .int)) (by decide) rfl (Nat.le_of_ble_eq_true rfl) ?_
  intro p e s m below meth c ls SC hr hlk hB hl
  obtain ⟨hx, hb, hml, hown, hts⟩ := id SC
  have hown : s.vm.findClass RX0 = some m.cls := hown
  have hl : lv_has ls 1 [(0, .int (iI (((N : Nat) : Int))))] := hl
  refine lv_iload_n hx hb dX0_wholePart_0 rfl (lv_at hl 0 rfl) ?_
  refine lv_iconst (v := iI 0) hx hb dX0_wholePart_1 rfl ?_
  refine pg_callS (As := [.int (iI (((N : Nat) : Int))), .int (iI 0)]) (rest := []) SC (c_X0_rootDigits l N 0 hN (by decide) (by omega)) pT_st pT_h (va_cwS 2 hts gX0_wholePart_X0_rootDigits rfl rfl rfl (by decide +kernel) ⟨Nat.le_of_ble_eq_true rfl, Nat.le_of_ble_eq_true rfl⟩) rfl hl.1 rfl (Nat.le_of_ble_eq_true rfl) dX0_wholePart_2 ⟨Nat.zero_le _, Nat.zero_le _⟩ ?_
  refine pg_l2i hx hb dX0_wholePart_5 ?_
  exact pg_iret hx hb hr hlk  (congrArg (fun z : Int => some (Value.int (iI z))) (show ((qs N : Nat) : Int) = ((qs (N * 4 ^ 0) : Nat) : Int) by rw [Nat.pow_zero, Nat.mul_one])) dX0_wholePart_6
set_option maxRecDepth 100000 in
set_option maxHeartbeats 4000000 in
theorem c_X0_grainsOfRoot (l : Launch) (N : Nat) (hN : N < 2 ^ 20) : pg_ro l yX0_grainsOfRoot wsX0_grainsOfRoot (rm 1 28) pT [.int (iI (((N : Nat) : Int)))] (some (.int (iI (((gr N : Nat) : Int))))) := by
  refine pg_ro_of (cc := cX0_grainsOfRoot) (maxL := 1) (ret := (some .int)) (by decide) rfl (Nat.le_of_ble_eq_true rfl) ?_
  intro p e s m below meth c ls SC hr hlk hB hl
  obtain ⟨hx, hb, hml, hown, hts⟩ := id SC
  have hown : s.vm.findClass RX0 = some m.cls := hown
  have hl : lv_has ls 1 [(0, .int (iI (((N : Nat) : Int))))] := hl
  refine lv_iload_n hx hb dX0_grainsOfRoot_0 rfl (lv_at hl 0 rfl) ?_
  refine lv_bipush (v := iI 15) hx hb dX0_grainsOfRoot_1 (by decide +kernel) ?_
  refine pg_callS (As := [.int (iI (((N : Nat) : Int))), .int (iI 15)]) (rest := []) SC (c_X0_rootDigits l N 15 hN (by decide) (by omega)) pT_st pT_h (va_cwS 2 hts gX0_grainsOfRoot_X0_rootDigits rfl rfl rfl (by decide +kernel) ⟨Nat.le_of_ble_eq_true rfl, Nat.le_of_ble_eq_true rfl⟩) rfl hl.1 rfl (Nat.le_of_ble_eq_true rfl) dX0_grainsOfRoot_3 ⟨Nat.zero_le _, Nat.zero_le _⟩ ?_
  have hq := qs_below (n := N * 4 ^ 15) (b := 2 ^ 25) (by omega)
  refine lv_lconst (v := lI 1) hx hb dX0_grainsOfRoot_6 rfl ?_
  refine pg_ladd (z := ((qs (N * 4 ^ 15) + 1 : Nat) : Int)) hx hb dX0_grainsOfRoot_7 (by omega) ?_
  refine lv_iconst (v := iI 1) hx hb dX0_grainsOfRoot_8 rfl ?_
  refine pg_lshr (z := gr N) (n := qs (N * 4 ^ 15) + 1) (j := 1) hx hb dX0_grainsOfRoot_9 (rfl) (rfl) (by omega) (by decide) (rfl) ?_
  refine pg_l2i hx hb dX0_grainsOfRoot_10 ?_
  exact pg_iret hx hb hr hlk  (congrArg (fun z : Int => some (Value.int (iI z))) (show ((gr N : Nat) : Int) = ((gr N : Nat) : Int) by rfl)) dX0_grainsOfRoot_11
set_option maxRecDepth 100000 in
set_option maxHeartbeats 4000000 in
theorem c_X0_bitsOfRoot (l : Launch) (M : Nat) (hM : M < 2 ^ 20) : pg_ro l yX0_bitsOfRoot wsX0_bitsOfRoot (rm 1 28) pT [.int (iI (((M : Nat) : Int)))] (some (.long (lI (((bx M : Nat) : Int))))) := by
  refine pg_ro_of (cc := cX0_bitsOfRoot) (maxL := 6) (ret := (some .long)) (by decide) rfl (Nat.le_of_ble_eq_true rfl) ?_
  intro p e s m below meth c ls SC hr hlk hB hl
  obtain ⟨hx, hb, hml, hown, hts⟩ := id SC
  have hown : s.vm.findClass RX0 = some m.cls := hown
  have hl : lv_has ls 6 [(0, .int (iI (((M : Nat) : Int))))] := hl
  refine lv_iload_n hx hb dX0_bitsOfRoot_0 rfl (lv_at hl 0 rfl) ?_
  refine pg_if_gt (tgt := 6) hx hb dX0_bitsOfRoot_1 (by decide) (⟨by omega, by omega⟩) (fun hc1 => ?_) (fun hc1 => ?_)
  · have hM0 : M ≠ 0 := by omega
    have hpw : pw M ≤ 9 := pw_small (by omega)
    obtain ⟨u1, u2, -, -⟩ := un_spec hM0 hM
    refine lv_iload_n hx hb dX0_bitsOfRoot_6 rfl (lv_at hl 0 rfl) ?_
    refine pg_callS (As := [.int (iI (((M : Nat) : Int)))]) (rest := []) SC (c_X0_highestPair l M hM (by omega)) pT_st pT_h (va_cwS 1 hts gX0_bitsOfRoot_X0_highestPair rfl rfl rfl (by decide +kernel) ⟨Nat.le_of_ble_eq_true rfl, Nat.le_of_ble_eq_true rfl⟩) rfl hl.1 rfl (Nat.le_of_ble_eq_true rfl) dX0_bitsOfRoot_7 ⟨Nat.zero_le _, Nat.zero_le _⟩ ?_
    refine lv_istore_n (lv' := [(1, .int (iI (((pw M : Nat) : Int)))), (0, .int (iI (((M : Nat) : Int))))]) hx hb dX0_bitsOfRoot_10 rfl hl (by decide) rfl (fun ls hl => ?_)
    refine lv_iload_n hx hb dX0_bitsOfRoot_11 rfl (lv_at hl 1 rfl) ?_
    refine lv_bipush (v := iI 53) hx hb dX0_bitsOfRoot_12 (by decide +kernel) ?_
    refine lv_iload_n hx hb dX0_bitsOfRoot_14 rfl (lv_at hl 0 rfl) ?_
    refine pg_isub (z := ((53 - pw M : Nat) : Int)) hx hb dX0_bitsOfRoot_15 (by omega) ?_
    refine pg_callS (As := [.int (iI (((M : Nat) : Int))), .int (iI (((53 - pw M : Nat) : Int)))]) (rest := []) SC (c_X0_rootDigits l M (53 - pw M) hM (by omega) (rd_ok hM)) pT_st pT_h (va_cwS 2 hts gX0_bitsOfRoot_X0_rootDigits rfl rfl rfl (by decide +kernel) ⟨Nat.le_of_ble_eq_true rfl, Nat.le_of_ble_eq_true rfl⟩) rfl hl.1 rfl (Nat.le_of_ble_eq_true rfl) dX0_bitsOfRoot_16 ⟨Nat.zero_le _, Nat.zero_le _⟩ ?_
    refine lv_lconst (v := lI 1) hx hb dX0_bitsOfRoot_19 rfl ?_
    refine pg_ladd (z := ((qs (M * 4 ^ (53 - pw M)) + 1 : Nat) : Int)) hx hb dX0_bitsOfRoot_20 (by omega) ?_
    refine lv_iconst (v := iI 1) hx hb dX0_bitsOfRoot_21 rfl ?_
    refine pg_lshr (z := un M) (n := qs (M * 4 ^ (53 - pw M)) + 1) (j := 1) hx hb dX0_bitsOfRoot_22 (rfl) (rfl) (by unfold un at u2; omega) (by decide) (rfl) ?_
    refine lv_lstore_n (lv' := [(2, .long (lI (((un M : Nat) : Int)))), (1, .int (iI (((pw M : Nat) : Int)))), (0, .int (iI (((M : Nat) : Int))))]) hx hb dX0_bitsOfRoot_23 rfl hl (by decide) rfl (fun ls hl => ?_)
    refine lv_sipush (v := iI 1023) hx hb dX0_bitsOfRoot_24 (by decide +kernel) ?_
    refine lv_iload_n hx hb dX0_bitsOfRoot_27 rfl (lv_at hl 1 rfl) ?_
    refine pg_iadd (z := ((1023 + pw M : Nat) : Int)) hx hb dX0_bitsOfRoot_28 (by omega) ?_
    refine lv_iconst (v := iI 2) hx hb dX0_bitsOfRoot_29 rfl ?_
    refine pg_isub (z := ((1021 + pw M : Nat) : Int)) hx hb dX0_bitsOfRoot_30 (by omega) ?_
    refine pg_i2l hx hb dX0_bitsOfRoot_31 (⟨by omega, by omega⟩) ?_
    refine lv_lstore (lv' := [(4, .long (lI (((1021 + pw M : Nat) : Int)))), (2, .long (lI (((un M : Nat) : Int)))), (1, .int (iI (((pw M : Nat) : Int)))), (0, .int (iI (((M : Nat) : Int))))]) hx hb dX0_bitsOfRoot_32 hl (by decide) rfl (fun ls hl => ?_)
    refine lv_lload hx hb dX0_bitsOfRoot_34 (lv_at hl 0 rfl) ?_
    refine lv_bipush (v := iI 52) hx hb dX0_bitsOfRoot_36 (by decide +kernel) ?_
    refine pg_lshl (z := (1021 + pw M) * 2 ^ 52) (n := 1021 + pw M) (j := 52) hx hb dX0_bitsOfRoot_38 (rfl) (rfl) (by decide) (rfl) ?_
    refine lv_lload_n hx hb dX0_bitsOfRoot_39 rfl (lv_at hl 1 rfl) ?_
    refine lv_ldc2 hx hb hown (hts (.constantLong RX0 228 4503599627370496) (by decide +kernel)) dX0_bitsOfRoot_40 (pg_tl (y := lI 4503599627370496) (by decide +kernel) ?_)
    refine pg_lsub (z := ((un M - 2 ^ 52 : Nat) : Int)) hx hb dX0_bitsOfRoot_43 (by omega) ?_
    refine pg_ladd (z := (((1021 + pw M) * 2 ^ 52 + (un M - 2 ^ 52) : Nat) : Int)) hx hb dX0_bitsOfRoot_44 (by omega) ?_
    exact pg_lret hx hb hr hlk  (congrArg (fun z : Int => some (Value.long (lI z))) (show ((bx M : Nat) : Int) = (((1021 + pw M) * 2 ^ 52 + (un M - 2 ^ 52) : Nat) : Int) by rw [bx_eq hM0])) dX0_bitsOfRoot_45
  · refine lv_lconst (v := lI 0) hx hb dX0_bitsOfRoot_4 rfl ?_
    exact pg_lret hx hb hr hlk  (congrArg (fun z : Int => some (Value.long (lI z))) (show ((bx M : Nat) : Int) = 0 by rw [show M = 0 by omega]; rfl)) dX0_bitsOfRoot_5
set_option maxRecDepth 100000 in
set_option maxHeartbeats 4000000 in
theorem c_X0_hypotenuseBits (l : Launch) (aa bb ww : Int) (M : Nat) (hM : M < 2 ^ 20) (hw : inI ww) (h : (ww = 0 ∧ (M : Int) = aa * aa + bb * bb) ∨ (ww = 1 ∧ (M : Int) = 4 * (aa * aa + bb * bb))) : pg_ro l yX0_hypotenuseBits wsX0_hypotenuseBits (rm 2 53) pT [.int (iI aa), .int (iI bb), .int (iI ww)] (some (.long (lI (((bx M : Nat) : Int))))) := by
  refine pg_ro_of (cc := cX0_hypotenuseBits) (maxL := 3) (ret := (some .long)) (by decide) rfl (Nat.le_of_ble_eq_true rfl) ?_
  intro p e s m below meth c ls SC hr hlk hB hl
  obtain ⟨hx, hb, hml, hown, hts⟩ := id SC
  have hown : s.vm.findClass RX0 = some m.cls := hown
  have hl : lv_has ls 3 [(0, .int (iI aa)), (1, .int (iI bb)), (2, .int (iI ww))] := hl
  refine lv_iload_n hx hb dX0_hypotenuseBits_0 rfl (lv_at hl 0 rfl) ?_
  refine lv_iload_n hx hb dX0_hypotenuseBits_1 rfl (lv_at hl 1 rfl) ?_
  refine lv_iload_n hx hb dX0_hypotenuseBits_2 rfl (lv_at hl 2 rfl) ?_
  refine pg_callS (As := [.int (iI aa), .int (iI bb), .int (iI ww)]) (rest := []) SC (c_X0_squareSum l aa bb ww M hw h) pT_st pT_h (va_cwS 3 hts gX0_hypotenuseBits_X0_squareSum rfl rfl rfl (by decide +kernel) ⟨Nat.le_of_ble_eq_true rfl, Nat.le_of_ble_eq_true rfl⟩) rfl hl.1 rfl (Nat.le_of_ble_eq_true rfl) dX0_hypotenuseBits_3 ⟨Nat.zero_le _, Nat.zero_le _⟩ ?_
  refine pg_callS (As := [.int (iI (((M : Nat) : Int)))]) (rest := []) SC (c_X0_bitsOfRoot l M hM) pT_st pT_h (va_cwS 1 hts gX0_hypotenuseBits_X0_bitsOfRoot rfl rfl rfl (by decide +kernel) ⟨Nat.le_of_ble_eq_true rfl, Nat.le_of_ble_eq_true rfl⟩) rfl hl.1 rfl (Nat.le_of_ble_eq_true rfl) dX0_hypotenuseBits_6 ⟨Nat.zero_le _, Nat.zero_le _⟩ ?_
  exact pg_lret hx hb hr hlk  (congrArg (fun z : Int => some (Value.long (lI z))) (show ((bx M : Nat) : Int) = ((bx M : Nat) : Int) by rfl)) dX0_hypotenuseBits_9
set_option maxRecDepth 100000 in
set_option maxHeartbeats 4000000 in
theorem c_X0_unitsOf (l : Launch) (E f : Nat) (hE : E < 2048) (hf : f < 2 ^ 52) : pg_ro l yX0_unitsOf wsX0_unitsOf (rm 0 0) pT [.long (lI (((E * 2 ^ 52 + f : Nat) : Int)))] (some (.long (lI (((2 ^ 52 + f : Nat) : Int))))) := by
  refine pg_ro_of (cc := cX0_unitsOf) (maxL := 2) (ret := (some .long)) (by decide) rfl (Nat.le_of_ble_eq_true rfl) ?_
  intro p e s m below meth c ls SC hr hlk hB hl
  obtain ⟨hx, hb, hml, hown, hts⟩ := id SC
  have hown : s.vm.findClass RX0 = some m.cls := hown
  have hl : lv_has ls 2 [(0, .long (lI (((E * 2 ^ 52 + f : Nat) : Int))))] := hl
  refine lv_lload_n hx hb dX0_unitsOf_0 rfl (lv_at hl 0 rfl) ?_
  refine lv_ldc2 hx hb hown (hts (.constantLong RX0 230 4503599627370495) (by decide +kernel)) dX0_unitsOf_1 (pg_tl (y := lI 4503599627370495) (by decide +kernel) ?_)
  refine pg_lmask (z := f) (n := E * 2 ^ 52 + f) (j := 52) hx hb dX0_unitsOf_4 (rfl) (by decide) (by omega) (by decide) (by omega) ?_
  refine lv_ldc2 hx hb hown (hts (.constantLong RX0 228 4503599627370496) (by decide +kernel)) dX0_unitsOf_5 (pg_tl (y := lI 4503599627370496) (by decide +kernel) ?_)
  refine pg_lorp (z := 2 ^ 52 + f) (n := f) (j := 52) hx hb dX0_unitsOf_8 (rfl) (by decide) (hf) (by decide) (rfl) ?_
  exact pg_lret hx hb hr hlk  (congrArg (fun z : Int => some (Value.long (lI z))) (show ((2 ^ 52 + f : Nat) : Int) = ((2 ^ 52 + f : Nat) : Int) by rfl)) dX0_unitsOf_9
set_option maxRecDepth 100000 in
set_option maxHeartbeats 4000000 in
theorem c_X0_placesAfterPoint (l : Launch) (E f : Nat) (hE : E < 2047) (hf : f < 2 ^ 52) : pg_ro l yX0_placesAfterPoint wsX0_placesAfterPoint (rm 0 0) pT [.long (lI (((E * 2 ^ 52 + f : Nat) : Int)))] (some (.int (iI (1075 - (E : Int))))) := by
  refine pg_ro_of (cc := cX0_placesAfterPoint) (maxL := 2) (ret := (some .int)) (by decide) rfl (Nat.le_of_ble_eq_true rfl) ?_
  intro p e s m below meth c ls SC hr hlk hB hl
  obtain ⟨hx, hb, hml, hown, hts⟩ := id SC
  have hown : s.vm.findClass RX0 = some m.cls := hown
  have hl : lv_has ls 2 [(0, .long (lI (((E * 2 ^ 52 + f : Nat) : Int))))] := hl
  refine lv_sipush (v := iI 1075) hx hb dX0_placesAfterPoint_0 (by decide +kernel) ?_
  refine lv_lload_n hx hb dX0_placesAfterPoint_3 rfl (lv_at hl 0 rfl) ?_
  refine lv_bipush (v := iI 52) hx hb dX0_placesAfterPoint_4 (by decide +kernel) ?_
  refine pg_lushr (z := E) (n := E * 2 ^ 52 + f) (j := 52) hx hb dX0_placesAfterPoint_6 (rfl) (rfl) (by omega) (by decide) (by omega) ?_
  refine pg_l2i hx hb dX0_placesAfterPoint_7 ?_
  refine pg_isub (z := 1075 - (((E : Nat) : Int))) hx hb dX0_placesAfterPoint_8 (rfl) ?_
  exact pg_iret hx hb hr hlk  (congrArg (fun z : Int => some (Value.int (iI z))) (show 1075 - (E : Int) = 1075 - (((E : Nat) : Int)) by rfl)) dX0_placesAfterPoint_9
set_option maxRecDepth 100000 in
set_option maxHeartbeats 4000000 in
theorem c_X0_twice (l : Launch) (bb r : Int) (hb0 : 0 ≤ bb) (hb1 : bb < 9000000000000000000) (h : (bb = 0 ∧ r = 0) ∨ (bb ≠ 0 ∧ r = bb + 4503599627370496)) : pg_ro l yX0_twice wsX0_twice (rm 0 0) pT [.long (lI bb)] (some (.long (lI r))) := by
  refine pg_ro_of (cc := cX0_twice) (maxL := 2) (ret := (some .long)) (by decide) rfl (Nat.le_of_ble_eq_true rfl) ?_
  intro p e s m below meth c ls SC hr hlk hB hl
  obtain ⟨hx, hb, hml, hown, hts⟩ := id SC
  have hown : s.vm.findClass RX0 = some m.cls := hown
  have hl : lv_has ls 2 [(0, .long (lI bb))] := hl
  refine lv_lload_n hx hb dX0_twice_0 rfl (lv_at hl 0 rfl) ?_
  refine lv_lconst (v := lI 0) hx hb dX0_twice_1 rfl ?_
  refine pg_lcmp hx hb dX0_twice_2 (⟨by omega, by omega⟩) (⟨by omega, by omega⟩) (fun z1 hz1 => ?_)
  refine pg_if_ne (tgt := 10) hx hb dX0_twice_3 (by decide) (⟨by omega, by omega⟩) (fun hc2 => ?_) (fun hc2 => ?_)
  · refine lv_lload_n hx hb dX0_twice_10 rfl (lv_at hl 0 rfl) ?_
    refine lv_ldc2 hx hb hown (hts (.constantLong RX0 228 4503599627370496) (by decide +kernel)) dX0_twice_11 (pg_tl (y := lI 4503599627370496) (by decide +kernel) ?_)
    refine pg_ladd (z := bb + 4503599627370496) hx hb dX0_twice_14 (rfl) ?_
    exact pg_lret hx hb hr hlk  (congrArg (fun z : Int => some (Value.long (lI z))) (show r = bb + 4503599627370496 by omega)) dX0_twice_15
  · refine lv_lconst (v := lI 0) hx hb dX0_twice_6 rfl ?_
    refine lv_goto (tgt := 15) hx hb dX0_twice_7 (by decide) ?_
    exact pg_lret hx hb hr hlk  (congrArg (fun z : Int => some (Value.long (lI z))) (show r = 0 by omega)) dX0_twice_15
set_option maxRecDepth 100000 in
set_option maxHeartbeats 4000000 in
theorem c_X0_compareSquare (l : Launch) (U k M : Nat) (pp r : Int) (hpp : 2 * pp = 58 + k) (hU : U < 2 ^ 55) (hk : k ≤ 52) (hMk : M * 2 ^ k < 2 ^ 62) (hM : M < 2 ^ 20) (h : (U * U < M * 2 ^ k * 2 ^ 54 ∧ r = -1) ∨ (U * U = M * 2 ^ k * 2 ^ 54 ∧ r = 0) ∨ (M * 2 ^ k * 2 ^ 54 < U * U ∧ r = 1)) : pg_ro l yX0_compareSquare wsX0_compareSquare (rm 0 0) pT [.long (lI (((U : Nat) : Int))), .int (iI pp), .int (iI (((M : Nat) : Int)))] (some (.int (iI r))) := by
  refine pg_ro_of (cc := cX0_compareSquare) (maxL := 17) (ret := (some .int)) (by decide) rfl (Nat.le_of_ble_eq_true rfl) ?_
  intro p e s m below meth c ls SC hr hlk hB hl
  obtain ⟨hx, hb, hml, hown, hts⟩ := id SC
  have hown : s.vm.findClass RX0 = some m.cls := hown
  have hl : lv_has ls 17 [(0, .long (lI (((U : Nat) : Int)))), (2, .int (iI pp)), (3, .int (iI (((M : Nat) : Int))))] := hl
  have hsq := csq U
  obtain ⟨a, ha⟩ : ∃ a, a = U / 2 ^ 27 := ⟨_, rfl⟩
  obtain ⟨b, hbe⟩ : ∃ b, b = U % 2 ^ 27 := ⟨_, rfl⟩
  have ha1 : a < 2 ^ 28 := by omega
  have hb1 : b < 2 ^ 27 := by omega
  rw [← ha, ← hbe] at hsq
  obtain ⟨x, hxe⟩ : ∃ x, x = 2 * a * b := ⟨_, rfl⟩
  have hx1 : x < 2 ^ 56 := by rw [hxe]; have h9 := Nat.mul_le_mul (show 2 * a ≤ 2 * (2 ^ 28 - 1) by omega) (show b ≤ 2 ^ 27 - 1 by omega); omega
  obtain ⟨y, hye⟩ : ∃ y, y = b * b := ⟨_, rfl⟩
  have hy1 : y < 2 ^ 54 := by rw [hye]; have h9 := Nat.mul_le_mul (show b ≤ 2 ^ 27 - 1 by omega) (show b ≤ 2 ^ 27 - 1 by omega); omega
  obtain ⟨z, hze⟩ : ∃ z, z = a * a := ⟨_, rfl⟩
  have hz1 : z < 2 ^ 56 := by rw [hze]; have h9 := Nat.mul_le_mul (show a ≤ 2 ^ 28 - 1 by omega) (show a ≤ 2 ^ 28 - 1 by omega); omega
  rw [← hxe, ← hye, ← hze] at hsq
  obtain ⟨w, hwe⟩ : ∃ w, w = M * 2 ^ k := ⟨_, rfl⟩
  rw [← hwe] at h hMk
  obtain ⟨uu, huu⟩ : ∃ uu, uu = U * U := ⟨_, rfl⟩
  rw [← huu] at h hsq
  obtain ⟨lo, hlo⟩ : ∃ lo, lo = y + x % 2 ^ 27 * 2 ^ 27 := ⟨_, rfl⟩
  rw [← hlo] at hsq
  refine lv_lload_n hx hb dX0_compareSquare_0 rfl (lv_at hl 0 rfl) ?_
  refine lv_bipush (v := iI 27) hx hb dX0_compareSquare_1 (by decide +kernel) ?_
  refine pg_lshr (z := a) (n := U) (j := 27) hx hb dX0_compareSquare_3 (rfl) (rfl) (by omega) (by decide) (ha.symm) ?_
  refine lv_lstore (lv' := [(4, .long (lI (((a : Nat) : Int)))), (0, .long (lI (((U : Nat) : Int)))), (2, .int (iI pp)), (3, .int (iI (((M : Nat) : Int))))]) hx hb dX0_compareSquare_4 hl (by decide) rfl (fun ls hl => ?_)
  refine lv_lload_n hx hb dX0_compareSquare_6 rfl (lv_at hl 1 rfl) ?_
  refine lv_ldc2 hx hb hown (hts (.constantLong RX0 232 134217727) (by decide +kernel)) dX0_compareSquare_7 (pg_tl (y := lI 134217727) (by decide +kernel) ?_)
  refine pg_lmask (z := b) (n := U) (j := 27) hx hb dX0_compareSquare_10 (rfl) (by decide) (by omega) (by decide) (hbe.symm) ?_
  refine lv_lstore (lv' := [(6, .long (lI (((b : Nat) : Int)))), (4, .long (lI (((a : Nat) : Int)))), (0, .long (lI (((U : Nat) : Int)))), (2, .int (iI pp)), (3, .int (iI (((M : Nat) : Int))))]) hx hb dX0_compareSquare_11 hl (by decide) rfl (fun ls hl => ?_)
  refine lv_ldc2 hx hb hown (hts (.constantLong RX0 133 2) (by decide +kernel)) dX0_compareSquare_13 (pg_tl (y := lI 2) (by decide +kernel) ?_)
  refine lv_lload hx hb dX0_compareSquare_16 (lv_at hl 1 rfl) ?_
  refine pg_lmul (z := 2 * (a : Int)) hx hb dX0_compareSquare_18 (rfl) ?_
  refine lv_lload hx hb dX0_compareSquare_19 (lv_at hl 0 rfl) ?_
  refine pg_lmul (z := ((x : Nat) : Int)) hx hb dX0_compareSquare_21 (by rw [hxe, Int.natCast_mul, Int.natCast_mul]; rfl) ?_
  refine lv_lstore (lv' := [(8, .long (lI (((x : Nat) : Int)))), (6, .long (lI (((b : Nat) : Int)))), (4, .long (lI (((a : Nat) : Int)))), (0, .long (lI (((U : Nat) : Int)))), (2, .int (iI pp)), (3, .int (iI (((M : Nat) : Int))))]) hx hb dX0_compareSquare_22 hl (by decide) rfl (fun ls hl => ?_)
  refine lv_lload hx hb dX0_compareSquare_24 (lv_at hl 1 rfl) ?_
  refine lv_lload hx hb dX0_compareSquare_26 (lv_at hl 1 rfl) ?_
  refine pg_lmul (z := ((y : Nat) : Int)) hx hb dX0_compareSquare_28 (by rw [hye, Int.natCast_mul]) ?_
  refine lv_lload hx hb dX0_compareSquare_29 (lv_at hl 0 rfl) ?_
  refine lv_ldc2 hx hb hown (hts (.constantLong RX0 232 134217727) (by decide +kernel)) dX0_compareSquare_31 (pg_tl (y := lI 134217727) (by decide +kernel) ?_)
  refine pg_lmask (z := x % 2 ^ 27) (n := x) (j := 27) hx hb dX0_compareSquare_34 (rfl) (by decide) (by omega) (by decide) (rfl) ?_
  refine lv_bipush (v := iI 27) hx hb dX0_compareSquare_35 (by decide +kernel) ?_
  refine pg_lshl (z := x % 2 ^ 27 * 2 ^ 27) (n := x % 2 ^ 27) (j := 27) hx hb dX0_compareSquare_37 (rfl) (rfl) (by decide) (rfl) ?_
  refine pg_ladd (z := ((lo : Nat) : Int)) hx hb dX0_compareSquare_38 (by omega) ?_
  refine lv_lstore (lv' := [(10, .long (lI (((lo : Nat) : Int)))), (8, .long (lI (((x : Nat) : Int)))), (6, .long (lI (((b : Nat) : Int)))), (4, .long (lI (((a : Nat) : Int)))), (0, .long (lI (((U : Nat) : Int)))), (2, .int (iI pp)), (3, .int (iI (((M : Nat) : Int))))]) hx hb dX0_compareSquare_39 hl (by decide) rfl (fun ls hl => ?_)
  refine lv_lload hx hb dX0_compareSquare_41 (lv_at hl 3 rfl) ?_
  refine lv_lload hx hb dX0_compareSquare_43 (lv_at hl 3 rfl) ?_
  refine pg_lmul (z := ((z : Nat) : Int)) hx hb dX0_compareSquare_45 (by rw [hze, Int.natCast_mul]) ?_
  refine lv_lload hx hb dX0_compareSquare_46 (lv_at hl 1 rfl) ?_
  refine lv_bipush (v := iI 27) hx hb dX0_compareSquare_48 (by decide +kernel) ?_
  refine pg_lshr (z := x / 2 ^ 27) (n := x) (j := 27) hx hb dX0_compareSquare_50 (rfl) (rfl) (by omega) (by decide) (rfl) ?_
  refine pg_ladd (z := ((z + x / 2 ^ 27 : Nat) : Int)) hx hb dX0_compareSquare_51 (by omega) ?_
  refine lv_lload hx hb dX0_compareSquare_52 (lv_at hl 0 rfl) ?_
  refine lv_bipush (v := iI 54) hx hb dX0_compareSquare_54 (by decide +kernel) ?_
  refine pg_lshr (z := lo / 2 ^ 54) (n := lo) (j := 54) hx hb dX0_compareSquare_56 (rfl) (rfl) (by omega) (by decide) (rfl) ?_
  refine pg_ladd (z := ((z + x / 2 ^ 27 + lo / 2 ^ 54 : Nat) : Int)) hx hb dX0_compareSquare_57 (by omega) ?_
  refine lv_lstore (lv' := [(12, .long (lI (((z + x / 2 ^ 27 + lo / 2 ^ 54 : Nat) : Int)))), (10, .long (lI (((lo : Nat) : Int)))), (8, .long (lI (((x : Nat) : Int)))), (6, .long (lI (((b : Nat) : Int)))), (4, .long (lI (((a : Nat) : Int)))), (0, .long (lI (((U : Nat) : Int)))), (2, .int (iI pp)), (3, .int (iI (((M : Nat) : Int))))]) hx hb dX0_compareSquare_58 hl (by decide) rfl (fun ls hl => ?_)
  refine lv_lload hx hb dX0_compareSquare_60 (lv_at hl 1 rfl) ?_
  refine lv_ldc2 hx hb hown (hts (.constantLong RX0 234 18014398509481983) (by decide +kernel)) dX0_compareSquare_62 (pg_tl (y := lI 18014398509481983) (by decide +kernel) ?_)
  refine pg_lmask (z := lo % 2 ^ 54) (n := lo) (j := 54) hx hb dX0_compareSquare_65 (rfl) (by decide) (by omega) (by decide) (rfl) ?_
  refine lv_lconst (v := lI 0) hx hb dX0_compareSquare_66 rfl ?_
  refine pg_lcmp hx hb dX0_compareSquare_67 (⟨by omega, by omega⟩) (⟨by omega, by omega⟩) (fun z1 hz1 => ?_)
  refine pg_if_eq (tgt := 75) hx hb dX0_compareSquare_68 (by decide) (⟨by omega, by omega⟩) (fun hc2 => ?_) (fun hc2 => ?_)
  · refine lv_iconst (v := iI 0) hx hb dX0_compareSquare_75 rfl ?_
    refine lv_istore (lv' := [(14, .int (iI 0)), (12, .long (lI (((z + x / 2 ^ 27 + lo / 2 ^ 54 : Nat) : Int)))), (10, .long (lI (((lo : Nat) : Int)))), (8, .long (lI (((x : Nat) : Int)))), (6, .long (lI (((b : Nat) : Int)))), (4, .long (lI (((a : Nat) : Int)))), (0, .long (lI (((U : Nat) : Int)))), (2, .int (iI pp)), (3, .int (iI (((M : Nat) : Int))))]) hx hb dX0_compareSquare_76 hl (by decide) rfl (fun ls hl => ?_)
    refine lv_iload_n hx hb dX0_compareSquare_78 rfl (lv_at hl 8 rfl) ?_
    refine pg_i2l hx hb dX0_compareSquare_79 (⟨by omega, by omega⟩) ?_
    refine lv_iconst (v := iI 2) hx hb dX0_compareSquare_80 rfl ?_
    refine lv_iload_n hx hb dX0_compareSquare_81 rfl (lv_at hl 7 rfl) ?_
    refine pg_imul (z := 2 * pp) hx hb dX0_compareSquare_82 (rfl) ?_
    refine lv_iconst (v := iI 4) hx hb dX0_compareSquare_83 rfl ?_
    refine pg_isub (z := 2 * pp - 4) hx hb dX0_compareSquare_84 (rfl) ?_
    refine lv_bipush (v := iI 54) hx hb dX0_compareSquare_85 (by decide +kernel) ?_
    refine pg_isub (z := ((k : Nat) : Int)) hx hb dX0_compareSquare_87 (by omega) ?_
    refine pg_lshl (z := w) (n := M) (j := k) hx hb dX0_compareSquare_88 (rfl) (rfl) (by omega) (hwe.symm) ?_
    refine lv_lstore (lv' := [(15, .long (lI (((w : Nat) : Int)))), (14, .int (iI 0)), (12, .long (lI (((z + x / 2 ^ 27 + lo / 2 ^ 54 : Nat) : Int)))), (10, .long (lI (((lo : Nat) : Int)))), (8, .long (lI (((x : Nat) : Int)))), (6, .long (lI (((b : Nat) : Int)))), (4, .long (lI (((a : Nat) : Int)))), (0, .long (lI (((U : Nat) : Int)))), (2, .int (iI pp)), (3, .int (iI (((M : Nat) : Int))))]) hx hb dX0_compareSquare_89 hl (by decide) rfl (fun ls hl => ?_)
    refine lv_lload hx hb dX0_compareSquare_91 (lv_at hl 2 rfl) ?_
    refine lv_lload hx hb dX0_compareSquare_93 (lv_at hl 0 rfl) ?_
    refine pg_lcmp hx hb dX0_compareSquare_95 (⟨by omega, by omega⟩) (⟨by omega, by omega⟩) (fun z3 hz3 => ?_)
    refine pg_if_eq (tgt := 113) hx hb dX0_compareSquare_96 (by decide) (⟨by omega, by omega⟩) (fun hc4 => ?_) (fun hc4 => ?_)
    · refine lv_iload hx hb dX0_compareSquare_113 (lv_at hl 1 rfl) ?_
      refine pg_if_eq (tgt := 122) hx hb dX0_compareSquare_115 (by decide) (⟨by omega, by omega⟩) (fun hc5 => ?_) (fun hc5 => absurd hc5 (by omega))
      refine lv_iconst (v := iI 0) hx hb dX0_compareSquare_122 rfl ?_
      exact pg_iret hx hb hr hlk  (congrArg (fun z : Int => some (Value.int (iI z))) (show r = 0 by omega)) dX0_compareSquare_123
    · refine lv_lload hx hb dX0_compareSquare_99 (lv_at hl 2 rfl) ?_
      refine lv_lload hx hb dX0_compareSquare_101 (lv_at hl 0 rfl) ?_
      refine pg_lcmp hx hb dX0_compareSquare_103 (⟨by omega, by omega⟩) (⟨by omega, by omega⟩) (fun z6 hz6 => ?_)
      refine pg_if_ge (tgt := 111) hx hb dX0_compareSquare_104 (by decide) (⟨by omega, by omega⟩) (fun hc7 => ?_) (fun hc7 => ?_)
      · refine lv_iconst (v := iI 1) hx hb dX0_compareSquare_111 rfl ?_
        exact pg_iret hx hb hr hlk  (congrArg (fun z : Int => some (Value.int (iI z))) (show r = 1 by omega)) dX0_compareSquare_112
      · refine lv_iconst (v := iI (-1)) hx hb dX0_compareSquare_107 rfl ?_
        refine lv_goto (tgt := 112) hx hb dX0_compareSquare_108 (by decide) ?_
        exact pg_iret hx hb hr hlk  (congrArg (fun z : Int => some (Value.int (iI z))) (show r = (-1) by omega)) dX0_compareSquare_112
  · refine lv_iconst (v := iI 1) hx hb dX0_compareSquare_71 rfl ?_
    refine lv_goto (tgt := 76) hx hb dX0_compareSquare_72 (by decide) ?_
    refine lv_istore (lv' := [(14, .int (iI 1)), (12, .long (lI (((z + x / 2 ^ 27 + lo / 2 ^ 54 : Nat) : Int)))), (10, .long (lI (((lo : Nat) : Int)))), (8, .long (lI (((x : Nat) : Int)))), (6, .long (lI (((b : Nat) : Int)))), (4, .long (lI (((a : Nat) : Int)))), (0, .long (lI (((U : Nat) : Int)))), (2, .int (iI pp)), (3, .int (iI (((M : Nat) : Int))))]) hx hb dX0_compareSquare_76 hl (by decide) rfl (fun ls hl => ?_)
    refine lv_iload_n hx hb dX0_compareSquare_78 rfl (lv_at hl 8 rfl) ?_
    refine pg_i2l hx hb dX0_compareSquare_79 (⟨by omega, by omega⟩) ?_
    refine lv_iconst (v := iI 2) hx hb dX0_compareSquare_80 rfl ?_
    refine lv_iload_n hx hb dX0_compareSquare_81 rfl (lv_at hl 7 rfl) ?_
    refine pg_imul (z := 2 * pp) hx hb dX0_compareSquare_82 (rfl) ?_
    refine lv_iconst (v := iI 4) hx hb dX0_compareSquare_83 rfl ?_
    refine pg_isub (z := 2 * pp - 4) hx hb dX0_compareSquare_84 (rfl) ?_
    refine lv_bipush (v := iI 54) hx hb dX0_compareSquare_85 (by decide +kernel) ?_
    refine pg_isub (z := ((k : Nat) : Int)) hx hb dX0_compareSquare_87 (by omega) ?_
    refine pg_lshl (z := w) (n := M) (j := k) hx hb dX0_compareSquare_88 (rfl) (rfl) (by omega) (hwe.symm) ?_
    refine lv_lstore (lv' := [(15, .long (lI (((w : Nat) : Int)))), (14, .int (iI 1)), (12, .long (lI (((z + x / 2 ^ 27 + lo / 2 ^ 54 : Nat) : Int)))), (10, .long (lI (((lo : Nat) : Int)))), (8, .long (lI (((x : Nat) : Int)))), (6, .long (lI (((b : Nat) : Int)))), (4, .long (lI (((a : Nat) : Int)))), (0, .long (lI (((U : Nat) : Int)))), (2, .int (iI pp)), (3, .int (iI (((M : Nat) : Int))))]) hx hb dX0_compareSquare_89 hl (by decide) rfl (fun ls hl => ?_)
    refine lv_lload hx hb dX0_compareSquare_91 (lv_at hl 2 rfl) ?_
    refine lv_lload hx hb dX0_compareSquare_93 (lv_at hl 0 rfl) ?_
    refine pg_lcmp hx hb dX0_compareSquare_95 (⟨by omega, by omega⟩) (⟨by omega, by omega⟩) (fun z8 hz8 => ?_)
    refine pg_if_eq (tgt := 113) hx hb dX0_compareSquare_96 (by decide) (⟨by omega, by omega⟩) (fun hc9 => ?_) (fun hc9 => ?_)
    · refine lv_iload hx hb dX0_compareSquare_113 (lv_at hl 1 rfl) ?_
      refine pg_if_eq (tgt := 122) hx hb dX0_compareSquare_115 (by decide) (⟨by omega, by omega⟩) (fun hc10 => absurd hc10 (by omega)) (fun hc10 => ?_)
      refine lv_iconst (v := iI 1) hx hb dX0_compareSquare_118 rfl ?_
      refine lv_goto (tgt := 123) hx hb dX0_compareSquare_119 (by decide) ?_
      exact pg_iret hx hb hr hlk  (congrArg (fun z : Int => some (Value.int (iI z))) (show r = 1 by omega)) dX0_compareSquare_123
    · refine lv_lload hx hb dX0_compareSquare_99 (lv_at hl 2 rfl) ?_
      refine lv_lload hx hb dX0_compareSquare_101 (lv_at hl 0 rfl) ?_
      refine pg_lcmp hx hb dX0_compareSquare_103 (⟨by omega, by omega⟩) (⟨by omega, by omega⟩) (fun z11 hz11 => ?_)
      refine pg_if_ge (tgt := 111) hx hb dX0_compareSquare_104 (by decide) (⟨by omega, by omega⟩) (fun hc12 => ?_) (fun hc12 => ?_)
      · refine lv_iconst (v := iI 1) hx hb dX0_compareSquare_111 rfl ?_
        exact pg_iret hx hb hr hlk  (congrArg (fun z : Int => some (Value.int (iI z))) (show r = 1 by omega)) dX0_compareSquare_112
      · refine lv_iconst (v := iI (-1)) hx hb dX0_compareSquare_107 rfl ?_
        refine lv_goto (tgt := 112) hx hb dX0_compareSquare_108 (by decide) ?_
        exact pg_iret hx hb hr hlk  (congrArg (fun z : Int => some (Value.int (iI z))) (show r = (-1) by omega)) dX0_compareSquare_112
