set_option maxRecDepth 100000 in
set_option maxHeartbeats 4000000 in
theorem c_X0_count (l : Launch) (X : pgX) (S : pgS) (hok : pgOk S)  : pg_ro l yX0_count wsX0_count (rm 2 41) (xB X S) [.ref ((xa X 0))] (some (.int (iI (((cnt S 12 : Nat) : Int))))) := by
  refine pg_ro_of (cc := cX0_count) (maxL := 3) (ret := (some .int)) (by decide) rfl (Nat.le_of_ble_eq_true rfl) ?_
  intro p e s m below meth c ls SC hr hlk hB hl
  obtain ⟨hx, hb, hml, hown, hts⟩ := id SC
  have hown : s.vm.findClass RX0 = some m.cls := hown
  obtain ⟨hP, hK⟩ := id hB
  have hl : lv_has ls 3 [(0, .ref ((xa X 0)))] := hl
  refine lv_iconst (v := iI 0) hx hb dX0_count_0 rfl ?_
  refine lv_istore_n (lv' := [(1, .int (iI 0)), (0, .ref ((xa X 0)))]) hx hb dX0_count_1 rfl hl (by decide) rfl (fun ls hl => ?_)
  refine lv_iconst (v := iI 0) hx hb dX0_count_2 rfl ?_
  refine lv_istore_n (lv' := [(2, .int (iI 0)), (1, .int (iI 0)), (0, .ref ((xa X 0)))]) hx hb dX0_count_3 rfl hl (by decide) rfl (fun ls hl => ?_)
  have loop1 : ∀ (fu : Nat) (i : Nat) (n : Nat), (i ≤ 12) → (n = cnt S i) → 12 - i < fu → ∀ ls : Array Slot, lv_has ls 3 [(0, .ref ((xa X 0))), (1, .int (iI (((n : Nat) : Int)))), (2, .int (iI (((i : Nat) : Int))))] → W p l e (rm 2 41) s m ([.ref ((xa X 0))] : List Value).toArray below meth c s.heap [] 0 0 (MQ below (pg_Q (some (.int (iI (((cnt S 12 : Nat) : Int)))))) ([.ref ((xa X 0))] : List Value).toArray s 0 0 (fun _ => False)) (F0 m 4 ls []) := by
    intro fu
    induction fu with
    | zero => intros; omega
    | succ fu ih1 =>
      intro i n hi hn hm1 ls hl
      refine lv_iload_n hx hb dX0_count_4 rfl (lv_at hl 2 rfl) ?_
      refine lv_bipush (v := iI 12) hx hb dX0_count_5 (by decide +kernel) ?_
      refine pg_icmp_ge (tgt := 27) hx hb dX0_count_7 (by decide) (⟨by omega, by omega⟩) (⟨by omega, by omega⟩) (fun hc2 => ?_) (fun hc2 => ?_)
      · refine lv_iload_n hx hb dX0_count_27 rfl (lv_at hl 1 rfl) ?_
        exact pg_iret hx hb hr hlk  (congrArg (fun z : Int => some (Value.int (iI z))) (show ((cnt S 12 : Nat) : Int) = ((n : Nat) : Int) by rw [hn, show i = 12 by omega])) dX0_count_28
      · have h1 := hok.1 i
        refine lv_aload_n hx hb dX0_count_10 rfl (lv_at hl 0 rfl) ?_
        refine lv_iload_n hx hb dX0_count_11 rfl (lv_at hl 2 rfl) ?_
        refine pg_callV (As := [.int (iI (((i : Nat) : Int)))]) (rest := []) SC (c_X0_stands l X S i (by omega) h1) xB_st (xB_h hP hK) (cwV 1 hts gX0_count_X0_stands rfl rfl rfl (by decide +kernel) ⟨Nat.le_of_ble_eq_true rfl, Nat.le_of_ble_eq_true rfl⟩) (va_recv hK hP (ci := 0) (q0 := 0) rfl rfl) rfl hl.1 rfl (Nat.le_of_ble_eq_true rfl) dX0_count_12 ⟨Nat.zero_le _, Nat.zero_le _⟩ ?_
        refine pg_if_eq (tgt := 21) hx hb dX0_count_15 (by decide) (⟨by omega, by omega⟩) (fun hc3 => ?_) (fun hc3 => ?_)
        · refine lv_iinc (v := iI (((i + 1 : Nat) : Int))) (lv' := [(2, .int (iI (((i + 1 : Nat) : Int)))), (0, .ref ((xa X 0))), (1, .int (iI (((n : Nat) : Int))))]) hx hb dX0_count_21 hl (k := 2) rfl (iI_addp (by omega)) (by decide) rfl (fun ls hl => ?_)
          refine lv_goto (tgt := 4) hx hb dX0_count_24 (by decide) ?_
          exact ih1 (i + 1) n (by omega) (by rw [cnt_s]; omega) (by omega) ls (lv_sub hl [1, 2, 0] rfl)
        · refine lv_iinc (v := iI (((n + 1 : Nat) : Int))) (lv' := [(1, .int (iI (((n + 1 : Nat) : Int)))), (0, .ref ((xa X 0))), (2, .int (iI (((i : Nat) : Int))))]) hx hb dX0_count_18 hl (k := 1) rfl (iI_addp (by omega)) (by decide) rfl (fun ls hl => ?_)
          refine lv_iinc (v := iI (((i + 1 : Nat) : Int))) (lv' := [(2, .int (iI (((i + 1 : Nat) : Int)))), (1, .int (iI (((n + 1 : Nat) : Int)))), (0, .ref ((xa X 0)))]) hx hb dX0_count_21 hl (k := 2) rfl (iI_addp (by omega)) (by decide) rfl (fun ls hl => ?_)
          refine lv_goto (tgt := 4) hx hb dX0_count_24 (by decide) ?_
          exact ih1 (i + 1) (n + 1) (by omega) (by rw [cnt_s]; omega) (by omega) ls (lv_sub hl [2, 1, 0] rfl)
  refine loop1 (12 + 1) 0 0 (by omega) (rfl) (by omega) ls (lv_sub hl [2, 1, 0] rfl)
set_option maxRecDepth 100000 in
set_option maxHeartbeats 4000000 in
theorem c_X0_isInRing (l : Launch) (X : pgX) (S : pgS) (hok : pgOk S) (k : Nat) (hk : k < 12) (r : Int) (h : ((∃ j, j < sN S ∧ sR S j = k) ∧ r = 1) ∨ ((∀ j, j < sN S → sR S j ≠ k) ∧ r = 0)) : pg_ro l yX0_isInRing wsX0_isInRing (rm 1 21) (xB X S) [.ref ((xa X 0)), .int (iI (((k : Nat) : Int)))] (some (.int (iI r))) := by
  refine pg_ro_of (cc := cX0_isInRing) (maxL := 3) (ret := (some .boolean)) (by decide) rfl (Nat.le_of_ble_eq_true rfl) ?_
  intro p e s m below meth c ls SC hr hlk hB hl
  obtain ⟨hx, hb, hml, hown, hts⟩ := id SC
  have hown : s.vm.findClass RX0 = some m.cls := hown
  obtain ⟨hP, hK⟩ := id hB
  have hl : lv_has ls 3 [(0, .ref ((xa X 0))), (1, .int (iI (((k : Nat) : Int))))] := hl
  have hin : ∀ w ∈ u_ws RX0 TX0 6, w ∈ wsX0_isInRing := by decide +kernel
  have hN : sN S ≤ 12 := hok.2.2.2.2.1
  refine lv_iconst (v := iI 0) hx hb dX0_isInRing_0 rfl ?_
  refine lv_istore_n (lv' := [(2, .int (iI 0)), (0, .ref ((xa X 0))), (1, .int (iI (((k : Nat) : Int))))]) hx hb dX0_isInRing_1 rfl hl (by decide) rfl (fun ls hl => ?_)
  have loop1 : ∀ (fu : Nat) (i : Nat), (i ≤ sN S) → (∀ j, j < i → sR S j ≠ k) → sN S - i < fu → ∀ ls : Array Slot, lv_has ls 3 [(0, .ref ((xa X 0))), (1, .int (iI (((k : Nat) : Int)))), (2, .int (iI (((i : Nat) : Int))))] → W p l e (rm 1 21) s m ([.ref ((xa X 0)), .int (iI (((k : Nat) : Int)))] : List Value).toArray below meth c s.heap [] 0 0 (MQ below (pg_Q (some (.int (iI r)))) ([.ref ((xa X 0)), .int (iI (((k : Nat) : Int)))] : List Value).toArray s 0 0 (fun _ => False)) (F0 m 2 ls []) := by
    intro fu
    induction fu with
    | zero => intros; omega
    | succ fu ih1 =>
      intro i hi hno hm1 ls hl
      refine lv_iload_n hx hb dX0_isInRing_2 rfl (lv_at hl 2 rfl) ?_
      refine lv_aload_n hx hb dX0_isInRing_3 rfl (lv_at hl 0 rfl) ?_
      refine va_get (D := xG X) (ci := 0) (v := .int (iI (((sN S : Nat) : Int)))) (C := RX0) (T := TX0) (N := 6) hx hb hts hin hown hK hP 0 rfl rfl 4 (by decide) (hts (.fieldLink RX0 23 "Pegfield" "ringSize" "I") (by decide +kernel)) (fun _ h9 => h9) rfl dX0_isInRing_4 ?_
      refine pg_icmp_ge (tgt := 27) hx hb dX0_isInRing_7 (by decide) (⟨by omega, by omega⟩) (⟨by omega, by omega⟩) (fun hc2 => ?_) (fun hc2 => ?_)
      · refine lv_iconst (v := iI 0) hx hb dX0_isInRing_27 rfl ?_
        exact pg_zret hx hb hr hlk  (iI_bool (by omega)) (congrArg (fun z : Int => some (Value.int (iI z))) (show r = 0 by rcases h with ⟨⟨j, hj, hj2⟩, h⟩ | ⟨-, h⟩ <;> first | exact h | exact absurd hj2 (hno j (by omega)))) dX0_isInRing_28
      · have h1 := hok.2.2.2.1 i
        refine lv_aload_n hx hb dX0_isInRing_10 rfl (lv_at hl 0 rfl) ?_
        refine lv_iload_n hx hb dX0_isInRing_11 rfl (lv_at hl 2 rfl) ?_
        refine pg_callV (As := [.int (iI (((i : Nat) : Int)))]) (rest := []) SC (c_X0_pegInRing l X S i (by omega)) xB_st (xB_h hP hK) (cwV 1 hts gX0_isInRing_X0_pegInRing rfl rfl rfl (by decide +kernel) ⟨Nat.le_of_ble_eq_true rfl, Nat.le_of_ble_eq_true rfl⟩) (va_recv hK hP (ci := 0) (q0 := 0) rfl rfl) rfl hl.1 rfl (Nat.le_of_ble_eq_true rfl) dX0_isInRing_12 ⟨Nat.zero_le _, Nat.zero_le _⟩ ?_
        refine lv_iload_n hx hb dX0_isInRing_15 rfl (lv_at hl 1 rfl) ?_
        refine pg_icmp_ne (tgt := 21) hx hb dX0_isInRing_16 (by decide) (⟨by omega, by omega⟩) (⟨by omega, by omega⟩) (fun hc3 => ?_) (fun hc3 => ?_)
        · refine lv_iinc (v := iI (((i + 1 : Nat) : Int))) (lv' := [(2, .int (iI (((i + 1 : Nat) : Int)))), (0, .ref ((xa X 0))), (1, .int (iI (((k : Nat) : Int))))]) hx hb dX0_isInRing_21 hl (k := 2) rfl (iI_addp (by omega)) (by decide) rfl (fun ls hl => ?_)
          refine lv_goto (tgt := 2) hx hb dX0_isInRing_24 (by decide) ?_
          exact ih1 (i + 1) (by omega) (fun j hj => by rcases (show j < i ∨ j = i by omega) with q | q <;> first | exact hno j q | (rw [q]; omega)) (by omega) ls (lv_sub hl [1, 2, 0] rfl)
        · refine lv_iconst (v := iI 1) hx hb dX0_isInRing_19 rfl ?_
          exact pg_zret hx hb hr hlk  (iI_bool (by omega)) (congrArg (fun z : Int => some (Value.int (iI z))) (show r = 1 by rcases h with ⟨-, h⟩ | ⟨h, -⟩ <;> first | exact h | exact absurd (by omega) (h i (by omega)))) dX0_isInRing_20
  refine loop1 (sN S + 1) 0 (by omega) (fun j hj => absurd hj (Nat.not_lt_zero j)) (by omega) ls (lv_sub hl [1, 2, 0] rfl)
set_option maxRecDepth 100000 in
set_option maxHeartbeats 4000000 in
theorem c_X0_nearestOther (l : Launch) (X : pgX) (S : pgS) (hok : pgOk S) (k : Nat) (hk : k < 12)  : pg_ro l yX0_nearestOther wsX0_nearestOther (rm 3 70) (xB X S) [.ref ((xa X 0)), .int (iI (((k : Nat) : Int)))] (some (.int (iI (nr S k 12)))) := by
  refine pg_ro_of (cc := cX0_nearestOther) (maxL := 6) (ret := (some .int)) (by decide) rfl (Nat.le_of_ble_eq_true rfl) ?_
  intro p e s m below meth c ls SC hr hlk hB hl
  obtain ⟨hx, hb, hml, hown, hts⟩ := id SC
  have hown : s.vm.findClass RX0 = some m.cls := hown
  obtain ⟨hP, hK⟩ := id hB
  have hl : lv_has ls 6 [(0, .ref ((xa X 0))), (1, .int (iI (((k : Nat) : Int))))] := hl
  refine lv_iconst (v := iI (-1)) hx hb dX0_nearestOther_0 rfl ?_
  refine lv_istore_n (lv' := [(2, .int (iI ((-1)))), (0, .ref ((xa X 0))), (1, .int (iI (((k : Nat) : Int))))]) hx hb dX0_nearestOther_1 rfl hl (by decide) rfl (fun ls hl => ?_)
  refine lv_iconst (v := iI 0) hx hb dX0_nearestOther_2 rfl ?_
  refine lv_istore_n (lv' := [(3, .int (iI 0)), (2, .int (iI ((-1)))), (0, .ref ((xa X 0))), (1, .int (iI (((k : Nat) : Int))))]) hx hb dX0_nearestOther_3 rfl hl (by decide) rfl (fun ls hl => ?_)
  refine lv_iconst (v := iI 0) hx hb dX0_nearestOther_4 rfl ?_
  refine lv_istore (lv' := [(4, .int (iI 0)), (3, .int (iI 0)), (2, .int (iI ((-1)))), (0, .ref ((xa X 0))), (1, .int (iI (((k : Nat) : Int))))]) hx hb dX0_nearestOther_5 hl (by decide) rfl (fun ls hl => ?_)
  have loop1 : ∀ (fu : Nat) (i : Nat) (b g : Int), (i ≤ 12) → (b = nr S k i) → ((b ≠ -1 → g = ((gN S k b.toNat : Nat) : Int))) → (0 ≤ g) → (g < 67108864) → 12 - i < fu → ∀ ls : Array Slot, lv_has ls 6 [(0, .ref ((xa X 0))), (1, .int (iI (((k : Nat) : Int)))), (2, .int (iI b)), (3, .int (iI g)), (4, .int (iI (((i : Nat) : Int))))] → W p l e (rm 3 70) s m ([.ref ((xa X 0)), .int (iI (((k : Nat) : Int)))] : List Value).toArray below meth c s.heap [] 0 0 (MQ below (pg_Q (some (.int (iI (nr S k 12))))) ([.ref ((xa X 0)), .int (iI (((k : Nat) : Int)))] : List Value).toArray s 0 0 (fun _ => False)) (F0 m 7 ls []) := by
    intro fu
    induction fu with
    | zero => intros; omega
    | succ fu ih1 =>
      intro i b g hi hbb hg hg2 hg3 hm1 ls hl
      have hnb := nr_b S k i
      rw [← hbb] at hnb
      refine lv_iload hx hb dX0_nearestOther_7 (lv_at hl 4 rfl) ?_
      refine lv_bipush (v := iI 12) hx hb dX0_nearestOther_9 (by decide +kernel) ?_
      refine pg_icmp_ge (tgt := 61) hx hb dX0_nearestOther_11 (by decide) (⟨by omega, by omega⟩) (⟨by omega, by omega⟩) (fun hc2 => ?_) (fun hc2 => ?_)
      · refine lv_iload_n hx hb dX0_nearestOther_61 rfl (lv_at hl 2 rfl) ?_
        exact pg_iret hx hb hr hlk  (congrArg (fun z : Int => some (Value.int (iI z))) (show nr S k 12 = b by rw [hbb, show i = 12 by omega])) dX0_nearestOther_62
      · refine lv_iload hx hb dX0_nearestOther_14 (lv_at hl 4 rfl) ?_
        refine lv_iload_n hx hb dX0_nearestOther_16 rfl (lv_at hl 1 rfl) ?_
        refine pg_icmp_eq (tgt := 55) hx hb dX0_nearestOther_17 (by decide) (⟨by omega, by omega⟩) (⟨by omega, by omega⟩) (fun hc3 => ?_) (fun hc3 => ?_)
        · refine lv_iinc (v := iI (((i + 1 : Nat) : Int))) (lv' := [(4, .int (iI (((i + 1 : Nat) : Int)))), (0, .ref ((xa X 0))), (1, .int (iI (((k : Nat) : Int)))), (2, .int (iI b)), (3, .int (iI g))]) hx hb dX0_nearestOther_55 hl (k := 4) rfl (iI_addp (by omega)) (by decide) rfl (fun ls hl => ?_)
          refine lv_goto (tgt := 7) hx hb dX0_nearestOther_58 (by decide) ?_
          exact ih1 (i + 1) b g (by omega) (by rw [nr_s, ← hbb]; exact (if_neg (fun q => by obtain ⟨q1, q2, q3⟩ := q; first | omega | (rcases q3 with q3 | q3 <;> first | omega | (have h9 := hg (by omega); omega)))).symm) (hg) (hg2) (hg3) (by omega) ls (lv_sub hl [1, 2, 3, 4, 0] rfl)
        · have h1 := hok.1 i
          refine lv_aload_n hx hb dX0_nearestOther_20 rfl (lv_at hl 0 rfl) ?_
          refine lv_iload hx hb dX0_nearestOther_21 (lv_at hl 4 rfl) ?_
          refine pg_callV (As := [.int (iI (((i : Nat) : Int)))]) (rest := []) SC (c_X0_stands l X S i (by omega) h1) xB_st (xB_h hP hK) (cwV 1 hts gX0_nearestOther_X0_stands rfl rfl rfl (by decide +kernel) ⟨Nat.le_of_ble_eq_true rfl, Nat.le_of_ble_eq_true rfl⟩) (va_recv hK hP (ci := 0) (q0 := 0) rfl rfl) rfl hl.1 rfl (Nat.le_of_ble_eq_true rfl) dX0_nearestOther_23 ⟨Nat.zero_le _, Nat.zero_le _⟩ ?_
          refine pg_if_eq (tgt := 55) hx hb dX0_nearestOther_26 (by decide) (⟨by omega, by omega⟩) (fun hc4 => ?_) (fun hc4 => ?_)
          · refine lv_iinc (v := iI (((i + 1 : Nat) : Int))) (lv' := [(4, .int (iI (((i + 1 : Nat) : Int)))), (0, .ref ((xa X 0))), (1, .int (iI (((k : Nat) : Int)))), (2, .int (iI b)), (3, .int (iI g))]) hx hb dX0_nearestOther_55 hl (k := 4) rfl (iI_addp (by omega)) (by decide) rfl (fun ls hl => ?_)
            refine lv_goto (tgt := 7) hx hb dX0_nearestOther_58 (by decide) ?_
            exact ih1 (i + 1) b g (by omega) (by rw [nr_s, ← hbb]; exact (if_neg (fun q => by obtain ⟨q1, q2, q3⟩ := q; first | omega | (rcases q3 with q3 | q3 <;> first | omega | (have h9 := hg (by omega); omega)))).symm) (hg) (hg2) (hg3) (by omega) ls (lv_sub hl [1, 2, 3, 4, 0] rfl)
          · have hgl := gN_lt hok k i
            refine lv_aload_n hx hb dX0_nearestOther_29 rfl (lv_at hl 0 rfl) ?_
            refine lv_iload_n hx hb dX0_nearestOther_30 rfl (lv_at hl 1 rfl) ?_
            refine lv_iload hx hb dX0_nearestOther_31 (lv_at hl 4 rfl) ?_
            refine pg_callV (As := [.int (iI (((k : Nat) : Int))), .int (iI (((i : Nat) : Int)))]) (rest := []) SC (c_X0_stretchGrains l X S hok k i hk (by omega)) xB_st (xB_h hP hK) (cwV 2 hts gX0_nearestOther_X0_stretchGrains rfl rfl rfl (by decide +kernel) ⟨Nat.le_of_ble_eq_true rfl, Nat.le_of_ble_eq_true rfl⟩) (va_recv hK hP (ci := 0) (q0 := 0) rfl rfl) rfl hl.1 rfl (Nat.le_of_ble_eq_true rfl) dX0_nearestOther_33 ⟨Nat.zero_le _, Nat.zero_le _⟩ ?_
            refine lv_istore (lv' := [(5, .int (iI (((gN S k i : Nat) : Int)))), (0, .ref ((xa X 0))), (1, .int (iI (((k : Nat) : Int)))), (2, .int (iI b)), (3, .int (iI g)), (4, .int (iI (((i : Nat) : Int))))]) hx hb dX0_nearestOther_36 hl (by decide) rfl (fun ls hl => ?_)
            refine lv_iload_n hx hb dX0_nearestOther_38 rfl (lv_at hl 3 rfl) ?_
            refine lv_iconst (v := iI (-1)) hx hb dX0_nearestOther_39 rfl ?_
            refine pg_icmp_eq (tgt := 49) hx hb dX0_nearestOther_40 (by decide) (⟨by omega, by omega⟩) (⟨by omega, by omega⟩) (fun hc5 => ?_) (fun hc5 => ?_)
            · refine lv_iload hx hb dX0_nearestOther_49 (lv_at hl 5 rfl) ?_
              refine lv_istore_n (lv' := [(2, .int (iI (((i : Nat) : Int)))), (5, .int (iI (((gN S k i : Nat) : Int)))), (0, .ref ((xa X 0))), (1, .int (iI (((k : Nat) : Int)))), (3, .int (iI g)), (4, .int (iI (((i : Nat) : Int))))]) hx hb dX0_nearestOther_51 rfl hl (by decide) rfl (fun ls hl => ?_)
              refine lv_iload hx hb dX0_nearestOther_52 (lv_at hl 1 rfl) ?_
              refine lv_istore_n (lv' := [(3, .int (iI (((gN S k i : Nat) : Int)))), (2, .int (iI (((i : Nat) : Int)))), (5, .int (iI (((gN S k i : Nat) : Int)))), (0, .ref ((xa X 0))), (1, .int (iI (((k : Nat) : Int)))), (4, .int (iI (((i : Nat) : Int))))]) hx hb dX0_nearestOther_54 rfl hl (by decide) rfl (fun ls hl => ?_)
              refine lv_iinc (v := iI (((i + 1 : Nat) : Int))) (lv' := [(4, .int (iI (((i + 1 : Nat) : Int)))), (3, .int (iI (((gN S k i : Nat) : Int)))), (2, .int (iI (((i : Nat) : Int)))), (5, .int (iI (((gN S k i : Nat) : Int)))), (0, .ref ((xa X 0))), (1, .int (iI (((k : Nat) : Int))))]) hx hb dX0_nearestOther_55 hl (k := 5) rfl (iI_addp (by omega)) (by decide) rfl (fun ls hl => ?_)
              refine lv_goto (tgt := 7) hx hb dX0_nearestOther_58 (by decide) ?_
              exact ih1 (i + 1) (((i : Nat) : Int)) (((gN S k i : Nat) : Int)) (by omega) (by rw [nr_s, ← hbb]; exact (if_pos ⟨by omega, by omega, by first | exact Or.inl (by omega) | exact Or.inr (by have h9 := hg (by omega); omega)⟩).symm) (fun _ => by rw [Int.toNat_natCast]) (by omega) (by omega) (by omega) ls (lv_sub hl [4, 5, 2, 1, 0] rfl)
            · refine lv_iload hx hb dX0_nearestOther_43 (lv_at hl 0 rfl) ?_
              refine lv_iload_n hx hb dX0_nearestOther_45 rfl (lv_at hl 4 rfl) ?_
              refine pg_icmp_ge (tgt := 55) hx hb dX0_nearestOther_46 (by decide) (⟨by omega, by omega⟩) (⟨by omega, by omega⟩) (fun hc6 => ?_) (fun hc6 => ?_)
              · refine lv_iinc (v := iI (((i + 1 : Nat) : Int))) (lv' := [(4, .int (iI (((i + 1 : Nat) : Int)))), (5, .int (iI (((gN S k i : Nat) : Int)))), (0, .ref ((xa X 0))), (1, .int (iI (((k : Nat) : Int)))), (2, .int (iI b)), (3, .int (iI g))]) hx hb dX0_nearestOther_55 hl (k := 5) rfl (iI_addp (by omega)) (by decide) rfl (fun ls hl => ?_)
                refine lv_goto (tgt := 7) hx hb dX0_nearestOther_58 (by decide) ?_
                exact ih1 (i + 1) b g (by omega) (by rw [nr_s, ← hbb]; exact (if_neg (fun q => by obtain ⟨q1, q2, q3⟩ := q; first | omega | (rcases q3 with q3 | q3 <;> first | omega | (have h9 := hg (by omega); omega)))).symm) (hg) (hg2) (hg3) (by omega) ls (lv_sub hl [2, 3, 4, 5, 0] rfl)
              · refine lv_iload hx hb dX0_nearestOther_49 (lv_at hl 5 rfl) ?_
                refine lv_istore_n (lv' := [(2, .int (iI (((i : Nat) : Int)))), (5, .int (iI (((gN S k i : Nat) : Int)))), (0, .ref ((xa X 0))), (1, .int (iI (((k : Nat) : Int)))), (3, .int (iI g)), (4, .int (iI (((i : Nat) : Int))))]) hx hb dX0_nearestOther_51 rfl hl (by decide) rfl (fun ls hl => ?_)
                refine lv_iload hx hb dX0_nearestOther_52 (lv_at hl 1 rfl) ?_
                refine lv_istore_n (lv' := [(3, .int (iI (((gN S k i : Nat) : Int)))), (2, .int (iI (((i : Nat) : Int)))), (5, .int (iI (((gN S k i : Nat) : Int)))), (0, .ref ((xa X 0))), (1, .int (iI (((k : Nat) : Int)))), (4, .int (iI (((i : Nat) : Int))))]) hx hb dX0_nearestOther_54 rfl hl (by decide) rfl (fun ls hl => ?_)
                refine lv_iinc (v := iI (((i + 1 : Nat) : Int))) (lv' := [(4, .int (iI (((i + 1 : Nat) : Int)))), (3, .int (iI (((gN S k i : Nat) : Int)))), (2, .int (iI (((i : Nat) : Int)))), (5, .int (iI (((gN S k i : Nat) : Int)))), (0, .ref ((xa X 0))), (1, .int (iI (((k : Nat) : Int))))]) hx hb dX0_nearestOther_55 hl (k := 5) rfl (iI_addp (by omega)) (by decide) rfl (fun ls hl => ?_)
                refine lv_goto (tgt := 7) hx hb dX0_nearestOther_58 (by decide) ?_
                exact ih1 (i + 1) (((i : Nat) : Int)) (((gN S k i : Nat) : Int)) (by omega) (by rw [nr_s, ← hbb]; exact (if_pos ⟨by omega, by omega, by first | exact Or.inl (by omega) | exact Or.inr (by have h9 := hg (by omega); omega)⟩).symm) (fun _ => by rw [Int.toNat_natCast]) (by omega) (by omega) (by omega) ls (lv_sub hl [4, 5, 2, 1, 0] rfl)
  refine loop1 (12 + 1) 0 (-1) 0 (by omega) (rfl) (fun q => absurd rfl q) (by omega) (by omega) (by omega) ls (lv_sub hl [3, 4, 2, 1, 0] rfl)
set_option maxRecDepth 100000 in
set_option maxHeartbeats 4000000 in
theorem c_X0_nearest_ok (l : Launch) (X : pgX) (S : pgS) (hok : pgOk S) (k : Nat) (hk : k < 12) (h1 : sS S k = 1) (hn : nr S k 12 ≠ -1) : pg_ro l yX0_nearest wsX0_nearest (rm 4 95) (xB X S) [.ref ((xa X 0)), .int (iI (((k : Nat) : Int)))] (some (.int (iI (nr S k 12)))) := by
  refine pg_ro_of (cc := cX0_nearest) (maxL := 3) (ret := (some .int)) (by decide) rfl (Nat.le_of_ble_eq_true rfl) ?_
  intro p e s m below meth c ls SC hr hlk hB hl
  obtain ⟨hx, hb, hml, hown, hts⟩ := id SC
  have hown : s.vm.findClass RX0 = some m.cls := hown
  obtain ⟨hP, hK⟩ := id hB
  have hl : lv_has ls 3 [(0, .ref ((xa X 0))), (1, .int (iI (((k : Nat) : Int))))] := hl
  have hnb := nr_b S k 12
  refine lv_iload_n hx hb dX0_nearest_0 rfl (lv_at hl 1 rfl) ?_
  refine pg_callSv (As := [.int (iI (((k : Nat) : Int)))]) (rest := []) SC (c_X0_requirePeg_ok l (((k : Nat) : Int)) ⟨by omega, by omega⟩) pT_st pT_h (va_cwS 1 hts gX0_nearest_X0_requirePeg rfl rfl rfl (by decide +kernel) ⟨Nat.le_of_ble_eq_true rfl, Nat.le_of_ble_eq_true rfl⟩) rfl hl.1 rfl (Nat.le_of_ble_eq_true rfl) dX0_nearest_1 ⟨Nat.zero_le _, Nat.zero_le _⟩ ?_
  refine lv_aload_n hx hb dX0_nearest_4 rfl (lv_at hl 0 rfl) ?_
  refine lv_iload_n hx hb dX0_nearest_5 rfl (lv_at hl 1 rfl) ?_
  refine pg_callVv (As := [.int (iI (((k : Nat) : Int)))]) (rest := []) SC (c_X0_requireStanding_ok l X S k hk h1) xB_st (xB_h hP hK) (cwV 1 hts gX0_nearest_X0_requireStanding rfl rfl rfl (by decide +kernel) ⟨Nat.le_of_ble_eq_true rfl, Nat.le_of_ble_eq_true rfl⟩) (va_recv hK hP (ci := 0) (q0 := 0) rfl rfl) rfl hl.1 rfl (Nat.le_of_ble_eq_true rfl) dX0_nearest_6 ⟨Nat.zero_le _, Nat.zero_le _⟩ ?_
  refine lv_aload_n hx hb dX0_nearest_9 rfl (lv_at hl 0 rfl) ?_
  refine lv_iload_n hx hb dX0_nearest_10 rfl (lv_at hl 1 rfl) ?_
  refine pg_callV (As := [.int (iI (((k : Nat) : Int)))]) (rest := []) SC (c_X0_nearestOther l X S hok k hk) xB_st (xB_h hP hK) (cwV 1 hts gX0_nearest_X0_nearestOther rfl rfl rfl (by decide +kernel) ⟨Nat.le_of_ble_eq_true rfl, Nat.le_of_ble_eq_true rfl⟩) (va_recv hK hP (ci := 0) (q0 := 0) rfl rfl) rfl hl.1 rfl (Nat.le_of_ble_eq_true rfl) dX0_nearest_11 ⟨Nat.zero_le _, Nat.zero_le _⟩ ?_
  refine lv_istore_n (lv' := [(2, .int (iI (nr S k 12))), (0, .ref ((xa X 0))), (1, .int (iI (((k : Nat) : Int))))]) hx hb dX0_nearest_14 rfl hl (by decide) rfl (fun ls hl => ?_)
  refine lv_iload_n hx hb dX0_nearest_15 rfl (lv_at hl 0 rfl) ?_
  refine lv_iconst (v := iI (-1)) hx hb dX0_nearest_16 rfl ?_
  refine pg_icmp_ne (tgt := 30) hx hb dX0_nearest_17 (by decide) (⟨by omega, by omega⟩) (⟨by omega, by omega⟩) (fun hc1 => ?_) (fun hc1 => absurd hc1 (by omega))
  refine lv_iload_n hx hb dX0_nearest_30 rfl (lv_at hl 0 rfl) ?_
  exact pg_iret hx hb hr hlk  (congrArg (fun z : Int => some (Value.int (iI z))) (show nr S k 12 = nr S k 12 by rfl)) dX0_nearest_31
set_option maxRecDepth 100000 in
set_option maxHeartbeats 4000000 in
theorem c_X0_rank_ok (l : Launch) (X : pgX) (S : pgS) (hok : pgOk S) (a b : Nat) (ha : a < 12) (hb2 : b < 12) (sa : sS S a = 1) (sb : sS S b = 1) : pg_ro l yX0_rank wsX0_rank (rm 4 84) (xB X S) [.ref ((xa X 0)), .int (iI (((a : Nat) : Int))), .int (iI (((b : Nat) : Int)))] (some (.int (iI (((rk S (gN S a b) 12 : Nat) : Int))))) := by
  refine pg_ro_of (cc := cX0_rank) (maxL := 7) (ret := (some .int)) (by decide) rfl (Nat.le_of_ble_eq_true rfl) ?_
  intro p e s m below meth c ls SC hr hlk hB hl
  obtain ⟨hx, hb, hml, hown, hts⟩ := id SC
  have hown : s.vm.findClass RX0 = some m.cls := hown
  obtain ⟨hP, hK⟩ := id hB
  have hl : lv_has ls 7 [(0, .ref ((xa X 0))), (1, .int (iI (((a : Nat) : Int)))), (2, .int (iI (((b : Nat) : Int))))] := hl
  have hgl := gN_lt hok a b
  refine lv_aload_n hx hb dX0_rank_0 rfl (lv_at hl 0 rfl) ?_
  refine lv_iload_n hx hb dX0_rank_1 rfl (lv_at hl 1 rfl) ?_
  refine lv_iload_n hx hb dX0_rank_2 rfl (lv_at hl 2 rfl) ?_
  refine pg_callVv (As := [.int (iI (((a : Nat) : Int))), .int (iI (((b : Nat) : Int)))]) (rest := []) SC (c_X0_requireTwo_ok l X S a b ha hb2 sa sb) xB_st (xB_h hP hK) (cwV 2 hts gX0_rank_X0_requireTwo rfl rfl rfl (by decide +kernel) ⟨Nat.le_of_ble_eq_true rfl, Nat.le_of_ble_eq_true rfl⟩) (va_recv hK hP (ci := 0) (q0 := 0) rfl rfl) rfl hl.1 rfl (Nat.le_of_ble_eq_true rfl) dX0_rank_3 ⟨Nat.zero_le _, Nat.zero_le _⟩ ?_
  refine lv_aload_n hx hb dX0_rank_6 rfl (lv_at hl 0 rfl) ?_
  refine lv_iload_n hx hb dX0_rank_7 rfl (lv_at hl 1 rfl) ?_
  refine lv_iload_n hx hb dX0_rank_8 rfl (lv_at hl 2 rfl) ?_
  refine pg_callV (As := [.int (iI (((a : Nat) : Int))), .int (iI (((b : Nat) : Int)))]) (rest := []) SC (c_X0_stretchGrains l X S hok a b ha hb2) xB_st (xB_h hP hK) (cwV 2 hts gX0_rank_X0_stretchGrains rfl rfl rfl (by decide +kernel) ⟨Nat.le_of_ble_eq_true rfl, Nat.le_of_ble_eq_true rfl⟩) (va_recv hK hP (ci := 0) (q0 := 0) rfl rfl) rfl hl.1 rfl (Nat.le_of_ble_eq_true rfl) dX0_rank_9 ⟨Nat.zero_le _, Nat.zero_le _⟩ ?_
  refine lv_istore_n (lv' := [(3, .int (iI (((gN S a b : Nat) : Int)))), (0, .ref ((xa X 0))), (1, .int (iI (((a : Nat) : Int)))), (2, .int (iI (((b : Nat) : Int))))]) hx hb dX0_rank_12 rfl hl (by decide) rfl (fun ls hl => ?_)
  refine lv_iconst (v := iI 0) hx hb dX0_rank_13 rfl ?_
  refine lv_istore (lv' := [(4, .int (iI 0)), (3, .int (iI (((gN S a b : Nat) : Int)))), (0, .ref ((xa X 0))), (1, .int (iI (((a : Nat) : Int)))), (2, .int (iI (((b : Nat) : Int))))]) hx hb dX0_rank_14 hl (by decide) rfl (fun ls hl => ?_)
  refine lv_iconst (v := iI 0) hx hb dX0_rank_16 rfl ?_
  refine lv_istore (lv' := [(5, .int (iI 0)), (4, .int (iI 0)), (3, .int (iI (((gN S a b : Nat) : Int)))), (0, .ref ((xa X 0))), (1, .int (iI (((a : Nat) : Int)))), (2, .int (iI (((b : Nat) : Int))))]) hx hb dX0_rank_17 hl (by decide) rfl (fun ls hl => ?_)
  have loop1 : ∀ (fu : Nat) (i : Nat) (n : Nat), (i ≤ 12) → (n = rk S (gN S a b) i) → 12 - i < fu → ∀ ls : Array Slot, lv_has ls 7 [(0, .ref ((xa X 0))), (1, .int (iI (((a : Nat) : Int)))), (2, .int (iI (((b : Nat) : Int)))), (3, .int (iI (((gN S a b : Nat) : Int)))), (4, .int (iI (((n : Nat) : Int)))), (5, .int (iI (((i : Nat) : Int))))] → W p l e (rm 4 84) s m ([.ref ((xa X 0)), .int (iI (((a : Nat) : Int))), .int (iI (((b : Nat) : Int)))] : List Value).toArray below meth c s.heap [] 0 0 (MQ below (pg_Q (some (.int (iI (((rk S (gN S a b) 12 : Nat) : Int)))))) ([.ref ((xa X 0)), .int (iI (((a : Nat) : Int))), .int (iI (((b : Nat) : Int)))] : List Value).toArray s 0 0 (fun _ => False)) (F0 m 19 ls []) := by
    intro fu
    induction fu with
    | zero => intros; omega
    | succ fu ih1 =>
      intro i n hi hn hm1 ls hl
      refine lv_iload hx hb dX0_rank_19 (lv_at hl 5 rfl) ?_
      refine lv_bipush (v := iI 12) hx hb dX0_rank_21 (by decide +kernel) ?_
      refine pg_icmp_ge (tgt := 84) hx hb dX0_rank_23 (by decide) (⟨by omega, by omega⟩) (⟨by omega, by omega⟩) (fun hc2 => ?_) (fun hc2 => ?_)
      · refine lv_iload hx hb dX0_rank_84 (lv_at hl 4 rfl) ?_
        exact pg_iret hx hb hr hlk  (congrArg (fun z : Int => some (Value.int (iI z))) (show ((rk S (gN S a b) 12 : Nat) : Int) = ((n : Nat) : Int) by rw [hn, show i = 12 by omega])) dX0_rank_86
      · refine lv_iload hx hb dX0_rank_26 (lv_at hl 5 rfl) ?_
        refine lv_iconst (v := iI 1) hx hb dX0_rank_28 rfl ?_
        refine pg_iadd (z := ((i + 1 : Nat) : Int)) hx hb dX0_rank_29 (by omega) ?_
        refine lv_istore (lv' := [(6, .int (iI (((i + 1 : Nat) : Int)))), (0, .ref ((xa X 0))), (1, .int (iI (((a : Nat) : Int)))), (2, .int (iI (((b : Nat) : Int)))), (3, .int (iI (((gN S a b : Nat) : Int)))), (4, .int (iI (((n : Nat) : Int)))), (5, .int (iI (((i : Nat) : Int))))]) hx hb dX0_rank_30 hl (by decide) rfl (fun ls hl => ?_)
        have loop3 : ∀ (fu : Nat) (j : Nat) (n2 : Nat), (i + 1 ≤ j) → (j ≤ 12) → (n2 = rk S (gN S a b) i + rk1 S (gN S a b) i j) → 12 - j < fu → ∀ ls : Array Slot, lv_has ls 7 [(0, .ref ((xa X 0))), (1, .int (iI (((a : Nat) : Int)))), (2, .int (iI (((b : Nat) : Int)))), (3, .int (iI (((gN S a b : Nat) : Int)))), (4, .int (iI (((n2 : Nat) : Int)))), (5, .int (iI (((i : Nat) : Int)))), (6, .int (iI (((j : Nat) : Int))))] → W p l e (rm 4 84) s m ([.ref ((xa X 0)), .int (iI (((a : Nat) : Int))), .int (iI (((b : Nat) : Int)))] : List Value).toArray below meth c s.heap [] 0 0 (MQ below (pg_Q (some (.int (iI (((rk S (gN S a b) 12 : Nat) : Int)))))) ([.ref ((xa X 0)), .int (iI (((a : Nat) : Int))), .int (iI (((b : Nat) : Int)))] : List Value).toArray s 0 0 (fun _ => False)) (F0 m 32 ls []) := by
          intro fu
          induction fu with
          | zero => intros; omega
          | succ fu ih3 =>
            intro j n2 hj1 hj2 hn2 hm3 ls hl
            refine lv_iload hx hb dX0_rank_32 (lv_at hl 6 rfl) ?_
            refine lv_bipush (v := iI 12) hx hb dX0_rank_34 (by decide +kernel) ?_
            refine pg_icmp_ge (tgt := 78) hx hb dX0_rank_36 (by decide) (⟨by omega, by omega⟩) (⟨by omega, by omega⟩) (fun hc4 => ?_) (fun hc4 => ?_)
            · refine lv_iinc (v := iI (((i + 1 : Nat) : Int))) (lv' := [(5, .int (iI (((i + 1 : Nat) : Int)))), (0, .ref ((xa X 0))), (1, .int (iI (((a : Nat) : Int)))), (2, .int (iI (((b : Nat) : Int)))), (3, .int (iI (((gN S a b : Nat) : Int)))), (4, .int (iI (((n2 : Nat) : Int)))), (6, .int (iI (((j : Nat) : Int))))]) hx hb dX0_rank_78 hl (k := 5) rfl (iI_addp (by omega)) (by decide) rfl (fun ls hl => ?_)
              refine lv_goto (tgt := 19) hx hb dX0_rank_81 (by decide) ?_
              exact ih1 (i + 1) n2 (by omega) (by rw [rk_s, hn2, show j = 12 by omega]) (by omega) ls (lv_sub hl [1, 2, 3, 4, 5, 0] rfl)
            · have h1 := hok.1 i
              have h2 := hok.1 j
              have hgl2 := gN_lt hok i j
              refine lv_aload_n hx hb dX0_rank_39 rfl (lv_at hl 0 rfl) ?_
              refine lv_iload hx hb dX0_rank_40 (lv_at hl 5 rfl) ?_
              refine pg_callV (As := [.int (iI (((i : Nat) : Int)))]) (rest := []) SC (c_X0_stands l X S i (by omega) h1) xB_st (xB_h hP hK) (cwV 1 hts gX0_rank_X0_stands rfl rfl rfl (by decide +kernel) ⟨Nat.le_of_ble_eq_true rfl, Nat.le_of_ble_eq_true rfl⟩) (va_recv hK hP (ci := 0) (q0 := 0) rfl rfl) rfl hl.1 rfl (Nat.le_of_ble_eq_true rfl) dX0_rank_42 ⟨Nat.zero_le _, Nat.zero_le _⟩ ?_
              refine pg_if_eq (tgt := 72) hx hb dX0_rank_45 (by decide) (⟨by omega, by omega⟩) (fun hc5 => ?_) (fun hc5 => ?_)
              · refine lv_iinc (v := iI (((j + 1 : Nat) : Int))) (lv' := [(6, .int (iI (((j + 1 : Nat) : Int)))), (0, .ref ((xa X 0))), (1, .int (iI (((a : Nat) : Int)))), (2, .int (iI (((b : Nat) : Int)))), (3, .int (iI (((gN S a b : Nat) : Int)))), (4, .int (iI (((n2 : Nat) : Int)))), (5, .int (iI (((i : Nat) : Int))))]) hx hb dX0_rank_72 hl (k := 6) rfl (iI_addp (by omega)) (by decide) rfl (fun ls hl => ?_)
                refine lv_goto (tgt := 32) hx hb dX0_rank_75 (by decide) ?_
                exact ih3 (j + 1) n2 (by omega) (by omega) (by rw [rk1_n (fun q => by omega), hn2]) (by omega) ls (lv_sub hl [1, 2, 3, 4, 5, 6, 0] rfl)
              · refine lv_aload_n hx hb dX0_rank_48 rfl (lv_at hl 0 rfl) ?_
                refine lv_iload hx hb dX0_rank_49 (lv_at hl 6 rfl) ?_
                refine pg_callV (As := [.int (iI (((j : Nat) : Int)))]) (rest := []) SC (c_X0_stands l X S j (by omega) h2) xB_st (xB_h hP hK) (cwV 1 hts gX0_rank_X0_stands rfl rfl rfl (by decide +kernel) ⟨Nat.le_of_ble_eq_true rfl, Nat.le_of_ble_eq_true rfl⟩) (va_recv hK hP (ci := 0) (q0 := 0) rfl rfl) rfl hl.1 rfl (Nat.le_of_ble_eq_true rfl) dX0_rank_51 ⟨Nat.zero_le _, Nat.zero_le _⟩ ?_
                refine pg_if_eq (tgt := 72) hx hb dX0_rank_54 (by decide) (⟨by omega, by omega⟩) (fun hc6 => ?_) (fun hc6 => ?_)
                · refine lv_iinc (v := iI (((j + 1 : Nat) : Int))) (lv' := [(6, .int (iI (((j + 1 : Nat) : Int)))), (0, .ref ((xa X 0))), (1, .int (iI (((a : Nat) : Int)))), (2, .int (iI (((b : Nat) : Int)))), (3, .int (iI (((gN S a b : Nat) : Int)))), (4, .int (iI (((n2 : Nat) : Int)))), (5, .int (iI (((i : Nat) : Int))))]) hx hb dX0_rank_72 hl (k := 6) rfl (iI_addp (by omega)) (by decide) rfl (fun ls hl => ?_)
                  refine lv_goto (tgt := 32) hx hb dX0_rank_75 (by decide) ?_
                  exact ih3 (j + 1) n2 (by omega) (by omega) (by rw [rk1_n (fun q => by omega), hn2]) (by omega) ls (lv_sub hl [1, 2, 3, 4, 5, 6, 0] rfl)
                · refine lv_aload_n hx hb dX0_rank_57 rfl (lv_at hl 0 rfl) ?_
                  refine lv_iload hx hb dX0_rank_58 (lv_at hl 5 rfl) ?_
                  refine lv_iload hx hb dX0_rank_60 (lv_at hl 6 rfl) ?_
                  refine pg_callV (As := [.int (iI (((i : Nat) : Int))), .int (iI (((j : Nat) : Int)))]) (rest := []) SC (c_X0_stretchGrains l X S hok i j (by omega) (by omega)) xB_st (xB_h hP hK) (cwV 2 hts gX0_rank_X0_stretchGrains rfl rfl rfl (by decide +kernel) ⟨Nat.le_of_ble_eq_true rfl, Nat.le_of_ble_eq_true rfl⟩) (va_recv hK hP (ci := 0) (q0 := 0) rfl rfl) rfl hl.1 rfl (Nat.le_of_ble_eq_true rfl) dX0_rank_62 ⟨Nat.zero_le _, Nat.zero_le _⟩ ?_
                  refine lv_iload_n hx hb dX0_rank_65 rfl (lv_at hl 3 rfl) ?_
                  refine pg_icmp_ge (tgt := 72) hx hb dX0_rank_66 (by decide) (⟨by omega, by omega⟩) (⟨by omega, by omega⟩) (fun hc7 => ?_) (fun hc7 => ?_)
                  · refine lv_iinc (v := iI (((j + 1 : Nat) : Int))) (lv' := [(6, .int (iI (((j + 1 : Nat) : Int)))), (0, .ref ((xa X 0))), (1, .int (iI (((a : Nat) : Int)))), (2, .int (iI (((b : Nat) : Int)))), (3, .int (iI (((gN S a b : Nat) : Int)))), (4, .int (iI (((n2 : Nat) : Int)))), (5, .int (iI (((i : Nat) : Int))))]) hx hb dX0_rank_72 hl (k := 6) rfl (iI_addp (by omega)) (by decide) rfl (fun ls hl => ?_)
                    refine lv_goto (tgt := 32) hx hb dX0_rank_75 (by decide) ?_
                    exact ih3 (j + 1) n2 (by omega) (by omega) (by rw [rk1_n (fun q => by omega), hn2]) (by omega) ls (lv_sub hl [1, 2, 3, 4, 5, 6, 0] rfl)
                  · refine lv_iinc (v := iI (((n2 + 1 : Nat) : Int))) (lv' := [(4, .int (iI (((n2 + 1 : Nat) : Int)))), (0, .ref ((xa X 0))), (1, .int (iI (((a : Nat) : Int)))), (2, .int (iI (((b : Nat) : Int)))), (3, .int (iI (((gN S a b : Nat) : Int)))), (5, .int (iI (((i : Nat) : Int)))), (6, .int (iI (((j : Nat) : Int))))]) hx hb dX0_rank_69 hl (k := 4) rfl (iI_addp (by omega)) (by decide) rfl (fun ls hl => ?_)
                    refine lv_iinc (v := iI (((j + 1 : Nat) : Int))) (lv' := [(6, .int (iI (((j + 1 : Nat) : Int)))), (4, .int (iI (((n2 + 1 : Nat) : Int)))), (0, .ref ((xa X 0))), (1, .int (iI (((a : Nat) : Int)))), (2, .int (iI (((b : Nat) : Int)))), (3, .int (iI (((gN S a b : Nat) : Int)))), (5, .int (iI (((i : Nat) : Int))))]) hx hb dX0_rank_72 hl (k := 6) rfl (iI_addp (by omega)) (by decide) rfl (fun ls hl => ?_)
                    refine lv_goto (tgt := 32) hx hb dX0_rank_75 (by decide) ?_
                    exact ih3 (j + 1) (n2 + 1) (by omega) (by omega) (by rw [rk1_y (by omega) (by omega) (by omega) (by omega), hn2]; rfl) (by omega) ls (lv_sub hl [2, 3, 4, 5, 1, 6, 0] rfl)
        refine loop3 (12 + 1) (i + 1) n (by omega) (by omega) (by rw [rk1_0 S _ i (i + 1) (by omega), hn, Nat.add_zero]) (by omega) ls (lv_sub hl [1, 2, 3, 4, 5, 6, 0] rfl)
  refine loop1 (12 + 1) 0 0 (by omega) (rfl) (by omega) ls (lv_sub hl [3, 4, 5, 2, 1, 0] rfl)
set_option maxRecDepth 100000 in
set_option maxHeartbeats 4000000 in
theorem c_X0_isIn_ok (l : Launch) (X : pgX) (S : pgS) (hok : pgOk S) (a b : Nat) (ha : a < 12) (hb2 : b < 12) (sa : sS S a = 1) (sb : sS S b = 1) (n : Nat) (q : Int) (M : Nat) (hn : n < 32768) (hqi : inI q) (hM : (q = 0 ∧ (M : Int) = 16 * n) ∨ (q = 1 ∧ (M : Int) = 4 * n)) (r : Int) (h : (gN S a b ≤ gr M ∧ r = 1) ∨ (gr M < gN S a b ∧ r = 0)) : pg_ro l yX0_isIn wsX0_isIn (rm 4 84) (xB X S) [.ref ((xa X 0)), .int (iI (((a : Nat) : Int))), .int (iI (((b : Nat) : Int))), .int (iI (((n : Nat) : Int))), .int (iI q)] (some (.int (iI r))) := by
  refine pg_ro_of (cc := cX0_isIn) (maxL := 5) (ret := (some .boolean)) (by decide) rfl (Nat.le_of_ble_eq_true rfl) ?_
  intro p e s m below meth c ls SC hr hlk hB hl
  obtain ⟨hx, hb, hml, hown, hts⟩ := id SC
  have hown : s.vm.findClass RX0 = some m.cls := hown
  obtain ⟨hP, hK⟩ := id hB
  have hl : lv_has ls 5 [(0, .ref ((xa X 0))), (1, .int (iI (((a : Nat) : Int)))), (2, .int (iI (((b : Nat) : Int)))), (3, .int (iI (((n : Nat) : Int)))), (4, .int (iI q))] := hl
  have hM2 : M < 2 ^ 20 := by omega
  have hgl := gN_lt hok a b
  have hgm := gr_lt hM2
  refine lv_aload_n hx hb dX0_isIn_0 rfl (lv_at hl 0 rfl) ?_
  refine lv_iload_n hx hb dX0_isIn_1 rfl (lv_at hl 1 rfl) ?_
  refine lv_iload_n hx hb dX0_isIn_2 rfl (lv_at hl 2 rfl) ?_
  refine pg_callVv (As := [.int (iI (((a : Nat) : Int))), .int (iI (((b : Nat) : Int)))]) (rest := []) SC (c_X0_requireTwo_ok l X S a b ha hb2 sa sb) xB_st (xB_h hP hK) (cwV 2 hts gX0_isIn_X0_requireTwo rfl rfl rfl (by decide +kernel) ⟨Nat.le_of_ble_eq_true rfl, Nat.le_of_ble_eq_true rfl⟩) (va_recv hK hP (ci := 0) (q0 := 0) rfl rfl) rfl hl.1 rfl (Nat.le_of_ble_eq_true rfl) dX0_isIn_3 ⟨Nat.zero_le _, Nat.zero_le _⟩ ?_
  refine lv_iload_n hx hb dX0_isIn_6 rfl (lv_at hl 3 rfl) ?_
  refine pg_callSv (As := [.int (iI (((n : Nat) : Int)))]) (rest := []) SC (c_X0_requireNumber_ok l n ⟨by omega, by omega⟩) pT_st pT_h (va_cwS 1 hts gX0_isIn_X0_requireNumber rfl rfl rfl (by decide +kernel) ⟨Nat.le_of_ble_eq_true rfl, Nat.le_of_ble_eq_true rfl⟩) rfl hl.1 rfl (Nat.le_of_ble_eq_true rfl) dX0_isIn_7 ⟨Nat.zero_le _, Nat.zero_le _⟩ ?_
  refine lv_aload_n hx hb dX0_isIn_10 rfl (lv_at hl 0 rfl) ?_
  refine lv_iload_n hx hb dX0_isIn_11 rfl (lv_at hl 1 rfl) ?_
  refine lv_iload_n hx hb dX0_isIn_12 rfl (lv_at hl 2 rfl) ?_
  refine pg_callV (As := [.int (iI (((a : Nat) : Int))), .int (iI (((b : Nat) : Int)))]) (rest := []) SC (c_X0_stretchGrains l X S hok a b ha hb2) xB_st (xB_h hP hK) (cwV 2 hts gX0_isIn_X0_stretchGrains rfl rfl rfl (by decide +kernel) ⟨Nat.le_of_ble_eq_true rfl, Nat.le_of_ble_eq_true rfl⟩) (va_recv hK hP (ci := 0) (q0 := 0) rfl rfl) rfl hl.1 rfl (Nat.le_of_ble_eq_true rfl) dX0_isIn_13 ⟨Nat.zero_le _, Nat.zero_le _⟩ ?_
  refine lv_iload_n hx hb dX0_isIn_16 rfl (lv_at hl 3 rfl) ?_
  refine lv_iload hx hb dX0_isIn_17 (lv_at hl 4 rfl) ?_
  refine pg_callS (As := [.int (iI (((n : Nat) : Int))), .int (iI q)]) (rest := [.int (iI (((gN S a b : Nat) : Int)))]) SC (c_X0_sixteenthsOf l n q M hqi hM) pT_st pT_h (va_cwS 2 hts gX0_isIn_X0_sixteenthsOf rfl rfl rfl (by decide +kernel) ⟨Nat.le_of_ble_eq_true rfl, Nat.le_of_ble_eq_true rfl⟩) rfl hl.1 rfl (Nat.le_of_ble_eq_true rfl) dX0_isIn_19 ⟨Nat.zero_le _, Nat.zero_le _⟩ ?_
  refine pg_callS (As := [.int (iI (((M : Nat) : Int)))]) (rest := [.int (iI (((gN S a b : Nat) : Int)))]) SC (c_X0_grainsOfRoot l M hM2) pT_st pT_h (va_cwS 1 hts gX0_isIn_X0_grainsOfRoot rfl rfl rfl (by decide +kernel) ⟨Nat.le_of_ble_eq_true rfl, Nat.le_of_ble_eq_true rfl⟩) rfl hl.1 rfl (Nat.le_of_ble_eq_true rfl) dX0_isIn_22 ⟨Nat.zero_le _, Nat.zero_le _⟩ ?_
  refine pg_icmp_gt (tgt := 32) hx hb dX0_isIn_25 (by decide) (⟨by omega, by omega⟩) (⟨by omega, by omega⟩) (fun hc1 => ?_) (fun hc1 => ?_)
  · refine lv_iconst (v := iI 0) hx hb dX0_isIn_32 rfl ?_
    exact pg_zret hx hb hr hlk  (iI_bool (by omega)) (congrArg (fun z : Int => some (Value.int (iI z))) (show r = 0 by omega)) dX0_isIn_33
  · refine lv_iconst (v := iI 1) hx hb dX0_isIn_28 rfl ?_
    refine lv_goto (tgt := 33) hx hb dX0_isIn_29 (by decide) ?_
    exact pg_zret hx hb hr hlk  (iI_bool (by omega)) (congrArg (fun z : Int => some (Value.int (iI z))) (show r = 1 by omega)) dX0_isIn_33
set_option maxRecDepth 100000 in
set_option maxHeartbeats 4000000 in
theorem c_X0_rootBits_ok (l : Launch) (X : pgX) (S : pgS) (n : Nat) (q : Int) (M : Nat) (hn : n < 32768) (hqi : inI q) (hM : (q = 0 ∧ (M : Int) = 16 * n) ∨ (q = 1 ∧ (M : Int) = 4 * n))  : pg_ro l yX0_rootBits wsX0_rootBits (rm 2 53) (xB X S) [.ref ((xa X 0)), .int (iI (((n : Nat) : Int))), .int (iI q)] (some (.long (lI (((bx M : Nat) : Int))))) := by
  refine pg_ro_of (cc := cX0_rootBits) (maxL := 3) (ret := (some .long)) (by decide) rfl (Nat.le_of_ble_eq_true rfl) ?_
  intro p e s m below meth c ls SC hr hlk hB hl
  obtain ⟨hx, hb, hml, hown, hts⟩ := id SC
  have hown : s.vm.findClass RX0 = some m.cls := hown
  obtain ⟨hP, hK⟩ := id hB
  have hl : lv_has ls 3 [(0, .ref ((xa X 0))), (1, .int (iI (((n : Nat) : Int)))), (2, .int (iI q))] := hl
  have hM2 : M < 2 ^ 20 := by omega
  refine lv_iload_n hx hb dX0_rootBits_0 rfl (lv_at hl 1 rfl) ?_
  refine pg_callSv (As := [.int (iI (((n : Nat) : Int)))]) (rest := []) SC (c_X0_requireNumber_ok l n ⟨by omega, by omega⟩) pT_st pT_h (va_cwS 1 hts gX0_rootBits_X0_requireNumber rfl rfl rfl (by decide +kernel) ⟨Nat.le_of_ble_eq_true rfl, Nat.le_of_ble_eq_true rfl⟩) rfl hl.1 rfl (Nat.le_of_ble_eq_true rfl) dX0_rootBits_1 ⟨Nat.zero_le _, Nat.zero_le _⟩ ?_
  refine lv_iload_n hx hb dX0_rootBits_4 rfl (lv_at hl 1 rfl) ?_
  refine lv_iload_n hx hb dX0_rootBits_5 rfl (lv_at hl 2 rfl) ?_
  refine pg_callS (As := [.int (iI (((n : Nat) : Int))), .int (iI q)]) (rest := []) SC (c_X0_sixteenthsOf l n q M hqi hM) pT_st pT_h (va_cwS 2 hts gX0_rootBits_X0_sixteenthsOf rfl rfl rfl (by decide +kernel) ⟨Nat.le_of_ble_eq_true rfl, Nat.le_of_ble_eq_true rfl⟩) rfl hl.1 rfl (Nat.le_of_ble_eq_true rfl) dX0_rootBits_6 ⟨Nat.zero_le _, Nat.zero_le _⟩ ?_
  refine pg_callS (As := [.int (iI (((M : Nat) : Int)))]) (rest := []) SC (c_X0_bitsOfRoot l M hM2) pT_st pT_h (va_cwS 1 hts gX0_rootBits_X0_bitsOfRoot rfl rfl rfl (by decide +kernel) ⟨Nat.le_of_ble_eq_true rfl, Nat.le_of_ble_eq_true rfl⟩) rfl hl.1 rfl (Nat.le_of_ble_eq_true rfl) dX0_rootBits_9 ⟨Nat.zero_le _, Nat.zero_le _⟩ ?_
  exact pg_lret hx hb hr hlk  (congrArg (fun z : Int => some (Value.long (lI z))) (show ((bx M : Nat) : Int) = ((bx M : Nat) : Int) by rfl)) dX0_rootBits_12
set_option maxRecDepth 100000 in
set_option maxHeartbeats 4000000 in
theorem c_X0_rootGrains_ok (l : Launch) (X : pgX) (S : pgS) (n : Nat) (q : Int) (M : Nat) (hn : n < 32768) (hqi : inI q) (hM : (q = 0 ∧ (M : Int) = 16 * n) ∨ (q = 1 ∧ (M : Int) = 4 * n))  : pg_ro l yX0_rootGrains wsX0_rootGrains (rm 2 48) (xB X S) [.ref ((xa X 0)), .int (iI (((n : Nat) : Int))), .int (iI q)] (some (.int (iI (((gr M : Nat) : Int))))) := by
  refine pg_ro_of (cc := cX0_rootGrains) (maxL := 3) (ret := (some .int)) (by decide) rfl (Nat.le_of_ble_eq_true rfl) ?_
  intro p e s m below meth c ls SC hr hlk hB hl
  obtain ⟨hx, hb, hml, hown, hts⟩ := id SC
  have hown : s.vm.findClass RX0 = some m.cls := hown
  obtain ⟨hP, hK⟩ := id hB
  have hl : lv_has ls 3 [(0, .ref ((xa X 0))), (1, .int (iI (((n : Nat) : Int)))), (2, .int (iI q))] := hl
  have hM2 : M < 2 ^ 20 := by omega
  refine lv_iload_n hx hb dX0_rootGrains_0 rfl (lv_at hl 1 rfl) ?_
  refine pg_callSv (As := [.int (iI (((n : Nat) : Int)))]) (rest := []) SC (c_X0_requireNumber_ok l n ⟨by omega, by omega⟩) pT_st pT_h (va_cwS 1 hts gX0_rootGrains_X0_requireNumber rfl rfl rfl (by decide +kernel) ⟨Nat.le_of_ble_eq_true rfl, Nat.le_of_ble_eq_true rfl⟩) rfl hl.1 rfl (Nat.le_of_ble_eq_true rfl) dX0_rootGrains_1 ⟨Nat.zero_le _, Nat.zero_le _⟩ ?_
  refine lv_iload_n hx hb dX0_rootGrains_4 rfl (lv_at hl 1 rfl) ?_
  refine lv_iload_n hx hb dX0_rootGrains_5 rfl (lv_at hl 2 rfl) ?_
  refine pg_callS (As := [.int (iI (((n : Nat) : Int))), .int (iI q)]) (rest := []) SC (c_X0_sixteenthsOf l n q M hqi hM) pT_st pT_h (va_cwS 2 hts gX0_rootGrains_X0_sixteenthsOf rfl rfl rfl (by decide +kernel) ⟨Nat.le_of_ble_eq_true rfl, Nat.le_of_ble_eq_true rfl⟩) rfl hl.1 rfl (Nat.le_of_ble_eq_true rfl) dX0_rootGrains_6 ⟨Nat.zero_le _, Nat.zero_le _⟩ ?_
  refine pg_callS (As := [.int (iI (((M : Nat) : Int)))]) (rest := []) SC (c_X0_grainsOfRoot l M hM2) pT_st pT_h (va_cwS 1 hts gX0_rootGrains_X0_grainsOfRoot rfl rfl rfl (by decide +kernel) ⟨Nat.le_of_ble_eq_true rfl, Nat.le_of_ble_eq_true rfl⟩) rfl hl.1 rfl (Nat.le_of_ble_eq_true rfl) dX0_rootGrains_9 ⟨Nat.zero_le _, Nat.zero_le _⟩ ?_
  exact pg_iret hx hb hr hlk  (congrArg (fun z : Int => some (Value.int (iI z))) (show ((gr M : Nat) : Int) = ((gr M : Nat) : Int) by rfl)) dX0_rootGrains_12
set_option maxRecDepth 100000 in
set_option maxHeartbeats 4000000 in
theorem c_X0_wholeRoot_ok (l : Launch) (X : pgX) (S : pgS) (n : Nat) (hn : n < 32768) : pg_ro l yX0_wholeRoot wsX0_wholeRoot (rm 2 48) (xB X S) [.ref ((xa X 0)), .int (iI (((n : Nat) : Int)))] (some (.int (iI (((qs n : Nat) : Int))))) := by
  refine pg_ro_of (cc := cX0_wholeRoot) (maxL := 2) (ret := (some .int)) (by decide) rfl (Nat.le_of_ble_eq_true rfl) ?_
  intro p e s m below meth c ls SC hr hlk hB hl
  obtain ⟨hx, hb, hml, hown, hts⟩ := id SC
  have hown : s.vm.findClass RX0 = some m.cls := hown
  obtain ⟨hP, hK⟩ := id hB
  have hl : lv_has ls 2 [(0, .ref ((xa X 0))), (1, .int (iI (((n : Nat) : Int))))] := hl
  refine lv_iload_n hx hb dX0_wholeRoot_0 rfl (lv_at hl 1 rfl) ?_
  refine pg_callSv (As := [.int (iI (((n : Nat) : Int)))]) (rest := []) SC (c_X0_requireNumber_ok l n ⟨by omega, by omega⟩) pT_st pT_h (va_cwS 1 hts gX0_wholeRoot_X0_requireNumber rfl rfl rfl (by decide +kernel) ⟨Nat.le_of_ble_eq_true rfl, Nat.le_of_ble_eq_true rfl⟩) rfl hl.1 rfl (Nat.le_of_ble_eq_true rfl) dX0_wholeRoot_1 ⟨Nat.zero_le _, Nat.zero_le _⟩ ?_
  refine lv_iload_n hx hb dX0_wholeRoot_4 rfl (lv_at hl 1 rfl) ?_
  refine pg_callS (As := [.int (iI (((n : Nat) : Int)))]) (rest := []) SC (c_X0_wholePart l n (by omega)) pT_st pT_h (va_cwS 1 hts gX0_wholeRoot_X0_wholePart rfl rfl rfl (by decide +kernel) ⟨Nat.le_of_ble_eq_true rfl, Nat.le_of_ble_eq_true rfl⟩) rfl hl.1 rfl (Nat.le_of_ble_eq_true rfl) dX0_wholeRoot_5 ⟨Nat.zero_le _, Nat.zero_le _⟩ ?_
  exact pg_iret hx hb hr hlk  (congrArg (fun z : Int => some (Value.int (iI z))) (show ((qs n : Nat) : Int) = ((qs n : Nat) : Int) by rfl)) dX0_wholeRoot_8
set_option maxRecDepth 100000 in
set_option maxHeartbeats 4000000 in
theorem c_X0_isNearest_ok (l : Launch) (X : pgX) (S : pgS) (n : Nat) (q : Int) (M : Nat) (hn : n < 32768) (hqi : inI q) (hM : (q = 0 ∧ (M : Int) = 16 * n) ∨ (q = 1 ∧ (M : Int) = 4 * n))  : pg_ro l yX0_isNearest wsX0_isNearest (rm 2 53) (xB X S) [.ref ((xa X 0)), .int (iI (((n : Nat) : Int))), .int (iI q)] (some (.int (iI 1))) := by
  refine pg_ro_of (cc := cX0_isNearest) (maxL := 9) (ret := (some .boolean)) (by decide) rfl (Nat.le_of_ble_eq_true rfl) ?_
  intro p e s m below meth c ls SC hr hlk hB hl
  obtain ⟨hx, hb, hml, hown, hts⟩ := id SC
  have hown : s.vm.findClass RX0 = some m.cls := hown
  obtain ⟨hP, hK⟩ := id hB
  have hl : lv_has ls 9 [(0, .ref ((xa X 0))), (1, .int (iI (((n : Nat) : Int)))), (2, .int (iI q))] := hl
  have hM2 : M < 2 ^ 20 := by omega
  have hbx := bx_lt hM2
  refine lv_iload_n hx hb dX0_isNearest_0 rfl (lv_at hl 1 rfl) ?_
  refine pg_callSv (As := [.int (iI (((n : Nat) : Int)))]) (rest := []) SC (c_X0_requireNumber_ok l n ⟨by omega, by omega⟩) pT_st pT_h (va_cwS 1 hts gX0_isNearest_X0_requireNumber rfl rfl rfl (by decide +kernel) ⟨Nat.le_of_ble_eq_true rfl, Nat.le_of_ble_eq_true rfl⟩) rfl hl.1 rfl (Nat.le_of_ble_eq_true rfl) dX0_isNearest_1 ⟨Nat.zero_le _, Nat.zero_le _⟩ ?_
  refine lv_iload_n hx hb dX0_isNearest_4 rfl (lv_at hl 1 rfl) ?_
  refine lv_iload_n hx hb dX0_isNearest_5 rfl (lv_at hl 2 rfl) ?_
  refine pg_callS (As := [.int (iI (((n : Nat) : Int))), .int (iI q)]) (rest := []) SC (c_X0_sixteenthsOf l n q M hqi hM) pT_st pT_h (va_cwS 2 hts gX0_isNearest_X0_sixteenthsOf rfl rfl rfl (by decide +kernel) ⟨Nat.le_of_ble_eq_true rfl, Nat.le_of_ble_eq_true rfl⟩) rfl hl.1 rfl (Nat.le_of_ble_eq_true rfl) dX0_isNearest_6 ⟨Nat.zero_le _, Nat.zero_le _⟩ ?_
  refine lv_istore_n (lv' := [(3, .int (iI (((M : Nat) : Int)))), (0, .ref ((xa X 0))), (1, .int (iI (((n : Nat) : Int)))), (2, .int (iI q))]) hx hb dX0_isNearest_9 rfl hl (by decide) rfl (fun ls hl => ?_)
  refine lv_iload_n hx hb dX0_isNearest_10 rfl (lv_at hl 0 rfl) ?_
  refine pg_callS (As := [.int (iI (((M : Nat) : Int)))]) (rest := []) SC (c_X0_bitsOfRoot l M hM2) pT_st pT_h (va_cwS 1 hts gX0_isNearest_X0_bitsOfRoot rfl rfl rfl (by decide +kernel) ⟨Nat.le_of_ble_eq_true rfl, Nat.le_of_ble_eq_true rfl⟩) rfl hl.1 rfl (Nat.le_of_ble_eq_true rfl) dX0_isNearest_11 ⟨Nat.zero_le _, Nat.zero_le _⟩ ?_
  refine lv_lstore (lv' := [(4, .long (lI (((bx M : Nat) : Int)))), (3, .int (iI (((M : Nat) : Int)))), (0, .ref ((xa X 0))), (1, .int (iI (((n : Nat) : Int)))), (2, .int (iI q))]) hx hb dX0_isNearest_14 hl (by decide) rfl (fun ls hl => ?_)
  refine lv_iload_n hx hb dX0_isNearest_16 rfl (lv_at hl 1 rfl) ?_
  refine pg_if_eq (tgt := 27) hx hb dX0_isNearest_17 (by decide) (⟨by omega, by omega⟩) (fun hc1 => ?_) (fun hc1 => ?_)
  · refine lv_iload_n hx hb dX0_isNearest_27 rfl (lv_at hl 1 rfl) ?_
    refine pg_if_ne (tgt := 42) hx hb dX0_isNearest_28 (by decide) (⟨by omega, by omega⟩) (fun hc2 => absurd hc2 (by omega)) (fun hc2 => ?_)
    have hbz : bx M = 0 := by rw [show M = 0 by omega]; rfl
    refine lv_lload hx hb dX0_isNearest_31 (lv_at hl 0 rfl) ?_
    refine lv_lconst (v := lI 0) hx hb dX0_isNearest_33 rfl ?_
    refine pg_lcmp hx hb dX0_isNearest_34 (⟨by omega, by omega⟩) (⟨by omega, by omega⟩) (fun z3 hz3 => ?_)
    refine pg_if_ne (tgt := 42) hx hb dX0_isNearest_35 (by decide) (⟨by omega, by omega⟩) (fun hc4 => absurd hc4 (by omega)) (fun hc4 => ?_)
    refine lv_iconst (v := iI 1) hx hb dX0_isNearest_38 rfl ?_
    refine lv_goto (tgt := 43) hx hb dX0_isNearest_39 (by decide) ?_
    exact pg_zret hx hb hr hlk  (iI_bool (by omega)) (congrArg (fun z : Int => some (Value.int (iI z))) (show 1 = 1 by omega)) dX0_isNearest_43
  · have hM0 : M ≠ 0 := by omega
    have hbp := bx_pos hM0
    refine lv_lload hx hb dX0_isNearest_20 (lv_at hl 0 rfl) ?_
    refine lv_lconst (v := lI 0) hx hb dX0_isNearest_22 rfl ?_
    refine pg_lcmp hx hb dX0_isNearest_23 (⟨by omega, by omega⟩) (⟨by omega, by omega⟩) (fun z5 hz5 => ?_)
    refine pg_if_ne (tgt := 44) hx hb dX0_isNearest_24 (by decide) (⟨by omega, by omega⟩) (fun hc6 => ?_) (fun hc6 => absurd hc6 (by omega))
    have hpw : pw M ≤ 9 := pw_small (by omega)
    obtain ⟨u1, u2, u3, u4⟩ := un_spec hM0 hM2
    rw [← mk_52 hM2] at u3 u4
    have hmk := mk_lt (k := 52 - 2 * pw M) hM2 (by omega)
    refine lv_ldc2 hx hb hown (hts (.constantLong RX0 133 2) (by decide +kernel)) dX0_isNearest_44 (pg_tl (y := lI 2) (by decide +kernel) ?_)
    refine lv_lload hx hb dX0_isNearest_47 (lv_at hl 0 rfl) ?_
    refine pg_callS (As := [.long (lI (((bx M : Nat) : Int)))]) (rest := [.long (lI 2)]) SC (c_X0_unitsM l M hM2 hM0) pT_st pT_h (va_cwS 1 hts gX0_isNearest_X0_unitsOf rfl rfl rfl (by decide +kernel) ⟨Nat.le_of_ble_eq_true rfl, Nat.le_of_ble_eq_true rfl⟩) rfl hl.1 rfl (Nat.le_of_ble_eq_true rfl) dX0_isNearest_49 ⟨Nat.zero_le _, Nat.zero_le _⟩ ?_
    refine pg_lmul (z := ((2 * un M : Nat) : Int)) hx hb dX0_isNearest_52 (by omega) ?_
    refine lv_lstore (lv' := [(6, .long (lI (((2 * un M : Nat) : Int)))), (4, .long (lI (((bx M : Nat) : Int)))), (3, .int (iI (((M : Nat) : Int)))), (0, .ref ((xa X 0))), (1, .int (iI (((n : Nat) : Int)))), (2, .int (iI q))]) hx hb dX0_isNearest_53 hl (by decide) rfl (fun ls hl => ?_)
    refine lv_lload hx hb dX0_isNearest_55 (lv_at hl 1 rfl) ?_
    refine pg_callS (As := [.long (lI (((bx M : Nat) : Int)))]) (rest := []) SC (c_X0_placesM l M hM2 hM0) pT_st pT_h (va_cwS 1 hts gX0_isNearest_X0_placesAfterPoint rfl rfl rfl (by decide +kernel) ⟨Nat.le_of_ble_eq_true rfl, Nat.le_of_ble_eq_true rfl⟩) rfl hl.1 rfl (Nat.le_of_ble_eq_true rfl) dX0_isNearest_57 ⟨Nat.zero_le _, Nat.zero_le _⟩ ?_
    refine lv_iconst (v := iI 1) hx hb dX0_isNearest_60 rfl ?_
    refine pg_iadd (z := 55 - (pw M : Int)) hx hb dX0_isNearest_61 (by omega) ?_
    refine lv_istore (lv' := [(8, .int (iI (55 - (pw M : Int)))), (6, .long (lI (((2 * un M : Nat) : Int)))), (4, .long (lI (((bx M : Nat) : Int)))), (3, .int (iI (((M : Nat) : Int)))), (0, .ref ((xa X 0))), (1, .int (iI (((n : Nat) : Int)))), (2, .int (iI q))]) hx hb dX0_isNearest_62 hl (by decide) rfl (fun ls hl => ?_)
    refine lv_lload hx hb dX0_isNearest_64 (lv_at hl 1 rfl) ?_
    refine lv_lconst (v := lI 1) hx hb dX0_isNearest_66 rfl ?_
    refine pg_lsub (z := ((2 * un M - 1 : Nat) : Int)) hx hb dX0_isNearest_67 (by omega) ?_
    refine lv_iload hx hb dX0_isNearest_68 (lv_at hl 0 rfl) ?_
    refine lv_iload_n hx hb dX0_isNearest_70 rfl (lv_at hl 3 rfl) ?_
    refine pg_callS (As := [.long (lI (((2 * un M - 1 : Nat) : Int))), .int (iI (55 - (pw M : Int))), .int (iI (((M : Nat) : Int)))]) (rest := []) SC (c_X0_compareSquare l (2 * un M - 1) (52 - 2 * pw M) M (55 - (pw M : Int)) (-1) (by omega) (by omega) (by omega) hmk hM2 (Or.inl ⟨u3, rfl⟩)) pT_st pT_h (va_cwS 3 hts gX0_isNearest_X0_compareSquare rfl rfl rfl (by decide +kernel) ⟨Nat.le_of_ble_eq_true rfl, Nat.le_of_ble_eq_true rfl⟩) rfl hl.1 rfl (Nat.le_of_ble_eq_true rfl) dX0_isNearest_71 ⟨Nat.zero_le _, Nat.zero_le _⟩ ?_
    refine pg_if_ge (tgt := 94) hx hb dX0_isNearest_74 (by decide) (⟨by omega, by omega⟩) (fun hc7 => absurd hc7 (by omega)) (fun hc7 => ?_)
    refine lv_lload hx hb dX0_isNearest_77 (lv_at hl 1 rfl) ?_
    refine lv_lconst (v := lI 1) hx hb dX0_isNearest_79 rfl ?_
    refine pg_ladd (z := ((2 * un M + 1 : Nat) : Int)) hx hb dX0_isNearest_80 (by omega) ?_
    refine lv_iload hx hb dX0_isNearest_81 (lv_at hl 0 rfl) ?_
    refine lv_iload_n hx hb dX0_isNearest_83 rfl (lv_at hl 3 rfl) ?_
    refine pg_callS (As := [.long (lI (((2 * un M + 1 : Nat) : Int))), .int (iI (55 - (pw M : Int))), .int (iI (((M : Nat) : Int)))]) (rest := []) SC (c_X0_compareSquare l (2 * un M + 1) (52 - 2 * pw M) M (55 - (pw M : Int)) 1 (by omega) (by omega) (by omega) hmk hM2 (Or.inr (Or.inr ⟨u4, rfl⟩))) pT_st pT_h (va_cwS 3 hts gX0_isNearest_X0_compareSquare rfl rfl rfl (by decide +kernel) ⟨Nat.le_of_ble_eq_true rfl, Nat.le_of_ble_eq_true rfl⟩) rfl hl.1 rfl (Nat.le_of_ble_eq_true rfl) dX0_isNearest_84 ⟨Nat.zero_le _, Nat.zero_le _⟩ ?_
    refine pg_if_le (tgt := 94) hx hb dX0_isNearest_87 (by decide) (⟨by omega, by omega⟩) (fun hc8 => absurd hc8 (by omega)) (fun hc8 => ?_)
    refine lv_iconst (v := iI 1) hx hb dX0_isNearest_90 rfl ?_
    refine lv_goto (tgt := 95) hx hb dX0_isNearest_91 (by decide) ?_
    exact pg_zret hx hb hr hlk  (iI_bool (by omega)) (congrArg (fun z : Int => some (Value.int (iI z))) (show 1 = 1 by omega)) dX0_isNearest_95
set_option maxRecDepth 100000 in
set_option maxHeartbeats 4000000 in
theorem c_X0_isHalved_ok (l : Launch) (X : pgX) (S : pgS) (n : Nat) (hn : n < 32768) : pg_ro l yX0_isHalved wsX0_isHalved (rm 2 53) (xB X S) [.ref ((xa X 0)), .int (iI (((n : Nat) : Int)))] (some (.int (iI 1))) := by
  refine pg_ro_of (cc := cX0_isHalved) (maxL := 2) (ret := (some .boolean)) (by decide) rfl (Nat.le_of_ble_eq_true rfl) ?_
  intro p e s m below meth c ls SC hr hlk hB hl
  obtain ⟨hx, hb, hml, hown, hts⟩ := id SC
  have hown : s.vm.findClass RX0 = some m.cls := hown
  obtain ⟨hP, hK⟩ := id hB
  have hl : lv_has ls 2 [(0, .ref ((xa X 0))), (1, .int (iI (((n : Nat) : Int))))] := hl
  have htw := tw (M := 4 * n) (by omega)
  rw [show 4 * (4 * n) = 16 * n by omega] at htw
  have hb4 := bx_lt (M := 4 * n) (by omega)
  have hb16 := bx_lt (M := 16 * n) (by omega)
  refine lv_iload_n hx hb dX0_isHalved_0 rfl (lv_at hl 1 rfl) ?_
  refine pg_callSv (As := [.int (iI (((n : Nat) : Int)))]) (rest := []) SC (c_X0_requireNumber_ok l n ⟨by omega, by omega⟩) pT_st pT_h (va_cwS 1 hts gX0_isHalved_X0_requireNumber rfl rfl rfl (by decide +kernel) ⟨Nat.le_of_ble_eq_true rfl, Nat.le_of_ble_eq_true rfl⟩) rfl hl.1 rfl (Nat.le_of_ble_eq_true rfl) dX0_isHalved_1 ⟨Nat.zero_le _, Nat.zero_le _⟩ ?_
  refine lv_iload_n hx hb dX0_isHalved_4 rfl (lv_at hl 1 rfl) ?_
  refine lv_iconst (v := iI 1) hx hb dX0_isHalved_5 rfl ?_
  refine pg_callS (As := [.int (iI (((n : Nat) : Int))), .int (iI 1)]) (rest := []) SC (c_X0_sixteenthsOf l n 1 ((4 * n : Nat) : Int) ⟨by decide, by decide⟩ (by omega)) pT_st pT_h (va_cwS 2 hts gX0_isHalved_X0_sixteenthsOf rfl rfl rfl (by decide +kernel) ⟨Nat.le_of_ble_eq_true rfl, Nat.le_of_ble_eq_true rfl⟩) rfl hl.1 rfl (Nat.le_of_ble_eq_true rfl) dX0_isHalved_6 ⟨Nat.zero_le _, Nat.zero_le _⟩ ?_
  refine pg_callS (As := [.int (iI (((4 * n : Nat) : Int)))]) (rest := []) SC (c_X0_bitsOfRoot l (4 * n) (by omega)) pT_st pT_h (va_cwS 1 hts gX0_isHalved_X0_bitsOfRoot rfl rfl rfl (by decide +kernel) ⟨Nat.le_of_ble_eq_true rfl, Nat.le_of_ble_eq_true rfl⟩) rfl hl.1 rfl (Nat.le_of_ble_eq_true rfl) dX0_isHalved_9 ⟨Nat.zero_le _, Nat.zero_le _⟩ ?_
  refine pg_callS (As := [.long (lI (((bx (4 * n) : Nat) : Int)))]) (rest := []) SC (c_X0_twice l (bx (4 * n)) (bx (16 * n)) (by omega) (by omega) htw) pT_st pT_h (va_cwS 1 hts gX0_isHalved_X0_twice rfl rfl rfl (by decide +kernel) ⟨Nat.le_of_ble_eq_true rfl, Nat.le_of_ble_eq_true rfl⟩) rfl hl.1 rfl (Nat.le_of_ble_eq_true rfl) dX0_isHalved_12 ⟨Nat.zero_le _, Nat.zero_le _⟩ ?_
  refine lv_iload_n hx hb dX0_isHalved_15 rfl (lv_at hl 1 rfl) ?_
  refine lv_iconst (v := iI 0) hx hb dX0_isHalved_16 rfl ?_
  refine pg_callS (As := [.int (iI (((n : Nat) : Int))), .int (iI 0)]) (rest := [.long (lI (((bx (16 * n) : Nat) : Int)))]) SC (c_X0_sixteenthsOf l n 0 ((16 * n : Nat) : Int) ⟨by decide, by decide⟩ (by omega)) pT_st pT_h (va_cwS 2 hts gX0_isHalved_X0_sixteenthsOf rfl rfl rfl (by decide +kernel) ⟨Nat.le_of_ble_eq_true rfl, Nat.le_of_ble_eq_true rfl⟩) rfl hl.1 rfl (Nat.le_of_ble_eq_true rfl) dX0_isHalved_17 ⟨Nat.zero_le _, Nat.zero_le _⟩ ?_
  refine pg_callS (As := [.int (iI (((16 * n : Nat) : Int)))]) (rest := [.long (lI (((bx (16 * n) : Nat) : Int)))]) SC (c_X0_bitsOfRoot l (16 * n) (by omega)) pT_st pT_h (va_cwS 1 hts gX0_isHalved_X0_bitsOfRoot rfl rfl rfl (by decide +kernel) ⟨Nat.le_of_ble_eq_true rfl, Nat.le_of_ble_eq_true rfl⟩) rfl hl.1 rfl (Nat.le_of_ble_eq_true rfl) dX0_isHalved_20 ⟨Nat.zero_le _, Nat.zero_le _⟩ ?_
  refine pg_lcmp hx hb dX0_isHalved_23 (⟨by omega, by omega⟩) (⟨by omega, by omega⟩) (fun z1 hz1 => ?_)
  refine pg_if_ne (tgt := 31) hx hb dX0_isHalved_24 (by decide) (⟨by omega, by omega⟩) (fun hc2 => absurd hc2 (by omega)) (fun hc2 => ?_)
  refine lv_iconst (v := iI 1) hx hb dX0_isHalved_27 rfl ?_
  refine lv_goto (tgt := 32) hx hb dX0_isHalved_28 (by decide) ?_
  exact pg_zret hx hb hr hlk  (iI_bool (by omega)) (congrArg (fun z : Int => some (Value.int (iI z))) (show 1 = 1 by omega)) dX0_isHalved_32
set_option maxRecDepth 100000 in
set_option maxHeartbeats 4000000 in
theorem c_X0_between_ok (l : Launch) (X : pgX) (S : pgS) (lo hi : Nat) (q r : Int) (hlo : lo < 32768) (hhi : hi < 32768) (hqi : inI q) (h : (hi ≤ lo ∧ r = 0) ∨ (lo < hi ∧ q = 0 ∧ r = (qs hi : Int) - (qs lo : Int)) ∨ (lo < hi ∧ q ≠ 0 ∧ r = (qs (hi / 4) : Int) - (qs (lo / 4) : Int))) : pg_ro l yX0_between wsX0_between (rm 2 48) (xB X S) [.ref ((xa X 0)), .int (iI (((lo : Nat) : Int))), .int (iI (((hi : Nat) : Int))), .int (iI q)] (some (.int (iI r))) := by
  refine pg_ro_of (cc := cX0_between) (maxL := 4) (ret := (some .int)) (by decide) rfl (Nat.le_of_ble_eq_true rfl) ?_
  intro p e s m below meth c ls SC hr hlk hB hl
  obtain ⟨hx, hb, hml, hown, hts⟩ := id SC
  have hown : s.vm.findClass RX0 = some m.cls := hown
  obtain ⟨hP, hK⟩ := id hB
  have hl : lv_has ls 4 [(0, .ref ((xa X 0))), (1, .int (iI (((lo : Nat) : Int)))), (2, .int (iI (((hi : Nat) : Int)))), (3, .int (iI q))] := hl
  refine lv_iload_n hx hb dX0_between_0 rfl (lv_at hl 1 rfl) ?_
  refine pg_callSv (As := [.int (iI (((lo : Nat) : Int)))]) (rest := []) SC (c_X0_requireNumber_ok l lo ⟨by omega, by omega⟩) pT_st pT_h (va_cwS 1 hts gX0_between_X0_requireNumber rfl rfl rfl (by decide +kernel) ⟨Nat.le_of_ble_eq_true rfl, Nat.le_of_ble_eq_true rfl⟩) rfl hl.1 rfl (Nat.le_of_ble_eq_true rfl) dX0_between_1 ⟨Nat.zero_le _, Nat.zero_le _⟩ ?_
  refine lv_iload_n hx hb dX0_between_4 rfl (lv_at hl 2 rfl) ?_
  refine pg_callSv (As := [.int (iI (((hi : Nat) : Int)))]) (rest := []) SC (c_X0_requireNumber_ok l hi ⟨by omega, by omega⟩) pT_st pT_h (va_cwS 1 hts gX0_between_X0_requireNumber rfl rfl rfl (by decide +kernel) ⟨Nat.le_of_ble_eq_true rfl, Nat.le_of_ble_eq_true rfl⟩) rfl hl.1 rfl (Nat.le_of_ble_eq_true rfl) dX0_between_5 ⟨Nat.zero_le _, Nat.zero_le _⟩ ?_
  refine lv_iload_n hx hb dX0_between_8 rfl (lv_at hl 2 rfl) ?_
  refine lv_iload_n hx hb dX0_between_9 rfl (lv_at hl 1 rfl) ?_
  refine pg_icmp_gt (tgt := 15) hx hb dX0_between_10 (by decide) (⟨by omega, by omega⟩) (⟨by omega, by omega⟩) (fun hc1 => ?_) (fun hc1 => ?_)
  · refine lv_iload_n hx hb dX0_between_15 rfl (lv_at hl 3 rfl) ?_
    refine pg_if_eq (tgt := 35) hx hb dX0_between_16 (by decide) (⟨by omega, by omega⟩) (fun hc2 => ?_) (fun hc2 => ?_)
    · refine lv_iload_n hx hb dX0_between_35 rfl (lv_at hl 2 rfl) ?_
      refine pg_callS (As := [.int (iI (((hi : Nat) : Int)))]) (rest := []) SC (c_X0_wholePart l hi (by omega)) pT_st pT_h (va_cwS 1 hts gX0_between_X0_wholePart rfl rfl rfl (by decide +kernel) ⟨Nat.le_of_ble_eq_true rfl, Nat.le_of_ble_eq_true rfl⟩) rfl hl.1 rfl (Nat.le_of_ble_eq_true rfl) dX0_between_36 ⟨Nat.zero_le _, Nat.zero_le _⟩ ?_
      refine lv_iload_n hx hb dX0_between_39 rfl (lv_at hl 1 rfl) ?_
      refine pg_callS (As := [.int (iI (((lo : Nat) : Int)))]) (rest := [.int (iI (((qs hi : Nat) : Int)))]) SC (c_X0_wholePart l lo (by omega)) pT_st pT_h (va_cwS 1 hts gX0_between_X0_wholePart rfl rfl rfl (by decide +kernel) ⟨Nat.le_of_ble_eq_true rfl, Nat.le_of_ble_eq_true rfl⟩) rfl hl.1 rfl (Nat.le_of_ble_eq_true rfl) dX0_between_40 ⟨Nat.zero_le _, Nat.zero_le _⟩ ?_
      refine pg_isub (z := (((qs hi : Nat) : Int)) - (((qs lo : Nat) : Int))) hx hb dX0_between_43 (rfl) ?_
      exact pg_iret hx hb hr hlk  (congrArg (fun z : Int => some (Value.int (iI z))) (show r = (((qs hi : Nat) : Int)) - (((qs lo : Nat) : Int)) by omega)) dX0_between_44
    · refine lv_iload_n hx hb dX0_between_19 rfl (lv_at hl 2 rfl) ?_
      refine lv_iconst (v := iI 2) hx hb dX0_between_20 rfl ?_
      refine pg_ishr (z := hi / 4) (n := hi) (j := 2) hx hb dX0_between_21 (rfl) (rfl) (by omega) (by decide) (rfl) ?_
      refine pg_callS (As := [.int (iI (((hi / 4 : Nat) : Int)))]) (rest := []) SC (c_X0_wholePart l (hi / 4) (by omega)) pT_st pT_h (va_cwS 1 hts gX0_between_X0_wholePart rfl rfl rfl (by decide +kernel) ⟨Nat.le_of_ble_eq_true rfl, Nat.le_of_ble_eq_true rfl⟩) rfl hl.1 rfl (Nat.le_of_ble_eq_true rfl) dX0_between_22 ⟨Nat.zero_le _, Nat.zero_le _⟩ ?_
      refine lv_iload_n hx hb dX0_between_25 rfl (lv_at hl 1 rfl) ?_
      refine lv_iconst (v := iI 2) hx hb dX0_between_26 rfl ?_
      refine pg_ishr (z := lo / 4) (n := lo) (j := 2) hx hb dX0_between_27 (rfl) (rfl) (by omega) (by decide) (rfl) ?_
      refine pg_callS (As := [.int (iI (((lo / 4 : Nat) : Int)))]) (rest := [.int (iI (((qs (hi / 4) : Nat) : Int)))]) SC (c_X0_wholePart l (lo / 4) (by omega)) pT_st pT_h (va_cwS 1 hts gX0_between_X0_wholePart rfl rfl rfl (by decide +kernel) ⟨Nat.le_of_ble_eq_true rfl, Nat.le_of_ble_eq_true rfl⟩) rfl hl.1 rfl (Nat.le_of_ble_eq_true rfl) dX0_between_28 ⟨Nat.zero_le _, Nat.zero_le _⟩ ?_
      refine pg_isub (z := (((qs (hi / 4) : Nat) : Int)) - (((qs (lo / 4) : Nat) : Int))) hx hb dX0_between_31 (rfl) ?_
      refine lv_goto (tgt := 44) hx hb dX0_between_32 (by decide) ?_
      exact pg_iret hx hb hr hlk  (congrArg (fun z : Int => some (Value.int (iI z))) (show r = (((qs (hi / 4) : Nat) : Int)) - (((qs (lo / 4) : Nat) : Int)) by omega)) dX0_between_44
  · refine lv_iconst (v := iI 0) hx hb dX0_between_13 rfl ?_
    exact pg_iret hx hb hr hlk  (congrArg (fun z : Int => some (Value.int (iI z))) (show r = 0 by omega)) dX0_between_14
set_option maxRecDepth 100000 in
set_option maxHeartbeats 4000000 in
theorem c_X0_around (l : Launch) (X : pgX) (S : pgS) (hok : pgOk S)  : pg_ro l yX0_around wsX0_around (rm 3 70) (xB X S) [.ref ((xa X 0))] (some (.int (iI (((ar S (sN S) : Nat) : Int))))) := by
  refine pg_ro_of (cc := cX0_around) (maxL := 3) (ret := (some .int)) (by decide) rfl (Nat.le_of_ble_eq_true rfl) ?_
  intro p e s m below meth c ls SC hr hlk hB hl
  obtain ⟨hx, hb, hml, hown, hts⟩ := id SC
  have hown : s.vm.findClass RX0 = some m.cls := hown
  obtain ⟨hP, hK⟩ := id hB
  have hl : lv_has ls 3 [(0, .ref ((xa X 0)))] := hl
  have hin : ∀ w ∈ u_ws RX0 TX0 6, w ∈ wsX0_around := by decide +kernel
  have hN : sN S ≤ 12 := hok.2.2.2.2.1
  refine lv_iconst (v := iI 0) hx hb dX0_around_0 rfl ?_
  refine lv_istore_n (lv' := [(1, .int (iI 0)), (0, .ref ((xa X 0)))]) hx hb dX0_around_1 rfl hl (by decide) rfl (fun ls hl => ?_)
  refine lv_iconst (v := iI 0) hx hb dX0_around_2 rfl ?_
  refine lv_istore_n (lv' := [(2, .int (iI 0)), (1, .int (iI 0)), (0, .ref ((xa X 0)))]) hx hb dX0_around_3 rfl hl (by decide) rfl (fun ls hl => ?_)
  have loop1 : ∀ (fu : Nat) (i : Nat) (n : Nat), (i ≤ sN S) → (n = ar S i) → sN S - i < fu → ∀ ls : Array Slot, lv_has ls 3 [(0, .ref ((xa X 0))), (1, .int (iI (((n : Nat) : Int)))), (2, .int (iI (((i : Nat) : Int))))] → W p l e (rm 3 70) s m ([.ref ((xa X 0))] : List Value).toArray below meth c s.heap [] 0 0 (MQ below (pg_Q (some (.int (iI (((ar S (sN S) : Nat) : Int)))))) ([.ref ((xa X 0))] : List Value).toArray s 0 0 (fun _ => False)) (F0 m 4 ls []) := by
    intro fu
    induction fu with
    | zero => intros; omega
    | succ fu ih1 =>
      intro i n hi hn hm1 ls hl
      refine lv_iload_n hx hb dX0_around_4 rfl (lv_at hl 2 rfl) ?_
      refine lv_aload_n hx hb dX0_around_5 rfl (lv_at hl 0 rfl) ?_
      refine va_get (D := xG X) (ci := 0) (v := .int (iI (((sN S : Nat) : Int)))) (C := RX0) (T := TX0) (N := 6) hx hb hts hin hown hK hP 0 rfl rfl 4 (by decide) (hts (.fieldLink RX0 23 "Pegfield" "ringSize" "I") (by decide +kernel)) (fun _ h9 => h9) rfl dX0_around_6 ?_
      refine pg_icmp_ge (tgt := 39) hx hb dX0_around_9 (by decide) (⟨by omega, by omega⟩) (⟨by omega, by omega⟩) (fun hc2 => ?_) (fun hc2 => ?_)
      · refine lv_iload_n hx hb dX0_around_39 rfl (lv_at hl 1 rfl) ?_
        exact pg_iret hx hb hr hlk  (congrArg (fun z : Int => some (Value.int (iI z))) (show ((ar S (sN S) : Nat) : Int) = ((n : Nat) : Int) by rw [hn, show i = sN S by omega])) dX0_around_40
      · have r1 := hok.2.2.2.1 i
        have r2 := hok.2.2.2.1 (nx S i)
        refine lv_iload_n hx hb dX0_around_12 rfl (lv_at hl 1 rfl) ?_
        refine lv_aload_n hx hb dX0_around_13 rfl (lv_at hl 0 rfl) ?_
        refine lv_aload_n hx hb dX0_around_14 rfl (lv_at hl 0 rfl) ?_
        refine lv_iload_n hx hb dX0_around_15 rfl (lv_at hl 2 rfl) ?_
        refine pg_callV (As := [.int (iI (((i : Nat) : Int)))]) (rest := [.ref ((xa X 0)), .int (iI (((n : Nat) : Int)))]) SC (c_X0_pegInRing l X S i (by omega)) xB_st (xB_h hP hK) (cwV 1 hts gX0_around_X0_pegInRing rfl rfl rfl (by decide +kernel) ⟨Nat.le_of_ble_eq_true rfl, Nat.le_of_ble_eq_true rfl⟩) (va_recv hK hP (ci := 0) (q0 := 0) rfl rfl) rfl hl.1 rfl (Nat.le_of_ble_eq_true rfl) dX0_around_16 ⟨Nat.zero_le _, Nat.zero_le _⟩ ?_
        refine lv_aload_n hx hb dX0_around_19 rfl (lv_at hl 0 rfl) ?_
        refine lv_aload_n hx hb dX0_around_20 rfl (lv_at hl 0 rfl) ?_
        refine lv_iload_n hx hb dX0_around_21 rfl (lv_at hl 2 rfl) ?_
        refine pg_callV (As := [.int (iI (((i : Nat) : Int)))]) (rest := [.ref ((xa X 0)), .int (iI (((sR S i : Nat) : Int))), .ref ((xa X 0)), .int (iI (((n : Nat) : Int)))]) SC (c_X0_placeAfter l X S i (by omega) hN) xB_st (xB_h hP hK) (cwV 1 hts gX0_around_X0_placeAfter rfl rfl rfl (by decide +kernel) ⟨Nat.le_of_ble_eq_true rfl, Nat.le_of_ble_eq_true rfl⟩) (va_recv hK hP (ci := 0) (q0 := 0) rfl rfl) rfl hl.1 rfl (Nat.le_of_ble_eq_true rfl) dX0_around_22 ⟨Nat.zero_le _, Nat.zero_le _⟩ ?_
        refine pg_callV (As := [.int (iI (((nx S i : Nat) : Int)))]) (rest := [.int (iI (((sR S i : Nat) : Int))), .ref ((xa X 0)), .int (iI (((n : Nat) : Int)))]) SC (c_X0_pegInRing l X S (nx S i) (nx_lt hN)) xB_st (xB_h hP hK) (cwV 1 hts gX0_around_X0_pegInRing rfl rfl rfl (by decide +kernel) ⟨Nat.le_of_ble_eq_true rfl, Nat.le_of_ble_eq_true rfl⟩) (va_recv hK hP (ci := 0) (q0 := 0) rfl rfl) rfl hl.1 rfl (Nat.le_of_ble_eq_true rfl) dX0_around_25 ⟨Nat.zero_le _, Nat.zero_le _⟩ ?_
        refine pg_callV (As := [.int (iI (((sR S i : Nat) : Int))), .int (iI (((sR S (nx S i) : Nat) : Int)))]) (rest := [.int (iI (((n : Nat) : Int)))]) SC (c_X0_stretchGrains l X S hok (sR S i) (sR S (nx S i)) (by omega) (by omega)) xB_st (xB_h hP hK) (cwV 2 hts gX0_around_X0_stretchGrains rfl rfl rfl (by decide +kernel) ⟨Nat.le_of_ble_eq_true rfl, Nat.le_of_ble_eq_true rfl⟩) (va_recv hK hP (ci := 0) (q0 := 0) rfl rfl) rfl hl.1 rfl (Nat.le_of_ble_eq_true rfl) dX0_around_28 ⟨Nat.zero_le _, Nat.zero_le _⟩ ?_
        refine pg_iadd (z := ((n + gN S (sR S i) (sR S (nx S i)) : Nat) : Int)) hx hb dX0_around_31 (by omega) ?_
        refine lv_istore_n (lv' := [(1, .int (iI (((n + gN S (sR S i) (sR S (nx S i)) : Nat) : Int)))), (0, .ref ((xa X 0))), (2, .int (iI (((i : Nat) : Int))))]) hx hb dX0_around_32 rfl hl (by decide) rfl (fun ls hl => ?_)
        refine lv_iinc (v := iI (((i + 1 : Nat) : Int))) (lv' := [(2, .int (iI (((i + 1 : Nat) : Int)))), (1, .int (iI (((n + gN S (sR S i) (sR S (nx S i)) : Nat) : Int)))), (0, .ref ((xa X 0)))]) hx hb dX0_around_33 hl (k := 2) rfl (iI_addp (by omega)) (by decide) rfl (fun ls hl => ?_)
        refine lv_goto (tgt := 4) hx hb dX0_around_36 (by decide) ?_
        exact ih1 (i + 1) (n + gN S (sR S i) (sR S (nx S i))) (by omega) (by rw [ar_s, hn]) (by omega) ls (lv_sub hl [2, 1, 0] rfl)
  refine loop1 (sN S + 1) 0 0 (by omega) (rfl) (by omega) ls (lv_sub hl [2, 1, 0] rfl)
set_option maxRecDepth 100000 in
set_option maxHeartbeats 4000000 in
theorem c_X0_doubleArea (l : Launch) (X : pgX) (S : pgS) (hok : pgOk S)  : pg_ro l yX0_doubleArea wsX0_doubleArea (rm 2 41) (xB X S) [.ref ((xa X 0))] (some (.int (iI (da S (sN S))))) := by
  refine pg_ro_of (cc := cX0_doubleArea) (maxL := 5) (ret := (some .int)) (by decide) rfl (Nat.le_of_ble_eq_true rfl) ?_
  intro p e s m below meth c ls SC hr hlk hB hl
  obtain ⟨hx, hb, hml, hown, hts⟩ := id SC
  have hown : s.vm.findClass RX0 = some m.cls := hown
  obtain ⟨hP, hK⟩ := id hB
  have hl : lv_has ls 5 [(0, .ref ((xa X 0)))] := hl
  have hin : ∀ w ∈ u_ws RX0 TX0 6, w ∈ wsX0_doubleArea := by decide +kernel
  have hN : sN S ≤ 12 := hok.2.2.2.2.1
  refine lv_iconst (v := iI 0) hx hb dX0_doubleArea_0 rfl ?_
  refine lv_istore_n (lv' := [(1, .int (iI 0)), (0, .ref ((xa X 0)))]) hx hb dX0_doubleArea_1 rfl hl (by decide) rfl (fun ls hl => ?_)
  refine lv_iconst (v := iI 0) hx hb dX0_doubleArea_2 rfl ?_
  refine lv_istore_n (lv' := [(2, .int (iI 0)), (1, .int (iI 0)), (0, .ref ((xa X 0)))]) hx hb dX0_doubleArea_3 rfl hl (by decide) rfl (fun ls hl => ?_)
  have loop1 : ∀ (fu : Nat) (i : Nat) (z : Int), (i ≤ sN S) → (z = da S i) → sN S - i < fu → ∀ ls : Array Slot, lv_has ls 5 [(0, .ref ((xa X 0))), (1, .int (iI z)), (2, .int (iI (((i : Nat) : Int))))] → W p l e (rm 2 41) s m ([.ref ((xa X 0))] : List Value).toArray below meth c s.heap [] 0 0 (MQ below (pg_Q (some (.int (iI (da S (sN S)))))) ([.ref ((xa X 0))] : List Value).toArray s 0 0 (fun _ => False)) (F0 m 4 ls []) := by
    intro fu
    induction fu with
    | zero => intros; omega
    | succ fu ih1 =>
      intro i z hi hz hm1 ls hl
      refine lv_iload_n hx hb dX0_doubleArea_4 rfl (lv_at hl 2 rfl) ?_
      refine lv_aload_n hx hb dX0_doubleArea_5 rfl (lv_at hl 0 rfl) ?_
      refine va_get (D := xG X) (ci := 0) (v := .int (iI (((sN S : Nat) : Int)))) (C := RX0) (T := TX0) (N := 6) hx hb hts hin hown hK hP 0 rfl rfl 4 (by decide) (hts (.fieldLink RX0 23 "Pegfield" "ringSize" "I") (by decide +kernel)) (fun _ h9 => h9) rfl dX0_doubleArea_6 ?_
      refine pg_icmp_ge (tgt := 63) hx hb dX0_doubleArea_9 (by decide) (⟨by omega, by omega⟩) (⟨by omega, by omega⟩) (fun hc2 => ?_) (fun hc2 => ?_)
      · refine lv_iload_n hx hb dX0_doubleArea_63 rfl (lv_at hl 1 rfl) ?_
        exact pg_iret hx hb hr hlk  (congrArg (fun z : Int => some (Value.int (iI z))) (show da S (sN S) = z by rw [hz, show i = sN S by omega])) dX0_doubleArea_64
      · have r1 := hok.2.2.2.1 i
        have r2 := hok.2.2.2.1 (nx S i)
        refine lv_aload_n hx hb dX0_doubleArea_12 rfl (lv_at hl 0 rfl) ?_
        refine lv_iload_n hx hb dX0_doubleArea_13 rfl (lv_at hl 2 rfl) ?_
        refine pg_callV (As := [.int (iI (((i : Nat) : Int)))]) (rest := []) SC (c_X0_pegInRing l X S i (by omega)) xB_st (xB_h hP hK) (cwV 1 hts gX0_doubleArea_X0_pegInRing rfl rfl rfl (by decide +kernel) ⟨Nat.le_of_ble_eq_true rfl, Nat.le_of_ble_eq_true rfl⟩) (va_recv hK hP (ci := 0) (q0 := 0) rfl rfl) rfl hl.1 rfl (Nat.le_of_ble_eq_true rfl) dX0_doubleArea_14 ⟨Nat.zero_le _, Nat.zero_le _⟩ ?_
        refine lv_istore_n (lv' := [(3, .int (iI (((sR S i : Nat) : Int)))), (0, .ref ((xa X 0))), (1, .int (iI z)), (2, .int (iI (((i : Nat) : Int))))]) hx hb dX0_doubleArea_17 rfl hl (by decide) rfl (fun ls hl => ?_)
        refine lv_aload_n hx hb dX0_doubleArea_18 rfl (lv_at hl 1 rfl) ?_
        refine lv_aload_n hx hb dX0_doubleArea_19 rfl (lv_at hl 1 rfl) ?_
        refine lv_iload_n hx hb dX0_doubleArea_20 rfl (lv_at hl 3 rfl) ?_
        refine pg_callV (As := [.int (iI (((i : Nat) : Int)))]) (rest := [.ref ((xa X 0))]) SC (c_X0_placeAfter l X S i (by omega) hN) xB_st (xB_h hP hK) (cwV 1 hts gX0_doubleArea_X0_placeAfter rfl rfl rfl (by decide +kernel) ⟨Nat.le_of_ble_eq_true rfl, Nat.le_of_ble_eq_true rfl⟩) (va_recv hK hP (ci := 0) (q0 := 0) rfl rfl) rfl hl.1 rfl (Nat.le_of_ble_eq_true rfl) dX0_doubleArea_21 ⟨Nat.zero_le _, Nat.zero_le _⟩ ?_
        refine pg_callV (As := [.int (iI (((nx S i : Nat) : Int)))]) (rest := []) SC (c_X0_pegInRing l X S (nx S i) (nx_lt hN)) xB_st (xB_h hP hK) (cwV 1 hts gX0_doubleArea_X0_pegInRing rfl rfl rfl (by decide +kernel) ⟨Nat.le_of_ble_eq_true rfl, Nat.le_of_ble_eq_true rfl⟩) (va_recv hK hP (ci := 0) (q0 := 0) rfl rfl) rfl hl.1 rfl (Nat.le_of_ble_eq_true rfl) dX0_doubleArea_24 ⟨Nat.zero_le _, Nat.zero_le _⟩ ?_
        refine lv_istore (lv' := [(4, .int (iI (((sR S (nx S i) : Nat) : Int)))), (3, .int (iI (((sR S i : Nat) : Int)))), (0, .ref ((xa X 0))), (1, .int (iI z)), (2, .int (iI (((i : Nat) : Int))))]) hx hb dX0_doubleArea_27 hl (by decide) rfl (fun ls hl => ?_)
        refine lv_iload_n hx hb dX0_doubleArea_29 rfl (lv_at hl 3 rfl) ?_
        refine lv_aload_n hx hb dX0_doubleArea_30 rfl (lv_at hl 2 rfl) ?_
        refine lv_iload_n hx hb dX0_doubleArea_31 rfl (lv_at hl 1 rfl) ?_
        refine pg_callV (As := [.int (iI (((sR S i : Nat) : Int)))]) (rest := [.int (iI z)]) SC (c_X0_across l X S (sR S i) (by omega)) xB_st (xB_h hP hK) (cwV 1 hts gX0_doubleArea_X0_across rfl rfl rfl (by decide +kernel) ⟨Nat.le_of_ble_eq_true rfl, Nat.le_of_ble_eq_true rfl⟩) (va_recv hK hP (ci := 0) (q0 := 0) rfl rfl) rfl hl.1 rfl (Nat.le_of_ble_eq_true rfl) dX0_doubleArea_32 ⟨Nat.zero_le _, Nat.zero_le _⟩ ?_
        refine lv_aload_n hx hb dX0_doubleArea_35 rfl (lv_at hl 2 rfl) ?_
        refine lv_iload hx hb dX0_doubleArea_36 (lv_at hl 0 rfl) ?_
        refine pg_callV (As := [.int (iI (((sR S (nx S i) : Nat) : Int)))]) (rest := [.int (iI (((sA S (sR S i) : Nat) : Int))), .int (iI z)]) SC (c_X0_up l X S (sR S (nx S i)) (by omega)) xB_st (xB_h hP hK) (cwV 1 hts gX0_doubleArea_X0_up rfl rfl rfl (by decide +kernel) ⟨Nat.le_of_ble_eq_true rfl, Nat.le_of_ble_eq_true rfl⟩) (va_recv hK hP (ci := 0) (q0 := 0) rfl rfl) rfl hl.1 rfl (Nat.le_of_ble_eq_true rfl) dX0_doubleArea_38 ⟨Nat.zero_le _, Nat.zero_le _⟩ ?_
        refine pg_imul (z := (((sA S (sR S i) : Nat) : Int)) * (((sU S (sR S (nx S i)) : Nat) : Int))) hx hb dX0_doubleArea_41 (rfl) ?_
        refine lv_aload_n hx hb dX0_doubleArea_42 rfl (lv_at hl 2 rfl) ?_
        refine lv_iload hx hb dX0_doubleArea_43 (lv_at hl 0 rfl) ?_
        refine pg_callV (As := [.int (iI (((sR S (nx S i) : Nat) : Int)))]) (rest := [.int (iI ((((sA S (sR S i) : Nat) : Int)) * (((sU S (sR S (nx S i)) : Nat) : Int)))), .int (iI z)]) SC (c_X0_across l X S (sR S (nx S i)) (by omega)) xB_st (xB_h hP hK) (cwV 1 hts gX0_doubleArea_X0_across rfl rfl rfl (by decide +kernel) ⟨Nat.le_of_ble_eq_true rfl, Nat.le_of_ble_eq_true rfl⟩) (va_recv hK hP (ci := 0) (q0 := 0) rfl rfl) rfl hl.1 rfl (Nat.le_of_ble_eq_true rfl) dX0_doubleArea_45 ⟨Nat.zero_le _, Nat.zero_le _⟩ ?_
        refine lv_aload_n hx hb dX0_doubleArea_48 rfl (lv_at hl 2 rfl) ?_
        refine lv_iload_n hx hb dX0_doubleArea_49 rfl (lv_at hl 1 rfl) ?_
        refine pg_callV (As := [.int (iI (((sR S i : Nat) : Int)))]) (rest := [.int (iI (((sA S (sR S (nx S i)) : Nat) : Int))), .int (iI ((((sA S (sR S i) : Nat) : Int)) * (((sU S (sR S (nx S i)) : Nat) : Int)))), .int (iI z)]) SC (c_X0_up l X S (sR S i) (by omega)) xB_st (xB_h hP hK) (cwV 1 hts gX0_doubleArea_X0_up rfl rfl rfl (by decide +kernel) ⟨Nat.le_of_ble_eq_true rfl, Nat.le_of_ble_eq_true rfl⟩) (va_recv hK hP (ci := 0) (q0 := 0) rfl rfl) rfl hl.1 rfl (Nat.le_of_ble_eq_true rfl) dX0_doubleArea_50 ⟨Nat.zero_le _, Nat.zero_le _⟩ ?_
        refine pg_imul (z := (((sA S (sR S (nx S i)) : Nat) : Int)) * (((sU S (sR S i) : Nat) : Int))) hx hb dX0_doubleArea_53 (rfl) ?_
        refine pg_isub (z := daT S i) hx hb dX0_doubleArea_54 (rfl) ?_
        refine pg_iadd (z := z + (daT S i)) hx hb dX0_doubleArea_55 (rfl) ?_
        refine lv_istore_n (lv' := [(1, .int (iI (z + (daT S i)))), (4, .int (iI (((sR S (nx S i) : Nat) : Int)))), (3, .int (iI (((sR S i : Nat) : Int)))), (0, .ref ((xa X 0))), (2, .int (iI (((i : Nat) : Int))))]) hx hb dX0_doubleArea_56 rfl hl (by decide) rfl (fun ls hl => ?_)
        refine lv_iinc (v := iI (((i + 1 : Nat) : Int))) (lv' := [(2, .int (iI (((i + 1 : Nat) : Int)))), (1, .int (iI (z + (daT S i)))), (4, .int (iI (((sR S (nx S i) : Nat) : Int)))), (3, .int (iI (((sR S i : Nat) : Int)))), (0, .ref ((xa X 0)))]) hx hb dX0_doubleArea_57 hl (k := 4) rfl (iI_addp (by omega)) (by decide) rfl (fun ls hl => ?_)
        refine lv_goto (tgt := 4) hx hb dX0_doubleArea_60 (by decide) ?_
        exact ih1 (i + 1) (z + daT S i) (by omega) (by rw [da_s, hz]) (by omega) ls (lv_sub hl [4, 1, 0] rfl)
  refine loop1 (sN S + 1) 0 0 (by omega) (rfl) (by omega) ls (lv_sub hl [2, 1, 0] rfl)
set_option maxRecDepth 100000 in
set_option maxHeartbeats 4000000 in
theorem c_X0_sideBits_ok (l : Launch) (X : pgX) (S : pgS) (hok : pgOk S) (hA : (da S (sN S)).natAbs < 32768) : pg_ro l yX0_sideBits wsX0_sideBits (rm 3 65) (xB X S) [.ref ((xa X 0))] (some (.long (lI (((bx (16 * (da S (sN S)).natAbs) : Nat) : Int))))) := by
  refine pg_ro_of (cc := cX0_sideBits) (maxL := 2) (ret := (some .long)) (by decide) rfl (Nat.le_of_ble_eq_true rfl) ?_
  intro p e s m below meth c ls SC hr hlk hB hl
  obtain ⟨hx, hb, hml, hown, hts⟩ := id SC
  have hown : s.vm.findClass RX0 = some m.cls := hown
  obtain ⟨hP, hK⟩ := id hB
  have hl : lv_has ls 2 [(0, .ref ((xa X 0)))] := hl
  have hN : sN S ≤ 12 := hok.2.2.2.2.1
  have hda := da_b hok (sN S)
  refine lv_aload_n hx hb dX0_sideBits_0 rfl (lv_at hl 0 rfl) ?_
  refine pg_callV (As := []) (rest := []) SC (c_X0_doubleArea l X S hok) xB_st (xB_h hP hK) (cwV 0 hts gX0_sideBits_X0_doubleArea rfl rfl rfl (by decide +kernel) ⟨Nat.le_of_ble_eq_true rfl, Nat.le_of_ble_eq_true rfl⟩) (va_recv hK hP (ci := 0) (q0 := 0) rfl rfl) rfl hl.1 rfl (Nat.le_of_ble_eq_true rfl) dX0_sideBits_1 ⟨Nat.zero_le _, Nat.zero_le _⟩ ?_
  refine va_mabs hx hb (hml.trans hl.1.symm) hown (hts (.methodLink RX0 154 Lib.Math.abs.name) (by decide +kernel)) (hts (.static Lib.Math.abs.name) (by decide +kernel)) (hts (.initialized "java/lang/Math") (by decide +kernel)) (hts (.code Lib.Math.abs.name Lib.Math.abs.code 1 (some .int)) (by decide +kernel)) (Nat.le_of_ble_eq_true rfl) (Nat.le_of_ble_eq_true rfl) (Nat.zero_le _) (Nat.zero_le _) dX0_sideBits_4 (pg_ti (iI_abs (⟨by omega, by omega⟩)) ?_)
  refine lv_istore_n (lv' := [(1, .int (iI (((Int.natAbs (da S (sN S)) : Nat) : Int)))), (0, .ref ((xa X 0)))]) hx hb dX0_sideBits_7 rfl hl (by decide) rfl (fun ls hl => ?_)
  refine lv_iload_n hx hb dX0_sideBits_8 rfl (lv_at hl 0 rfl) ?_
  refine pg_callS (As := [.int (iI (((Int.natAbs (da S (sN S)) : Nat) : Int)))]) (rest := []) SC (c_X0_isNumber l (da S (sN S)).natAbs 1 ⟨by omega, by omega⟩ (by omega)) pT_st pT_h (va_cwS 1 hts gX0_sideBits_X0_isNumber rfl rfl rfl (by decide +kernel) ⟨Nat.le_of_ble_eq_true rfl, Nat.le_of_ble_eq_true rfl⟩) rfl hl.1 rfl (Nat.le_of_ble_eq_true rfl) dX0_sideBits_9 ⟨Nat.zero_le _, Nat.zero_le _⟩ ?_
  refine pg_if_ne (tgt := 25) hx hb dX0_sideBits_12 (by decide) (⟨by omega, by omega⟩) (fun hc1 => ?_) (fun hc1 => absurd hc1 (by omega))
  refine lv_iload_n hx hb dX0_sideBits_25 rfl (lv_at hl 0 rfl) ?_
  refine lv_iconst (v := iI 0) hx hb dX0_sideBits_26 rfl ?_
  refine pg_callS (As := [.int (iI (((Int.natAbs (da S (sN S)) : Nat) : Int))), .int (iI 0)]) (rest := []) SC (c_X0_sixteenthsOf l (da S (sN S)).natAbs 0 ((16 * (da S (sN S)).natAbs : Nat) : Int) ⟨by decide, by decide⟩ (by omega)) pT_st pT_h (va_cwS 2 hts gX0_sideBits_X0_sixteenthsOf rfl rfl rfl (by decide +kernel) ⟨Nat.le_of_ble_eq_true rfl, Nat.le_of_ble_eq_true rfl⟩) rfl hl.1 rfl (Nat.le_of_ble_eq_true rfl) dX0_sideBits_27 ⟨Nat.zero_le _, Nat.zero_le _⟩ ?_
  refine pg_callS (As := [.int (iI (((16 * (da S (sN S)).natAbs : Nat) : Int)))]) (rest := []) SC (c_X0_bitsOfRoot l (16 * (da S (sN S)).natAbs) (by omega)) pT_st pT_h (va_cwS 1 hts gX0_sideBits_X0_bitsOfRoot rfl rfl rfl (by decide +kernel) ⟨Nat.le_of_ble_eq_true rfl, Nat.le_of_ble_eq_true rfl⟩) rfl hl.1 rfl (Nat.le_of_ble_eq_true rfl) dX0_sideBits_30 ⟨Nat.zero_le _, Nat.zero_le _⟩ ?_
  exact pg_lret hx hb hr hlk  (congrArg (fun z : Int => some (Value.long (lI z))) (show ((bx (16 * (da S (sN S)).natAbs) : Nat) : Int) = ((bx (16 * (da S (sN S)).natAbs) : Nat) : Int) by rfl)) dX0_sideBits_33
set_option maxRecDepth 100000 in
set_option maxHeartbeats 4000000 in
theorem c_X0_checksum (l : Launch) (X : pgX) (S : pgS) (hok : pgOk S)  : pg_ro l yX0_checksum wsX0_checksum (rm 4 95) (xB X S) [.ref ((xa X 0))] (some (.long (lI (csum S)))) := by
  refine pg_ro_of (cc := cX0_checksum) (maxL := 4) (ret := (some .long)) (by decide) rfl (Nat.le_of_ble_eq_true rfl) ?_
  intro p e s m below meth c ls SC hr hlk hB hl
  obtain ⟨hx, hb, hml, hown, hts⟩ := id SC
  have hown : s.vm.findClass RX0 = some m.cls := hown
  obtain ⟨hP, hK⟩ := id hB
  have hl : lv_has ls 4 [(0, .ref ((xa X 0)))] := hl
  have hin : ∀ w ∈ u_ws RX0 TX0 6, w ∈ wsX0_checksum := by decide +kernel
  have hN : sN S ≤ 12 := hok.2.2.2.2.1
  have hW : sW S ≤ 1 := hok.2.2.2.2.2
  have har := ar_le hok (sN S)
  refine lv_ldc2 hx hb hown (hts (.constantLong RX0 164 7) (by decide +kernel)) dX0_checksum_0 (pg_tl (y := lI 7) (by decide +kernel) ?_)
  refine lv_lstore_n (lv' := [(1, .long (lI 7)), (0, .ref ((xa X 0)))]) hx hb dX0_checksum_3 rfl hl (by decide) rfl (fun ls hl => ?_)
  refine lv_iconst (v := iI 0) hx hb dX0_checksum_4 rfl ?_
  refine lv_istore_n (lv' := [(3, .int (iI 0)), (1, .long (lI 7)), (0, .ref ((xa X 0)))]) hx hb dX0_checksum_5 rfl hl (by decide) rfl (fun ls hl => ?_)
  have loop1 : ∀ (fu : Nat) (i : Nat) (z : Int), (i ≤ 12) → (z = cs1 S i) → 12 - i < fu → ∀ ls : Array Slot, lv_has ls 4 [(0, .ref ((xa X 0))), (1, .long (lI z)), (3, .int (iI (((i : Nat) : Int))))] → W p l e (rm 4 95) s m ([.ref ((xa X 0))] : List Value).toArray below meth c s.heap [] 0 0 (MQ below (pg_Q (some (.long (lI (csum S))))) ([.ref ((xa X 0))] : List Value).toArray s 0 0 (fun _ => False)) (F0 m 6 ls []) := by
    intro fu
    induction fu with
    | zero => intros; omega
    | succ fu ih1 =>
      intro i z hi hz hm1 ls hl
      refine lv_iload_n hx hb dX0_checksum_6 rfl (lv_at hl 2 rfl) ?_
      refine lv_bipush (v := iI 12) hx hb dX0_checksum_7 (by decide +kernel) ?_
      refine pg_icmp_ge (tgt := 73) hx hb dX0_checksum_9 (by decide) (⟨by omega, by omega⟩) (⟨by omega, by omega⟩) (fun hc2 => ?_) (fun hc2 => ?_)
      · refine lv_iconst (v := iI 0) hx hb dX0_checksum_73 rfl ?_
        refine lv_istore_n (lv' := [(3, .int (iI 0)), (0, .ref ((xa X 0))), (1, .long (lI z))]) hx hb dX0_checksum_74 rfl hl (by decide) rfl (fun ls hl => ?_)
        have loop3 : ∀ (fu : Nat) (j : Nat) (z2 : Int), (j ≤ sN S) → (z2 = cs2 S j) → sN S - j < fu → ∀ ls : Array Slot, lv_has ls 4 [(0, .ref ((xa X 0))), (1, .long (lI z2)), (3, .int (iI (((j : Nat) : Int))))] → W p l e (rm 4 95) s m ([.ref ((xa X 0))] : List Value).toArray below meth c s.heap [] 0 0 (MQ below (pg_Q (some (.long (lI (csum S))))) ([.ref ((xa X 0))] : List Value).toArray s 0 0 (fun _ => False)) (F0 m 75 ls []) := by
          intro fu
          induction fu with
          | zero => intros; omega
          | succ fu ih3 =>
            intro j z2 hj hz2 hm3 ls hl
            refine lv_iload_n hx hb dX0_checksum_75 rfl (lv_at hl 2 rfl) ?_
            refine lv_aload_n hx hb dX0_checksum_76 rfl (lv_at hl 0 rfl) ?_
            refine va_get (D := xG X) (ci := 0) (v := .int (iI (((sN S : Nat) : Int)))) (C := RX0) (T := TX0) (N := 6) hx hb hts hin hown hK hP 0 rfl rfl 4 (by decide) (hts (.fieldLink RX0 23 "Pegfield" "ringSize" "I") (by decide +kernel)) (fun _ h9 => h9) rfl dX0_checksum_77 ?_
            refine pg_icmp_ge (tgt := 102) hx hb dX0_checksum_80 (by decide) (⟨by omega, by omega⟩) (⟨by omega, by omega⟩) (fun hc4 => ?_) (fun hc4 => ?_)
            · refine lv_ldc2 hx hb hown (hts (.constantLong RX0 166 31) (by decide +kernel)) dX0_checksum_102 (pg_tl (y := lI 31) (by decide +kernel) ?_)
              refine lv_lload_n hx hb dX0_checksum_105 rfl (lv_at hl 1 rfl) ?_
              refine pg_lmul (z := 31 * z2) hx hb dX0_checksum_106 (rfl) ?_
              refine lv_aload_n hx hb dX0_checksum_107 rfl (lv_at hl 0 rfl) ?_
              refine pg_callV (As := []) (rest := [.long (lI (31 * z2))]) SC (c_X0_around l X S hok) xB_st (xB_h hP hK) (cwV 0 hts gX0_checksum_X0_around rfl rfl rfl (by decide +kernel) ⟨Nat.le_of_ble_eq_true rfl, Nat.le_of_ble_eq_true rfl⟩) (va_recv hK hP (ci := 0) (q0 := 0) rfl rfl) rfl hl.1 rfl (Nat.le_of_ble_eq_true rfl) dX0_checksum_108 ⟨Nat.zero_le _, Nat.zero_le _⟩ ?_
              refine pg_i2l hx hb dX0_checksum_111 (⟨by omega, by omega⟩) ?_
              refine pg_ladd (z := (31 * z2) + (((ar S (sN S) : Nat) : Int))) hx hb dX0_checksum_112 (rfl) ?_
              refine lv_lstore_n (lv' := [(1, .long (lI ((31 * z2) + (((ar S (sN S) : Nat) : Int))))), (0, .ref ((xa X 0))), (3, .int (iI (((j : Nat) : Int))))]) hx hb dX0_checksum_113 rfl hl (by decide) rfl (fun ls hl => ?_)
              refine lv_ldc2 hx hb hown (hts (.constantLong RX0 166 31) (by decide +kernel)) dX0_checksum_114 (pg_tl (y := lI 31) (by decide +kernel) ?_)
              refine lv_lload_n hx hb dX0_checksum_117 rfl (lv_at hl 0 rfl) ?_
              refine pg_lmul (z := 31 * ((31 * z2) + (((ar S (sN S) : Nat) : Int)))) hx hb dX0_checksum_118 (rfl) ?_
              refine lv_aload_n hx hb dX0_checksum_119 rfl (lv_at hl 1 rfl) ?_
              refine va_get (D := xG X) (ci := 0) (v := .int (iI (((sW S : Nat) : Int)))) (C := RX0) (T := TX0) (N := 6) hx hb hts hin hown hK hP 0 rfl rfl 5 (by decide) (hts (.fieldLink RX0 27 "Pegfield" "wide" "Z") (by decide +kernel)) (fun _ h9 => h9) rfl dX0_checksum_120 ?_
              refine pg_if_eq (tgt := 130) hx hb dX0_checksum_123 (by decide) (⟨by omega, by omega⟩) (fun hc5 => ?_) (fun hc5 => ?_)
              · refine lv_iconst (v := iI 0) hx hb dX0_checksum_130 rfl ?_
                refine pg_i2l hx hb dX0_checksum_131 (⟨by omega, by omega⟩) ?_
                refine pg_ladd (z := (31 * ((31 * z2) + (((ar S (sN S) : Nat) : Int)))) + 0) hx hb dX0_checksum_132 (rfl) ?_
                exact pg_lret hx hb hr hlk  (congrArg (fun z : Int => some (Value.long (lI z))) (show csum S = (31 * ((31 * z2) + (((ar S (sN S) : Nat) : Int)))) + 0 by unfold csum; rw [hz2, show j = sN S by omega]; omega)) dX0_checksum_133
              · refine lv_iconst (v := iI 1) hx hb dX0_checksum_126 rfl ?_
                refine lv_goto (tgt := 131) hx hb dX0_checksum_127 (by decide) ?_
                refine pg_i2l hx hb dX0_checksum_131 (⟨by omega, by omega⟩) ?_
                refine pg_ladd (z := (31 * ((31 * z2) + (((ar S (sN S) : Nat) : Int)))) + 1) hx hb dX0_checksum_132 (rfl) ?_
                exact pg_lret hx hb hr hlk  (congrArg (fun z : Int => some (Value.long (lI z))) (show csum S = (31 * ((31 * z2) + (((ar S (sN S) : Nat) : Int)))) + 1 by unfold csum; rw [hz2, show j = sN S by omega]; omega)) dX0_checksum_133
            · refine lv_ldc2 hx hb hown (hts (.constantLong RX0 166 31) (by decide +kernel)) dX0_checksum_83 (pg_tl (y := lI 31) (by decide +kernel) ?_)
              refine lv_lload_n hx hb dX0_checksum_86 rfl (lv_at hl 1 rfl) ?_
              refine pg_lmul (z := 31 * z2) hx hb dX0_checksum_87 (rfl) ?_
              have r1 := hok.2.2.2.1 j
              refine lv_aload_n hx hb dX0_checksum_88 rfl (lv_at hl 0 rfl) ?_
              refine lv_iload_n hx hb dX0_checksum_89 rfl (lv_at hl 2 rfl) ?_
              refine pg_callV (As := [.int (iI (((j : Nat) : Int)))]) (rest := [.long (lI (31 * z2))]) SC (c_X0_pegInRing l X S j (by omega)) xB_st (xB_h hP hK) (cwV 1 hts gX0_checksum_X0_pegInRing rfl rfl rfl (by decide +kernel) ⟨Nat.le_of_ble_eq_true rfl, Nat.le_of_ble_eq_true rfl⟩) (va_recv hK hP (ci := 0) (q0 := 0) rfl rfl) rfl hl.1 rfl (Nat.le_of_ble_eq_true rfl) dX0_checksum_90 ⟨Nat.zero_le _, Nat.zero_le _⟩ ?_
              refine pg_i2l hx hb dX0_checksum_93 (⟨by omega, by omega⟩) ?_
              refine pg_ladd (z := (31 * z2) + (((sR S j : Nat) : Int))) hx hb dX0_checksum_94 (rfl) ?_
              refine lv_lstore_n (lv' := [(1, .long (lI ((31 * z2) + (((sR S j : Nat) : Int))))), (0, .ref ((xa X 0))), (3, .int (iI (((j : Nat) : Int))))]) hx hb dX0_checksum_95 rfl hl (by decide) rfl (fun ls hl => ?_)
              refine lv_iinc (v := iI (((j + 1 : Nat) : Int))) (lv' := [(3, .int (iI (((j + 1 : Nat) : Int)))), (1, .long (lI ((31 * z2) + (((sR S j : Nat) : Int))))), (0, .ref ((xa X 0)))]) hx hb dX0_checksum_96 hl (k := 2) rfl (iI_addp (by omega)) (by decide) rfl (fun ls hl => ?_)
              refine lv_goto (tgt := 75) hx hb dX0_checksum_99 (by decide) ?_
              exact ih3 (j + 1) ((31 * z2) + (((sR S j : Nat) : Int))) (by omega) (by rw [cs2_s, ← hz2]) (by omega) ls (lv_sub hl [2, 1, 0] rfl)
        refine loop3 (sN S + 1) 0 z (by omega) (by rw [hz, show i = 12 by omega]; rfl) (by omega) ls (lv_sub hl [1, 2, 0] rfl)
      · have h1 := hok.1 i
        have h2 := hok.2.1 i
        have h3 := hok.2.2.1 i
        have h4 := nr_b S i 12
        refine lv_aload_n hx hb dX0_checksum_12 rfl (lv_at hl 0 rfl) ?_
        refine lv_iload_n hx hb dX0_checksum_13 rfl (lv_at hl 2 rfl) ?_
        refine pg_callV (As := [.int (iI (((i : Nat) : Int)))]) (rest := []) SC (c_X0_stands l X S i (by omega) h1) xB_st (xB_h hP hK) (cwV 1 hts gX0_checksum_X0_stands rfl rfl rfl (by decide +kernel) ⟨Nat.le_of_ble_eq_true rfl, Nat.le_of_ble_eq_true rfl⟩) (va_recv hK hP (ci := 0) (q0 := 0) rfl rfl) rfl hl.1 rfl (Nat.le_of_ble_eq_true rfl) dX0_checksum_14 ⟨Nat.zero_le _, Nat.zero_le _⟩ ?_
        refine pg_if_eq (tgt := 67) hx hb dX0_checksum_17 (by decide) (⟨by omega, by omega⟩) (fun hc6 => ?_) (fun hc6 => ?_)
        · refine lv_iinc (v := iI (((i + 1 : Nat) : Int))) (lv' := [(3, .int (iI (((i + 1 : Nat) : Int)))), (0, .ref ((xa X 0))), (1, .long (lI z))]) hx hb dX0_checksum_67 hl (k := 2) rfl (iI_addp (by omega)) (by decide) rfl (fun ls hl => ?_)
          refine lv_goto (tgt := 6) hx hb dX0_checksum_70 (by decide) ?_
          exact ih1 (i + 1) z (by omega) (by rw [cs1_n (by omega), hz]) (by omega) ls (lv_sub hl [1, 2, 0] rfl)
        · refine lv_ldc2 hx hb hown (hts (.constantLong RX0 166 31) (by decide +kernel)) dX0_checksum_20 (pg_tl (y := lI 31) (by decide +kernel) ?_)
          refine lv_lload_n hx hb dX0_checksum_23 rfl (lv_at hl 1 rfl) ?_
          refine pg_lmul (z := 31 * z) hx hb dX0_checksum_24 (rfl) ?_
          refine lv_iload_n hx hb dX0_checksum_25 rfl (lv_at hl 2 rfl) ?_
          refine pg_i2l hx hb dX0_checksum_26 (⟨by omega, by omega⟩) ?_
          refine pg_ladd (z := (31 * z) + (((i : Nat) : Int))) hx hb dX0_checksum_27 (rfl) ?_
          refine lv_lconst (v := lI 1) hx hb dX0_checksum_28 rfl ?_
          refine pg_ladd (z := ((31 * z) + (((i : Nat) : Int))) + 1) hx hb dX0_checksum_29 (rfl) ?_
          refine lv_lstore_n (lv' := [(1, .long (lI (((31 * z) + (((i : Nat) : Int))) + 1))), (0, .ref ((xa X 0))), (3, .int (iI (((i : Nat) : Int))))]) hx hb dX0_checksum_30 rfl hl (by decide) rfl (fun ls hl => ?_)
          refine lv_ldc2 hx hb hown (hts (.constantLong RX0 166 31) (by decide +kernel)) dX0_checksum_31 (pg_tl (y := lI 31) (by decide +kernel) ?_)
          refine lv_lload_n hx hb dX0_checksum_34 rfl (lv_at hl 0 rfl) ?_
          refine pg_lmul (z := 31 * (((31 * z) + (((i : Nat) : Int))) + 1)) hx hb dX0_checksum_35 (rfl) ?_
          refine lv_aload_n hx hb dX0_checksum_36 rfl (lv_at hl 1 rfl) ?_
          refine lv_iload_n hx hb dX0_checksum_37 rfl (lv_at hl 2 rfl) ?_
          refine pg_callV (As := [.int (iI (((i : Nat) : Int)))]) (rest := [.long (lI (31 * (((31 * z) + (((i : Nat) : Int))) + 1)))]) SC (c_X0_up l X S i (by omega)) xB_st (xB_h hP hK) (cwV 1 hts gX0_checksum_X0_up rfl rfl rfl (by decide +kernel) ⟨Nat.le_of_ble_eq_true rfl, Nat.le_of_ble_eq_true rfl⟩) (va_recv hK hP (ci := 0) (q0 := 0) rfl rfl) rfl hl.1 rfl (Nat.le_of_ble_eq_true rfl) dX0_checksum_38 ⟨Nat.zero_le _, Nat.zero_le _⟩ ?_
          refine lv_bipush (v := iI 91) hx hb dX0_checksum_41 (by decide +kernel) ?_
          refine pg_imul (z := ((sU S i * 91 : Nat) : Int)) hx hb dX0_checksum_43 (by omega) ?_
          refine pg_i2l hx hb dX0_checksum_44 (⟨by omega, by omega⟩) ?_
          refine pg_ladd (z := (31 * (((31 * z) + (((i : Nat) : Int))) + 1)) + (((sU S i * 91 : Nat) : Int))) hx hb dX0_checksum_45 (rfl) ?_
          refine lv_aload_n hx hb dX0_checksum_46 rfl (lv_at hl 1 rfl) ?_
          refine lv_iload_n hx hb dX0_checksum_47 rfl (lv_at hl 2 rfl) ?_
          refine pg_callV (As := [.int (iI (((i : Nat) : Int)))]) (rest := [.long (lI ((31 * (((31 * z) + (((i : Nat) : Int))) + 1)) + (((sU S i * 91 : Nat) : Int))))]) SC (c_X0_across l X S i (by omega)) xB_st (xB_h hP hK) (cwV 1 hts gX0_checksum_X0_across rfl rfl rfl (by decide +kernel) ⟨Nat.le_of_ble_eq_true rfl, Nat.le_of_ble_eq_true rfl⟩) (va_recv hK hP (ci := 0) (q0 := 0) rfl rfl) rfl hl.1 rfl (Nat.le_of_ble_eq_true rfl) dX0_checksum_48 ⟨Nat.zero_le _, Nat.zero_le _⟩ ?_
          refine pg_i2l hx hb dX0_checksum_51 (⟨by omega, by omega⟩) ?_
          refine pg_ladd (z := ((31 * (((31 * z) + (((i : Nat) : Int))) + 1)) + (((sU S i * 91 : Nat) : Int))) + (((sA S i : Nat) : Int))) hx hb dX0_checksum_52 (rfl) ?_
          refine lv_lstore_n (lv' := [(1, .long (lI (((31 * (((31 * z) + (((i : Nat) : Int))) + 1)) + (((sU S i * 91 : Nat) : Int))) + (((sA S i : Nat) : Int))))), (0, .ref ((xa X 0))), (3, .int (iI (((i : Nat) : Int))))]) hx hb dX0_checksum_53 rfl hl (by decide) rfl (fun ls hl => ?_)
          refine lv_ldc2 hx hb hown (hts (.constantLong RX0 166 31) (by decide +kernel)) dX0_checksum_54 (pg_tl (y := lI 31) (by decide +kernel) ?_)
          refine lv_lload_n hx hb dX0_checksum_57 rfl (lv_at hl 0 rfl) ?_
          refine pg_lmul (z := 31 * (((31 * (((31 * z) + (((i : Nat) : Int))) + 1)) + (((sU S i * 91 : Nat) : Int))) + (((sA S i : Nat) : Int)))) hx hb dX0_checksum_58 (rfl) ?_
          refine lv_aload_n hx hb dX0_checksum_59 rfl (lv_at hl 1 rfl) ?_
          refine lv_iload_n hx hb dX0_checksum_60 rfl (lv_at hl 2 rfl) ?_
          refine pg_callV (As := [.int (iI (((i : Nat) : Int)))]) (rest := [.long (lI (31 * (((31 * (((31 * z) + (((i : Nat) : Int))) + 1)) + (((sU S i * 91 : Nat) : Int))) + (((sA S i : Nat) : Int)))))]) SC (c_X0_nearestOther l X S hok i (by omega)) xB_st (xB_h hP hK) (cwV 1 hts gX0_checksum_X0_nearestOther rfl rfl rfl (by decide +kernel) ⟨Nat.le_of_ble_eq_true rfl, Nat.le_of_ble_eq_true rfl⟩) (va_recv hK hP (ci := 0) (q0 := 0) rfl rfl) rfl hl.1 rfl (Nat.le_of_ble_eq_true rfl) dX0_checksum_61 ⟨Nat.zero_le _, Nat.zero_le _⟩ ?_
          refine pg_i2l hx hb dX0_checksum_64 (⟨by omega, by omega⟩) ?_
          refine pg_ladd (z := (31 * (((31 * (((31 * z) + (((i : Nat) : Int))) + 1)) + (((sU S i * 91 : Nat) : Int))) + (((sA S i : Nat) : Int)))) + (nr S i 12)) hx hb dX0_checksum_65 (rfl) ?_
          refine lv_lstore_n (lv' := [(1, .long (lI ((31 * (((31 * (((31 * z) + (((i : Nat) : Int))) + 1)) + (((sU S i * 91 : Nat) : Int))) + (((sA S i : Nat) : Int)))) + (nr S i 12)))), (0, .ref ((xa X 0))), (3, .int (iI (((i : Nat) : Int))))]) hx hb dX0_checksum_66 rfl hl (by decide) rfl (fun ls hl => ?_)
          refine lv_iinc (v := iI (((i + 1 : Nat) : Int))) (lv' := [(3, .int (iI (((i + 1 : Nat) : Int)))), (1, .long (lI ((31 * (((31 * (((31 * z) + (((i : Nat) : Int))) + 1)) + (((sU S i * 91 : Nat) : Int))) + (((sA S i : Nat) : Int)))) + (nr S i 12)))), (0, .ref ((xa X 0)))]) hx hb dX0_checksum_67 hl (k := 2) rfl (iI_addp (by omega)) (by decide) rfl (fun ls hl => ?_)
          refine lv_goto (tgt := 6) hx hb dX0_checksum_70 (by decide) ?_
          exact ih1 (i + 1) ((31 * (((31 * (((31 * z) + (((i : Nat) : Int))) + 1)) + (((sU S i * 91 : Nat) : Int))) + (((sA S i : Nat) : Int)))) + (nr S i 12)) (by omega) (by rw [cs1_y (by omega)]; omega) (by omega) ls (lv_sub hl [2, 1, 0] rfl)
  refine loop1 (12 + 1) 0 7 (by omega) (rfl) (by omega) ls (lv_sub hl [2, 1, 0] rfl)
