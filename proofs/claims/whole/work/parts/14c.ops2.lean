theorem dbl_self {M : Nat} (h : M < 2 ^ 20) : FP.dcmp (dbl M) (dbl M) = some .eq := by
  by_cases h0 : M = 0
  · rw [h0]; decide +kernel
  · have hu := un_spec h0 h
    have hp : pw M ≤ 9 := pw_small (by omega)
    rw [dbl_eq h0]
    exact dcmp_self hu.1 hu.2.1 (by omega) (by omega)
set_option maxRecDepth 100000 in
set_option maxHeartbeats 4000000 in
theorem lw_op8 {p : Program} {l : Launch} {e : Env} {s : State} {m : MethodId} {args : Array Value} {below : List Frame} {meth : Method} {c : Code} {H : Heap} {locs : List Loc} {cells slots : Nat} {Q : State → Prop} {b L : Nat} {xs : Nat → Int32} {X Y : pgX} {cJ cD aJ aD : Nat} (hC : lwK l p s m c args b L xs X Y cJ cD) {i : Nat} (hi : i + 5 ≤ L) {S : pgS} {t : Int} {f : Nat → Int64} {g : Nat → UInt64} (hG : lwG s X Y cJ aJ cD aD S t f g H locs) (hce : cells + 1 ≤ 1047 ∧ slots + 6 ≤ 8369) {ls : Array Slot} (hl : lv_has ls 9 (lwB b X Y aJ aD i)) (kk : ∀ (S1 : pgS) (t1 : Int) (f1 : Nat → Int64) (g1 : Nat → UInt64) (H1 : Heap) (locs1 : List Loc) (ls1 : Array Slot), lwG s X Y cJ aJ cD aD S1 t1 f1 g1 H1 locs1 → lv_has ls1 9 (lwB b X Y aJ aD i) → W p l e room_1 s m args below meth c H1 locs1 (cells + 1) (slots + 6) Q (F0 m 2002 ls1 [])) : W p l e room_1 s m args below meth c H locs cells slots Q (F0 m 621 ls []) := by
  obtain ⟨SC, hfl, hX, hbl, hL, hYX, hKJ, hKD, hKY, hE, hN⟩ := id hC
  obtain ⟨hx, hb, hml, hown, hts⟩ := id SC
  obtain ⟨hP, hD, hS, hok⟩ := id hG
  have hKX : va_K (xG X) vwCl (xTy X) s := va_K.sub hKJ [0, 1] rfl
  have hbA : ¬ s.heap.size ≤ b := by omega
  have hc0 : cells ≤ 1047 ∧ slots ≤ 8369 := by omega
  have hl : lv_has ls 9 [(0, .ref b), (1, .ref ((xa X 0))), (2, .ref ((xa Y 0))), (3, .ref aJ), (4, .ref aD), (5, .int (iI ((i : Int))))] := hl
  obtain ⟨v1, hv1, hq1⟩ : ∃ v : Int, xs (i + 1) = iI v ∧ inI v := ⟨_, iI_self _, inI_self _⟩
  obtain ⟨v2, hv2, hq2⟩ : ∃ v : Int, xs (i + 2) = iI v ∧ inI v := ⟨_, iI_self _, inI_self _⟩
  by_cases h1 : v1 < 0 ∨ 12 ≤ v1 ∨ v2 < 0 ∨ 12 ≤ v2
  · refine lv_aload_n hx hb dL_law_621 rfl (lv_at hl 1 rfl) ?_
    refine lw_sc (j := i + 1) (v := v1) hx hb hX hbl hbA hS (lv_at hl 0 rfl) (lv_at hl 5 rfl) (by omega) (by omega) hL hv1 dL_law_622 dL_law_623 dL_law_625 dL_law_626 dL_law_627 ?_
    refine lw_sc (j := i + 2) (v := v2) hx hb hX hbl hbA hS (lv_at hl 0 rfl) (lv_at hl 5 rfl) (by omega) (by omega) hL hv2 dL_law_628 dL_law_629 dL_law_631 dL_law_632 dL_law_633 ?_
    refine lv_aload_n hx hb dL_law_634 rfl (lv_at hl 3 rfl) ?_
    refine pg_wcallH (As := [.ref ((xa X 0)), .int (iI v1), .int (iI v2), .ref aJ]) (rest := []) (l1 := []) (l2 := lwW X Y S S t (lwJ aJ cJ f) (lwD aD cD g)) (w := []) (w' := []) SC (c_L_isSteady_1 l hfl s.heap.size X S v1 v2 hq1 hq2 h1 aJ) xW_st (lw_xW hKX hP hS hE hN) (vx_cwSW 4 hts gL_law_L_isSteady rfl rfl rfl (by decide +kernel) ⟨Nat.le_of_ble_eq_true rfl, Nat.le_of_ble_eq_true rfl⟩) (va_K.sub hKX [] rfl) hP hD hS rfl rfl hl.1 rfl (Nat.le_of_ble_eq_true rfl) dL_law_635 ⟨hce.1, hce.2⟩ (fun H locs hP hD hS => ?_)
    have hP : va_P (xG X) vwCl (lwW X Y S S t (lwJ aJ cJ f) (lwD aD cD g)) H := hP
    have hD : va_D (fun q => s.heap.size ≤ q) (lwW X Y S S t (lwJ aJ cJ f) (lwD aD cD g)) := hD
    refine lv_istore (lv' := [(6, .int (iI 1)), (0, .ref b), (1, .ref ((xa X 0))), (2, .ref ((xa Y 0))), (3, .ref aJ), (4, .ref aD), (5, .int (iI ((i : Int))))]) hx hb dL_law_638 hl (by decide) rfl (fun ls hl => ?_)
    refine lv_aload_n hx hb dL_law_640 rfl (lv_at hl 3 rfl) ?_
    refine lw_sc (j := i + 1) (v := v1) hx hb hX hbl hbA hS (lv_at hl 1 rfl) (lv_at hl 6 rfl) (by omega) (by omega) hL hv1 dL_law_641 dL_law_642 dL_law_644 dL_law_645 dL_law_646 ?_
    refine lw_sc (j := i + 2) (v := v2) hx hb hX hbl hbA hS (lv_at hl 1 rfl) (lv_at hl 6 rfl) (by omega) (by omega) hL hv2 dL_law_647 dL_law_648 dL_law_650 dL_law_651 dL_law_652 ?_
    refine pg_wcallV (As := [.int (iI v1), .int (iI v2)]) (rest := []) (l1 := (lwJ aJ cJ f) :: (xC X S ++ [(lwD aD cD g)])) (l2 := []) (w := mC Y S t) (w' := mC Y S 1) SC (pg_cY hYX (c_X1_isSteady_1 l Y S t v1 v2 hq1 hq2 h1)) pT_st pT_h (cwV 2 hts gL_law_X1_isSteady rfl rfl rfl (by decide +kernel) ⟨Nat.le_of_ble_eq_true rfl, Nat.le_of_ble_eq_true rfl⟩) (va_recv hKY hP (ci := 1) (q0 := 7) rfl rfl) hKY hP hD hS rfl rfl hl.1 rfl (Nat.le_of_ble_eq_true rfl) dL_law_653 ⟨hce.1, hce.2⟩ (fun H locs hP hD hS => ?_)
    have hP : va_P (xG X) vwCl (lwW X Y S S 1 (lwJ aJ cJ f) (lwD aD cD g)) H := hP
    have hD : va_D (fun q => s.heap.size ≤ q) (lwW X Y S S 1 (lwJ aJ cJ f) (lwD aD cD g)) := hD
    refine lv_istore (lv' := [(7, .int (iI 0)), (6, .int (iI 1)), (0, .ref b), (1, .ref ((xa X 0))), (2, .ref ((xa Y 0))), (3, .ref aJ), (4, .ref aD), (5, .int (iI ((i : Int))))]) hx hb dL_law_656 hl (by decide) rfl (fun ls hl => ?_)
    refine lv_aload_n hx hb dL_law_658 rfl (lv_at hl 4 rfl) ?_
    refine pg_callV (As := []) (rest := []) SC (c_X1_thrown l Y S 1) mB_st (lw_mB hYX hKY hP) (cwV 0 hts gL_law_X1_thrown rfl rfl rfl (by decide +kernel) ⟨Nat.le_of_ble_eq_true rfl, Nat.le_of_ble_eq_true rfl⟩) (va_recv hKY hP (ci := 1) (q0 := 7) rfl rfl) rfl hl.1 rfl (Nat.le_of_ble_eq_true rfl) dL_law_659 ⟨hce.1, hce.2⟩ ?_
    refine lv_iload hx hb dL_law_662 (lv_at hl 1 rfl) ?_
    refine lw_same (tgt := 669) hx hb (⟨by omega, by omega⟩) dL_law_664 (by decide) ?_
    refine lv_iload hx hb dL_law_669 (lv_at hl 1 rfl) ?_
    refine pg_if_ne (tgt := 693) hx hb dL_law_671 (by decide) (⟨by omega, by omega⟩) (fun _ => ?_) (fun h9 => absurd h9 (by omega))
    refine lv_goto (tgt := 2002) hx hb dL_law_693 (by decide) ?_
    exact kk S 1 f g H locs ls ⟨hP, hD, hS, hok⟩ (lv_sub hl [2, 3, 4, 5, 6, 7] rfl)
  · obtain ⟨a, rfl⟩ : ∃ z : Nat, v1 = (z : Int) := ⟨v1.toNat, by omega⟩
    obtain ⟨b2, rfl⟩ : ∃ z : Nat, v2 = (z : Int) := ⟨v2.toNat, by omega⟩
    have ha : a < 12 := by omega
    have hb2 : b2 < 12 := by omega
    have hsa := hok.1 a
    have hsb := hok.1 b2
    by_cases h2 : sS S a = 0 ∨ sS S b2 = 0
    · refine lv_aload_n hx hb dL_law_621 rfl (lv_at hl 1 rfl) ?_
      refine lw_sc (j := i + 1) (v := ((a : Nat) : Int)) hx hb hX hbl hbA hS (lv_at hl 0 rfl) (lv_at hl 5 rfl) (by omega) (by omega) hL hv1 dL_law_622 dL_law_623 dL_law_625 dL_law_626 dL_law_627 ?_
      refine lw_sc (j := i + 2) (v := ((b2 : Nat) : Int)) hx hb hX hbl hbA hS (lv_at hl 0 rfl) (lv_at hl 5 rfl) (by omega) (by omega) hL hv2 dL_law_628 dL_law_629 dL_law_631 dL_law_632 dL_law_633 ?_
      refine lv_aload_n hx hb dL_law_634 rfl (lv_at hl 3 rfl) ?_
      refine pg_wcallH (As := [.ref ((xa X 0)), .int (iI (((a : Nat) : Int))), .int (iI (((b2 : Nat) : Int))), .ref aJ]) (rest := []) (l1 := []) (l2 := lwW X Y S S t (lwJ aJ cJ f) (lwD aD cD g)) (w := []) (w' := []) SC (c_L_isSteady_2 l hfl s.heap.size X S a b2 ha hb2 h2 hsa hsb aJ) xW_st (lw_xW hKX hP hS hE hN) (vx_cwSW 4 hts gL_law_L_isSteady rfl rfl rfl (by decide +kernel) ⟨Nat.le_of_ble_eq_true rfl, Nat.le_of_ble_eq_true rfl⟩) (va_K.sub hKX [] rfl) hP hD hS rfl rfl hl.1 rfl (Nat.le_of_ble_eq_true rfl) dL_law_635 ⟨hce.1, hce.2⟩ (fun H locs hP hD hS => ?_)
      have hP : va_P (xG X) vwCl (lwW X Y S S t (lwJ aJ cJ f) (lwD aD cD g)) H := hP
      have hD : va_D (fun q => s.heap.size ≤ q) (lwW X Y S S t (lwJ aJ cJ f) (lwD aD cD g)) := hD
      refine lv_istore (lv' := [(6, .int (iI 2)), (0, .ref b), (1, .ref ((xa X 0))), (2, .ref ((xa Y 0))), (3, .ref aJ), (4, .ref aD), (5, .int (iI ((i : Int))))]) hx hb dL_law_638 hl (by decide) rfl (fun ls hl => ?_)
      refine lv_aload_n hx hb dL_law_640 rfl (lv_at hl 3 rfl) ?_
      refine lw_sc (j := i + 1) (v := ((a : Nat) : Int)) hx hb hX hbl hbA hS (lv_at hl 1 rfl) (lv_at hl 6 rfl) (by omega) (by omega) hL hv1 dL_law_641 dL_law_642 dL_law_644 dL_law_645 dL_law_646 ?_
      refine lw_sc (j := i + 2) (v := ((b2 : Nat) : Int)) hx hb hX hbl hbA hS (lv_at hl 1 rfl) (lv_at hl 6 rfl) (by omega) (by omega) hL hv2 dL_law_647 dL_law_648 dL_law_650 dL_law_651 dL_law_652 ?_
      refine pg_wcallV (As := [.int (iI (((a : Nat) : Int))), .int (iI (((b2 : Nat) : Int)))]) (rest := []) (l1 := (lwJ aJ cJ f) :: (xC X S ++ [(lwD aD cD g)])) (l2 := []) (w := mC Y S t) (w' := mC Y S 2) SC (pg_cY hYX (c_X1_isSteady_2 l Y S t a b2 ha hb2 h2 hsa hsb)) pT_st pT_h (cwV 2 hts gL_law_X1_isSteady rfl rfl rfl (by decide +kernel) ⟨Nat.le_of_ble_eq_true rfl, Nat.le_of_ble_eq_true rfl⟩) (va_recv hKY hP (ci := 1) (q0 := 7) rfl rfl) hKY hP hD hS rfl rfl hl.1 rfl (Nat.le_of_ble_eq_true rfl) dL_law_653 ⟨hce.1, hce.2⟩ (fun H locs hP hD hS => ?_)
      have hP : va_P (xG X) vwCl (lwW X Y S S 2 (lwJ aJ cJ f) (lwD aD cD g)) H := hP
      have hD : va_D (fun q => s.heap.size ≤ q) (lwW X Y S S 2 (lwJ aJ cJ f) (lwD aD cD g)) := hD
      refine lv_istore (lv' := [(7, .int (iI 0)), (6, .int (iI 2)), (0, .ref b), (1, .ref ((xa X 0))), (2, .ref ((xa Y 0))), (3, .ref aJ), (4, .ref aD), (5, .int (iI ((i : Int))))]) hx hb dL_law_656 hl (by decide) rfl (fun ls hl => ?_)
      refine lv_aload_n hx hb dL_law_658 rfl (lv_at hl 4 rfl) ?_
      refine pg_callV (As := []) (rest := []) SC (c_X1_thrown l Y S 2) mB_st (lw_mB hYX hKY hP) (cwV 0 hts gL_law_X1_thrown rfl rfl rfl (by decide +kernel) ⟨Nat.le_of_ble_eq_true rfl, Nat.le_of_ble_eq_true rfl⟩) (va_recv hKY hP (ci := 1) (q0 := 7) rfl rfl) rfl hl.1 rfl (Nat.le_of_ble_eq_true rfl) dL_law_659 ⟨hce.1, hce.2⟩ ?_
      refine lv_iload hx hb dL_law_662 (lv_at hl 1 rfl) ?_
      refine lw_same (tgt := 669) hx hb (⟨by omega, by omega⟩) dL_law_664 (by decide) ?_
      refine lv_iload hx hb dL_law_669 (lv_at hl 1 rfl) ?_
      refine pg_if_ne (tgt := 693) hx hb dL_law_671 (by decide) (⟨by omega, by omega⟩) (fun _ => ?_) (fun h9 => absurd h9 (by omega))
      refine lv_goto (tgt := 2002) hx hb dL_law_693 (by decide) ?_
      exact kk S 2 f g H locs ls ⟨hP, hD, hS, hok⟩ (lv_sub hl [2, 3, 4, 5, 6, 7] rfl)
    · have ha1 : sS S a = 1 := by omega
      have hb1 : sS S b2 = 1 := by omega
      refine lv_aload_n hx hb dL_law_621 rfl (lv_at hl 1 rfl) ?_
      refine lw_sc (j := i + 1) (v := ((a : Nat) : Int)) hx hb hX hbl hbA hS (lv_at hl 0 rfl) (lv_at hl 5 rfl) (by omega) (by omega) hL hv1 dL_law_622 dL_law_623 dL_law_625 dL_law_626 dL_law_627 ?_
      refine lw_sc (j := i + 2) (v := ((b2 : Nat) : Int)) hx hb hX hbl hbA hS (lv_at hl 0 rfl) (lv_at hl 5 rfl) (by omega) (by omega) hL hv2 dL_law_628 dL_law_629 dL_law_631 dL_law_632 dL_law_633 ?_
      refine lv_aload_n hx hb dL_law_634 rfl (lv_at hl 3 rfl) ?_
      refine pg_wcallH (As := [.ref ((xa X 0)), .int (iI (((a : Nat) : Int))), .int (iI (((b2 : Nat) : Int))), .ref aJ]) (rest := []) (l1 := []) (l2 := (lwD aD cD g) :: mC Y S t) (w := (lwJ aJ cJ f) :: xC X S) (w' := (lwJ aJ cJ (vp_updL f 0 (lI 1))) :: xC X S) SC (c_L_isSteady_ok l X S hok a b2 ha hb2 ha1 hb1 cJ aJ f) pT_st pT_h (vx_cwSW 4 hts gL_law_L_isSteady rfl rfl rfl (by decide +kernel) ⟨Nat.le_of_ble_eq_true rfl, Nat.le_of_ble_eq_true rfl⟩) hKJ hP hD hS rfl rfl hl.1 rfl (Nat.le_of_ble_eq_true rfl) dL_law_635 ⟨hc0.1, hc0.2⟩ (fun H locs hP hD hS => ?_)
      have hP : va_P (xG X) vwCl (lwW X Y S S t (lwJ aJ cJ (vp_updL f 0 (lI 1))) (lwD aD cD g)) H := hP
      have hD : va_D (fun q => s.heap.size ≤ q) (lwW X Y S S t (lwJ aJ cJ (vp_updL f 0 (lI 1))) (lwD aD cD g)) := hD
      refine lv_istore (lv' := [(6, .int (iI 0)), (0, .ref b), (1, .ref ((xa X 0))), (2, .ref ((xa Y 0))), (3, .ref aJ), (4, .ref aD), (5, .int (iI ((i : Int))))]) hx hb dL_law_638 hl (by decide) rfl (fun ls hl => ?_)
      refine lv_aload_n hx hb dL_law_640 rfl (lv_at hl 3 rfl) ?_
      refine lw_sc (j := i + 1) (v := ((a : Nat) : Int)) hx hb hX hbl hbA hS (lv_at hl 1 rfl) (lv_at hl 6 rfl) (by omega) (by omega) hL hv1 dL_law_641 dL_law_642 dL_law_644 dL_law_645 dL_law_646 ?_
      refine lw_sc (j := i + 2) (v := ((b2 : Nat) : Int)) hx hb hX hbl hbA hS (lv_at hl 1 rfl) (lv_at hl 6 rfl) (by omega) (by omega) hL hv2 dL_law_647 dL_law_648 dL_law_650 dL_law_651 dL_law_652 ?_
      refine pg_wcallV (As := [.int (iI (((a : Nat) : Int))), .int (iI (((b2 : Nat) : Int)))]) (rest := []) (l1 := (lwJ aJ cJ (vp_updL f 0 (lI 1))) :: (xC X S ++ [(lwD aD cD g)])) (l2 := []) (w := mC Y S t) (w' := mC Y S 0) SC (pg_cY hYX (c_X1_isSteady_ok l Y S t a b2 ha hb2 ha1 hb1)) pT_st pT_h (cwV 2 hts gL_law_X1_isSteady rfl rfl rfl (by decide +kernel) ⟨Nat.le_of_ble_eq_true rfl, Nat.le_of_ble_eq_true rfl⟩) (va_recv hKY hP (ci := 1) (q0 := 7) rfl rfl) hKY hP hD hS rfl rfl hl.1 rfl (Nat.le_of_ble_eq_true rfl) dL_law_653 ⟨hc0.1, hc0.2⟩ (fun H locs hP hD hS => ?_)
      have hP : va_P (xG X) vwCl (lwW X Y S S 0 (lwJ aJ cJ (vp_updL f 0 (lI 1))) (lwD aD cD g)) H := hP
      have hD : va_D (fun q => s.heap.size ≤ q) (lwW X Y S S 0 (lwJ aJ cJ (vp_updL f 0 (lI 1))) (lwD aD cD g)) := hD
      refine lv_istore (lv' := [(7, .int (iI 1)), (6, .int (iI 0)), (0, .ref b), (1, .ref ((xa X 0))), (2, .ref ((xa Y 0))), (3, .ref aJ), (4, .ref aD), (5, .int (iI ((i : Int))))]) hx hb dL_law_656 hl (by decide) rfl (fun ls hl => ?_)
      refine lv_aload_n hx hb dL_law_658 rfl (lv_at hl 4 rfl) ?_
      refine pg_callV (As := []) (rest := []) SC (c_X1_thrown l Y S 0) mB_st (lw_mB hYX hKY hP) (cwV 0 hts gL_law_X1_thrown rfl rfl rfl (by decide +kernel) ⟨Nat.le_of_ble_eq_true rfl, Nat.le_of_ble_eq_true rfl⟩) (va_recv hKY hP (ci := 1) (q0 := 7) rfl rfl) rfl hl.1 rfl (Nat.le_of_ble_eq_true rfl) dL_law_659 ⟨hc0.1, hc0.2⟩ ?_
      refine lv_iload hx hb dL_law_662 (lv_at hl 1 rfl) ?_
      refine lw_same (tgt := 669) hx hb (⟨by omega, by omega⟩) dL_law_664 (by decide) ?_
      refine lv_iload hx hb dL_law_669 (lv_at hl 1 rfl) ?_
      refine pg_if_ne (tgt := 693) hx hb dL_law_671 (by decide) (⟨by omega, by omega⟩) (fun h9 => absurd rfl h9) (fun _ => ?_)
      refine lv_aload_n hx hb dL_law_674 rfl (lv_at hl 5 rfl) ?_
      refine lv_iconst (v := iI 0) hx hb dL_law_675 rfl ?_
      refine pg_lld0 hx hb hKJ hP 0 2 rfl rfl dL_law_676 ?_
      refine lv_iload hx hb dL_law_677 (lv_at hl 0 rfl) ?_
      refine lw_lbool hx hb (by omega) dL_law_679 dL_law_682 dL_law_683 dL_law_686 ?_
      refine lw_leq (tgt := 693) hx hb rfl dL_law_687 dL_law_688 (by decide) ?_
      refine lv_goto (tgt := 2002) hx hb dL_law_693 (by decide) ?_
      exact pg_widen (Nat.le_succ _) (Nat.le_add_right _ 6) (kk S 0 ((vp_updL f 0 (lI 1))) g H locs ls ⟨hP, hD, hS, hok⟩ (lv_sub hl [2, 3, 4, 5, 6, 7] rfl))
set_option maxRecDepth 100000 in
set_option maxHeartbeats 4000000 in
theorem lw_op9 {p : Program} {l : Launch} {e : Env} {s : State} {m : MethodId} {args : Array Value} {below : List Frame} {meth : Method} {c : Code} {H : Heap} {locs : List Loc} {cells slots : Nat} {Q : State → Prop} {b L : Nat} {xs : Nat → Int32} {X Y : pgX} {cJ cD aJ aD : Nat} (hC : lwK l p s m c args b L xs X Y cJ cD) {i : Nat} (hi : i + 5 ≤ L) {S : pgS} {t : Int} {f : Nat → Int64} {g : Nat → UInt64} (hG : lwG s X Y cJ aJ cD aD S t f g H locs) (hce : cells + 1 ≤ 1047 ∧ slots + 6 ≤ 8369) {ls : Array Slot} (hl : lv_has ls 9 (lwB b X Y aJ aD i)) (kk : ∀ (S1 : pgS) (t1 : Int) (f1 : Nat → Int64) (g1 : Nat → UInt64) (H1 : Heap) (locs1 : List Loc) (ls1 : Array Slot), lwG s X Y cJ aJ cD aD S1 t1 f1 g1 H1 locs1 → lv_has ls1 9 (lwB b X Y aJ aD i) → W p l e room_1 s m args below meth c H1 locs1 (cells + 1) (slots + 6) Q (F0 m 2002 ls1 [])) : W p l e room_1 s m args below meth c H locs cells slots Q (F0 m 696 ls []) := by
  obtain ⟨SC, hfl, hX, hbl, hL, hYX, hKJ, hKD, hKY, hE, hN⟩ := id hC
  obtain ⟨hx, hb, hml, hown, hts⟩ := id SC
  obtain ⟨hP, hD, hS, hok⟩ := id hG
  have hKX : va_K (xG X) vwCl (xTy X) s := va_K.sub hKJ [0, 1] rfl
  have hbA : ¬ s.heap.size ≤ b := by omega
  have hc0 : cells ≤ 1047 ∧ slots ≤ 8369 := by omega
  have hl : lv_has ls 9 [(0, .ref b), (1, .ref ((xa X 0))), (2, .ref ((xa Y 0))), (3, .ref aJ), (4, .ref aD), (5, .int (iI ((i : Int))))] := hl
  obtain ⟨v1, hv1, hq1⟩ : ∃ v : Int, xs (i + 1) = iI v ∧ inI v := ⟨_, iI_self _, inI_self _⟩
  obtain ⟨v2, hv2, hq2⟩ : ∃ v : Int, xs (i + 2) = iI v ∧ inI v := ⟨_, iI_self _, inI_self _⟩
  by_cases h1 : v1 < 0 ∨ 12 ≤ v1 ∨ v2 < 0 ∨ 12 ≤ v2
  · refine lv_aload_n hx hb dL_law_696 rfl (lv_at hl 1 rfl) ?_
    refine lw_sc (j := i + 1) (v := v1) hx hb hX hbl hbA hS (lv_at hl 0 rfl) (lv_at hl 5 rfl) (by omega) (by omega) hL hv1 dL_law_697 dL_law_698 dL_law_700 dL_law_701 dL_law_702 ?_
    refine lw_sc (j := i + 2) (v := v2) hx hb hX hbl hbA hS (lv_at hl 0 rfl) (lv_at hl 5 rfl) (by omega) (by omega) hL hv2 dL_law_703 dL_law_704 dL_law_706 dL_law_707 dL_law_708 ?_
    refine lv_aload_n hx hb dL_law_709 rfl (lv_at hl 3 rfl) ?_
    refine pg_wcallH (As := [.ref ((xa X 0)), .int (iI v1), .int (iI v2), .ref aJ]) (rest := []) (l1 := []) (l2 := lwW X Y S S t (lwJ aJ cJ f) (lwD aD cD g)) (w := []) (w' := []) SC (c_L_isDoubled_1 l hfl s.heap.size X S v1 v2 hq1 hq2 h1 aJ) xW_st (lw_xW hKX hP hS hE hN) (vx_cwSW 4 hts gL_law_L_isDoubled rfl rfl rfl (by decide +kernel) ⟨Nat.le_of_ble_eq_true rfl, Nat.le_of_ble_eq_true rfl⟩) (va_K.sub hKX [] rfl) hP hD hS rfl rfl hl.1 rfl (Nat.le_of_ble_eq_true rfl) dL_law_710 ⟨hce.1, hce.2⟩ (fun H locs hP hD hS => ?_)
    have hP : va_P (xG X) vwCl (lwW X Y S S t (lwJ aJ cJ f) (lwD aD cD g)) H := hP
    have hD : va_D (fun q => s.heap.size ≤ q) (lwW X Y S S t (lwJ aJ cJ f) (lwD aD cD g)) := hD
    refine lv_istore (lv' := [(6, .int (iI 1)), (0, .ref b), (1, .ref ((xa X 0))), (2, .ref ((xa Y 0))), (3, .ref aJ), (4, .ref aD), (5, .int (iI ((i : Int))))]) hx hb dL_law_713 hl (by decide) rfl (fun ls hl => ?_)
    refine lv_aload_n hx hb dL_law_715 rfl (lv_at hl 3 rfl) ?_
    refine lw_sc (j := i + 1) (v := v1) hx hb hX hbl hbA hS (lv_at hl 1 rfl) (lv_at hl 6 rfl) (by omega) (by omega) hL hv1 dL_law_716 dL_law_717 dL_law_719 dL_law_720 dL_law_721 ?_
    refine lw_sc (j := i + 2) (v := v2) hx hb hX hbl hbA hS (lv_at hl 1 rfl) (lv_at hl 6 rfl) (by omega) (by omega) hL hv2 dL_law_722 dL_law_723 dL_law_725 dL_law_726 dL_law_727 ?_
    refine pg_wcallV (As := [.int (iI v1), .int (iI v2)]) (rest := []) (l1 := (lwJ aJ cJ f) :: (xC X S ++ [(lwD aD cD g)])) (l2 := []) (w := mC Y S t) (w' := mC Y S 1) SC (pg_cY hYX (c_X1_isDoubled_1 l Y S t v1 v2 hq1 hq2 h1)) pT_st pT_h (cwV 2 hts gL_law_X1_isDoubled rfl rfl rfl (by decide +kernel) ⟨Nat.le_of_ble_eq_true rfl, Nat.le_of_ble_eq_true rfl⟩) (va_recv hKY hP (ci := 1) (q0 := 7) rfl rfl) hKY hP hD hS rfl rfl hl.1 rfl (Nat.le_of_ble_eq_true rfl) dL_law_728 ⟨hce.1, hce.2⟩ (fun H locs hP hD hS => ?_)
    have hP : va_P (xG X) vwCl (lwW X Y S S 1 (lwJ aJ cJ f) (lwD aD cD g)) H := hP
    have hD : va_D (fun q => s.heap.size ≤ q) (lwW X Y S S 1 (lwJ aJ cJ f) (lwD aD cD g)) := hD
    refine lv_istore (lv' := [(7, .int (iI 0)), (6, .int (iI 1)), (0, .ref b), (1, .ref ((xa X 0))), (2, .ref ((xa Y 0))), (3, .ref aJ), (4, .ref aD), (5, .int (iI ((i : Int))))]) hx hb dL_law_731 hl (by decide) rfl (fun ls hl => ?_)
    refine lv_aload_n hx hb dL_law_733 rfl (lv_at hl 4 rfl) ?_
    refine pg_callV (As := []) (rest := []) SC (c_X1_thrown l Y S 1) mB_st (lw_mB hYX hKY hP) (cwV 0 hts gL_law_X1_thrown rfl rfl rfl (by decide +kernel) ⟨Nat.le_of_ble_eq_true rfl, Nat.le_of_ble_eq_true rfl⟩) (va_recv hKY hP (ci := 1) (q0 := 7) rfl rfl) rfl hl.1 rfl (Nat.le_of_ble_eq_true rfl) dL_law_734 ⟨hce.1, hce.2⟩ ?_
    refine lv_iload hx hb dL_law_737 (lv_at hl 1 rfl) ?_
    refine lw_same (tgt := 744) hx hb (⟨by omega, by omega⟩) dL_law_739 (by decide) ?_
    refine lv_iload hx hb dL_law_744 (lv_at hl 1 rfl) ?_
    refine pg_if_ne (tgt := 768) hx hb dL_law_746 (by decide) (⟨by omega, by omega⟩) (fun _ => ?_) (fun h9 => absurd h9 (by omega))
    refine lv_goto (tgt := 2002) hx hb dL_law_768 (by decide) ?_
    exact kk S 1 f g H locs ls ⟨hP, hD, hS, hok⟩ (lv_sub hl [2, 3, 4, 5, 6, 7] rfl)
  · obtain ⟨a, rfl⟩ : ∃ z : Nat, v1 = (z : Int) := ⟨v1.toNat, by omega⟩
    obtain ⟨b2, rfl⟩ : ∃ z : Nat, v2 = (z : Int) := ⟨v2.toNat, by omega⟩
    have ha : a < 12 := by omega
    have hb2 : b2 < 12 := by omega
    have hsa := hok.1 a
    have hsb := hok.1 b2
    by_cases h2 : sS S a = 0 ∨ sS S b2 = 0
    · refine lv_aload_n hx hb dL_law_696 rfl (lv_at hl 1 rfl) ?_
      refine lw_sc (j := i + 1) (v := ((a : Nat) : Int)) hx hb hX hbl hbA hS (lv_at hl 0 rfl) (lv_at hl 5 rfl) (by omega) (by omega) hL hv1 dL_law_697 dL_law_698 dL_law_700 dL_law_701 dL_law_702 ?_
      refine lw_sc (j := i + 2) (v := ((b2 : Nat) : Int)) hx hb hX hbl hbA hS (lv_at hl 0 rfl) (lv_at hl 5 rfl) (by omega) (by omega) hL hv2 dL_law_703 dL_law_704 dL_law_706 dL_law_707 dL_law_708 ?_
      refine lv_aload_n hx hb dL_law_709 rfl (lv_at hl 3 rfl) ?_
      refine pg_wcallH (As := [.ref ((xa X 0)), .int (iI (((a : Nat) : Int))), .int (iI (((b2 : Nat) : Int))), .ref aJ]) (rest := []) (l1 := []) (l2 := lwW X Y S S t (lwJ aJ cJ f) (lwD aD cD g)) (w := []) (w' := []) SC (c_L_isDoubled_2 l hfl s.heap.size X S a b2 ha hb2 h2 hsa hsb aJ) xW_st (lw_xW hKX hP hS hE hN) (vx_cwSW 4 hts gL_law_L_isDoubled rfl rfl rfl (by decide +kernel) ⟨Nat.le_of_ble_eq_true rfl, Nat.le_of_ble_eq_true rfl⟩) (va_K.sub hKX [] rfl) hP hD hS rfl rfl hl.1 rfl (Nat.le_of_ble_eq_true rfl) dL_law_710 ⟨hce.1, hce.2⟩ (fun H locs hP hD hS => ?_)
      have hP : va_P (xG X) vwCl (lwW X Y S S t (lwJ aJ cJ f) (lwD aD cD g)) H := hP
      have hD : va_D (fun q => s.heap.size ≤ q) (lwW X Y S S t (lwJ aJ cJ f) (lwD aD cD g)) := hD
      refine lv_istore (lv' := [(6, .int (iI 2)), (0, .ref b), (1, .ref ((xa X 0))), (2, .ref ((xa Y 0))), (3, .ref aJ), (4, .ref aD), (5, .int (iI ((i : Int))))]) hx hb dL_law_713 hl (by decide) rfl (fun ls hl => ?_)
      refine lv_aload_n hx hb dL_law_715 rfl (lv_at hl 3 rfl) ?_
      refine lw_sc (j := i + 1) (v := ((a : Nat) : Int)) hx hb hX hbl hbA hS (lv_at hl 1 rfl) (lv_at hl 6 rfl) (by omega) (by omega) hL hv1 dL_law_716 dL_law_717 dL_law_719 dL_law_720 dL_law_721 ?_
      refine lw_sc (j := i + 2) (v := ((b2 : Nat) : Int)) hx hb hX hbl hbA hS (lv_at hl 1 rfl) (lv_at hl 6 rfl) (by omega) (by omega) hL hv2 dL_law_722 dL_law_723 dL_law_725 dL_law_726 dL_law_727 ?_
      refine pg_wcallV (As := [.int (iI (((a : Nat) : Int))), .int (iI (((b2 : Nat) : Int)))]) (rest := []) (l1 := (lwJ aJ cJ f) :: (xC X S ++ [(lwD aD cD g)])) (l2 := []) (w := mC Y S t) (w' := mC Y S 2) SC (pg_cY hYX (c_X1_isDoubled_2 l Y S t a b2 ha hb2 h2 hsa hsb)) pT_st pT_h (cwV 2 hts gL_law_X1_isDoubled rfl rfl rfl (by decide +kernel) ⟨Nat.le_of_ble_eq_true rfl, Nat.le_of_ble_eq_true rfl⟩) (va_recv hKY hP (ci := 1) (q0 := 7) rfl rfl) hKY hP hD hS rfl rfl hl.1 rfl (Nat.le_of_ble_eq_true rfl) dL_law_728 ⟨hce.1, hce.2⟩ (fun H locs hP hD hS => ?_)
      have hP : va_P (xG X) vwCl (lwW X Y S S 2 (lwJ aJ cJ f) (lwD aD cD g)) H := hP
      have hD : va_D (fun q => s.heap.size ≤ q) (lwW X Y S S 2 (lwJ aJ cJ f) (lwD aD cD g)) := hD
      refine lv_istore (lv' := [(7, .int (iI 0)), (6, .int (iI 2)), (0, .ref b), (1, .ref ((xa X 0))), (2, .ref ((xa Y 0))), (3, .ref aJ), (4, .ref aD), (5, .int (iI ((i : Int))))]) hx hb dL_law_731 hl (by decide) rfl (fun ls hl => ?_)
      refine lv_aload_n hx hb dL_law_733 rfl (lv_at hl 4 rfl) ?_
      refine pg_callV (As := []) (rest := []) SC (c_X1_thrown l Y S 2) mB_st (lw_mB hYX hKY hP) (cwV 0 hts gL_law_X1_thrown rfl rfl rfl (by decide +kernel) ⟨Nat.le_of_ble_eq_true rfl, Nat.le_of_ble_eq_true rfl⟩) (va_recv hKY hP (ci := 1) (q0 := 7) rfl rfl) rfl hl.1 rfl (Nat.le_of_ble_eq_true rfl) dL_law_734 ⟨hce.1, hce.2⟩ ?_
      refine lv_iload hx hb dL_law_737 (lv_at hl 1 rfl) ?_
      refine lw_same (tgt := 744) hx hb (⟨by omega, by omega⟩) dL_law_739 (by decide) ?_
      refine lv_iload hx hb dL_law_744 (lv_at hl 1 rfl) ?_
      refine pg_if_ne (tgt := 768) hx hb dL_law_746 (by decide) (⟨by omega, by omega⟩) (fun _ => ?_) (fun h9 => absurd h9 (by omega))
      refine lv_goto (tgt := 2002) hx hb dL_law_768 (by decide) ?_
      exact kk S 2 f g H locs ls ⟨hP, hD, hS, hok⟩ (lv_sub hl [2, 3, 4, 5, 6, 7] rfl)
    · have ha1 : sS S a = 1 := by omega
      have hb1 : sS S b2 = 1 := by omega
      refine lv_aload_n hx hb dL_law_696 rfl (lv_at hl 1 rfl) ?_
      refine lw_sc (j := i + 1) (v := ((a : Nat) : Int)) hx hb hX hbl hbA hS (lv_at hl 0 rfl) (lv_at hl 5 rfl) (by omega) (by omega) hL hv1 dL_law_697 dL_law_698 dL_law_700 dL_law_701 dL_law_702 ?_
      refine lw_sc (j := i + 2) (v := ((b2 : Nat) : Int)) hx hb hX hbl hbA hS (lv_at hl 0 rfl) (lv_at hl 5 rfl) (by omega) (by omega) hL hv2 dL_law_703 dL_law_704 dL_law_706 dL_law_707 dL_law_708 ?_
      refine lv_aload_n hx hb dL_law_709 rfl (lv_at hl 3 rfl) ?_
      refine pg_wcallH (As := [.ref ((xa X 0)), .int (iI (((a : Nat) : Int))), .int (iI (((b2 : Nat) : Int))), .ref aJ]) (rest := []) (l1 := []) (l2 := (lwD aD cD g) :: mC Y S t) (w := (lwJ aJ cJ f) :: xC X S) (w' := (lwJ aJ cJ (vp_updL f 0 (lI 1))) :: xC X S) SC (c_L_isDoubled_ok l X S hok a b2 ha hb2 ha1 hb1 cJ aJ f) pT_st pT_h (vx_cwSW 4 hts gL_law_L_isDoubled rfl rfl rfl (by decide +kernel) ⟨Nat.le_of_ble_eq_true rfl, Nat.le_of_ble_eq_true rfl⟩) hKJ hP hD hS rfl rfl hl.1 rfl (Nat.le_of_ble_eq_true rfl) dL_law_710 ⟨hc0.1, hc0.2⟩ (fun H locs hP hD hS => ?_)
      have hP : va_P (xG X) vwCl (lwW X Y S S t (lwJ aJ cJ (vp_updL f 0 (lI 1))) (lwD aD cD g)) H := hP
      have hD : va_D (fun q => s.heap.size ≤ q) (lwW X Y S S t (lwJ aJ cJ (vp_updL f 0 (lI 1))) (lwD aD cD g)) := hD
      refine lv_istore (lv' := [(6, .int (iI 0)), (0, .ref b), (1, .ref ((xa X 0))), (2, .ref ((xa Y 0))), (3, .ref aJ), (4, .ref aD), (5, .int (iI ((i : Int))))]) hx hb dL_law_713 hl (by decide) rfl (fun ls hl => ?_)
      refine lv_aload_n hx hb dL_law_715 rfl (lv_at hl 3 rfl) ?_
      refine lw_sc (j := i + 1) (v := ((a : Nat) : Int)) hx hb hX hbl hbA hS (lv_at hl 1 rfl) (lv_at hl 6 rfl) (by omega) (by omega) hL hv1 dL_law_716 dL_law_717 dL_law_719 dL_law_720 dL_law_721 ?_
      refine lw_sc (j := i + 2) (v := ((b2 : Nat) : Int)) hx hb hX hbl hbA hS (lv_at hl 1 rfl) (lv_at hl 6 rfl) (by omega) (by omega) hL hv2 dL_law_722 dL_law_723 dL_law_725 dL_law_726 dL_law_727 ?_
      refine pg_wcallV (As := [.int (iI (((a : Nat) : Int))), .int (iI (((b2 : Nat) : Int)))]) (rest := []) (l1 := (lwJ aJ cJ (vp_updL f 0 (lI 1))) :: (xC X S ++ [(lwD aD cD g)])) (l2 := []) (w := mC Y S t) (w' := mC Y S 0) SC (pg_cY hYX (c_X1_isDoubled_ok l Y S t a b2 ha hb2 ha1 hb1)) pT_st pT_h (cwV 2 hts gL_law_X1_isDoubled rfl rfl rfl (by decide +kernel) ⟨Nat.le_of_ble_eq_true rfl, Nat.le_of_ble_eq_true rfl⟩) (va_recv hKY hP (ci := 1) (q0 := 7) rfl rfl) hKY hP hD hS rfl rfl hl.1 rfl (Nat.le_of_ble_eq_true rfl) dL_law_728 ⟨hc0.1, hc0.2⟩ (fun H locs hP hD hS => ?_)
      have hP : va_P (xG X) vwCl (lwW X Y S S 0 (lwJ aJ cJ (vp_updL f 0 (lI 1))) (lwD aD cD g)) H := hP
      have hD : va_D (fun q => s.heap.size ≤ q) (lwW X Y S S 0 (lwJ aJ cJ (vp_updL f 0 (lI 1))) (lwD aD cD g)) := hD
      refine lv_istore (lv' := [(7, .int (iI 1)), (6, .int (iI 0)), (0, .ref b), (1, .ref ((xa X 0))), (2, .ref ((xa Y 0))), (3, .ref aJ), (4, .ref aD), (5, .int (iI ((i : Int))))]) hx hb dL_law_731 hl (by decide) rfl (fun ls hl => ?_)
      refine lv_aload_n hx hb dL_law_733 rfl (lv_at hl 4 rfl) ?_
      refine pg_callV (As := []) (rest := []) SC (c_X1_thrown l Y S 0) mB_st (lw_mB hYX hKY hP) (cwV 0 hts gL_law_X1_thrown rfl rfl rfl (by decide +kernel) ⟨Nat.le_of_ble_eq_true rfl, Nat.le_of_ble_eq_true rfl⟩) (va_recv hKY hP (ci := 1) (q0 := 7) rfl rfl) rfl hl.1 rfl (Nat.le_of_ble_eq_true rfl) dL_law_734 ⟨hc0.1, hc0.2⟩ ?_
      refine lv_iload hx hb dL_law_737 (lv_at hl 1 rfl) ?_
      refine lw_same (tgt := 744) hx hb (⟨by omega, by omega⟩) dL_law_739 (by decide) ?_
      refine lv_iload hx hb dL_law_744 (lv_at hl 1 rfl) ?_
      refine pg_if_ne (tgt := 768) hx hb dL_law_746 (by decide) (⟨by omega, by omega⟩) (fun h9 => absurd rfl h9) (fun _ => ?_)
      refine lv_aload_n hx hb dL_law_749 rfl (lv_at hl 5 rfl) ?_
      refine lv_iconst (v := iI 0) hx hb dL_law_750 rfl ?_
      refine pg_lld0 hx hb hKJ hP 0 2 rfl rfl dL_law_751 ?_
      refine lv_iload hx hb dL_law_752 (lv_at hl 0 rfl) ?_
      refine lw_lbool hx hb (by omega) dL_law_754 dL_law_757 dL_law_758 dL_law_761 ?_
      refine lw_leq (tgt := 768) hx hb rfl dL_law_762 dL_law_763 (by decide) ?_
      refine lv_goto (tgt := 2002) hx hb dL_law_768 (by decide) ?_
      exact pg_widen (Nat.le_succ _) (Nat.le_add_right _ 6) (kk S 0 ((vp_updL f 0 (lI 1))) g H locs ls ⟨hP, hD, hS, hok⟩ (lv_sub hl [2, 3, 4, 5, 6, 7] rfl))
set_option maxRecDepth 100000 in
set_option maxHeartbeats 4000000 in
theorem lw_op10 {p : Program} {l : Launch} {e : Env} {s : State} {m : MethodId} {args : Array Value} {below : List Frame} {meth : Method} {c : Code} {H : Heap} {locs : List Loc} {cells slots : Nat} {Q : State → Prop} {b L : Nat} {xs : Nat → Int32} {X Y : pgX} {cJ cD aJ aD : Nat} (hC : lwK l p s m c args b L xs X Y cJ cD) {i : Nat} (hi : i + 5 ≤ L) {S : pgS} {t : Int} {f : Nat → Int64} {g : Nat → UInt64} (hG : lwG s X Y cJ aJ cD aD S t f g H locs) (hce : cells + 1 ≤ 1047 ∧ slots + 6 ≤ 8369) {ls : Array Slot} (hl : lv_has ls 9 (lwB b X Y aJ aD i)) (kk : ∀ (S1 : pgS) (t1 : Int) (f1 : Nat → Int64) (g1 : Nat → UInt64) (H1 : Heap) (locs1 : List Loc) (ls1 : Array Slot), lwG s X Y cJ aJ cD aD S1 t1 f1 g1 H1 locs1 → lv_has ls1 9 (lwB b X Y aJ aD i) → W p l e room_1 s m args below meth c H1 locs1 (cells + 1) (slots + 6) Q (F0 m 2002 ls1 [])) : W p l e room_1 s m args below meth c H locs cells slots Q (F0 m 771 ls []) := by
  obtain ⟨SC, hfl, hX, hbl, hL, hYX, hKJ, hKD, hKY, hE, hN⟩ := id hC
  obtain ⟨hx, hb, hml, hown, hts⟩ := id SC
  obtain ⟨hP, hD, hS, hok⟩ := id hG
  have hKX : va_K (xG X) vwCl (xTy X) s := va_K.sub hKJ [0, 1] rfl
  have hbA : ¬ s.heap.size ≤ b := by omega
  have hc0 : cells ≤ 1047 ∧ slots ≤ 8369 := by omega
  have hl : lv_has ls 9 [(0, .ref b), (1, .ref ((xa X 0))), (2, .ref ((xa Y 0))), (3, .ref aJ), (4, .ref aD), (5, .int (iI ((i : Int))))] := hl
  obtain ⟨v1, hv1, hq1⟩ : ∃ v : Int, xs (i + 1) = iI v ∧ inI v := ⟨_, iI_self _, inI_self _⟩
  obtain ⟨v2, hv2, hq2⟩ : ∃ v : Int, xs (i + 2) = iI v ∧ inI v := ⟨_, iI_self _, inI_self _⟩
  by_cases h1 : v1 < 0 ∨ 12 ≤ v1 ∨ v2 < 0 ∨ 12 ≤ v2
  · refine lv_aload_n hx hb dL_law_771 rfl (lv_at hl 1 rfl) ?_
    refine lw_sc (j := i + 1) (v := v1) hx hb hX hbl hbA hS (lv_at hl 0 rfl) (lv_at hl 5 rfl) (by omega) (by omega) hL hv1 dL_law_772 dL_law_773 dL_law_775 dL_law_776 dL_law_777 ?_
    refine lw_sc (j := i + 2) (v := v2) hx hb hX hbl hbA hS (lv_at hl 0 rfl) (lv_at hl 5 rfl) (by omega) (by omega) hL hv2 dL_law_778 dL_law_779 dL_law_781 dL_law_782 dL_law_783 ?_
    refine lv_aload_n hx hb dL_law_784 rfl (lv_at hl 3 rfl) ?_
    refine pg_wcallH (As := [.ref ((xa X 0)), .int (iI v1), .int (iI v2), .ref aJ]) (rest := []) (l1 := []) (l2 := lwW X Y S S t (lwJ aJ cJ f) (lwD aD cD g)) (w := []) (w' := []) SC (c_L_isClose_1 l hfl s.heap.size X S v1 v2 hq1 hq2 h1 aJ) xW_st (lw_xW hKX hP hS hE hN) (vx_cwSW 4 hts gL_law_L_isClose rfl rfl rfl (by decide +kernel) ⟨Nat.le_of_ble_eq_true rfl, Nat.le_of_ble_eq_true rfl⟩) (va_K.sub hKX [] rfl) hP hD hS rfl rfl hl.1 rfl (Nat.le_of_ble_eq_true rfl) dL_law_785 ⟨hce.1, hce.2⟩ (fun H locs hP hD hS => ?_)
    have hP : va_P (xG X) vwCl (lwW X Y S S t (lwJ aJ cJ f) (lwD aD cD g)) H := hP
    have hD : va_D (fun q => s.heap.size ≤ q) (lwW X Y S S t (lwJ aJ cJ f) (lwD aD cD g)) := hD
    refine lv_istore (lv' := [(6, .int (iI 1)), (0, .ref b), (1, .ref ((xa X 0))), (2, .ref ((xa Y 0))), (3, .ref aJ), (4, .ref aD), (5, .int (iI ((i : Int))))]) hx hb dL_law_788 hl (by decide) rfl (fun ls hl => ?_)
    refine lv_aload_n hx hb dL_law_790 rfl (lv_at hl 3 rfl) ?_
    refine lw_sc (j := i + 1) (v := v1) hx hb hX hbl hbA hS (lv_at hl 1 rfl) (lv_at hl 6 rfl) (by omega) (by omega) hL hv1 dL_law_791 dL_law_792 dL_law_794 dL_law_795 dL_law_796 ?_
    refine lw_sc (j := i + 2) (v := v2) hx hb hX hbl hbA hS (lv_at hl 1 rfl) (lv_at hl 6 rfl) (by omega) (by omega) hL hv2 dL_law_797 dL_law_798 dL_law_800 dL_law_801 dL_law_802 ?_
    refine pg_wcallV (As := [.int (iI v1), .int (iI v2)]) (rest := []) (l1 := (lwJ aJ cJ f) :: (xC X S ++ [(lwD aD cD g)])) (l2 := []) (w := mC Y S t) (w' := mC Y S 1) SC (pg_cY hYX (c_X1_isClose_1 l Y S t v1 v2 hq1 hq2 h1)) pT_st pT_h (cwV 2 hts gL_law_X1_isClose rfl rfl rfl (by decide +kernel) ⟨Nat.le_of_ble_eq_true rfl, Nat.le_of_ble_eq_true rfl⟩) (va_recv hKY hP (ci := 1) (q0 := 7) rfl rfl) hKY hP hD hS rfl rfl hl.1 rfl (Nat.le_of_ble_eq_true rfl) dL_law_803 ⟨hce.1, hce.2⟩ (fun H locs hP hD hS => ?_)
    have hP : va_P (xG X) vwCl (lwW X Y S S 1 (lwJ aJ cJ f) (lwD aD cD g)) H := hP
    have hD : va_D (fun q => s.heap.size ≤ q) (lwW X Y S S 1 (lwJ aJ cJ f) (lwD aD cD g)) := hD
    refine lv_istore (lv' := [(7, .int (iI 0)), (6, .int (iI 1)), (0, .ref b), (1, .ref ((xa X 0))), (2, .ref ((xa Y 0))), (3, .ref aJ), (4, .ref aD), (5, .int (iI ((i : Int))))]) hx hb dL_law_806 hl (by decide) rfl (fun ls hl => ?_)
    refine lv_aload_n hx hb dL_law_808 rfl (lv_at hl 4 rfl) ?_
    refine pg_callV (As := []) (rest := []) SC (c_X1_thrown l Y S 1) mB_st (lw_mB hYX hKY hP) (cwV 0 hts gL_law_X1_thrown rfl rfl rfl (by decide +kernel) ⟨Nat.le_of_ble_eq_true rfl, Nat.le_of_ble_eq_true rfl⟩) (va_recv hKY hP (ci := 1) (q0 := 7) rfl rfl) rfl hl.1 rfl (Nat.le_of_ble_eq_true rfl) dL_law_809 ⟨hce.1, hce.2⟩ ?_
    refine lv_iload hx hb dL_law_812 (lv_at hl 1 rfl) ?_
    refine lw_same (tgt := 819) hx hb (⟨by omega, by omega⟩) dL_law_814 (by decide) ?_
    refine lv_iload hx hb dL_law_819 (lv_at hl 1 rfl) ?_
    refine pg_if_ne (tgt := 843) hx hb dL_law_821 (by decide) (⟨by omega, by omega⟩) (fun _ => ?_) (fun h9 => absurd h9 (by omega))
    refine lv_goto (tgt := 2002) hx hb dL_law_843 (by decide) ?_
    exact kk S 1 f g H locs ls ⟨hP, hD, hS, hok⟩ (lv_sub hl [2, 3, 4, 5, 6, 7] rfl)
  · obtain ⟨a, rfl⟩ : ∃ z : Nat, v1 = (z : Int) := ⟨v1.toNat, by omega⟩
    obtain ⟨b2, rfl⟩ : ∃ z : Nat, v2 = (z : Int) := ⟨v2.toNat, by omega⟩
    have ha : a < 12 := by omega
    have hb2 : b2 < 12 := by omega
    have hsa := hok.1 a
    have hsb := hok.1 b2
    by_cases h2 : sS S a = 0 ∨ sS S b2 = 0
    · refine lv_aload_n hx hb dL_law_771 rfl (lv_at hl 1 rfl) ?_
      refine lw_sc (j := i + 1) (v := ((a : Nat) : Int)) hx hb hX hbl hbA hS (lv_at hl 0 rfl) (lv_at hl 5 rfl) (by omega) (by omega) hL hv1 dL_law_772 dL_law_773 dL_law_775 dL_law_776 dL_law_777 ?_
      refine lw_sc (j := i + 2) (v := ((b2 : Nat) : Int)) hx hb hX hbl hbA hS (lv_at hl 0 rfl) (lv_at hl 5 rfl) (by omega) (by omega) hL hv2 dL_law_778 dL_law_779 dL_law_781 dL_law_782 dL_law_783 ?_
      refine lv_aload_n hx hb dL_law_784 rfl (lv_at hl 3 rfl) ?_
      refine pg_wcallH (As := [.ref ((xa X 0)), .int (iI (((a : Nat) : Int))), .int (iI (((b2 : Nat) : Int))), .ref aJ]) (rest := []) (l1 := []) (l2 := lwW X Y S S t (lwJ aJ cJ f) (lwD aD cD g)) (w := []) (w' := []) SC (c_L_isClose_2 l hfl s.heap.size X S a b2 ha hb2 h2 hsa hsb aJ) xW_st (lw_xW hKX hP hS hE hN) (vx_cwSW 4 hts gL_law_L_isClose rfl rfl rfl (by decide +kernel) ⟨Nat.le_of_ble_eq_true rfl, Nat.le_of_ble_eq_true rfl⟩) (va_K.sub hKX [] rfl) hP hD hS rfl rfl hl.1 rfl (Nat.le_of_ble_eq_true rfl) dL_law_785 ⟨hce.1, hce.2⟩ (fun H locs hP hD hS => ?_)
      have hP : va_P (xG X) vwCl (lwW X Y S S t (lwJ aJ cJ f) (lwD aD cD g)) H := hP
      have hD : va_D (fun q => s.heap.size ≤ q) (lwW X Y S S t (lwJ aJ cJ f) (lwD aD cD g)) := hD
      refine lv_istore (lv' := [(6, .int (iI 2)), (0, .ref b), (1, .ref ((xa X 0))), (2, .ref ((xa Y 0))), (3, .ref aJ), (4, .ref aD), (5, .int (iI ((i : Int))))]) hx hb dL_law_788 hl (by decide) rfl (fun ls hl => ?_)
      refine lv_aload_n hx hb dL_law_790 rfl (lv_at hl 3 rfl) ?_
      refine lw_sc (j := i + 1) (v := ((a : Nat) : Int)) hx hb hX hbl hbA hS (lv_at hl 1 rfl) (lv_at hl 6 rfl) (by omega) (by omega) hL hv1 dL_law_791 dL_law_792 dL_law_794 dL_law_795 dL_law_796 ?_
      refine lw_sc (j := i + 2) (v := ((b2 : Nat) : Int)) hx hb hX hbl hbA hS (lv_at hl 1 rfl) (lv_at hl 6 rfl) (by omega) (by omega) hL hv2 dL_law_797 dL_law_798 dL_law_800 dL_law_801 dL_law_802 ?_
      refine pg_wcallV (As := [.int (iI (((a : Nat) : Int))), .int (iI (((b2 : Nat) : Int)))]) (rest := []) (l1 := (lwJ aJ cJ f) :: (xC X S ++ [(lwD aD cD g)])) (l2 := []) (w := mC Y S t) (w' := mC Y S 2) SC (pg_cY hYX (c_X1_isClose_2 l Y S t a b2 ha hb2 h2 hsa hsb)) pT_st pT_h (cwV 2 hts gL_law_X1_isClose rfl rfl rfl (by decide +kernel) ⟨Nat.le_of_ble_eq_true rfl, Nat.le_of_ble_eq_true rfl⟩) (va_recv hKY hP (ci := 1) (q0 := 7) rfl rfl) hKY hP hD hS rfl rfl hl.1 rfl (Nat.le_of_ble_eq_true rfl) dL_law_803 ⟨hce.1, hce.2⟩ (fun H locs hP hD hS => ?_)
      have hP : va_P (xG X) vwCl (lwW X Y S S 2 (lwJ aJ cJ f) (lwD aD cD g)) H := hP
      have hD : va_D (fun q => s.heap.size ≤ q) (lwW X Y S S 2 (lwJ aJ cJ f) (lwD aD cD g)) := hD
      refine lv_istore (lv' := [(7, .int (iI 0)), (6, .int (iI 2)), (0, .ref b), (1, .ref ((xa X 0))), (2, .ref ((xa Y 0))), (3, .ref aJ), (4, .ref aD), (5, .int (iI ((i : Int))))]) hx hb dL_law_806 hl (by decide) rfl (fun ls hl => ?_)
      refine lv_aload_n hx hb dL_law_808 rfl (lv_at hl 4 rfl) ?_
      refine pg_callV (As := []) (rest := []) SC (c_X1_thrown l Y S 2) mB_st (lw_mB hYX hKY hP) (cwV 0 hts gL_law_X1_thrown rfl rfl rfl (by decide +kernel) ⟨Nat.le_of_ble_eq_true rfl, Nat.le_of_ble_eq_true rfl⟩) (va_recv hKY hP (ci := 1) (q0 := 7) rfl rfl) rfl hl.1 rfl (Nat.le_of_ble_eq_true rfl) dL_law_809 ⟨hce.1, hce.2⟩ ?_
      refine lv_iload hx hb dL_law_812 (lv_at hl 1 rfl) ?_
      refine lw_same (tgt := 819) hx hb (⟨by omega, by omega⟩) dL_law_814 (by decide) ?_
      refine lv_iload hx hb dL_law_819 (lv_at hl 1 rfl) ?_
      refine pg_if_ne (tgt := 843) hx hb dL_law_821 (by decide) (⟨by omega, by omega⟩) (fun _ => ?_) (fun h9 => absurd h9 (by omega))
      refine lv_goto (tgt := 2002) hx hb dL_law_843 (by decide) ?_
      exact kk S 2 f g H locs ls ⟨hP, hD, hS, hok⟩ (lv_sub hl [2, 3, 4, 5, 6, 7] rfl)
    · have ha1 : sS S a = 1 := by omega
      have hb1 : sS S b2 = 1 := by omega
      refine lv_aload_n hx hb dL_law_771 rfl (lv_at hl 1 rfl) ?_
      refine lw_sc (j := i + 1) (v := ((a : Nat) : Int)) hx hb hX hbl hbA hS (lv_at hl 0 rfl) (lv_at hl 5 rfl) (by omega) (by omega) hL hv1 dL_law_772 dL_law_773 dL_law_775 dL_law_776 dL_law_777 ?_
      refine lw_sc (j := i + 2) (v := ((b2 : Nat) : Int)) hx hb hX hbl hbA hS (lv_at hl 0 rfl) (lv_at hl 5 rfl) (by omega) (by omega) hL hv2 dL_law_778 dL_law_779 dL_law_781 dL_law_782 dL_law_783 ?_
      refine lv_aload_n hx hb dL_law_784 rfl (lv_at hl 3 rfl) ?_
      refine pg_wcallH (As := [.ref ((xa X 0)), .int (iI (((a : Nat) : Int))), .int (iI (((b2 : Nat) : Int))), .ref aJ]) (rest := []) (l1 := []) (l2 := (lwD aD cD g) :: mC Y S t) (w := (lwJ aJ cJ f) :: xC X S) (w' := (lwJ aJ cJ (vp_updL f 0 (lI 1))) :: xC X S) SC (c_L_isClose_ok l X S hok a b2 ha hb2 ha1 hb1 cJ aJ f) pT_st pT_h (vx_cwSW 4 hts gL_law_L_isClose rfl rfl rfl (by decide +kernel) ⟨Nat.le_of_ble_eq_true rfl, Nat.le_of_ble_eq_true rfl⟩) hKJ hP hD hS rfl rfl hl.1 rfl (Nat.le_of_ble_eq_true rfl) dL_law_785 ⟨hc0.1, hc0.2⟩ (fun H locs hP hD hS => ?_)
      have hP : va_P (xG X) vwCl (lwW X Y S S t (lwJ aJ cJ (vp_updL f 0 (lI 1))) (lwD aD cD g)) H := hP
      have hD : va_D (fun q => s.heap.size ≤ q) (lwW X Y S S t (lwJ aJ cJ (vp_updL f 0 (lI 1))) (lwD aD cD g)) := hD
      refine lv_istore (lv' := [(6, .int (iI 0)), (0, .ref b), (1, .ref ((xa X 0))), (2, .ref ((xa Y 0))), (3, .ref aJ), (4, .ref aD), (5, .int (iI ((i : Int))))]) hx hb dL_law_788 hl (by decide) rfl (fun ls hl => ?_)
      refine lv_aload_n hx hb dL_law_790 rfl (lv_at hl 3 rfl) ?_
      refine lw_sc (j := i + 1) (v := ((a : Nat) : Int)) hx hb hX hbl hbA hS (lv_at hl 1 rfl) (lv_at hl 6 rfl) (by omega) (by omega) hL hv1 dL_law_791 dL_law_792 dL_law_794 dL_law_795 dL_law_796 ?_
      refine lw_sc (j := i + 2) (v := ((b2 : Nat) : Int)) hx hb hX hbl hbA hS (lv_at hl 1 rfl) (lv_at hl 6 rfl) (by omega) (by omega) hL hv2 dL_law_797 dL_law_798 dL_law_800 dL_law_801 dL_law_802 ?_
      refine pg_wcallV (As := [.int (iI (((a : Nat) : Int))), .int (iI (((b2 : Nat) : Int)))]) (rest := []) (l1 := (lwJ aJ cJ (vp_updL f 0 (lI 1))) :: (xC X S ++ [(lwD aD cD g)])) (l2 := []) (w := mC Y S t) (w' := mC Y S 0) SC (pg_cY hYX (c_X1_isClose_ok l Y S t a b2 ha hb2 ha1 hb1)) pT_st pT_h (cwV 2 hts gL_law_X1_isClose rfl rfl rfl (by decide +kernel) ⟨Nat.le_of_ble_eq_true rfl, Nat.le_of_ble_eq_true rfl⟩) (va_recv hKY hP (ci := 1) (q0 := 7) rfl rfl) hKY hP hD hS rfl rfl hl.1 rfl (Nat.le_of_ble_eq_true rfl) dL_law_803 ⟨hc0.1, hc0.2⟩ (fun H locs hP hD hS => ?_)
      have hP : va_P (xG X) vwCl (lwW X Y S S 0 (lwJ aJ cJ (vp_updL f 0 (lI 1))) (lwD aD cD g)) H := hP
      have hD : va_D (fun q => s.heap.size ≤ q) (lwW X Y S S 0 (lwJ aJ cJ (vp_updL f 0 (lI 1))) (lwD aD cD g)) := hD
      refine lv_istore (lv' := [(7, .int (iI 1)), (6, .int (iI 0)), (0, .ref b), (1, .ref ((xa X 0))), (2, .ref ((xa Y 0))), (3, .ref aJ), (4, .ref aD), (5, .int (iI ((i : Int))))]) hx hb dL_law_806 hl (by decide) rfl (fun ls hl => ?_)
      refine lv_aload_n hx hb dL_law_808 rfl (lv_at hl 4 rfl) ?_
      refine pg_callV (As := []) (rest := []) SC (c_X1_thrown l Y S 0) mB_st (lw_mB hYX hKY hP) (cwV 0 hts gL_law_X1_thrown rfl rfl rfl (by decide +kernel) ⟨Nat.le_of_ble_eq_true rfl, Nat.le_of_ble_eq_true rfl⟩) (va_recv hKY hP (ci := 1) (q0 := 7) rfl rfl) rfl hl.1 rfl (Nat.le_of_ble_eq_true rfl) dL_law_809 ⟨hc0.1, hc0.2⟩ ?_
      refine lv_iload hx hb dL_law_812 (lv_at hl 1 rfl) ?_
      refine lw_same (tgt := 819) hx hb (⟨by omega, by omega⟩) dL_law_814 (by decide) ?_
      refine lv_iload hx hb dL_law_819 (lv_at hl 1 rfl) ?_
      refine pg_if_ne (tgt := 843) hx hb dL_law_821 (by decide) (⟨by omega, by omega⟩) (fun h9 => absurd rfl h9) (fun _ => ?_)
      refine lv_aload_n hx hb dL_law_824 rfl (lv_at hl 5 rfl) ?_
      refine lv_iconst (v := iI 0) hx hb dL_law_825 rfl ?_
      refine pg_lld0 hx hb hKJ hP 0 2 rfl rfl dL_law_826 ?_
      refine lv_iload hx hb dL_law_827 (lv_at hl 0 rfl) ?_
      refine lw_lbool hx hb (by omega) dL_law_829 dL_law_832 dL_law_833 dL_law_836 ?_
      refine lw_leq (tgt := 843) hx hb rfl dL_law_837 dL_law_838 (by decide) ?_
      refine lv_goto (tgt := 2002) hx hb dL_law_843 (by decide) ?_
      exact pg_widen (Nat.le_succ _) (Nat.le_add_right _ 6) (kk S 0 ((vp_updL f 0 (lI 1))) g H locs ls ⟨hP, hD, hS, hok⟩ (lv_sub hl [2, 3, 4, 5, 6, 7] rfl))
set_option maxRecDepth 100000 in
set_option maxHeartbeats 4000000 in
theorem lw_op11 {p : Program} {l : Launch} {e : Env} {s : State} {m : MethodId} {args : Array Value} {below : List Frame} {meth : Method} {c : Code} {H : Heap} {locs : List Loc} {cells slots : Nat} {Q : State → Prop} {b L : Nat} {xs : Nat → Int32} {X Y : pgX} {cJ cD aJ aD : Nat} (hC : lwK l p s m c args b L xs X Y cJ cD) {i : Nat} (hi : i + 5 ≤ L) {S : pgS} {t : Int} {f : Nat → Int64} {g : Nat → UInt64} (hG : lwG s X Y cJ aJ cD aD S t f g H locs) (hce : cells + 1 ≤ 1047 ∧ slots + 6 ≤ 8369) {ls : Array Slot} (hl : lv_has ls 9 (lwB b X Y aJ aD i)) (kk : ∀ (S1 : pgS) (t1 : Int) (f1 : Nat → Int64) (g1 : Nat → UInt64) (H1 : Heap) (locs1 : List Loc) (ls1 : Array Slot), lwG s X Y cJ aJ cD aD S1 t1 f1 g1 H1 locs1 → lv_has ls1 9 (lwB b X Y aJ aD i) → W p l e room_1 s m args below meth c H1 locs1 (cells + 1) (slots + 6) Q (F0 m 2002 ls1 [])) : W p l e room_1 s m args below meth c H locs cells slots Q (F0 m 846 ls []) := by
  obtain ⟨SC, hfl, hX, hbl, hL, hYX, hKJ, hKD, hKY, hE, hN⟩ := id hC
  obtain ⟨hx, hb, hml, hown, hts⟩ := id SC
  obtain ⟨hP, hD, hS, hok⟩ := id hG
  have hKX : va_K (xG X) vwCl (xTy X) s := va_K.sub hKJ [0, 1] rfl
  have hbA : ¬ s.heap.size ≤ b := by omega
  have hc0 : cells ≤ 1047 ∧ slots ≤ 8369 := by omega
  have hl : lv_has ls 9 [(0, .ref b), (1, .ref ((xa X 0))), (2, .ref ((xa Y 0))), (3, .ref aJ), (4, .ref aD), (5, .int (iI ((i : Int))))] := hl
  obtain ⟨v1, hv1, hq1⟩ : ∃ v : Int, xs (i + 1) = iI v ∧ inI v := ⟨_, iI_self _, inI_self _⟩
  obtain ⟨v2, hv2, hq2⟩ : ∃ v : Int, xs (i + 2) = iI v ∧ inI v := ⟨_, iI_self _, inI_self _⟩
  obtain ⟨v3, hv3, hq3⟩ : ∃ v : Int, xs (i + 3) = iI v ∧ inI v := ⟨_, iI_self _, inI_self _⟩
  by_cases h1 : v1 < 0 ∨ 12 ≤ v1 ∨ v2 < 0 ∨ 12 ≤ v2 ∨ v3 < 0 ∨ 12 ≤ v3
  · refine lv_aload_n hx hb dL_law_846 rfl (lv_at hl 1 rfl) ?_
    refine lw_sc (j := i + 1) (v := v1) hx hb hX hbl hbA hS (lv_at hl 0 rfl) (lv_at hl 5 rfl) (by omega) (by omega) hL hv1 dL_law_847 dL_law_848 dL_law_850 dL_law_851 dL_law_852 ?_
    refine lw_sc (j := i + 2) (v := v2) hx hb hX hbl hbA hS (lv_at hl 0 rfl) (lv_at hl 5 rfl) (by omega) (by omega) hL hv2 dL_law_853 dL_law_854 dL_law_856 dL_law_857 dL_law_858 ?_
    refine lw_sc (j := i + 3) (v := v3) hx hb hX hbl hbA hS (lv_at hl 0 rfl) (lv_at hl 5 rfl) (by omega) (by omega) hL hv3 dL_law_859 dL_law_860 dL_law_862 dL_law_863 dL_law_864 ?_
    refine lv_aload_n hx hb dL_law_865 rfl (lv_at hl 3 rfl) ?_
    refine pg_wcallH (As := [.ref ((xa X 0)), .int (iI v1), .int (iI v2), .int (iI v3), .ref aJ]) (rest := []) (l1 := []) (l2 := lwW X Y S S t (lwJ aJ cJ f) (lwD aD cD g)) (w := []) (w' := []) SC (c_L_isStraight_1 l hfl s.heap.size X S v1 v2 v3 hq1 hq2 hq3 h1 aJ) xW_st (lw_xW hKX hP hS hE hN) (vx_cwSW 5 hts gL_law_L_isStraight rfl rfl rfl (by decide +kernel) ⟨Nat.le_of_ble_eq_true rfl, Nat.le_of_ble_eq_true rfl⟩) (va_K.sub hKX [] rfl) hP hD hS rfl rfl hl.1 rfl (Nat.le_of_ble_eq_true rfl) dL_law_866 ⟨hce.1, hce.2⟩ (fun H locs hP hD hS => ?_)
    have hP : va_P (xG X) vwCl (lwW X Y S S t (lwJ aJ cJ f) (lwD aD cD g)) H := hP
    have hD : va_D (fun q => s.heap.size ≤ q) (lwW X Y S S t (lwJ aJ cJ f) (lwD aD cD g)) := hD
    refine lv_istore (lv' := [(6, .int (iI 1)), (0, .ref b), (1, .ref ((xa X 0))), (2, .ref ((xa Y 0))), (3, .ref aJ), (4, .ref aD), (5, .int (iI ((i : Int))))]) hx hb dL_law_869 hl (by decide) rfl (fun ls hl => ?_)
    refine lv_aload_n hx hb dL_law_871 rfl (lv_at hl 3 rfl) ?_
    refine lw_sc (j := i + 1) (v := v1) hx hb hX hbl hbA hS (lv_at hl 1 rfl) (lv_at hl 6 rfl) (by omega) (by omega) hL hv1 dL_law_872 dL_law_873 dL_law_875 dL_law_876 dL_law_877 ?_
    refine lw_sc (j := i + 2) (v := v2) hx hb hX hbl hbA hS (lv_at hl 1 rfl) (lv_at hl 6 rfl) (by omega) (by omega) hL hv2 dL_law_878 dL_law_879 dL_law_881 dL_law_882 dL_law_883 ?_
    refine lw_sc (j := i + 3) (v := v3) hx hb hX hbl hbA hS (lv_at hl 1 rfl) (lv_at hl 6 rfl) (by omega) (by omega) hL hv3 dL_law_884 dL_law_885 dL_law_887 dL_law_888 dL_law_889 ?_
    refine pg_wcallV (As := [.int (iI v1), .int (iI v2), .int (iI v3)]) (rest := []) (l1 := (lwJ aJ cJ f) :: (xC X S ++ [(lwD aD cD g)])) (l2 := []) (w := mC Y S t) (w' := mC Y S 1) SC (pg_cY hYX (c_X1_isStraight_1 l Y S t v1 v2 v3 hq1 hq2 hq3 h1)) pT_st pT_h (cwV 3 hts gL_law_X1_isStraight rfl rfl rfl (by decide +kernel) ⟨Nat.le_of_ble_eq_true rfl, Nat.le_of_ble_eq_true rfl⟩) (va_recv hKY hP (ci := 1) (q0 := 7) rfl rfl) hKY hP hD hS rfl rfl hl.1 rfl (Nat.le_of_ble_eq_true rfl) dL_law_890 ⟨hce.1, hce.2⟩ (fun H locs hP hD hS => ?_)
    have hP : va_P (xG X) vwCl (lwW X Y S S 1 (lwJ aJ cJ f) (lwD aD cD g)) H := hP
    have hD : va_D (fun q => s.heap.size ≤ q) (lwW X Y S S 1 (lwJ aJ cJ f) (lwD aD cD g)) := hD
    refine lv_istore (lv' := [(7, .int (iI 0)), (6, .int (iI 1)), (0, .ref b), (1, .ref ((xa X 0))), (2, .ref ((xa Y 0))), (3, .ref aJ), (4, .ref aD), (5, .int (iI ((i : Int))))]) hx hb dL_law_893 hl (by decide) rfl (fun ls hl => ?_)
    refine lv_aload_n hx hb dL_law_895 rfl (lv_at hl 4 rfl) ?_
    refine pg_callV (As := []) (rest := []) SC (c_X1_thrown l Y S 1) mB_st (lw_mB hYX hKY hP) (cwV 0 hts gL_law_X1_thrown rfl rfl rfl (by decide +kernel) ⟨Nat.le_of_ble_eq_true rfl, Nat.le_of_ble_eq_true rfl⟩) (va_recv hKY hP (ci := 1) (q0 := 7) rfl rfl) rfl hl.1 rfl (Nat.le_of_ble_eq_true rfl) dL_law_896 ⟨hce.1, hce.2⟩ ?_
    refine lv_iload hx hb dL_law_899 (lv_at hl 1 rfl) ?_
    refine lw_same (tgt := 906) hx hb (⟨by omega, by omega⟩) dL_law_901 (by decide) ?_
    refine lv_iload hx hb dL_law_906 (lv_at hl 1 rfl) ?_
    refine pg_if_ne (tgt := 930) hx hb dL_law_908 (by decide) (⟨by omega, by omega⟩) (fun _ => ?_) (fun h9 => absurd h9 (by omega))
    refine lv_goto (tgt := 2002) hx hb dL_law_930 (by decide) ?_
    exact kk S 1 f g H locs ls ⟨hP, hD, hS, hok⟩ (lv_sub hl [2, 3, 4, 5, 6, 7] rfl)
  · obtain ⟨a, rfl⟩ : ∃ z : Nat, v1 = (z : Int) := ⟨v1.toNat, by omega⟩
    obtain ⟨b2, rfl⟩ : ∃ z : Nat, v2 = (z : Int) := ⟨v2.toNat, by omega⟩
    obtain ⟨c2, rfl⟩ : ∃ z : Nat, v3 = (z : Int) := ⟨v3.toNat, by omega⟩
    have ha : a < 12 := by omega
    have hb2 : b2 < 12 := by omega
    have hc2 : c2 < 12 := by omega
    have hsa := hok.1 a
    have hsb := hok.1 b2
    have hsc := hok.1 c2
    by_cases h2 : sS S a = 0 ∨ sS S b2 = 0 ∨ sS S c2 = 0
    · refine lv_aload_n hx hb dL_law_846 rfl (lv_at hl 1 rfl) ?_
      refine lw_sc (j := i + 1) (v := ((a : Nat) : Int)) hx hb hX hbl hbA hS (lv_at hl 0 rfl) (lv_at hl 5 rfl) (by omega) (by omega) hL hv1 dL_law_847 dL_law_848 dL_law_850 dL_law_851 dL_law_852 ?_
      refine lw_sc (j := i + 2) (v := ((b2 : Nat) : Int)) hx hb hX hbl hbA hS (lv_at hl 0 rfl) (lv_at hl 5 rfl) (by omega) (by omega) hL hv2 dL_law_853 dL_law_854 dL_law_856 dL_law_857 dL_law_858 ?_
      refine lw_sc (j := i + 3) (v := ((c2 : Nat) : Int)) hx hb hX hbl hbA hS (lv_at hl 0 rfl) (lv_at hl 5 rfl) (by omega) (by omega) hL hv3 dL_law_859 dL_law_860 dL_law_862 dL_law_863 dL_law_864 ?_
      refine lv_aload_n hx hb dL_law_865 rfl (lv_at hl 3 rfl) ?_
      refine pg_wcallH (As := [.ref ((xa X 0)), .int (iI (((a : Nat) : Int))), .int (iI (((b2 : Nat) : Int))), .int (iI (((c2 : Nat) : Int))), .ref aJ]) (rest := []) (l1 := []) (l2 := lwW X Y S S t (lwJ aJ cJ f) (lwD aD cD g)) (w := []) (w' := []) SC (c_L_isStraight_2 l hfl s.heap.size X S a b2 c2 ha hb2 hc2 h2 hsa hsb hsc aJ) xW_st (lw_xW hKX hP hS hE hN) (vx_cwSW 5 hts gL_law_L_isStraight rfl rfl rfl (by decide +kernel) ⟨Nat.le_of_ble_eq_true rfl, Nat.le_of_ble_eq_true rfl⟩) (va_K.sub hKX [] rfl) hP hD hS rfl rfl hl.1 rfl (Nat.le_of_ble_eq_true rfl) dL_law_866 ⟨hce.1, hce.2⟩ (fun H locs hP hD hS => ?_)
      have hP : va_P (xG X) vwCl (lwW X Y S S t (lwJ aJ cJ f) (lwD aD cD g)) H := hP
      have hD : va_D (fun q => s.heap.size ≤ q) (lwW X Y S S t (lwJ aJ cJ f) (lwD aD cD g)) := hD
      refine lv_istore (lv' := [(6, .int (iI 2)), (0, .ref b), (1, .ref ((xa X 0))), (2, .ref ((xa Y 0))), (3, .ref aJ), (4, .ref aD), (5, .int (iI ((i : Int))))]) hx hb dL_law_869 hl (by decide) rfl (fun ls hl => ?_)
      refine lv_aload_n hx hb dL_law_871 rfl (lv_at hl 3 rfl) ?_
      refine lw_sc (j := i + 1) (v := ((a : Nat) : Int)) hx hb hX hbl hbA hS (lv_at hl 1 rfl) (lv_at hl 6 rfl) (by omega) (by omega) hL hv1 dL_law_872 dL_law_873 dL_law_875 dL_law_876 dL_law_877 ?_
      refine lw_sc (j := i + 2) (v := ((b2 : Nat) : Int)) hx hb hX hbl hbA hS (lv_at hl 1 rfl) (lv_at hl 6 rfl) (by omega) (by omega) hL hv2 dL_law_878 dL_law_879 dL_law_881 dL_law_882 dL_law_883 ?_
      refine lw_sc (j := i + 3) (v := ((c2 : Nat) : Int)) hx hb hX hbl hbA hS (lv_at hl 1 rfl) (lv_at hl 6 rfl) (by omega) (by omega) hL hv3 dL_law_884 dL_law_885 dL_law_887 dL_law_888 dL_law_889 ?_
      refine pg_wcallV (As := [.int (iI (((a : Nat) : Int))), .int (iI (((b2 : Nat) : Int))), .int (iI (((c2 : Nat) : Int)))]) (rest := []) (l1 := (lwJ aJ cJ f) :: (xC X S ++ [(lwD aD cD g)])) (l2 := []) (w := mC Y S t) (w' := mC Y S 2) SC (pg_cY hYX (c_X1_isStraight_2 l Y S t a b2 c2 ha hb2 hc2 h2 hsa hsb hsc)) pT_st pT_h (cwV 3 hts gL_law_X1_isStraight rfl rfl rfl (by decide +kernel) ⟨Nat.le_of_ble_eq_true rfl, Nat.le_of_ble_eq_true rfl⟩) (va_recv hKY hP (ci := 1) (q0 := 7) rfl rfl) hKY hP hD hS rfl rfl hl.1 rfl (Nat.le_of_ble_eq_true rfl) dL_law_890 ⟨hce.1, hce.2⟩ (fun H locs hP hD hS => ?_)
      have hP : va_P (xG X) vwCl (lwW X Y S S 2 (lwJ aJ cJ f) (lwD aD cD g)) H := hP
      have hD : va_D (fun q => s.heap.size ≤ q) (lwW X Y S S 2 (lwJ aJ cJ f) (lwD aD cD g)) := hD
      refine lv_istore (lv' := [(7, .int (iI 0)), (6, .int (iI 2)), (0, .ref b), (1, .ref ((xa X 0))), (2, .ref ((xa Y 0))), (3, .ref aJ), (4, .ref aD), (5, .int (iI ((i : Int))))]) hx hb dL_law_893 hl (by decide) rfl (fun ls hl => ?_)
      refine lv_aload_n hx hb dL_law_895 rfl (lv_at hl 4 rfl) ?_
      refine pg_callV (As := []) (rest := []) SC (c_X1_thrown l Y S 2) mB_st (lw_mB hYX hKY hP) (cwV 0 hts gL_law_X1_thrown rfl rfl rfl (by decide +kernel) ⟨Nat.le_of_ble_eq_true rfl, Nat.le_of_ble_eq_true rfl⟩) (va_recv hKY hP (ci := 1) (q0 := 7) rfl rfl) rfl hl.1 rfl (Nat.le_of_ble_eq_true rfl) dL_law_896 ⟨hce.1, hce.2⟩ ?_
      refine lv_iload hx hb dL_law_899 (lv_at hl 1 rfl) ?_
      refine lw_same (tgt := 906) hx hb (⟨by omega, by omega⟩) dL_law_901 (by decide) ?_
      refine lv_iload hx hb dL_law_906 (lv_at hl 1 rfl) ?_
      refine pg_if_ne (tgt := 930) hx hb dL_law_908 (by decide) (⟨by omega, by omega⟩) (fun _ => ?_) (fun h9 => absurd h9 (by omega))
      refine lv_goto (tgt := 2002) hx hb dL_law_930 (by decide) ?_
      exact kk S 2 f g H locs ls ⟨hP, hD, hS, hok⟩ (lv_sub hl [2, 3, 4, 5, 6, 7] rfl)
    · have ha1 : sS S a = 1 := by omega
      have hb1 : sS S b2 = 1 := by omega
      have hc1 : sS S c2 = 1 := by omega
      refine lv_aload_n hx hb dL_law_846 rfl (lv_at hl 1 rfl) ?_
      refine lw_sc (j := i + 1) (v := ((a : Nat) : Int)) hx hb hX hbl hbA hS (lv_at hl 0 rfl) (lv_at hl 5 rfl) (by omega) (by omega) hL hv1 dL_law_847 dL_law_848 dL_law_850 dL_law_851 dL_law_852 ?_
      refine lw_sc (j := i + 2) (v := ((b2 : Nat) : Int)) hx hb hX hbl hbA hS (lv_at hl 0 rfl) (lv_at hl 5 rfl) (by omega) (by omega) hL hv2 dL_law_853 dL_law_854 dL_law_856 dL_law_857 dL_law_858 ?_
      refine lw_sc (j := i + 3) (v := ((c2 : Nat) : Int)) hx hb hX hbl hbA hS (lv_at hl 0 rfl) (lv_at hl 5 rfl) (by omega) (by omega) hL hv3 dL_law_859 dL_law_860 dL_law_862 dL_law_863 dL_law_864 ?_
      refine lv_aload_n hx hb dL_law_865 rfl (lv_at hl 3 rfl) ?_
      refine pg_wcallH (As := [.ref ((xa X 0)), .int (iI (((a : Nat) : Int))), .int (iI (((b2 : Nat) : Int))), .int (iI (((c2 : Nat) : Int))), .ref aJ]) (rest := []) (l1 := []) (l2 := (lwD aD cD g) :: mC Y S t) (w := (lwJ aJ cJ f) :: xC X S) (w' := (lwJ aJ cJ (vp_updL f 0 (lI 1))) :: xC X S) SC (c_L_isStraight_ok l X S hok a b2 c2 ha hb2 hc2 ha1 hb1 hc1 cJ aJ f) pT_st pT_h (vx_cwSW 5 hts gL_law_L_isStraight rfl rfl rfl (by decide +kernel) ⟨Nat.le_of_ble_eq_true rfl, Nat.le_of_ble_eq_true rfl⟩) hKJ hP hD hS rfl rfl hl.1 rfl (Nat.le_of_ble_eq_true rfl) dL_law_866 ⟨hc0.1, hc0.2⟩ (fun H locs hP hD hS => ?_)
      have hP : va_P (xG X) vwCl (lwW X Y S S t (lwJ aJ cJ (vp_updL f 0 (lI 1))) (lwD aD cD g)) H := hP
      have hD : va_D (fun q => s.heap.size ≤ q) (lwW X Y S S t (lwJ aJ cJ (vp_updL f 0 (lI 1))) (lwD aD cD g)) := hD
      refine lv_istore (lv' := [(6, .int (iI 0)), (0, .ref b), (1, .ref ((xa X 0))), (2, .ref ((xa Y 0))), (3, .ref aJ), (4, .ref aD), (5, .int (iI ((i : Int))))]) hx hb dL_law_869 hl (by decide) rfl (fun ls hl => ?_)
      refine lv_aload_n hx hb dL_law_871 rfl (lv_at hl 3 rfl) ?_
      refine lw_sc (j := i + 1) (v := ((a : Nat) : Int)) hx hb hX hbl hbA hS (lv_at hl 1 rfl) (lv_at hl 6 rfl) (by omega) (by omega) hL hv1 dL_law_872 dL_law_873 dL_law_875 dL_law_876 dL_law_877 ?_
      refine lw_sc (j := i + 2) (v := ((b2 : Nat) : Int)) hx hb hX hbl hbA hS (lv_at hl 1 rfl) (lv_at hl 6 rfl) (by omega) (by omega) hL hv2 dL_law_878 dL_law_879 dL_law_881 dL_law_882 dL_law_883 ?_
      refine lw_sc (j := i + 3) (v := ((c2 : Nat) : Int)) hx hb hX hbl hbA hS (lv_at hl 1 rfl) (lv_at hl 6 rfl) (by omega) (by omega) hL hv3 dL_law_884 dL_law_885 dL_law_887 dL_law_888 dL_law_889 ?_
      refine pg_wcallV (As := [.int (iI (((a : Nat) : Int))), .int (iI (((b2 : Nat) : Int))), .int (iI (((c2 : Nat) : Int)))]) (rest := []) (l1 := (lwJ aJ cJ (vp_updL f 0 (lI 1))) :: (xC X S ++ [(lwD aD cD g)])) (l2 := []) (w := mC Y S t) (w' := mC Y S 0) SC (pg_cY hYX (c_X1_isStraight_ok l Y S t hok a b2 c2 ha hb2 hc2 ha1 hb1 hc1)) pT_st pT_h (cwV 3 hts gL_law_X1_isStraight rfl rfl rfl (by decide +kernel) ⟨Nat.le_of_ble_eq_true rfl, Nat.le_of_ble_eq_true rfl⟩) (va_recv hKY hP (ci := 1) (q0 := 7) rfl rfl) hKY hP hD hS rfl rfl hl.1 rfl (Nat.le_of_ble_eq_true rfl) dL_law_890 ⟨hc0.1, hc0.2⟩ (fun H locs hP hD hS => ?_)
      have hP : va_P (xG X) vwCl (lwW X Y S S 0 (lwJ aJ cJ (vp_updL f 0 (lI 1))) (lwD aD cD g)) H := hP
      have hD : va_D (fun q => s.heap.size ≤ q) (lwW X Y S S 0 (lwJ aJ cJ (vp_updL f 0 (lI 1))) (lwD aD cD g)) := hD
      refine lv_istore (lv' := [(7, .int (iI 1)), (6, .int (iI 0)), (0, .ref b), (1, .ref ((xa X 0))), (2, .ref ((xa Y 0))), (3, .ref aJ), (4, .ref aD), (5, .int (iI ((i : Int))))]) hx hb dL_law_893 hl (by decide) rfl (fun ls hl => ?_)
      refine lv_aload_n hx hb dL_law_895 rfl (lv_at hl 4 rfl) ?_
      refine pg_callV (As := []) (rest := []) SC (c_X1_thrown l Y S 0) mB_st (lw_mB hYX hKY hP) (cwV 0 hts gL_law_X1_thrown rfl rfl rfl (by decide +kernel) ⟨Nat.le_of_ble_eq_true rfl, Nat.le_of_ble_eq_true rfl⟩) (va_recv hKY hP (ci := 1) (q0 := 7) rfl rfl) rfl hl.1 rfl (Nat.le_of_ble_eq_true rfl) dL_law_896 ⟨hc0.1, hc0.2⟩ ?_
      refine lv_iload hx hb dL_law_899 (lv_at hl 1 rfl) ?_
      refine lw_same (tgt := 906) hx hb (⟨by omega, by omega⟩) dL_law_901 (by decide) ?_
      refine lv_iload hx hb dL_law_906 (lv_at hl 1 rfl) ?_
      refine pg_if_ne (tgt := 930) hx hb dL_law_908 (by decide) (⟨by omega, by omega⟩) (fun h9 => absurd rfl h9) (fun _ => ?_)
      refine lv_aload_n hx hb dL_law_911 rfl (lv_at hl 5 rfl) ?_
      refine lv_iconst (v := iI 0) hx hb dL_law_912 rfl ?_
      refine pg_lld0 hx hb hKJ hP 0 2 rfl rfl dL_law_913 ?_
      refine lv_iload hx hb dL_law_914 (lv_at hl 0 rfl) ?_
      refine lw_lbool hx hb (by omega) dL_law_916 dL_law_919 dL_law_920 dL_law_923 ?_
      refine lw_leq (tgt := 930) hx hb rfl dL_law_924 dL_law_925 (by decide) ?_
      refine lv_goto (tgt := 2002) hx hb dL_law_930 (by decide) ?_
      exact pg_widen (Nat.le_succ _) (Nat.le_add_right _ 6) (kk S 0 ((vp_updL f 0 (lI 1))) g H locs ls ⟨hP, hD, hS, hok⟩ (lv_sub hl [2, 3, 4, 5, 6, 7] rfl))
set_option maxRecDepth 100000 in
set_option maxHeartbeats 4000000 in
theorem lw_op12 {p : Program} {l : Launch} {e : Env} {s : State} {m : MethodId} {args : Array Value} {below : List Frame} {meth : Method} {c : Code} {H : Heap} {locs : List Loc} {cells slots : Nat} {Q : State → Prop} {b L : Nat} {xs : Nat → Int32} {X Y : pgX} {cJ cD aJ aD : Nat} (hC : lwK l p s m c args b L xs X Y cJ cD) {i : Nat} (hi : i + 5 ≤ L) {S : pgS} {t : Int} {f : Nat → Int64} {g : Nat → UInt64} (hG : lwG s X Y cJ aJ cD aD S t f g H locs) (hce : cells + 1 ≤ 1047 ∧ slots + 6 ≤ 8369) {ls : Array Slot} (hl : lv_has ls 9 (lwB b X Y aJ aD i)) (kk : ∀ (S1 : pgS) (t1 : Int) (f1 : Nat → Int64) (g1 : Nat → UInt64) (H1 : Heap) (locs1 : List Loc) (ls1 : Array Slot), lwG s X Y cJ aJ cD aD S1 t1 f1 g1 H1 locs1 → lv_has ls1 9 (lwB b X Y aJ aD i) → W p l e room_1 s m args below meth c H1 locs1 (cells + 1) (slots + 6) Q (F0 m 2002 ls1 [])) : W p l e room_1 s m args below meth c H locs cells slots Q (F0 m 933 ls []) := by
  obtain ⟨SC, hfl, hX, hbl, hL, hYX, hKJ, hKD, hKY, hE, hN⟩ := id hC
  obtain ⟨hx, hb, hml, hown, hts⟩ := id SC
  obtain ⟨hP, hD, hS, hok⟩ := id hG
  have hKX : va_K (xG X) vwCl (xTy X) s := va_K.sub hKJ [0, 1] rfl
  have hbA : ¬ s.heap.size ≤ b := by omega
  have hc0 : cells ≤ 1047 ∧ slots ≤ 8369 := by omega
  have hl : lv_has ls 9 [(0, .ref b), (1, .ref ((xa X 0))), (2, .ref ((xa Y 0))), (3, .ref aJ), (4, .ref aD), (5, .int (iI ((i : Int))))] := hl
  obtain ⟨v1, hv1, hq1⟩ : ∃ v : Int, xs (i + 1) = iI v ∧ inI v := ⟨_, iI_self _, inI_self _⟩
  by_cases h1 : v1 < 0 ∨ 12 ≤ v1
  · refine lv_aload_n hx hb dL_law_933 rfl (lv_at hl 1 rfl) ?_
    refine lw_sc (j := i + 1) (v := v1) hx hb hX hbl hbA hS (lv_at hl 0 rfl) (lv_at hl 5 rfl) (by omega) (by omega) hL hv1 dL_law_934 dL_law_935 dL_law_937 dL_law_938 dL_law_939 ?_
    refine lv_aload_n hx hb dL_law_940 rfl (lv_at hl 3 rfl) ?_
    refine pg_wcallH (As := [.ref ((xa X 0)), .int (iI v1), .ref aJ]) (rest := []) (l1 := []) (l2 := lwW X Y S S t (lwJ aJ cJ f) (lwD aD cD g)) (w := []) (w' := []) SC (c_L_nearest_1 l hfl s.heap.size X S v1 hq1 h1 aJ) xW_st (lw_xW hKX hP hS hE hN) (vx_cwSW 3 hts gL_law_L_nearest rfl rfl rfl (by decide +kernel) ⟨Nat.le_of_ble_eq_true rfl, Nat.le_of_ble_eq_true rfl⟩) (va_K.sub hKX [] rfl) hP hD hS rfl rfl hl.1 rfl (Nat.le_of_ble_eq_true rfl) dL_law_941 ⟨hce.1, hce.2⟩ (fun H locs hP hD hS => ?_)
    have hP : va_P (xG X) vwCl (lwW X Y S S t (lwJ aJ cJ f) (lwD aD cD g)) H := hP
    have hD : va_D (fun q => s.heap.size ≤ q) (lwW X Y S S t (lwJ aJ cJ f) (lwD aD cD g)) := hD
    refine lv_istore (lv' := [(6, .int (iI 1)), (0, .ref b), (1, .ref ((xa X 0))), (2, .ref ((xa Y 0))), (3, .ref aJ), (4, .ref aD), (5, .int (iI ((i : Int))))]) hx hb dL_law_944 hl (by decide) rfl (fun ls hl => ?_)
    refine lv_aload_n hx hb dL_law_946 rfl (lv_at hl 3 rfl) ?_
    refine lw_sc (j := i + 1) (v := v1) hx hb hX hbl hbA hS (lv_at hl 1 rfl) (lv_at hl 6 rfl) (by omega) (by omega) hL hv1 dL_law_947 dL_law_948 dL_law_950 dL_law_951 dL_law_952 ?_
    refine pg_wcallV (As := [.int (iI v1)]) (rest := []) (l1 := (lwJ aJ cJ f) :: (xC X S ++ [(lwD aD cD g)])) (l2 := []) (w := mC Y S t) (w' := mC Y S 1) SC (pg_cY hYX (c_X1_nearest_1 l Y S t v1 hq1 h1)) pT_st pT_h (cwV 1 hts gL_law_X1_nearest rfl rfl rfl (by decide +kernel) ⟨Nat.le_of_ble_eq_true rfl, Nat.le_of_ble_eq_true rfl⟩) (va_recv hKY hP (ci := 1) (q0 := 7) rfl rfl) hKY hP hD hS rfl rfl hl.1 rfl (Nat.le_of_ble_eq_true rfl) dL_law_953 ⟨hce.1, hce.2⟩ (fun H locs hP hD hS => ?_)
    have hP : va_P (xG X) vwCl (lwW X Y S S 1 (lwJ aJ cJ f) (lwD aD cD g)) H := hP
    have hD : va_D (fun q => s.heap.size ≤ q) (lwW X Y S S 1 (lwJ aJ cJ f) (lwD aD cD g)) := hD
    refine lv_istore (lv' := [(7, .int (iI 0)), (6, .int (iI 1)), (0, .ref b), (1, .ref ((xa X 0))), (2, .ref ((xa Y 0))), (3, .ref aJ), (4, .ref aD), (5, .int (iI ((i : Int))))]) hx hb dL_law_956 hl (by decide) rfl (fun ls hl => ?_)
    refine lv_aload_n hx hb dL_law_958 rfl (lv_at hl 4 rfl) ?_
    refine pg_callV (As := []) (rest := []) SC (c_X1_thrown l Y S 1) mB_st (lw_mB hYX hKY hP) (cwV 0 hts gL_law_X1_thrown rfl rfl rfl (by decide +kernel) ⟨Nat.le_of_ble_eq_true rfl, Nat.le_of_ble_eq_true rfl⟩) (va_recv hKY hP (ci := 1) (q0 := 7) rfl rfl) rfl hl.1 rfl (Nat.le_of_ble_eq_true rfl) dL_law_959 ⟨hce.1, hce.2⟩ ?_
    refine lv_iload hx hb dL_law_962 (lv_at hl 1 rfl) ?_
    refine lw_same (tgt := 969) hx hb (⟨by omega, by omega⟩) dL_law_964 (by decide) ?_
    refine lv_iload hx hb dL_law_969 (lv_at hl 1 rfl) ?_
    refine pg_if_ne (tgt := 986) hx hb dL_law_971 (by decide) (⟨by omega, by omega⟩) (fun _ => ?_) (fun h9 => absurd h9 (by omega))
    refine lv_goto (tgt := 2002) hx hb dL_law_986 (by decide) ?_
    exact kk S 1 f g H locs ls ⟨hP, hD, hS, hok⟩ (lv_sub hl [2, 3, 4, 5, 6, 7] rfl)
  · obtain ⟨k, rfl⟩ : ∃ z : Nat, v1 = (z : Int) := ⟨v1.toNat, by omega⟩
    have hk : k < 12 := by omega
    have hs1 := hok.1 k
    by_cases h2 : sS S k = 0
    · refine lv_aload_n hx hb dL_law_933 rfl (lv_at hl 1 rfl) ?_
      refine lw_sc (j := i + 1) (v := ((k : Nat) : Int)) hx hb hX hbl hbA hS (lv_at hl 0 rfl) (lv_at hl 5 rfl) (by omega) (by omega) hL hv1 dL_law_934 dL_law_935 dL_law_937 dL_law_938 dL_law_939 ?_
      refine lv_aload_n hx hb dL_law_940 rfl (lv_at hl 3 rfl) ?_
      refine pg_wcallH (As := [.ref ((xa X 0)), .int (iI (((k : Nat) : Int))), .ref aJ]) (rest := []) (l1 := []) (l2 := lwW X Y S S t (lwJ aJ cJ f) (lwD aD cD g)) (w := []) (w' := []) SC (c_L_nearest_2 l hfl s.heap.size X S k hk h2 aJ) xW_st (lw_xW hKX hP hS hE hN) (vx_cwSW 3 hts gL_law_L_nearest rfl rfl rfl (by decide +kernel) ⟨Nat.le_of_ble_eq_true rfl, Nat.le_of_ble_eq_true rfl⟩) (va_K.sub hKX [] rfl) hP hD hS rfl rfl hl.1 rfl (Nat.le_of_ble_eq_true rfl) dL_law_941 ⟨hce.1, hce.2⟩ (fun H locs hP hD hS => ?_)
      have hP : va_P (xG X) vwCl (lwW X Y S S t (lwJ aJ cJ f) (lwD aD cD g)) H := hP
      have hD : va_D (fun q => s.heap.size ≤ q) (lwW X Y S S t (lwJ aJ cJ f) (lwD aD cD g)) := hD
      refine lv_istore (lv' := [(6, .int (iI 2)), (0, .ref b), (1, .ref ((xa X 0))), (2, .ref ((xa Y 0))), (3, .ref aJ), (4, .ref aD), (5, .int (iI ((i : Int))))]) hx hb dL_law_944 hl (by decide) rfl (fun ls hl => ?_)
      refine lv_aload_n hx hb dL_law_946 rfl (lv_at hl 3 rfl) ?_
      refine lw_sc (j := i + 1) (v := ((k : Nat) : Int)) hx hb hX hbl hbA hS (lv_at hl 1 rfl) (lv_at hl 6 rfl) (by omega) (by omega) hL hv1 dL_law_947 dL_law_948 dL_law_950 dL_law_951 dL_law_952 ?_
      refine pg_wcallV (As := [.int (iI (((k : Nat) : Int)))]) (rest := []) (l1 := (lwJ aJ cJ f) :: (xC X S ++ [(lwD aD cD g)])) (l2 := []) (w := mC Y S t) (w' := mC Y S 2) SC (pg_cY hYX (c_X1_nearest_2 l Y S t k hk h2)) pT_st pT_h (cwV 1 hts gL_law_X1_nearest rfl rfl rfl (by decide +kernel) ⟨Nat.le_of_ble_eq_true rfl, Nat.le_of_ble_eq_true rfl⟩) (va_recv hKY hP (ci := 1) (q0 := 7) rfl rfl) hKY hP hD hS rfl rfl hl.1 rfl (Nat.le_of_ble_eq_true rfl) dL_law_953 ⟨hce.1, hce.2⟩ (fun H locs hP hD hS => ?_)
      have hP : va_P (xG X) vwCl (lwW X Y S S 2 (lwJ aJ cJ f) (lwD aD cD g)) H := hP
      have hD : va_D (fun q => s.heap.size ≤ q) (lwW X Y S S 2 (lwJ aJ cJ f) (lwD aD cD g)) := hD
      refine lv_istore (lv' := [(7, .int (iI 0)), (6, .int (iI 2)), (0, .ref b), (1, .ref ((xa X 0))), (2, .ref ((xa Y 0))), (3, .ref aJ), (4, .ref aD), (5, .int (iI ((i : Int))))]) hx hb dL_law_956 hl (by decide) rfl (fun ls hl => ?_)
      refine lv_aload_n hx hb dL_law_958 rfl (lv_at hl 4 rfl) ?_
      refine pg_callV (As := []) (rest := []) SC (c_X1_thrown l Y S 2) mB_st (lw_mB hYX hKY hP) (cwV 0 hts gL_law_X1_thrown rfl rfl rfl (by decide +kernel) ⟨Nat.le_of_ble_eq_true rfl, Nat.le_of_ble_eq_true rfl⟩) (va_recv hKY hP (ci := 1) (q0 := 7) rfl rfl) rfl hl.1 rfl (Nat.le_of_ble_eq_true rfl) dL_law_959 ⟨hce.1, hce.2⟩ ?_
      refine lv_iload hx hb dL_law_962 (lv_at hl 1 rfl) ?_
      refine lw_same (tgt := 969) hx hb (⟨by omega, by omega⟩) dL_law_964 (by decide) ?_
      refine lv_iload hx hb dL_law_969 (lv_at hl 1 rfl) ?_
      refine pg_if_ne (tgt := 986) hx hb dL_law_971 (by decide) (⟨by omega, by omega⟩) (fun _ => ?_) (fun h9 => absurd h9 (by omega))
      refine lv_goto (tgt := 2002) hx hb dL_law_986 (by decide) ?_
      exact kk S 2 f g H locs ls ⟨hP, hD, hS, hok⟩ (lv_sub hl [2, 3, 4, 5, 6, 7] rfl)
    · have h3 : sS S k = 1 := by omega
      have hnb := nr_b S k 12
      by_cases h4 : nr S k 12 = -1
      · refine lv_aload_n hx hb dL_law_933 rfl (lv_at hl 1 rfl) ?_
        refine lw_sc (j := i + 1) (v := ((k : Nat) : Int)) hx hb hX hbl hbA hS (lv_at hl 0 rfl) (lv_at hl 5 rfl) (by omega) (by omega) hL hv1 dL_law_934 dL_law_935 dL_law_937 dL_law_938 dL_law_939 ?_
        refine lv_aload_n hx hb dL_law_940 rfl (lv_at hl 3 rfl) ?_
        refine pg_wcallH (As := [.ref ((xa X 0)), .int (iI (((k : Nat) : Int))), .ref aJ]) (rest := []) (l1 := []) (l2 := lwW X Y S S t (lwJ aJ cJ f) (lwD aD cD g)) (w := []) (w' := []) SC (c_L_nearest_3 l hfl s.heap.size X S hok k hk h3 h4 aJ) xW_st (lw_xW hKX hP hS hE hN) (vx_cwSW 3 hts gL_law_L_nearest rfl rfl rfl (by decide +kernel) ⟨Nat.le_of_ble_eq_true rfl, Nat.le_of_ble_eq_true rfl⟩) (va_K.sub hKX [] rfl) hP hD hS rfl rfl hl.1 rfl (Nat.le_of_ble_eq_true rfl) dL_law_941 ⟨hce.1, hce.2⟩ (fun H locs hP hD hS => ?_)
        have hP : va_P (xG X) vwCl (lwW X Y S S t (lwJ aJ cJ f) (lwD aD cD g)) H := hP
        have hD : va_D (fun q => s.heap.size ≤ q) (lwW X Y S S t (lwJ aJ cJ f) (lwD aD cD g)) := hD
        refine lv_istore (lv' := [(6, .int (iI 3)), (0, .ref b), (1, .ref ((xa X 0))), (2, .ref ((xa Y 0))), (3, .ref aJ), (4, .ref aD), (5, .int (iI ((i : Int))))]) hx hb dL_law_944 hl (by decide) rfl (fun ls hl => ?_)
        refine lv_aload_n hx hb dL_law_946 rfl (lv_at hl 3 rfl) ?_
        refine lw_sc (j := i + 1) (v := ((k : Nat) : Int)) hx hb hX hbl hbA hS (lv_at hl 1 rfl) (lv_at hl 6 rfl) (by omega) (by omega) hL hv1 dL_law_947 dL_law_948 dL_law_950 dL_law_951 dL_law_952 ?_
        refine pg_wcallV (As := [.int (iI (((k : Nat) : Int)))]) (rest := []) (l1 := (lwJ aJ cJ f) :: (xC X S ++ [(lwD aD cD g)])) (l2 := []) (w := mC Y S t) (w' := mC Y S 3) SC (pg_cY hYX (c_X1_nearest_3 l Y S t hok k hk h3 h4)) pT_st pT_h (cwV 1 hts gL_law_X1_nearest rfl rfl rfl (by decide +kernel) ⟨Nat.le_of_ble_eq_true rfl, Nat.le_of_ble_eq_true rfl⟩) (va_recv hKY hP (ci := 1) (q0 := 7) rfl rfl) hKY hP hD hS rfl rfl hl.1 rfl (Nat.le_of_ble_eq_true rfl) dL_law_953 ⟨hce.1, hce.2⟩ (fun H locs hP hD hS => ?_)
        have hP : va_P (xG X) vwCl (lwW X Y S S 3 (lwJ aJ cJ f) (lwD aD cD g)) H := hP
        have hD : va_D (fun q => s.heap.size ≤ q) (lwW X Y S S 3 (lwJ aJ cJ f) (lwD aD cD g)) := hD
        refine lv_istore (lv' := [(7, .int (iI 0)), (6, .int (iI 3)), (0, .ref b), (1, .ref ((xa X 0))), (2, .ref ((xa Y 0))), (3, .ref aJ), (4, .ref aD), (5, .int (iI ((i : Int))))]) hx hb dL_law_956 hl (by decide) rfl (fun ls hl => ?_)
        refine lv_aload_n hx hb dL_law_958 rfl (lv_at hl 4 rfl) ?_
        refine pg_callV (As := []) (rest := []) SC (c_X1_thrown l Y S 3) mB_st (lw_mB hYX hKY hP) (cwV 0 hts gL_law_X1_thrown rfl rfl rfl (by decide +kernel) ⟨Nat.le_of_ble_eq_true rfl, Nat.le_of_ble_eq_true rfl⟩) (va_recv hKY hP (ci := 1) (q0 := 7) rfl rfl) rfl hl.1 rfl (Nat.le_of_ble_eq_true rfl) dL_law_959 ⟨hce.1, hce.2⟩ ?_
        refine lv_iload hx hb dL_law_962 (lv_at hl 1 rfl) ?_
        refine lw_same (tgt := 969) hx hb (⟨by omega, by omega⟩) dL_law_964 (by decide) ?_
        refine lv_iload hx hb dL_law_969 (lv_at hl 1 rfl) ?_
        refine pg_if_ne (tgt := 986) hx hb dL_law_971 (by decide) (⟨by omega, by omega⟩) (fun _ => ?_) (fun h9 => absurd h9 (by omega))
        refine lv_goto (tgt := 2002) hx hb dL_law_986 (by decide) ?_
        exact kk S 3 f g H locs ls ⟨hP, hD, hS, hok⟩ (lv_sub hl [2, 3, 4, 5, 6, 7] rfl)
      · refine lv_aload_n hx hb dL_law_933 rfl (lv_at hl 1 rfl) ?_
        refine lw_sc (j := i + 1) (v := ((k : Nat) : Int)) hx hb hX hbl hbA hS (lv_at hl 0 rfl) (lv_at hl 5 rfl) (by omega) (by omega) hL hv1 dL_law_934 dL_law_935 dL_law_937 dL_law_938 dL_law_939 ?_
        refine lv_aload_n hx hb dL_law_940 rfl (lv_at hl 3 rfl) ?_
        refine pg_wcallH (As := [.ref ((xa X 0)), .int (iI (((k : Nat) : Int))), .ref aJ]) (rest := []) (l1 := []) (l2 := (lwD aD cD g) :: mC Y S t) (w := (lwJ aJ cJ f) :: xC X S) (w' := (lwJ aJ cJ (vp_updL f 0 (lI (nr S k 12)))) :: xC X S) SC (c_L_nearest_ok l X S hok k hk h3 h4 cJ aJ f) pT_st pT_h (vx_cwSW 3 hts gL_law_L_nearest rfl rfl rfl (by decide +kernel) ⟨Nat.le_of_ble_eq_true rfl, Nat.le_of_ble_eq_true rfl⟩) hKJ hP hD hS rfl rfl hl.1 rfl (Nat.le_of_ble_eq_true rfl) dL_law_941 ⟨hc0.1, hc0.2⟩ (fun H locs hP hD hS => ?_)
        have hP : va_P (xG X) vwCl (lwW X Y S S t (lwJ aJ cJ (vp_updL f 0 (lI (nr S k 12)))) (lwD aD cD g)) H := hP
        have hD : va_D (fun q => s.heap.size ≤ q) (lwW X Y S S t (lwJ aJ cJ (vp_updL f 0 (lI (nr S k 12)))) (lwD aD cD g)) := hD
        refine lv_istore (lv' := [(6, .int (iI 0)), (0, .ref b), (1, .ref ((xa X 0))), (2, .ref ((xa Y 0))), (3, .ref aJ), (4, .ref aD), (5, .int (iI ((i : Int))))]) hx hb dL_law_944 hl (by decide) rfl (fun ls hl => ?_)
        refine lv_aload_n hx hb dL_law_946 rfl (lv_at hl 3 rfl) ?_
        refine lw_sc (j := i + 1) (v := ((k : Nat) : Int)) hx hb hX hbl hbA hS (lv_at hl 1 rfl) (lv_at hl 6 rfl) (by omega) (by omega) hL hv1 dL_law_947 dL_law_948 dL_law_950 dL_law_951 dL_law_952 ?_
        refine pg_wcallV (As := [.int (iI (((k : Nat) : Int)))]) (rest := []) (l1 := (lwJ aJ cJ (vp_updL f 0 (lI (nr S k 12)))) :: (xC X S ++ [(lwD aD cD g)])) (l2 := []) (w := mC Y S t) (w' := mC Y S 0) SC (pg_cY hYX (c_X1_nearest_ok l Y S t hok k hk h3 h4)) pT_st pT_h (cwV 1 hts gL_law_X1_nearest rfl rfl rfl (by decide +kernel) ⟨Nat.le_of_ble_eq_true rfl, Nat.le_of_ble_eq_true rfl⟩) (va_recv hKY hP (ci := 1) (q0 := 7) rfl rfl) hKY hP hD hS rfl rfl hl.1 rfl (Nat.le_of_ble_eq_true rfl) dL_law_953 ⟨hc0.1, hc0.2⟩ (fun H locs hP hD hS => ?_)
        have hP : va_P (xG X) vwCl (lwW X Y S S 0 (lwJ aJ cJ (vp_updL f 0 (lI (nr S k 12)))) (lwD aD cD g)) H := hP
        have hD : va_D (fun q => s.heap.size ≤ q) (lwW X Y S S 0 (lwJ aJ cJ (vp_updL f 0 (lI (nr S k 12)))) (lwD aD cD g)) := hD
        refine lv_istore (lv' := [(7, .int (iI (nr S k 12))), (6, .int (iI 0)), (0, .ref b), (1, .ref ((xa X 0))), (2, .ref ((xa Y 0))), (3, .ref aJ), (4, .ref aD), (5, .int (iI ((i : Int))))]) hx hb dL_law_956 hl (by decide) rfl (fun ls hl => ?_)
        refine lv_aload_n hx hb dL_law_958 rfl (lv_at hl 4 rfl) ?_
        refine pg_callV (As := []) (rest := []) SC (c_X1_thrown l Y S 0) mB_st (lw_mB hYX hKY hP) (cwV 0 hts gL_law_X1_thrown rfl rfl rfl (by decide +kernel) ⟨Nat.le_of_ble_eq_true rfl, Nat.le_of_ble_eq_true rfl⟩) (va_recv hKY hP (ci := 1) (q0 := 7) rfl rfl) rfl hl.1 rfl (Nat.le_of_ble_eq_true rfl) dL_law_959 ⟨hc0.1, hc0.2⟩ ?_
        refine lv_iload hx hb dL_law_962 (lv_at hl 1 rfl) ?_
        refine lw_same (tgt := 969) hx hb (⟨by omega, by omega⟩) dL_law_964 (by decide) ?_
        refine lv_iload hx hb dL_law_969 (lv_at hl 1 rfl) ?_
        refine pg_if_ne (tgt := 986) hx hb dL_law_971 (by decide) (⟨by omega, by omega⟩) (fun h9 => absurd rfl h9) (fun _ => ?_)
        refine lv_aload_n hx hb dL_law_974 rfl (lv_at hl 5 rfl) ?_
        refine lv_iconst (v := iI 0) hx hb dL_law_975 rfl ?_
        refine pg_lld0 hx hb hKJ hP 0 2 rfl rfl dL_law_976 ?_
        refine lv_iload hx hb dL_law_977 (lv_at hl 0 rfl) ?_
        refine pg_i2l hx hb dL_law_979 (⟨by omega, by omega⟩) ?_
        refine lw_leq (tgt := 986) hx hb rfl dL_law_980 dL_law_981 (by decide) ?_
        refine lv_goto (tgt := 2002) hx hb dL_law_986 (by decide) ?_
        exact pg_widen (Nat.le_succ _) (Nat.le_add_right _ 6) (kk S 0 ((vp_updL f 0 (lI (nr S k 12)))) g H locs ls ⟨hP, hD, hS, hok⟩ (lv_sub hl [2, 3, 4, 5, 6, 7] rfl))
set_option maxRecDepth 100000 in
set_option maxHeartbeats 4000000 in
theorem lw_op13 {p : Program} {l : Launch} {e : Env} {s : State} {m : MethodId} {args : Array Value} {below : List Frame} {meth : Method} {c : Code} {H : Heap} {locs : List Loc} {cells slots : Nat} {Q : State → Prop} {b L : Nat} {xs : Nat → Int32} {X Y : pgX} {cJ cD aJ aD : Nat} (hC : lwK l p s m c args b L xs X Y cJ cD) {i : Nat} (hi : i + 5 ≤ L) {S : pgS} {t : Int} {f : Nat → Int64} {g : Nat → UInt64} (hG : lwG s X Y cJ aJ cD aD S t f g H locs) (hce : cells + 1 ≤ 1047 ∧ slots + 6 ≤ 8369) {ls : Array Slot} (hl : lv_has ls 9 (lwB b X Y aJ aD i)) (kk : ∀ (S1 : pgS) (t1 : Int) (f1 : Nat → Int64) (g1 : Nat → UInt64) (H1 : Heap) (locs1 : List Loc) (ls1 : Array Slot), lwG s X Y cJ aJ cD aD S1 t1 f1 g1 H1 locs1 → lv_has ls1 9 (lwB b X Y aJ aD i) → W p l e room_1 s m args below meth c H1 locs1 (cells + 1) (slots + 6) Q (F0 m 2002 ls1 [])) : W p l e room_1 s m args below meth c H locs cells slots Q (F0 m 989 ls []) := by
  obtain ⟨SC, hfl, hX, hbl, hL, hYX, hKJ, hKD, hKY, hE, hN⟩ := id hC
  obtain ⟨hx, hb, hml, hown, hts⟩ := id SC
  obtain ⟨hP, hD, hS, hok⟩ := id hG
  have hKX : va_K (xG X) vwCl (xTy X) s := va_K.sub hKJ [0, 1] rfl
  have hbA : ¬ s.heap.size ≤ b := by omega
  have hc0 : cells ≤ 1047 ∧ slots ≤ 8369 := by omega
  have hl : lv_has ls 9 [(0, .ref b), (1, .ref ((xa X 0))), (2, .ref ((xa Y 0))), (3, .ref aJ), (4, .ref aD), (5, .int (iI ((i : Int))))] := hl
  obtain ⟨v1, hv1, hq1⟩ : ∃ v : Int, xs (i + 1) = iI v ∧ inI v := ⟨_, iI_self _, inI_self _⟩
  obtain ⟨v2, hv2, hq2⟩ : ∃ v : Int, xs (i + 2) = iI v ∧ inI v := ⟨_, iI_self _, inI_self _⟩
  by_cases h1 : v1 < 0 ∨ 12 ≤ v1 ∨ v2 < 0 ∨ 12 ≤ v2
  · refine lv_aload_n hx hb dL_law_989 rfl (lv_at hl 1 rfl) ?_
    refine lw_sc (j := i + 1) (v := v1) hx hb hX hbl hbA hS (lv_at hl 0 rfl) (lv_at hl 5 rfl) (by omega) (by omega) hL hv1 dL_law_990 dL_law_991 dL_law_993 dL_law_994 dL_law_995 ?_
    refine lw_sc (j := i + 2) (v := v2) hx hb hX hbl hbA hS (lv_at hl 0 rfl) (lv_at hl 5 rfl) (by omega) (by omega) hL hv2 dL_law_996 dL_law_997 dL_law_999 dL_law_1000 dL_law_1001 ?_
    refine lv_aload_n hx hb dL_law_1002 rfl (lv_at hl 3 rfl) ?_
    refine pg_wcallH (As := [.ref ((xa X 0)), .int (iI v1), .int (iI v2), .ref aJ]) (rest := []) (l1 := []) (l2 := lwW X Y S S t (lwJ aJ cJ f) (lwD aD cD g)) (w := []) (w' := []) SC (c_L_rank_1 l hfl s.heap.size X S v1 v2 hq1 hq2 h1 aJ) xW_st (lw_xW hKX hP hS hE hN) (vx_cwSW 4 hts gL_law_L_rank rfl rfl rfl (by decide +kernel) ⟨Nat.le_of_ble_eq_true rfl, Nat.le_of_ble_eq_true rfl⟩) (va_K.sub hKX [] rfl) hP hD hS rfl rfl hl.1 rfl (Nat.le_of_ble_eq_true rfl) dL_law_1003 ⟨hce.1, hce.2⟩ (fun H locs hP hD hS => ?_)
    have hP : va_P (xG X) vwCl (lwW X Y S S t (lwJ aJ cJ f) (lwD aD cD g)) H := hP
    have hD : va_D (fun q => s.heap.size ≤ q) (lwW X Y S S t (lwJ aJ cJ f) (lwD aD cD g)) := hD
    refine lv_istore (lv' := [(6, .int (iI 1)), (0, .ref b), (1, .ref ((xa X 0))), (2, .ref ((xa Y 0))), (3, .ref aJ), (4, .ref aD), (5, .int (iI ((i : Int))))]) hx hb dL_law_1006 hl (by decide) rfl (fun ls hl => ?_)
    refine lv_aload_n hx hb dL_law_1008 rfl (lv_at hl 3 rfl) ?_
    refine lw_sc (j := i + 1) (v := v1) hx hb hX hbl hbA hS (lv_at hl 1 rfl) (lv_at hl 6 rfl) (by omega) (by omega) hL hv1 dL_law_1009 dL_law_1010 dL_law_1012 dL_law_1013 dL_law_1014 ?_
    refine lw_sc (j := i + 2) (v := v2) hx hb hX hbl hbA hS (lv_at hl 1 rfl) (lv_at hl 6 rfl) (by omega) (by omega) hL hv2 dL_law_1015 dL_law_1016 dL_law_1018 dL_law_1019 dL_law_1020 ?_
    refine pg_wcallV (As := [.int (iI v1), .int (iI v2)]) (rest := []) (l1 := (lwJ aJ cJ f) :: (xC X S ++ [(lwD aD cD g)])) (l2 := []) (w := mC Y S t) (w' := mC Y S 1) SC (pg_cY hYX (c_X1_rank_1 l Y S t v1 v2 hq1 hq2 h1)) pT_st pT_h (cwV 2 hts gL_law_X1_rank rfl rfl rfl (by decide +kernel) ⟨Nat.le_of_ble_eq_true rfl, Nat.le_of_ble_eq_true rfl⟩) (va_recv hKY hP (ci := 1) (q0 := 7) rfl rfl) hKY hP hD hS rfl rfl hl.1 rfl (Nat.le_of_ble_eq_true rfl) dL_law_1021 ⟨hce.1, hce.2⟩ (fun H locs hP hD hS => ?_)
    have hP : va_P (xG X) vwCl (lwW X Y S S 1 (lwJ aJ cJ f) (lwD aD cD g)) H := hP
    have hD : va_D (fun q => s.heap.size ≤ q) (lwW X Y S S 1 (lwJ aJ cJ f) (lwD aD cD g)) := hD
    refine lv_istore (lv' := [(7, .int (iI 0)), (6, .int (iI 1)), (0, .ref b), (1, .ref ((xa X 0))), (2, .ref ((xa Y 0))), (3, .ref aJ), (4, .ref aD), (5, .int (iI ((i : Int))))]) hx hb dL_law_1024 hl (by decide) rfl (fun ls hl => ?_)
    refine lv_aload_n hx hb dL_law_1026 rfl (lv_at hl 4 rfl) ?_
    refine pg_callV (As := []) (rest := []) SC (c_X1_thrown l Y S 1) mB_st (lw_mB hYX hKY hP) (cwV 0 hts gL_law_X1_thrown rfl rfl rfl (by decide +kernel) ⟨Nat.le_of_ble_eq_true rfl, Nat.le_of_ble_eq_true rfl⟩) (va_recv hKY hP (ci := 1) (q0 := 7) rfl rfl) rfl hl.1 rfl (Nat.le_of_ble_eq_true rfl) dL_law_1027 ⟨hce.1, hce.2⟩ ?_
    refine lv_iload hx hb dL_law_1030 (lv_at hl 1 rfl) ?_
    refine lw_same (tgt := 1037) hx hb (⟨by omega, by omega⟩) dL_law_1032 (by decide) ?_
    refine lv_iload hx hb dL_law_1037 (lv_at hl 1 rfl) ?_
    refine pg_if_ne (tgt := 1054) hx hb dL_law_1039 (by decide) (⟨by omega, by omega⟩) (fun _ => ?_) (fun h9 => absurd h9 (by omega))
    refine lv_goto (tgt := 2002) hx hb dL_law_1054 (by decide) ?_
    exact kk S 1 f g H locs ls ⟨hP, hD, hS, hok⟩ (lv_sub hl [2, 3, 4, 5, 6, 7] rfl)
  · obtain ⟨a, rfl⟩ : ∃ z : Nat, v1 = (z : Int) := ⟨v1.toNat, by omega⟩
    obtain ⟨b2, rfl⟩ : ∃ z : Nat, v2 = (z : Int) := ⟨v2.toNat, by omega⟩
    have ha : a < 12 := by omega
    have hb2 : b2 < 12 := by omega
    have hsa := hok.1 a
    have hsb := hok.1 b2
    by_cases h2 : sS S a = 0 ∨ sS S b2 = 0
    · refine lv_aload_n hx hb dL_law_989 rfl (lv_at hl 1 rfl) ?_
      refine lw_sc (j := i + 1) (v := ((a : Nat) : Int)) hx hb hX hbl hbA hS (lv_at hl 0 rfl) (lv_at hl 5 rfl) (by omega) (by omega) hL hv1 dL_law_990 dL_law_991 dL_law_993 dL_law_994 dL_law_995 ?_
      refine lw_sc (j := i + 2) (v := ((b2 : Nat) : Int)) hx hb hX hbl hbA hS (lv_at hl 0 rfl) (lv_at hl 5 rfl) (by omega) (by omega) hL hv2 dL_law_996 dL_law_997 dL_law_999 dL_law_1000 dL_law_1001 ?_
      refine lv_aload_n hx hb dL_law_1002 rfl (lv_at hl 3 rfl) ?_
      refine pg_wcallH (As := [.ref ((xa X 0)), .int (iI (((a : Nat) : Int))), .int (iI (((b2 : Nat) : Int))), .ref aJ]) (rest := []) (l1 := []) (l2 := lwW X Y S S t (lwJ aJ cJ f) (lwD aD cD g)) (w := []) (w' := []) SC (c_L_rank_2 l hfl s.heap.size X S a b2 ha hb2 h2 hsa hsb aJ) xW_st (lw_xW hKX hP hS hE hN) (vx_cwSW 4 hts gL_law_L_rank rfl rfl rfl (by decide +kernel) ⟨Nat.le_of_ble_eq_true rfl, Nat.le_of_ble_eq_true rfl⟩) (va_K.sub hKX [] rfl) hP hD hS rfl rfl hl.1 rfl (Nat.le_of_ble_eq_true rfl) dL_law_1003 ⟨hce.1, hce.2⟩ (fun H locs hP hD hS => ?_)
      have hP : va_P (xG X) vwCl (lwW X Y S S t (lwJ aJ cJ f) (lwD aD cD g)) H := hP
      have hD : va_D (fun q => s.heap.size ≤ q) (lwW X Y S S t (lwJ aJ cJ f) (lwD aD cD g)) := hD
      refine lv_istore (lv' := [(6, .int (iI 2)), (0, .ref b), (1, .ref ((xa X 0))), (2, .ref ((xa Y 0))), (3, .ref aJ), (4, .ref aD), (5, .int (iI ((i : Int))))]) hx hb dL_law_1006 hl (by decide) rfl (fun ls hl => ?_)
      refine lv_aload_n hx hb dL_law_1008 rfl (lv_at hl 3 rfl) ?_
      refine lw_sc (j := i + 1) (v := ((a : Nat) : Int)) hx hb hX hbl hbA hS (lv_at hl 1 rfl) (lv_at hl 6 rfl) (by omega) (by omega) hL hv1 dL_law_1009 dL_law_1010 dL_law_1012 dL_law_1013 dL_law_1014 ?_
      refine lw_sc (j := i + 2) (v := ((b2 : Nat) : Int)) hx hb hX hbl hbA hS (lv_at hl 1 rfl) (lv_at hl 6 rfl) (by omega) (by omega) hL hv2 dL_law_1015 dL_law_1016 dL_law_1018 dL_law_1019 dL_law_1020 ?_
      refine pg_wcallV (As := [.int (iI (((a : Nat) : Int))), .int (iI (((b2 : Nat) : Int)))]) (rest := []) (l1 := (lwJ aJ cJ f) :: (xC X S ++ [(lwD aD cD g)])) (l2 := []) (w := mC Y S t) (w' := mC Y S 2) SC (pg_cY hYX (c_X1_rank_2 l Y S t a b2 ha hb2 h2 hsa hsb)) pT_st pT_h (cwV 2 hts gL_law_X1_rank rfl rfl rfl (by decide +kernel) ⟨Nat.le_of_ble_eq_true rfl, Nat.le_of_ble_eq_true rfl⟩) (va_recv hKY hP (ci := 1) (q0 := 7) rfl rfl) hKY hP hD hS rfl rfl hl.1 rfl (Nat.le_of_ble_eq_true rfl) dL_law_1021 ⟨hce.1, hce.2⟩ (fun H locs hP hD hS => ?_)
      have hP : va_P (xG X) vwCl (lwW X Y S S 2 (lwJ aJ cJ f) (lwD aD cD g)) H := hP
      have hD : va_D (fun q => s.heap.size ≤ q) (lwW X Y S S 2 (lwJ aJ cJ f) (lwD aD cD g)) := hD
      refine lv_istore (lv' := [(7, .int (iI 0)), (6, .int (iI 2)), (0, .ref b), (1, .ref ((xa X 0))), (2, .ref ((xa Y 0))), (3, .ref aJ), (4, .ref aD), (5, .int (iI ((i : Int))))]) hx hb dL_law_1024 hl (by decide) rfl (fun ls hl => ?_)
      refine lv_aload_n hx hb dL_law_1026 rfl (lv_at hl 4 rfl) ?_
      refine pg_callV (As := []) (rest := []) SC (c_X1_thrown l Y S 2) mB_st (lw_mB hYX hKY hP) (cwV 0 hts gL_law_X1_thrown rfl rfl rfl (by decide +kernel) ⟨Nat.le_of_ble_eq_true rfl, Nat.le_of_ble_eq_true rfl⟩) (va_recv hKY hP (ci := 1) (q0 := 7) rfl rfl) rfl hl.1 rfl (Nat.le_of_ble_eq_true rfl) dL_law_1027 ⟨hce.1, hce.2⟩ ?_
      refine lv_iload hx hb dL_law_1030 (lv_at hl 1 rfl) ?_
      refine lw_same (tgt := 1037) hx hb (⟨by omega, by omega⟩) dL_law_1032 (by decide) ?_
      refine lv_iload hx hb dL_law_1037 (lv_at hl 1 rfl) ?_
      refine pg_if_ne (tgt := 1054) hx hb dL_law_1039 (by decide) (⟨by omega, by omega⟩) (fun _ => ?_) (fun h9 => absurd h9 (by omega))
      refine lv_goto (tgt := 2002) hx hb dL_law_1054 (by decide) ?_
      exact kk S 2 f g H locs ls ⟨hP, hD, hS, hok⟩ (lv_sub hl [2, 3, 4, 5, 6, 7] rfl)
    · have ha1 : sS S a = 1 := by omega
      have hb1 : sS S b2 = 1 := by omega
      have hrb := rk_lt S (gN S a b2) 12
      refine lv_aload_n hx hb dL_law_989 rfl (lv_at hl 1 rfl) ?_
      refine lw_sc (j := i + 1) (v := ((a : Nat) : Int)) hx hb hX hbl hbA hS (lv_at hl 0 rfl) (lv_at hl 5 rfl) (by omega) (by omega) hL hv1 dL_law_990 dL_law_991 dL_law_993 dL_law_994 dL_law_995 ?_
      refine lw_sc (j := i + 2) (v := ((b2 : Nat) : Int)) hx hb hX hbl hbA hS (lv_at hl 0 rfl) (lv_at hl 5 rfl) (by omega) (by omega) hL hv2 dL_law_996 dL_law_997 dL_law_999 dL_law_1000 dL_law_1001 ?_
      refine lv_aload_n hx hb dL_law_1002 rfl (lv_at hl 3 rfl) ?_
      refine pg_wcallH (As := [.ref ((xa X 0)), .int (iI (((a : Nat) : Int))), .int (iI (((b2 : Nat) : Int))), .ref aJ]) (rest := []) (l1 := []) (l2 := (lwD aD cD g) :: mC Y S t) (w := (lwJ aJ cJ f) :: xC X S) (w' := (lwJ aJ cJ (vp_updL f 0 (lI (((rk S (gN S a b2) 12 : Nat) : Int))))) :: xC X S) SC (c_L_rank_ok l X S hok a b2 ha hb2 ha1 hb1 cJ aJ f) pT_st pT_h (vx_cwSW 4 hts gL_law_L_rank rfl rfl rfl (by decide +kernel) ⟨Nat.le_of_ble_eq_true rfl, Nat.le_of_ble_eq_true rfl⟩) hKJ hP hD hS rfl rfl hl.1 rfl (Nat.le_of_ble_eq_true rfl) dL_law_1003 ⟨hc0.1, hc0.2⟩ (fun H locs hP hD hS => ?_)
      have hP : va_P (xG X) vwCl (lwW X Y S S t (lwJ aJ cJ (vp_updL f 0 (lI (((rk S (gN S a b2) 12 : Nat) : Int))))) (lwD aD cD g)) H := hP
      have hD : va_D (fun q => s.heap.size ≤ q) (lwW X Y S S t (lwJ aJ cJ (vp_updL f 0 (lI (((rk S (gN S a b2) 12 : Nat) : Int))))) (lwD aD cD g)) := hD
      refine lv_istore (lv' := [(6, .int (iI 0)), (0, .ref b), (1, .ref ((xa X 0))), (2, .ref ((xa Y 0))), (3, .ref aJ), (4, .ref aD), (5, .int (iI ((i : Int))))]) hx hb dL_law_1006 hl (by decide) rfl (fun ls hl => ?_)
      refine lv_aload_n hx hb dL_law_1008 rfl (lv_at hl 3 rfl) ?_
      refine lw_sc (j := i + 1) (v := ((a : Nat) : Int)) hx hb hX hbl hbA hS (lv_at hl 1 rfl) (lv_at hl 6 rfl) (by omega) (by omega) hL hv1 dL_law_1009 dL_law_1010 dL_law_1012 dL_law_1013 dL_law_1014 ?_
      refine lw_sc (j := i + 2) (v := ((b2 : Nat) : Int)) hx hb hX hbl hbA hS (lv_at hl 1 rfl) (lv_at hl 6 rfl) (by omega) (by omega) hL hv2 dL_law_1015 dL_law_1016 dL_law_1018 dL_law_1019 dL_law_1020 ?_
      refine pg_wcallV (As := [.int (iI (((a : Nat) : Int))), .int (iI (((b2 : Nat) : Int)))]) (rest := []) (l1 := (lwJ aJ cJ (vp_updL f 0 (lI (((rk S (gN S a b2) 12 : Nat) : Int))))) :: (xC X S ++ [(lwD aD cD g)])) (l2 := []) (w := mC Y S t) (w' := mC Y S 0) SC (pg_cY hYX (c_X1_rank_ok l Y S t hok a b2 ha hb2 ha1 hb1)) pT_st pT_h (cwV 2 hts gL_law_X1_rank rfl rfl rfl (by decide +kernel) ⟨Nat.le_of_ble_eq_true rfl, Nat.le_of_ble_eq_true rfl⟩) (va_recv hKY hP (ci := 1) (q0 := 7) rfl rfl) hKY hP hD hS rfl rfl hl.1 rfl (Nat.le_of_ble_eq_true rfl) dL_law_1021 ⟨hc0.1, hc0.2⟩ (fun H locs hP hD hS => ?_)
      have hP : va_P (xG X) vwCl (lwW X Y S S 0 (lwJ aJ cJ (vp_updL f 0 (lI (((rk S (gN S a b2) 12 : Nat) : Int))))) (lwD aD cD g)) H := hP
      have hD : va_D (fun q => s.heap.size ≤ q) (lwW X Y S S 0 (lwJ aJ cJ (vp_updL f 0 (lI (((rk S (gN S a b2) 12 : Nat) : Int))))) (lwD aD cD g)) := hD
      refine lv_istore (lv' := [(7, .int (iI (((rk S (gN S a b2) 12 : Nat) : Int)))), (6, .int (iI 0)), (0, .ref b), (1, .ref ((xa X 0))), (2, .ref ((xa Y 0))), (3, .ref aJ), (4, .ref aD), (5, .int (iI ((i : Int))))]) hx hb dL_law_1024 hl (by decide) rfl (fun ls hl => ?_)
      refine lv_aload_n hx hb dL_law_1026 rfl (lv_at hl 4 rfl) ?_
      refine pg_callV (As := []) (rest := []) SC (c_X1_thrown l Y S 0) mB_st (lw_mB hYX hKY hP) (cwV 0 hts gL_law_X1_thrown rfl rfl rfl (by decide +kernel) ⟨Nat.le_of_ble_eq_true rfl, Nat.le_of_ble_eq_true rfl⟩) (va_recv hKY hP (ci := 1) (q0 := 7) rfl rfl) rfl hl.1 rfl (Nat.le_of_ble_eq_true rfl) dL_law_1027 ⟨hc0.1, hc0.2⟩ ?_
      refine lv_iload hx hb dL_law_1030 (lv_at hl 1 rfl) ?_
      refine lw_same (tgt := 1037) hx hb (⟨by omega, by omega⟩) dL_law_1032 (by decide) ?_
      refine lv_iload hx hb dL_law_1037 (lv_at hl 1 rfl) ?_
      refine pg_if_ne (tgt := 1054) hx hb dL_law_1039 (by decide) (⟨by omega, by omega⟩) (fun h9 => absurd rfl h9) (fun _ => ?_)
      refine lv_aload_n hx hb dL_law_1042 rfl (lv_at hl 5 rfl) ?_
      refine lv_iconst (v := iI 0) hx hb dL_law_1043 rfl ?_
      refine pg_lld0 hx hb hKJ hP 0 2 rfl rfl dL_law_1044 ?_
      refine lv_iload hx hb dL_law_1045 (lv_at hl 0 rfl) ?_
      refine pg_i2l hx hb dL_law_1047 (⟨by omega, by omega⟩) ?_
      refine lw_leq (tgt := 1054) hx hb rfl dL_law_1048 dL_law_1049 (by decide) ?_
      refine lv_goto (tgt := 2002) hx hb dL_law_1054 (by decide) ?_
      exact pg_widen (Nat.le_succ _) (Nat.le_add_right _ 6) (kk S 0 ((vp_updL f 0 (lI (((rk S (gN S a b2) 12 : Nat) : Int))))) g H locs ls ⟨hP, hD, hS, hok⟩ (lv_sub hl [2, 3, 4, 5, 6, 7] rfl))
set_option maxRecDepth 100000 in
set_option maxHeartbeats 4000000 in
theorem lw_op14 {p : Program} {l : Launch} {e : Env} {s : State} {m : MethodId} {args : Array Value} {below : List Frame} {meth : Method} {c : Code} {H : Heap} {locs : List Loc} {cells slots : Nat} {Q : State → Prop} {b L : Nat} {xs : Nat → Int32} {X Y : pgX} {cJ cD aJ aD : Nat} (hC : lwK l p s m c args b L xs X Y cJ cD) {i : Nat} (hi : i + 5 ≤ L) {S : pgS} {t : Int} {f : Nat → Int64} {g : Nat → UInt64} (hG : lwG s X Y cJ aJ cD aD S t f g H locs) (hce : cells + 1 ≤ 1047 ∧ slots + 6 ≤ 8369) {ls : Array Slot} (hl : lv_has ls 9 (lwB b X Y aJ aD i)) (kk : ∀ (S1 : pgS) (t1 : Int) (f1 : Nat → Int64) (g1 : Nat → UInt64) (H1 : Heap) (locs1 : List Loc) (ls1 : Array Slot), lwG s X Y cJ aJ cD aD S1 t1 f1 g1 H1 locs1 → lv_has ls1 9 (lwB b X Y aJ aD i) → W p l e room_1 s m args below meth c H1 locs1 (cells + 1) (slots + 6) Q (F0 m 2002 ls1 [])) : W p l e room_1 s m args below meth c H locs cells slots Q (F0 m 1057 ls []) := by
  obtain ⟨SC, hfl, hX, hbl, hL, hYX, hKJ, hKD, hKY, hE, hN⟩ := id hC
  obtain ⟨hx, hb, hml, hown, hts⟩ := id SC
  obtain ⟨hP, hD, hS, hok⟩ := id hG
  have hKX : va_K (xG X) vwCl (xTy X) s := va_K.sub hKJ [0, 1] rfl
  have hbA : ¬ s.heap.size ≤ b := by omega
  have hc0 : cells ≤ 1047 ∧ slots ≤ 8369 := by omega
  have hl : lv_has ls 9 [(0, .ref b), (1, .ref ((xa X 0))), (2, .ref ((xa Y 0))), (3, .ref aJ), (4, .ref aD), (5, .int (iI ((i : Int))))] := hl
  obtain ⟨v1, hv1, hq1⟩ : ∃ v : Int, xs (i + 1) = iI v ∧ inI v := ⟨_, iI_self _, inI_self _⟩
  obtain ⟨v2, hv2, hq2⟩ : ∃ v : Int, xs (i + 2) = iI v ∧ inI v := ⟨_, iI_self _, inI_self _⟩
  obtain ⟨v3, hv3, hq3⟩ : ∃ v : Int, xs (i + 3) = iI v ∧ inI v := ⟨_, iI_self _, inI_self _⟩
  obtain ⟨v4, hv4, hq4⟩ : ∃ v : Int, xs (i + 4) = iI v ∧ inI v := ⟨_, iI_self _, inI_self _⟩
  obtain ⟨q, hq⟩ : ∃ z : Int, (v4 = 0 ∧ z = 0) ∨ (v4 ≠ 0 ∧ z = 1) := by
    by_cases hz : v4 = 0
    · exact ⟨0, Or.inl ⟨hz, rfl⟩⟩
    · exact ⟨1, Or.inr ⟨hz, rfl⟩⟩
  have hiq : inI q := ⟨by omega, by omega⟩
  by_cases h1 : v1 < 0 ∨ 12 ≤ v1 ∨ v2 < 0 ∨ 12 ≤ v2
  · refine lv_aload_n hx hb dL_law_1057 rfl (lv_at hl 1 rfl) ?_
    refine lw_sc (j := i + 1) (v := v1) hx hb hX hbl hbA hS (lv_at hl 0 rfl) (lv_at hl 5 rfl) (by omega) (by omega) hL hv1 dL_law_1058 dL_law_1059 dL_law_1061 dL_law_1062 dL_law_1063 ?_
    refine lw_sc (j := i + 2) (v := v2) hx hb hX hbl hbA hS (lv_at hl 0 rfl) (lv_at hl 5 rfl) (by omega) (by omega) hL hv2 dL_law_1064 dL_law_1065 dL_law_1067 dL_law_1068 dL_law_1069 ?_
    refine lw_sc (j := i + 3) (v := v3) hx hb hX hbl hbA hS (lv_at hl 0 rfl) (lv_at hl 5 rfl) (by omega) (by omega) hL hv3 dL_law_1070 dL_law_1071 dL_law_1073 dL_law_1074 dL_law_1075 ?_
    refine lw_sc (j := i + 4) (v := v4) hx hb hX hbl hbA hS (lv_at hl 0 rfl) (lv_at hl 5 rfl) (by omega) (by omega) hL hv4 dL_law_1076 dL_law_1077 dL_law_1079 dL_law_1080 dL_law_1081 ?_
    refine lw_bool (b := q) hx hb (by omega) hq dL_law_1082 dL_law_1085 dL_law_1086 dL_law_1089 ?_
    refine lv_aload_n hx hb dL_law_1090 rfl (lv_at hl 3 rfl) ?_
    refine pg_wcallH (As := [.ref ((xa X 0)), .int (iI v1), .int (iI v2), .int (iI v3), .int (iI q), .ref aJ]) (rest := []) (l1 := []) (l2 := lwW X Y S S t (lwJ aJ cJ f) (lwD aD cD g)) (w := []) (w' := []) SC (c_L_isIn_1 l hfl s.heap.size X S v1 v2 hq1 hq2 h1 v3 q aJ) xW_st (lw_xW hKX hP hS hE hN) (vx_cwSW 6 hts gL_law_L_isIn rfl rfl rfl (by decide +kernel) ⟨Nat.le_of_ble_eq_true rfl, Nat.le_of_ble_eq_true rfl⟩) (va_K.sub hKX [] rfl) hP hD hS rfl rfl hl.1 rfl (Nat.le_of_ble_eq_true rfl) dL_law_1091 ⟨hce.1, hce.2⟩ (fun H locs hP hD hS => ?_)
    have hP : va_P (xG X) vwCl (lwW X Y S S t (lwJ aJ cJ f) (lwD aD cD g)) H := hP
    have hD : va_D (fun q => s.heap.size ≤ q) (lwW X Y S S t (lwJ aJ cJ f) (lwD aD cD g)) := hD
    refine lv_istore (lv' := [(6, .int (iI 1)), (0, .ref b), (1, .ref ((xa X 0))), (2, .ref ((xa Y 0))), (3, .ref aJ), (4, .ref aD), (5, .int (iI ((i : Int))))]) hx hb dL_law_1094 hl (by decide) rfl (fun ls hl => ?_)
    refine lv_aload_n hx hb dL_law_1096 rfl (lv_at hl 3 rfl) ?_
    refine lw_sc (j := i + 1) (v := v1) hx hb hX hbl hbA hS (lv_at hl 1 rfl) (lv_at hl 6 rfl) (by omega) (by omega) hL hv1 dL_law_1097 dL_law_1098 dL_law_1100 dL_law_1101 dL_law_1102 ?_
    refine lw_sc (j := i + 2) (v := v2) hx hb hX hbl hbA hS (lv_at hl 1 rfl) (lv_at hl 6 rfl) (by omega) (by omega) hL hv2 dL_law_1103 dL_law_1104 dL_law_1106 dL_law_1107 dL_law_1108 ?_
    refine lw_sc (j := i + 3) (v := v3) hx hb hX hbl hbA hS (lv_at hl 1 rfl) (lv_at hl 6 rfl) (by omega) (by omega) hL hv3 dL_law_1109 dL_law_1110 dL_law_1112 dL_law_1113 dL_law_1114 ?_
    refine lw_sc (j := i + 4) (v := v4) hx hb hX hbl hbA hS (lv_at hl 1 rfl) (lv_at hl 6 rfl) (by omega) (by omega) hL hv4 dL_law_1115 dL_law_1116 dL_law_1118 dL_law_1119 dL_law_1120 ?_
    refine lw_bool (b := q) hx hb (by omega) hq dL_law_1121 dL_law_1124 dL_law_1125 dL_law_1128 ?_
    refine pg_wcallV (As := [.int (iI v1), .int (iI v2), .int (iI v3), .int (iI q)]) (rest := []) (l1 := (lwJ aJ cJ f) :: (xC X S ++ [(lwD aD cD g)])) (l2 := []) (w := mC Y S t) (w' := mC Y S 1) SC (pg_cY hYX (c_X1_isIn_1 l Y S t v1 v2 hq1 hq2 h1 v3 q)) pT_st pT_h (cwV 4 hts gL_law_X1_isIn rfl rfl rfl (by decide +kernel) ⟨Nat.le_of_ble_eq_true rfl, Nat.le_of_ble_eq_true rfl⟩) (va_recv hKY hP (ci := 1) (q0 := 7) rfl rfl) hKY hP hD hS rfl rfl hl.1 rfl (Nat.le_of_ble_eq_true rfl) dL_law_1129 ⟨hce.1, hce.2⟩ (fun H locs hP hD hS => ?_)
    have hP : va_P (xG X) vwCl (lwW X Y S S 1 (lwJ aJ cJ f) (lwD aD cD g)) H := hP
    have hD : va_D (fun q => s.heap.size ≤ q) (lwW X Y S S 1 (lwJ aJ cJ f) (lwD aD cD g)) := hD
    refine lv_istore (lv' := [(7, .int (iI 0)), (6, .int (iI 1)), (0, .ref b), (1, .ref ((xa X 0))), (2, .ref ((xa Y 0))), (3, .ref aJ), (4, .ref aD), (5, .int (iI ((i : Int))))]) hx hb dL_law_1132 hl (by decide) rfl (fun ls hl => ?_)
    refine lv_aload_n hx hb dL_law_1134 rfl (lv_at hl 4 rfl) ?_
    refine pg_callV (As := []) (rest := []) SC (c_X1_thrown l Y S 1) mB_st (lw_mB hYX hKY hP) (cwV 0 hts gL_law_X1_thrown rfl rfl rfl (by decide +kernel) ⟨Nat.le_of_ble_eq_true rfl, Nat.le_of_ble_eq_true rfl⟩) (va_recv hKY hP (ci := 1) (q0 := 7) rfl rfl) rfl hl.1 rfl (Nat.le_of_ble_eq_true rfl) dL_law_1135 ⟨hce.1, hce.2⟩ ?_
    refine lv_iload hx hb dL_law_1138 (lv_at hl 1 rfl) ?_
    refine lw_same (tgt := 1145) hx hb (⟨by omega, by omega⟩) dL_law_1140 (by decide) ?_
    refine lv_iload hx hb dL_law_1145 (lv_at hl 1 rfl) ?_
    refine pg_if_ne (tgt := 1169) hx hb dL_law_1147 (by decide) (⟨by omega, by omega⟩) (fun _ => ?_) (fun h9 => absurd h9 (by omega))
    refine lv_goto (tgt := 2002) hx hb dL_law_1169 (by decide) ?_
    exact kk S 1 f g H locs ls ⟨hP, hD, hS, hok⟩ (lv_sub hl [2, 3, 4, 5, 6, 7] rfl)
  · obtain ⟨a, rfl⟩ : ∃ z : Nat, v1 = (z : Int) := ⟨v1.toNat, by omega⟩
    obtain ⟨b2, rfl⟩ : ∃ z : Nat, v2 = (z : Int) := ⟨v2.toNat, by omega⟩
    have ha : a < 12 := by omega
    have hb2 : b2 < 12 := by omega
    have hsa := hok.1 a
    have hsb := hok.1 b2
    by_cases h2 : sS S a = 0 ∨ sS S b2 = 0
    · refine lv_aload_n hx hb dL_law_1057 rfl (lv_at hl 1 rfl) ?_
      refine lw_sc (j := i + 1) (v := ((a : Nat) : Int)) hx hb hX hbl hbA hS (lv_at hl 0 rfl) (lv_at hl 5 rfl) (by omega) (by omega) hL hv1 dL_law_1058 dL_law_1059 dL_law_1061 dL_law_1062 dL_law_1063 ?_
      refine lw_sc (j := i + 2) (v := ((b2 : Nat) : Int)) hx hb hX hbl hbA hS (lv_at hl 0 rfl) (lv_at hl 5 rfl) (by omega) (by omega) hL hv2 dL_law_1064 dL_law_1065 dL_law_1067 dL_law_1068 dL_law_1069 ?_
      refine lw_sc (j := i + 3) (v := v3) hx hb hX hbl hbA hS (lv_at hl 0 rfl) (lv_at hl 5 rfl) (by omega) (by omega) hL hv3 dL_law_1070 dL_law_1071 dL_law_1073 dL_law_1074 dL_law_1075 ?_
      refine lw_sc (j := i + 4) (v := v4) hx hb hX hbl hbA hS (lv_at hl 0 rfl) (lv_at hl 5 rfl) (by omega) (by omega) hL hv4 dL_law_1076 dL_law_1077 dL_law_1079 dL_law_1080 dL_law_1081 ?_
      refine lw_bool (b := q) hx hb (by omega) hq dL_law_1082 dL_law_1085 dL_law_1086 dL_law_1089 ?_
      refine lv_aload_n hx hb dL_law_1090 rfl (lv_at hl 3 rfl) ?_
      refine pg_wcallH (As := [.ref ((xa X 0)), .int (iI (((a : Nat) : Int))), .int (iI (((b2 : Nat) : Int))), .int (iI v3), .int (iI q), .ref aJ]) (rest := []) (l1 := []) (l2 := lwW X Y S S t (lwJ aJ cJ f) (lwD aD cD g)) (w := []) (w' := []) SC (c_L_isIn_2 l hfl s.heap.size X S a b2 ha hb2 h2 hsa hsb v3 q aJ) xW_st (lw_xW hKX hP hS hE hN) (vx_cwSW 6 hts gL_law_L_isIn rfl rfl rfl (by decide +kernel) ⟨Nat.le_of_ble_eq_true rfl, Nat.le_of_ble_eq_true rfl⟩) (va_K.sub hKX [] rfl) hP hD hS rfl rfl hl.1 rfl (Nat.le_of_ble_eq_true rfl) dL_law_1091 ⟨hce.1, hce.2⟩ (fun H locs hP hD hS => ?_)
      have hP : va_P (xG X) vwCl (lwW X Y S S t (lwJ aJ cJ f) (lwD aD cD g)) H := hP
      have hD : va_D (fun q => s.heap.size ≤ q) (lwW X Y S S t (lwJ aJ cJ f) (lwD aD cD g)) := hD
      refine lv_istore (lv' := [(6, .int (iI 2)), (0, .ref b), (1, .ref ((xa X 0))), (2, .ref ((xa Y 0))), (3, .ref aJ), (4, .ref aD), (5, .int (iI ((i : Int))))]) hx hb dL_law_1094 hl (by decide) rfl (fun ls hl => ?_)
      refine lv_aload_n hx hb dL_law_1096 rfl (lv_at hl 3 rfl) ?_
      refine lw_sc (j := i + 1) (v := ((a : Nat) : Int)) hx hb hX hbl hbA hS (lv_at hl 1 rfl) (lv_at hl 6 rfl) (by omega) (by omega) hL hv1 dL_law_1097 dL_law_1098 dL_law_1100 dL_law_1101 dL_law_1102 ?_
      refine lw_sc (j := i + 2) (v := ((b2 : Nat) : Int)) hx hb hX hbl hbA hS (lv_at hl 1 rfl) (lv_at hl 6 rfl) (by omega) (by omega) hL hv2 dL_law_1103 dL_law_1104 dL_law_1106 dL_law_1107 dL_law_1108 ?_
      refine lw_sc (j := i + 3) (v := v3) hx hb hX hbl hbA hS (lv_at hl 1 rfl) (lv_at hl 6 rfl) (by omega) (by omega) hL hv3 dL_law_1109 dL_law_1110 dL_law_1112 dL_law_1113 dL_law_1114 ?_
      refine lw_sc (j := i + 4) (v := v4) hx hb hX hbl hbA hS (lv_at hl 1 rfl) (lv_at hl 6 rfl) (by omega) (by omega) hL hv4 dL_law_1115 dL_law_1116 dL_law_1118 dL_law_1119 dL_law_1120 ?_
      refine lw_bool (b := q) hx hb (by omega) hq dL_law_1121 dL_law_1124 dL_law_1125 dL_law_1128 ?_
      refine pg_wcallV (As := [.int (iI (((a : Nat) : Int))), .int (iI (((b2 : Nat) : Int))), .int (iI v3), .int (iI q)]) (rest := []) (l1 := (lwJ aJ cJ f) :: (xC X S ++ [(lwD aD cD g)])) (l2 := []) (w := mC Y S t) (w' := mC Y S 2) SC (pg_cY hYX (c_X1_isIn_2 l Y S t a b2 ha hb2 h2 hsa hsb v3 q)) pT_st pT_h (cwV 4 hts gL_law_X1_isIn rfl rfl rfl (by decide +kernel) ⟨Nat.le_of_ble_eq_true rfl, Nat.le_of_ble_eq_true rfl⟩) (va_recv hKY hP (ci := 1) (q0 := 7) rfl rfl) hKY hP hD hS rfl rfl hl.1 rfl (Nat.le_of_ble_eq_true rfl) dL_law_1129 ⟨hce.1, hce.2⟩ (fun H locs hP hD hS => ?_)
      have hP : va_P (xG X) vwCl (lwW X Y S S 2 (lwJ aJ cJ f) (lwD aD cD g)) H := hP
      have hD : va_D (fun q => s.heap.size ≤ q) (lwW X Y S S 2 (lwJ aJ cJ f) (lwD aD cD g)) := hD
      refine lv_istore (lv' := [(7, .int (iI 0)), (6, .int (iI 2)), (0, .ref b), (1, .ref ((xa X 0))), (2, .ref ((xa Y 0))), (3, .ref aJ), (4, .ref aD), (5, .int (iI ((i : Int))))]) hx hb dL_law_1132 hl (by decide) rfl (fun ls hl => ?_)
      refine lv_aload_n hx hb dL_law_1134 rfl (lv_at hl 4 rfl) ?_
      refine pg_callV (As := []) (rest := []) SC (c_X1_thrown l Y S 2) mB_st (lw_mB hYX hKY hP) (cwV 0 hts gL_law_X1_thrown rfl rfl rfl (by decide +kernel) ⟨Nat.le_of_ble_eq_true rfl, Nat.le_of_ble_eq_true rfl⟩) (va_recv hKY hP (ci := 1) (q0 := 7) rfl rfl) rfl hl.1 rfl (Nat.le_of_ble_eq_true rfl) dL_law_1135 ⟨hce.1, hce.2⟩ ?_
      refine lv_iload hx hb dL_law_1138 (lv_at hl 1 rfl) ?_
      refine lw_same (tgt := 1145) hx hb (⟨by omega, by omega⟩) dL_law_1140 (by decide) ?_
      refine lv_iload hx hb dL_law_1145 (lv_at hl 1 rfl) ?_
      refine pg_if_ne (tgt := 1169) hx hb dL_law_1147 (by decide) (⟨by omega, by omega⟩) (fun _ => ?_) (fun h9 => absurd h9 (by omega))
      refine lv_goto (tgt := 2002) hx hb dL_law_1169 (by decide) ?_
      exact kk S 2 f g H locs ls ⟨hP, hD, hS, hok⟩ (lv_sub hl [2, 3, 4, 5, 6, 7] rfl)
    · have ha1 : sS S a = 1 := by omega
      have hb1 : sS S b2 = 1 := by omega
      by_cases h5 : v3 < 0 ∨ 32768 ≤ v3
      · refine lv_aload_n hx hb dL_law_1057 rfl (lv_at hl 1 rfl) ?_
        refine lw_sc (j := i + 1) (v := ((a : Nat) : Int)) hx hb hX hbl hbA hS (lv_at hl 0 rfl) (lv_at hl 5 rfl) (by omega) (by omega) hL hv1 dL_law_1058 dL_law_1059 dL_law_1061 dL_law_1062 dL_law_1063 ?_
        refine lw_sc (j := i + 2) (v := ((b2 : Nat) : Int)) hx hb hX hbl hbA hS (lv_at hl 0 rfl) (lv_at hl 5 rfl) (by omega) (by omega) hL hv2 dL_law_1064 dL_law_1065 dL_law_1067 dL_law_1068 dL_law_1069 ?_
        refine lw_sc (j := i + 3) (v := v3) hx hb hX hbl hbA hS (lv_at hl 0 rfl) (lv_at hl 5 rfl) (by omega) (by omega) hL hv3 dL_law_1070 dL_law_1071 dL_law_1073 dL_law_1074 dL_law_1075 ?_
        refine lw_sc (j := i + 4) (v := v4) hx hb hX hbl hbA hS (lv_at hl 0 rfl) (lv_at hl 5 rfl) (by omega) (by omega) hL hv4 dL_law_1076 dL_law_1077 dL_law_1079 dL_law_1080 dL_law_1081 ?_
        refine lw_bool (b := q) hx hb (by omega) hq dL_law_1082 dL_law_1085 dL_law_1086 dL_law_1089 ?_
        refine lv_aload_n hx hb dL_law_1090 rfl (lv_at hl 3 rfl) ?_
        refine pg_wcallH (As := [.ref ((xa X 0)), .int (iI (((a : Nat) : Int))), .int (iI (((b2 : Nat) : Int))), .int (iI v3), .int (iI q), .ref aJ]) (rest := []) (l1 := []) (l2 := lwW X Y S S t (lwJ aJ cJ f) (lwD aD cD g)) (w := []) (w' := []) SC (c_L_isIn_3 l hfl s.heap.size X S a b2 ha hb2 ha1 hb1 v3 hq3 h5 q aJ) xW_st (lw_xW hKX hP hS hE hN) (vx_cwSW 6 hts gL_law_L_isIn rfl rfl rfl (by decide +kernel) ⟨Nat.le_of_ble_eq_true rfl, Nat.le_of_ble_eq_true rfl⟩) (va_K.sub hKX [] rfl) hP hD hS rfl rfl hl.1 rfl (Nat.le_of_ble_eq_true rfl) dL_law_1091 ⟨hce.1, hce.2⟩ (fun H locs hP hD hS => ?_)
        have hP : va_P (xG X) vwCl (lwW X Y S S t (lwJ aJ cJ f) (lwD aD cD g)) H := hP
        have hD : va_D (fun q => s.heap.size ≤ q) (lwW X Y S S t (lwJ aJ cJ f) (lwD aD cD g)) := hD
        refine lv_istore (lv' := [(6, .int (iI 3)), (0, .ref b), (1, .ref ((xa X 0))), (2, .ref ((xa Y 0))), (3, .ref aJ), (4, .ref aD), (5, .int (iI ((i : Int))))]) hx hb dL_law_1094 hl (by decide) rfl (fun ls hl => ?_)
        refine lv_aload_n hx hb dL_law_1096 rfl (lv_at hl 3 rfl) ?_
        refine lw_sc (j := i + 1) (v := ((a : Nat) : Int)) hx hb hX hbl hbA hS (lv_at hl 1 rfl) (lv_at hl 6 rfl) (by omega) (by omega) hL hv1 dL_law_1097 dL_law_1098 dL_law_1100 dL_law_1101 dL_law_1102 ?_
        refine lw_sc (j := i + 2) (v := ((b2 : Nat) : Int)) hx hb hX hbl hbA hS (lv_at hl 1 rfl) (lv_at hl 6 rfl) (by omega) (by omega) hL hv2 dL_law_1103 dL_law_1104 dL_law_1106 dL_law_1107 dL_law_1108 ?_
        refine lw_sc (j := i + 3) (v := v3) hx hb hX hbl hbA hS (lv_at hl 1 rfl) (lv_at hl 6 rfl) (by omega) (by omega) hL hv3 dL_law_1109 dL_law_1110 dL_law_1112 dL_law_1113 dL_law_1114 ?_
        refine lw_sc (j := i + 4) (v := v4) hx hb hX hbl hbA hS (lv_at hl 1 rfl) (lv_at hl 6 rfl) (by omega) (by omega) hL hv4 dL_law_1115 dL_law_1116 dL_law_1118 dL_law_1119 dL_law_1120 ?_
        refine lw_bool (b := q) hx hb (by omega) hq dL_law_1121 dL_law_1124 dL_law_1125 dL_law_1128 ?_
        refine pg_wcallV (As := [.int (iI (((a : Nat) : Int))), .int (iI (((b2 : Nat) : Int))), .int (iI v3), .int (iI q)]) (rest := []) (l1 := (lwJ aJ cJ f) :: (xC X S ++ [(lwD aD cD g)])) (l2 := []) (w := mC Y S t) (w' := mC Y S 3) SC (pg_cY hYX (c_X1_isIn_3 l Y S t a b2 ha hb2 ha1 hb1 v3 hq3 h5 q)) pT_st pT_h (cwV 4 hts gL_law_X1_isIn rfl rfl rfl (by decide +kernel) ⟨Nat.le_of_ble_eq_true rfl, Nat.le_of_ble_eq_true rfl⟩) (va_recv hKY hP (ci := 1) (q0 := 7) rfl rfl) hKY hP hD hS rfl rfl hl.1 rfl (Nat.le_of_ble_eq_true rfl) dL_law_1129 ⟨hce.1, hce.2⟩ (fun H locs hP hD hS => ?_)
        have hP : va_P (xG X) vwCl (lwW X Y S S 3 (lwJ aJ cJ f) (lwD aD cD g)) H := hP
        have hD : va_D (fun q => s.heap.size ≤ q) (lwW X Y S S 3 (lwJ aJ cJ f) (lwD aD cD g)) := hD
        refine lv_istore (lv' := [(7, .int (iI 0)), (6, .int (iI 3)), (0, .ref b), (1, .ref ((xa X 0))), (2, .ref ((xa Y 0))), (3, .ref aJ), (4, .ref aD), (5, .int (iI ((i : Int))))]) hx hb dL_law_1132 hl (by decide) rfl (fun ls hl => ?_)
        refine lv_aload_n hx hb dL_law_1134 rfl (lv_at hl 4 rfl) ?_
        refine pg_callV (As := []) (rest := []) SC (c_X1_thrown l Y S 3) mB_st (lw_mB hYX hKY hP) (cwV 0 hts gL_law_X1_thrown rfl rfl rfl (by decide +kernel) ⟨Nat.le_of_ble_eq_true rfl, Nat.le_of_ble_eq_true rfl⟩) (va_recv hKY hP (ci := 1) (q0 := 7) rfl rfl) rfl hl.1 rfl (Nat.le_of_ble_eq_true rfl) dL_law_1135 ⟨hce.1, hce.2⟩ ?_
        refine lv_iload hx hb dL_law_1138 (lv_at hl 1 rfl) ?_
        refine lw_same (tgt := 1145) hx hb (⟨by omega, by omega⟩) dL_law_1140 (by decide) ?_
        refine lv_iload hx hb dL_law_1145 (lv_at hl 1 rfl) ?_
        refine pg_if_ne (tgt := 1169) hx hb dL_law_1147 (by decide) (⟨by omega, by omega⟩) (fun _ => ?_) (fun h9 => absurd h9 (by omega))
        refine lv_goto (tgt := 2002) hx hb dL_law_1169 (by decide) ?_
        exact kk S 3 f g H locs ls ⟨hP, hD, hS, hok⟩ (lv_sub hl [2, 3, 4, 5, 6, 7] rfl)
      · obtain ⟨n, rfl⟩ : ∃ z : Nat, v3 = (z : Int) := ⟨v3.toNat, by omega⟩
        obtain ⟨M, hM⟩ : ∃ M : Nat, (q = 0 ∧ M = 16 * n) ∨ (q = 1 ∧ M = 4 * n) := by
          by_cases hz : q = 0
          · exact ⟨16 * n, Or.inl ⟨hz, rfl⟩⟩
          · exact ⟨4 * n, Or.inr ⟨by omega, rfl⟩⟩
        obtain ⟨r, hr⟩ : ∃ r : Int, (gN S a b2 ≤ gr M ∧ r = 1) ∨ (gr M < gN S a b2 ∧ r = 0) := by
          by_cases hz : gN S a b2 ≤ gr M
          · exact ⟨1, Or.inl ⟨hz, rfl⟩⟩
          · exact ⟨0, Or.inr ⟨by omega, rfl⟩⟩
        refine lv_aload_n hx hb dL_law_1057 rfl (lv_at hl 1 rfl) ?_
        refine lw_sc (j := i + 1) (v := ((a : Nat) : Int)) hx hb hX hbl hbA hS (lv_at hl 0 rfl) (lv_at hl 5 rfl) (by omega) (by omega) hL hv1 dL_law_1058 dL_law_1059 dL_law_1061 dL_law_1062 dL_law_1063 ?_
        refine lw_sc (j := i + 2) (v := ((b2 : Nat) : Int)) hx hb hX hbl hbA hS (lv_at hl 0 rfl) (lv_at hl 5 rfl) (by omega) (by omega) hL hv2 dL_law_1064 dL_law_1065 dL_law_1067 dL_law_1068 dL_law_1069 ?_
        refine lw_sc (j := i + 3) (v := ((n : Nat) : Int)) hx hb hX hbl hbA hS (lv_at hl 0 rfl) (lv_at hl 5 rfl) (by omega) (by omega) hL hv3 dL_law_1070 dL_law_1071 dL_law_1073 dL_law_1074 dL_law_1075 ?_
        refine lw_sc (j := i + 4) (v := v4) hx hb hX hbl hbA hS (lv_at hl 0 rfl) (lv_at hl 5 rfl) (by omega) (by omega) hL hv4 dL_law_1076 dL_law_1077 dL_law_1079 dL_law_1080 dL_law_1081 ?_
        refine lw_bool (b := q) hx hb (by omega) hq dL_law_1082 dL_law_1085 dL_law_1086 dL_law_1089 ?_
        refine lv_aload_n hx hb dL_law_1090 rfl (lv_at hl 3 rfl) ?_
        refine pg_wcallH (As := [.ref ((xa X 0)), .int (iI (((a : Nat) : Int))), .int (iI (((b2 : Nat) : Int))), .int (iI (((n : Nat) : Int))), .int (iI q), .ref aJ]) (rest := []) (l1 := []) (l2 := (lwD aD cD g) :: mC Y S t) (w := (lwJ aJ cJ f) :: xC X S) (w' := (lwJ aJ cJ (vp_updL f 0 (lI r))) :: xC X S) SC (c_L_isIn_ok l X S hok a b2 ha hb2 ha1 hb1 n q M (by omega) hiq (by omega) r hr cJ aJ f) pT_st pT_h (vx_cwSW 6 hts gL_law_L_isIn rfl rfl rfl (by decide +kernel) ⟨Nat.le_of_ble_eq_true rfl, Nat.le_of_ble_eq_true rfl⟩) hKJ hP hD hS rfl rfl hl.1 rfl (Nat.le_of_ble_eq_true rfl) dL_law_1091 ⟨hc0.1, hc0.2⟩ (fun H locs hP hD hS => ?_)
        have hP : va_P (xG X) vwCl (lwW X Y S S t (lwJ aJ cJ (vp_updL f 0 (lI r))) (lwD aD cD g)) H := hP
        have hD : va_D (fun q => s.heap.size ≤ q) (lwW X Y S S t (lwJ aJ cJ (vp_updL f 0 (lI r))) (lwD aD cD g)) := hD
        refine lv_istore (lv' := [(6, .int (iI 0)), (0, .ref b), (1, .ref ((xa X 0))), (2, .ref ((xa Y 0))), (3, .ref aJ), (4, .ref aD), (5, .int (iI ((i : Int))))]) hx hb dL_law_1094 hl (by decide) rfl (fun ls hl => ?_)
        refine lv_aload_n hx hb dL_law_1096 rfl (lv_at hl 3 rfl) ?_
        refine lw_sc (j := i + 1) (v := ((a : Nat) : Int)) hx hb hX hbl hbA hS (lv_at hl 1 rfl) (lv_at hl 6 rfl) (by omega) (by omega) hL hv1 dL_law_1097 dL_law_1098 dL_law_1100 dL_law_1101 dL_law_1102 ?_
        refine lw_sc (j := i + 2) (v := ((b2 : Nat) : Int)) hx hb hX hbl hbA hS (lv_at hl 1 rfl) (lv_at hl 6 rfl) (by omega) (by omega) hL hv2 dL_law_1103 dL_law_1104 dL_law_1106 dL_law_1107 dL_law_1108 ?_
        refine lw_sc (j := i + 3) (v := ((n : Nat) : Int)) hx hb hX hbl hbA hS (lv_at hl 1 rfl) (lv_at hl 6 rfl) (by omega) (by omega) hL hv3 dL_law_1109 dL_law_1110 dL_law_1112 dL_law_1113 dL_law_1114 ?_
        refine lw_sc (j := i + 4) (v := v4) hx hb hX hbl hbA hS (lv_at hl 1 rfl) (lv_at hl 6 rfl) (by omega) (by omega) hL hv4 dL_law_1115 dL_law_1116 dL_law_1118 dL_law_1119 dL_law_1120 ?_
        refine lw_bool (b := q) hx hb (by omega) hq dL_law_1121 dL_law_1124 dL_law_1125 dL_law_1128 ?_
        refine pg_wcallV (As := [.int (iI (((a : Nat) : Int))), .int (iI (((b2 : Nat) : Int))), .int (iI (((n : Nat) : Int))), .int (iI q)]) (rest := []) (l1 := (lwJ aJ cJ (vp_updL f 0 (lI r))) :: (xC X S ++ [(lwD aD cD g)])) (l2 := []) (w := mC Y S t) (w' := mC Y S 0) SC (pg_cY hYX (c_X1_isIn_ok l Y S t hok a b2 ha hb2 ha1 hb1 n q M (by omega) hiq hM r hr)) pT_st pT_h (cwV 4 hts gL_law_X1_isIn rfl rfl rfl (by decide +kernel) ⟨Nat.le_of_ble_eq_true rfl, Nat.le_of_ble_eq_true rfl⟩) (va_recv hKY hP (ci := 1) (q0 := 7) rfl rfl) hKY hP hD hS rfl rfl hl.1 rfl (Nat.le_of_ble_eq_true rfl) dL_law_1129 ⟨hc0.1, hc0.2⟩ (fun H locs hP hD hS => ?_)
        have hP : va_P (xG X) vwCl (lwW X Y S S 0 (lwJ aJ cJ (vp_updL f 0 (lI r))) (lwD aD cD g)) H := hP
        have hD : va_D (fun q => s.heap.size ≤ q) (lwW X Y S S 0 (lwJ aJ cJ (vp_updL f 0 (lI r))) (lwD aD cD g)) := hD
        refine lv_istore (lv' := [(7, .int (iI r)), (6, .int (iI 0)), (0, .ref b), (1, .ref ((xa X 0))), (2, .ref ((xa Y 0))), (3, .ref aJ), (4, .ref aD), (5, .int (iI ((i : Int))))]) hx hb dL_law_1132 hl (by decide) rfl (fun ls hl => ?_)
        refine lv_aload_n hx hb dL_law_1134 rfl (lv_at hl 4 rfl) ?_
        refine pg_callV (As := []) (rest := []) SC (c_X1_thrown l Y S 0) mB_st (lw_mB hYX hKY hP) (cwV 0 hts gL_law_X1_thrown rfl rfl rfl (by decide +kernel) ⟨Nat.le_of_ble_eq_true rfl, Nat.le_of_ble_eq_true rfl⟩) (va_recv hKY hP (ci := 1) (q0 := 7) rfl rfl) rfl hl.1 rfl (Nat.le_of_ble_eq_true rfl) dL_law_1135 ⟨hc0.1, hc0.2⟩ ?_
        refine lv_iload hx hb dL_law_1138 (lv_at hl 1 rfl) ?_
        refine lw_same (tgt := 1145) hx hb (⟨by omega, by omega⟩) dL_law_1140 (by decide) ?_
        refine lv_iload hx hb dL_law_1145 (lv_at hl 1 rfl) ?_
        refine pg_if_ne (tgt := 1169) hx hb dL_law_1147 (by decide) (⟨by omega, by omega⟩) (fun h9 => absurd rfl h9) (fun _ => ?_)
        refine lv_aload_n hx hb dL_law_1150 rfl (lv_at hl 5 rfl) ?_
        refine lv_iconst (v := iI 0) hx hb dL_law_1151 rfl ?_
        refine pg_lld0 hx hb hKJ hP 0 2 rfl rfl dL_law_1152 ?_
        refine lv_iload hx hb dL_law_1153 (lv_at hl 0 rfl) ?_
        refine lw_lbool hx hb (by omega) dL_law_1155 dL_law_1158 dL_law_1159 dL_law_1162 ?_
        refine lw_leq (tgt := 1169) hx hb rfl dL_law_1163 dL_law_1164 (by decide) ?_
        refine lv_goto (tgt := 2002) hx hb dL_law_1169 (by decide) ?_
        exact pg_widen (Nat.le_succ _) (Nat.le_add_right _ 6) (kk S 0 ((vp_updL f 0 (lI r))) g H locs ls ⟨hP, hD, hS, hok⟩ (lv_sub hl [2, 3, 4, 5, 6, 7] rfl))
set_option maxRecDepth 100000 in
set_option maxHeartbeats 4000000 in
theorem lw_op15 {p : Program} {l : Launch} {e : Env} {s : State} {m : MethodId} {args : Array Value} {below : List Frame} {meth : Method} {c : Code} {H : Heap} {locs : List Loc} {cells slots : Nat} {Q : State → Prop} {b L : Nat} {xs : Nat → Int32} {X Y : pgX} {cJ cD aJ aD : Nat} (hC : lwK l p s m c args b L xs X Y cJ cD) {i : Nat} (hi : i + 5 ≤ L) {S : pgS} {t : Int} {f : Nat → Int64} {g : Nat → UInt64} (hG : lwG s X Y cJ aJ cD aD S t f g H locs) (hce : cells + 1 ≤ 1047 ∧ slots + 6 ≤ 8369) {ls : Array Slot} (hl : lv_has ls 9 (lwB b X Y aJ aD i)) (kk : ∀ (S1 : pgS) (t1 : Int) (f1 : Nat → Int64) (g1 : Nat → UInt64) (H1 : Heap) (locs1 : List Loc) (ls1 : Array Slot), lwG s X Y cJ aJ cD aD S1 t1 f1 g1 H1 locs1 → lv_has ls1 9 (lwB b X Y aJ aD i) → W p l e room_1 s m args below meth c H1 locs1 (cells + 1) (slots + 6) Q (F0 m 2002 ls1 [])) : W p l e room_1 s m args below meth c H locs cells slots Q (F0 m 1172 ls []) := by
  obtain ⟨SC, hfl, hX, hbl, hL, hYX, hKJ, hKD, hKY, hE, hN⟩ := id hC
  obtain ⟨hx, hb, hml, hown, hts⟩ := id SC
  obtain ⟨hP, hD, hS, hok⟩ := id hG
  have hKX : va_K (xG X) vwCl (xTy X) s := va_K.sub hKJ [0, 1] rfl
  have hbA : ¬ s.heap.size ≤ b := by omega
  have hc0 : cells ≤ 1047 ∧ slots ≤ 8369 := by omega
  have hl : lv_has ls 9 [(0, .ref b), (1, .ref ((xa X 0))), (2, .ref ((xa Y 0))), (3, .ref aJ), (4, .ref aD), (5, .int (iI ((i : Int))))] := hl
  obtain ⟨v1, hv1, hq1⟩ : ∃ v : Int, xs (i + 1) = iI v ∧ inI v := ⟨_, iI_self _, inI_self _⟩
  obtain ⟨v2, hv2, hq2⟩ : ∃ v : Int, xs (i + 2) = iI v ∧ inI v := ⟨_, iI_self _, inI_self _⟩
  obtain ⟨q, hq⟩ : ∃ z : Int, (v2 = 0 ∧ z = 0) ∨ (v2 ≠ 0 ∧ z = 1) := by
    by_cases hz : v2 = 0
    · exact ⟨0, Or.inl ⟨hz, rfl⟩⟩
    · exact ⟨1, Or.inr ⟨hz, rfl⟩⟩
  have hiq : inI q := ⟨by omega, by omega⟩
  by_cases h1 : v1 < 0 ∨ 32768 ≤ v1
  · refine lv_aload_n hx hb dL_law_1172 rfl (lv_at hl 1 rfl) ?_
    refine lw_sc (j := i + 1) (v := v1) hx hb hX hbl hbA hS (lv_at hl 0 rfl) (lv_at hl 5 rfl) (by omega) (by omega) hL hv1 dL_law_1173 dL_law_1174 dL_law_1176 dL_law_1177 dL_law_1178 ?_
    refine lw_sc (j := i + 2) (v := v2) hx hb hX hbl hbA hS (lv_at hl 0 rfl) (lv_at hl 5 rfl) (by omega) (by omega) hL hv2 dL_law_1179 dL_law_1180 dL_law_1182 dL_law_1183 dL_law_1184 ?_
    refine lw_bool (b := q) hx hb (by omega) hq dL_law_1185 dL_law_1188 dL_law_1189 dL_law_1192 ?_
    refine lv_aload hx hb dL_law_1193 (lv_at hl 4 rfl) ?_
    refine pg_wcallH (As := [.ref ((xa X 0)), .int (iI v1), .int (iI q), .ref aD]) (rest := []) (l1 := []) (l2 := lwW X Y S S t (lwJ aJ cJ f) (lwD aD cD g)) (w := []) (w' := []) SC (c_L_root_1 l hfl s.heap.size X S v1 hq1 h1 q aD) xW_st (lw_xW hKX hP hS hE hN) (vx_cwSW 4 hts gL_law_L_root rfl rfl rfl (by decide +kernel) ⟨Nat.le_of_ble_eq_true rfl, Nat.le_of_ble_eq_true rfl⟩) (va_K.sub hKX [] rfl) hP hD hS rfl rfl hl.1 rfl (Nat.le_of_ble_eq_true rfl) dL_law_1195 ⟨hce.1, hce.2⟩ (fun H locs hP hD hS => ?_)
    have hP : va_P (xG X) vwCl (lwW X Y S S t (lwJ aJ cJ f) (lwD aD cD g)) H := hP
    have hD : va_D (fun q => s.heap.size ≤ q) (lwW X Y S S t (lwJ aJ cJ f) (lwD aD cD g)) := hD
    refine lv_istore (lv' := [(6, .int (iI 1)), (0, .ref b), (1, .ref ((xa X 0))), (2, .ref ((xa Y 0))), (3, .ref aJ), (4, .ref aD), (5, .int (iI ((i : Int))))]) hx hb dL_law_1198 hl (by decide) rfl (fun ls hl => ?_)
    refine lv_aload_n hx hb dL_law_1200 rfl (lv_at hl 3 rfl) ?_
    refine lw_sc (j := i + 1) (v := v1) hx hb hX hbl hbA hS (lv_at hl 1 rfl) (lv_at hl 6 rfl) (by omega) (by omega) hL hv1 dL_law_1201 dL_law_1202 dL_law_1204 dL_law_1205 dL_law_1206 ?_
    refine lw_sc (j := i + 2) (v := v2) hx hb hX hbl hbA hS (lv_at hl 1 rfl) (lv_at hl 6 rfl) (by omega) (by omega) hL hv2 dL_law_1207 dL_law_1208 dL_law_1210 dL_law_1211 dL_law_1212 ?_
    refine lw_bool (b := q) hx hb (by omega) hq dL_law_1213 dL_law_1216 dL_law_1217 dL_law_1220 ?_
    refine pg_wcallV (As := [.int (iI v1), .int (iI q)]) (rest := []) (l1 := (lwJ aJ cJ f) :: (xC X S ++ [(lwD aD cD g)])) (l2 := []) (w := mC Y S t) (w' := mC Y S 1) SC (pg_cY hYX (c_X1_root_1 l Y S t v1 hq1 h1 q)) pT_st pT_h (cwV 2 hts gL_law_X1_root rfl rfl rfl (by decide +kernel) ⟨Nat.le_of_ble_eq_true rfl, Nat.le_of_ble_eq_true rfl⟩) (va_recv hKY hP (ci := 1) (q0 := 7) rfl rfl) hKY hP hD hS rfl rfl hl.1 rfl (Nat.le_of_ble_eq_true rfl) dL_law_1221 ⟨hce.1, hce.2⟩ (fun H locs hP hD hS => ?_)
    have hP : va_P (xG X) vwCl (lwW X Y S S 1 (lwJ aJ cJ f) (lwD aD cD g)) H := hP
    have hD : va_D (fun q => s.heap.size ≤ q) (lwW X Y S S 1 (lwJ aJ cJ f) (lwD aD cD g)) := hD
    refine lv_dstore (lv' := [(7, .double ((0 : UInt64))), (6, .int (iI 1)), (0, .ref b), (1, .ref ((xa X 0))), (2, .ref ((xa Y 0))), (3, .ref aJ), (4, .ref aD), (5, .int (iI ((i : Int))))]) hx hb dL_law_1224 hl (by decide) rfl (fun ls hl => ?_)
    refine lv_aload_n hx hb dL_law_1226 rfl (lv_at hl 4 rfl) ?_
    refine pg_callV (As := []) (rest := []) SC (c_X1_thrown l Y S 1) mB_st (lw_mB hYX hKY hP) (cwV 0 hts gL_law_X1_thrown rfl rfl rfl (by decide +kernel) ⟨Nat.le_of_ble_eq_true rfl, Nat.le_of_ble_eq_true rfl⟩) (va_recv hKY hP (ci := 1) (q0 := 7) rfl rfl) rfl hl.1 rfl (Nat.le_of_ble_eq_true rfl) dL_law_1227 ⟨hce.1, hce.2⟩ ?_
    refine lv_iload hx hb dL_law_1230 (lv_at hl 1 rfl) ?_
    refine lw_same (tgt := 1237) hx hb (⟨by omega, by omega⟩) dL_law_1232 (by decide) ?_
    refine lv_iload hx hb dL_law_1237 (lv_at hl 1 rfl) ?_
    refine pg_if_ne (tgt := 1274) hx hb dL_law_1239 (by decide) (⟨by omega, by omega⟩) (fun _ => ?_) (fun h9 => absurd h9 (by omega))
    refine lv_goto (tgt := 2002) hx hb dL_law_1274 (by decide) ?_
    exact kk S 1 f g H locs ls ⟨hP, hD, hS, hok⟩ (lv_sub hl [2, 3, 4, 5, 6, 7] rfl)
  · obtain ⟨n, rfl⟩ : ∃ z : Nat, v1 = (z : Int) := ⟨v1.toNat, by omega⟩
    obtain ⟨M, hM⟩ : ∃ M : Nat, (q = 0 ∧ M = 16 * n) ∨ (q = 1 ∧ M = 4 * n) := by
      by_cases hz : q = 0
      · exact ⟨16 * n, Or.inl ⟨hz, rfl⟩⟩
      · exact ⟨4 * n, Or.inr ⟨by omega, rfl⟩⟩
    have hdc : FP.dcmp (dbl M) (dbl M) = some .eq := dbl_self (by omega)
    refine lv_aload_n hx hb dL_law_1172 rfl (lv_at hl 1 rfl) ?_
    refine lw_sc (j := i + 1) (v := ((n : Nat) : Int)) hx hb hX hbl hbA hS (lv_at hl 0 rfl) (lv_at hl 5 rfl) (by omega) (by omega) hL hv1 dL_law_1173 dL_law_1174 dL_law_1176 dL_law_1177 dL_law_1178 ?_
    refine lw_sc (j := i + 2) (v := v2) hx hb hX hbl hbA hS (lv_at hl 0 rfl) (lv_at hl 5 rfl) (by omega) (by omega) hL hv2 dL_law_1179 dL_law_1180 dL_law_1182 dL_law_1183 dL_law_1184 ?_
    refine lw_bool (b := q) hx hb (by omega) hq dL_law_1185 dL_law_1188 dL_law_1189 dL_law_1192 ?_
    refine lv_aload hx hb dL_law_1193 (lv_at hl 4 rfl) ?_
    refine pg_wcallH (As := [.ref ((xa X 0)), .int (iI (((n : Nat) : Int))), .int (iI q), .ref aD]) (rest := []) (l1 := [(lwJ aJ cJ f)]) (l2 := mC Y S t) (w := xC X S ++ [(lwD aD cD g)]) (w' := xC X S ++ [(lwD aD cD (vf_upd g 0 ((dbl M))))]) SC (c_L_root_ok l X S n q M (by omega) hiq (by omega) cD aD g) pT_st pT_h (vx_cwSW 4 hts gL_law_L_root rfl rfl rfl (by decide +kernel) ⟨Nat.le_of_ble_eq_true rfl, Nat.le_of_ble_eq_true rfl⟩) hKD hP hD hS rfl rfl hl.1 rfl (Nat.le_of_ble_eq_true rfl) dL_law_1195 ⟨hc0.1, hc0.2⟩ (fun H locs hP hD hS => ?_)
    have hP : va_P (xG X) vwCl (lwW X Y S S t (lwJ aJ cJ f) (lwD aD cD (vf_upd g 0 ((dbl M))))) H := hP
    have hD : va_D (fun q => s.heap.size ≤ q) (lwW X Y S S t (lwJ aJ cJ f) (lwD aD cD (vf_upd g 0 ((dbl M))))) := hD
    refine lv_istore (lv' := [(6, .int (iI 0)), (0, .ref b), (1, .ref ((xa X 0))), (2, .ref ((xa Y 0))), (3, .ref aJ), (4, .ref aD), (5, .int (iI ((i : Int))))]) hx hb dL_law_1198 hl (by decide) rfl (fun ls hl => ?_)
    refine lv_aload_n hx hb dL_law_1200 rfl (lv_at hl 3 rfl) ?_
    refine lw_sc (j := i + 1) (v := ((n : Nat) : Int)) hx hb hX hbl hbA hS (lv_at hl 1 rfl) (lv_at hl 6 rfl) (by omega) (by omega) hL hv1 dL_law_1201 dL_law_1202 dL_law_1204 dL_law_1205 dL_law_1206 ?_
    refine lw_sc (j := i + 2) (v := v2) hx hb hX hbl hbA hS (lv_at hl 1 rfl) (lv_at hl 6 rfl) (by omega) (by omega) hL hv2 dL_law_1207 dL_law_1208 dL_law_1210 dL_law_1211 dL_law_1212 ?_
    refine lw_bool (b := q) hx hb (by omega) hq dL_law_1213 dL_law_1216 dL_law_1217 dL_law_1220 ?_
    refine pg_wcallV (As := [.int (iI (((n : Nat) : Int))), .int (iI q)]) (rest := []) (l1 := (lwJ aJ cJ f) :: (xC X S ++ [(lwD aD cD (vf_upd g 0 ((dbl M))))])) (l2 := []) (w := mC Y S t) (w' := mC Y S 0) SC (pg_cY hYX (c_X1_root_ok l Y S t n q M (by omega) hiq hM)) pT_st pT_h (cwV 2 hts gL_law_X1_root rfl rfl rfl (by decide +kernel) ⟨Nat.le_of_ble_eq_true rfl, Nat.le_of_ble_eq_true rfl⟩) (va_recv hKY hP (ci := 1) (q0 := 7) rfl rfl) hKY hP hD hS rfl rfl hl.1 rfl (Nat.le_of_ble_eq_true rfl) dL_law_1221 ⟨hc0.1, hc0.2⟩ (fun H locs hP hD hS => ?_)
    have hP : va_P (xG X) vwCl (lwW X Y S S 0 (lwJ aJ cJ f) (lwD aD cD (vf_upd g 0 ((dbl M))))) H := hP
    have hD : va_D (fun q => s.heap.size ≤ q) (lwW X Y S S 0 (lwJ aJ cJ f) (lwD aD cD (vf_upd g 0 ((dbl M))))) := hD
    refine lv_dstore (lv' := [(7, .double ((dbl M))), (6, .int (iI 0)), (0, .ref b), (1, .ref ((xa X 0))), (2, .ref ((xa Y 0))), (3, .ref aJ), (4, .ref aD), (5, .int (iI ((i : Int))))]) hx hb dL_law_1224 hl (by decide) rfl (fun ls hl => ?_)
    refine lv_aload_n hx hb dL_law_1226 rfl (lv_at hl 4 rfl) ?_
    refine pg_callV (As := []) (rest := []) SC (c_X1_thrown l Y S 0) mB_st (lw_mB hYX hKY hP) (cwV 0 hts gL_law_X1_thrown rfl rfl rfl (by decide +kernel) ⟨Nat.le_of_ble_eq_true rfl, Nat.le_of_ble_eq_true rfl⟩) (va_recv hKY hP (ci := 1) (q0 := 7) rfl rfl) rfl hl.1 rfl (Nat.le_of_ble_eq_true rfl) dL_law_1227 ⟨hc0.1, hc0.2⟩ ?_
    refine lv_iload hx hb dL_law_1230 (lv_at hl 1 rfl) ?_
    refine lw_same (tgt := 1237) hx hb (⟨by omega, by omega⟩) dL_law_1232 (by decide) ?_
    refine lv_iload hx hb dL_law_1237 (lv_at hl 1 rfl) ?_
    refine pg_if_ne (tgt := 1274) hx hb dL_law_1239 (by decide) (⟨by omega, by omega⟩) (fun h9 => absurd rfl h9) (fun _ => ?_)
    refine lv_aload hx hb dL_law_1242 (lv_at hl 6 rfl) ?_
    refine lv_iconst (v := iI 0) hx hb dL_law_1244 rfl ?_
    refine pg_dld0 hx hb hKD hP 6 2 rfl rfl dL_law_1245 ?_
    refine lv_dload hx hb dL_law_1246 (lv_at hl 0 rfl) ?_
    refine lv_dcmp hx hb dL_law_1248 (pg_ti (y := iI 0) (by rw [hdc]; decide +kernel) ?_)
    refine pg_if_eq (tgt := 1274) hx hb dL_law_1249 (by decide) ⟨by omega, by omega⟩ (fun _ => ?_) (fun h9 => absurd rfl h9)
    refine lv_goto (tgt := 2002) hx hb dL_law_1274 (by decide) ?_
    exact pg_widen (Nat.le_succ _) (Nat.le_add_right _ 6) (kk S 0 f ((vf_upd g 0 ((dbl M)))) H locs ls ⟨hP, hD, hS, hok⟩ (lv_sub hl [2, 3, 4, 5, 6, 7] rfl))
