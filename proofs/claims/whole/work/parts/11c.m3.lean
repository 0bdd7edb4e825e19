set_option maxRecDepth 100000 in
set_option maxHeartbeats 4000000 in
theorem c_X1_root_ok (l : Launch) (X : pgX) (S : pgS) (t : Int) (n : Nat) (q : Int) (M : Nat) (hn : n < 32768) (hqi : inI q) (hM : (q = 0 ∧ M = 16 * n) ∨ (q = 1 ∧ M = 4 * n))  : pg_wr l yX1_root wsX1_root (rm 2 52) (xG X) (xTy X) pT (mC X S t) (mC X S 0) 0 0 [.ref ((xa X 0)), .int (iI (((n : Nat) : Int))), .int (iI q)] (some (.double ((dbl M)))) := by
  refine pg_wr_of (cc := cX1_root) (maxL := 7) (ret := (some .double)) (by decide) rfl (Nat.le_of_ble_eq_true rfl) ?_
  intro p e s m below meth c ls SC hr hlk hP hK hD hS hB hl
  obtain ⟨hx, hb, hml, hown, hts⟩ := id SC
  have hown : s.vm.findClass RX1 = some m.cls := hown
  have hl : lv_has ls 7 [(0, .ref ((xa X 0))), (1, .int (iI (((n : Nat) : Int)))), (2, .int (iI q))] := hl
  refine lv_aload_n hx hb dX1_root_0 rfl (lv_at hl 0 rfl) ?_
  refine lv_iload_n hx hb dX1_root_1 rfl (lv_at hl 1 rfl) ?_
  refine lv_iconst (v := iI 1) hx hb dX1_root_2 rfl ?_
  refine pg_wcallV (As := [.int (iI (((n : Nat) : Int))), .int (iI 1)]) (rest := []) (l1 := []) (l2 := []) (w := [(xa X 0, .inr (1, [.int (iI t), .ref ((xa X 1)), .ref ((xa X 2)), .ref ((xa X 3)), .ref ((xa X 4)), .int (iI (((sN S : Nat) : Int))), .int (iI (((sW S : Nat) : Int)))])), (xa X 1, .inl (xZ X, 12, .inl (fI (sS S)))), (xa X 2, .inl (xI X, 12, .inl (fI (sA S)))), (xa X 3, .inl (xI X, 12, .inl (fI (sU S)))), (xa X 4, .inl (xI X, 12, .inl (fI (sR S))))]) (w' := [(xa X 0, .inr (1, [.int (iI 0), .ref ((xa X 1)), .ref ((xa X 2)), .ref ((xa X 3)), .ref ((xa X 4)), .int (iI (((sN S : Nat) : Int))), .int (iI (((sW S : Nat) : Int)))])), (xa X 1, .inl (xZ X, 12, .inl (fI (sS S)))), (xa X 2, .inl (xI X, 12, .inl (fI (sA S)))), (xa X 3, .inl (xI X, 12, .inl (fI (sU S)))), (xa X 4, .inl (xI X, 12, .inl (fI (sR S))))]) SC (c_X1_isNoAsked_ok l X S t (((n : Nat) : Int)) 1 (by omega)) pT_st pT_h (cwV 2 hts gX1_root_X1_isNoAsked rfl rfl rfl (by decide +kernel) ⟨Nat.le_of_ble_eq_true rfl, Nat.le_of_ble_eq_true rfl⟩) (va_recv hK hP (ci := 1) (q0 := 0) rfl rfl) hK hP hD hS rfl rfl hl.1 rfl (Nat.le_of_ble_eq_true rfl) dX1_root_3 ⟨Nat.zero_le _, Nat.zero_le _⟩ (fun H locs hP hD hS => ?_)
  have hP : va_P (xG X) vwCl ([(xa X 0, .inr (1, [.int (iI 0), .ref ((xa X 1)), .ref ((xa X 2)), .ref ((xa X 3)), .ref ((xa X 4)), .int (iI (((sN S : Nat) : Int))), .int (iI (((sW S : Nat) : Int)))])), (xa X 1, .inl (xZ X, 12, .inl (fI (sS S)))), (xa X 2, .inl (xI X, 12, .inl (fI (sA S)))), (xa X 3, .inl (xI X, 12, .inl (fI (sU S)))), (xa X 4, .inl (xI X, 12, .inl (fI (sR S))))]) H := hP
  have hD : va_D (pg_in ((mC X S t))) ([(xa X 0, .inr (1, [.int (iI 0), .ref ((xa X 1)), .ref ((xa X 2)), .ref ((xa X 3)), .ref ((xa X 4)), .int (iI (((sN S : Nat) : Int))), .int (iI (((sW S : Nat) : Int)))])), (xa X 1, .inl (xZ X, 12, .inl (fI (sS S)))), (xa X 2, .inl (xI X, 12, .inl (fI (sA S)))), (xa X 3, .inl (xI X, 12, .inl (fI (sU S)))), (xa X 4, .inl (xI X, 12, .inl (fI (sR S))))]) := hD
  refine pg_if_ne (tgt := 13) hx hb dX1_root_6 (by decide) (⟨by omega, by omega⟩) (fun hc1 => absurd hc1 (by omega)) (fun hc1 => ?_)
  refine lv_iload_n hx hb dX1_root_9 rfl (lv_at hl 1 rfl) ?_
  refine pg_if_ne (tgt := 15) hx hb dX1_root_10 (by decide) (⟨by omega, by omega⟩) (fun hc2 => ?_) (fun hc2 => ?_)
  · have hn0 : n ≠ 0 := by omega
    have hpw : pw n ≤ 7 := pw_small (by omega)
    obtain ⟨u1, u2, -, -⟩ := un_spec (M := 16 * n) (by omega) (by omega)
    rw [un_16 hn0 (by omega)] at u1 u2
    obtain ⟨u, hue⟩ : ∃ u, u = (qs (n * 4 ^ (53 - pw n)) + 1) / 2 := ⟨_, rfl⟩
    rw [← hue] at u1 u2
    have hok9 := rd_ok (M := n) (by omega)
    have hf9 : 52 - pw n + 1 = 53 - pw n := by omega
    refine lv_iload_n hx hb dX1_root_15 rfl (lv_at hl 1 rfl) ?_
    refine pg_callS (As := [.int (iI (((n : Nat) : Int)))]) (rest := []) SC (c_X1_powerOf l n (by omega) hn0) pT_st pT_h (va_cwS 1 hts gX1_root_X1_powerOf rfl rfl rfl (by decide +kernel) ⟨Nat.le_of_ble_eq_true rfl, Nat.le_of_ble_eq_true rfl⟩) rfl hl.1 rfl (Nat.le_of_ble_eq_true rfl) dX1_root_16 ⟨Nat.zero_le _, Nat.zero_le _⟩ ?_
    refine lv_istore_n (lv' := [(3, .int (iI (((pw n : Nat) : Int)))), (0, .ref ((xa X 0))), (1, .int (iI (((n : Nat) : Int)))), (2, .int (iI q))]) hx hb dX1_root_19 rfl hl (by decide) rfl (fun ls hl => ?_)
    refine lv_iload_n hx hb dX1_root_20 rfl (lv_at hl 2 rfl) ?_
    refine lv_bipush (v := iI 52) hx hb dX1_root_21 (by decide +kernel) ?_
    refine lv_iload_n hx hb dX1_root_23 rfl (lv_at hl 0 rfl) ?_
    refine pg_isub (z := ((52 - pw n : Nat) : Int)) hx hb dX1_root_24 (by omega) ?_
    refine pg_callS (As := [.int (iI (((n : Nat) : Int))), .int (iI (((52 - pw n : Nat) : Int)))]) (rest := []) SC (c_X1_near l n (52 - pw n) (by omega) (by omega) (by rw [hf9]; exact hok9)) pT_st pT_h (va_cwS 2 hts gX1_root_X1_near rfl rfl rfl (by decide +kernel) ⟨Nat.le_of_ble_eq_true rfl, Nat.le_of_ble_eq_true rfl⟩) rfl hl.1 rfl (Nat.le_of_ble_eq_true rfl) dX1_root_25 ⟨Nat.zero_le _, Nat.zero_le _⟩ ?_
    rw [hf9, ← hue]
    refine lv_l2d hx hb dX1_root_28 (pg_td (y := (dB 1075 u)) (l2d_u u1 u2) ?_)
    refine lv_dstore (lv' := [(4, .double ((dB 1075 u))), (3, .int (iI (((pw n : Nat) : Int)))), (0, .ref ((xa X 0))), (1, .int (iI (((n : Nat) : Int)))), (2, .int (iI q))]) hx hb dX1_root_29 hl (by decide) rfl (fun ls hl => ?_)
    refine lv_iload_n hx hb dX1_root_31 rfl (lv_at hl 1 rfl) ?_
    refine lv_istore (lv' := [(6, .int (iI (((pw n : Nat) : Int)))), (4, .double ((dB 1075 u))), (3, .int (iI (((pw n : Nat) : Int)))), (0, .ref ((xa X 0))), (1, .int (iI (((n : Nat) : Int)))), (2, .int (iI q))]) hx hb dX1_root_32 hl (by decide) rfl (fun ls hl => ?_)
    have loop3 : ∀ (fu : Nat) (j : Nat), ((j : Int) + (pw n : Int) ≤ 52 + q) → 53 - j < fu → ∀ ls : Array Slot, lv_has ls 7 [(0, .ref ((xa X 0))), (1, .int (iI (((n : Nat) : Int)))), (2, .int (iI q)), (3, .int (iI (((pw n : Nat) : Int)))), (4, .double ((dB (1075 - j) u))), (6, .int (iI (((pw n + j : Nat) : Int))))] → W p l e (rm 2 52) s m ([.ref ((xa X 0)), .int (iI (((n : Nat) : Int))), .int (iI q)] : List Value).toArray below meth c H locs 0 0 (MQ below (pg_Qw (xG X) (mC X S t) (mC X S 0) (some (.double ((dbl M))))) ([.ref ((xa X 0)), .int (iI (((n : Nat) : Int))), .int (iI q)] : List Value).toArray s 0 0 (pg_in (mC X S t))) (F0 m 34 ls []) := by
      intro fu
      induction fu with
      | zero => intros; omega
      | succ fu ih3 =>
        intro j hj hm3 ls hl
        refine lv_iload hx hb dX1_root_34 (lv_at hl 5 rfl) ?_
        refine lv_iload_n hx hb dX1_root_36 rfl (lv_at hl 2 rfl) ?_
        refine pg_if_eq (tgt := 45) hx hb dX1_root_37 (by decide) (⟨by omega, by omega⟩) (fun hc4 => ?_) (fun hc4 => ?_)
        · refine lv_bipush (v := iI 52) hx hb dX1_root_45 (by decide +kernel) ?_
          refine pg_icmp_ge (tgt := 64) hx hb dX1_root_47 (by decide) (⟨by omega, by omega⟩) (⟨by omega, by omega⟩) (fun hc5 => ?_) (fun hc5 => ?_)
          · refine lv_dload hx hb dX1_root_64 (lv_at hl 4 rfl) ?_
            exact pg_wdret hx hb hr hlk hP hS  (by rw [show M = 16 * n by omega, dbl_eq (by omega), un_16 hn0 (by omega), pw_16 hn0, ← hue, show 1075 - j = 1021 + (pw n + 2) by omega]) dX1_root_66
          · refine lv_dload hx hb dX1_root_50 (lv_at hl 4 rfl) ?_
            refine lv_ldc2d hx hb hown (hts (.constantDouble RX1 101 4611686018427387904) (by decide +kernel)) dX1_root_52 (pg_td (y := dB 1024 (2 ^ 52)) (by decide +kernel) ?_)
            have hdv : FP.ddiv ((dB (1075 - j) u)) ((dB 1024 (2 ^ 52))) = (dB (1075 - (j + 1)) u) := by have h9 := ddiv_D (e := 1075 - j) (k := 1) u1 u2 (by omega) (by decide) (by omega); rw [show 1075 - j - 1 = 1075 - (j + 1) by omega] at h9; exact h9
            refine lv_ddiv hx hb dX1_root_55 (by rw [hdv]; exact vf_dB (by omega) u1 u2) (pg_td hdv ?_)
            refine lv_dstore (lv' := [(4, .double ((dB (1075 - (j + 1)) u))), (0, .ref ((xa X 0))), (1, .int (iI (((n : Nat) : Int)))), (2, .int (iI q)), (3, .int (iI (((pw n : Nat) : Int)))), (6, .int (iI (((pw n + j : Nat) : Int))))]) hx hb dX1_root_56 hl (by decide) rfl (fun ls hl => ?_)
            refine lv_iinc (v := iI (((pw n + (j + 1) : Nat) : Int))) (lv' := [(6, .int (iI (((pw n + (j + 1) : Nat) : Int)))), (4, .double ((dB (1075 - (j + 1)) u))), (0, .ref ((xa X 0))), (1, .int (iI (((n : Nat) : Int)))), (2, .int (iI q)), (3, .int (iI (((pw n : Nat) : Int))))]) hx hb dX1_root_58 hl (k := 5) rfl (iI_addp (by omega)) (by decide) rfl (fun ls hl => ?_)
            refine lv_goto (tgt := 34) hx hb dX1_root_61 (by decide) ?_
            exact ih3 (j + 1) (by omega) (by omega) ls (lv_sub hl [2, 3, 4, 5, 1, 0] rfl)
        · refine lv_bipush (v := iI 53) hx hb dX1_root_40 (by decide +kernel) ?_
          refine lv_goto (tgt := 47) hx hb dX1_root_42 (by decide) ?_
          refine pg_icmp_ge (tgt := 64) hx hb dX1_root_47 (by decide) (⟨by omega, by omega⟩) (⟨by omega, by omega⟩) (fun hc6 => ?_) (fun hc6 => ?_)
          · refine lv_dload hx hb dX1_root_64 (lv_at hl 4 rfl) ?_
            exact pg_wdret hx hb hr hlk hP hS  (by rw [show M = 4 * n by omega, dbl_eq (by omega), un_4 hn0 (by omega), pw_4 hn0, ← hue, show 1075 - j = 1021 + (pw n + 1) by omega]) dX1_root_66
          · refine lv_dload hx hb dX1_root_50 (lv_at hl 4 rfl) ?_
            refine lv_ldc2d hx hb hown (hts (.constantDouble RX1 101 4611686018427387904) (by decide +kernel)) dX1_root_52 (pg_td (y := dB 1024 (2 ^ 52)) (by decide +kernel) ?_)
            have hdv : FP.ddiv ((dB (1075 - j) u)) ((dB 1024 (2 ^ 52))) = (dB (1075 - (j + 1)) u) := by have h9 := ddiv_D (e := 1075 - j) (k := 1) u1 u2 (by omega) (by decide) (by omega); rw [show 1075 - j - 1 = 1075 - (j + 1) by omega] at h9; exact h9
            refine lv_ddiv hx hb dX1_root_55 (by rw [hdv]; exact vf_dB (by omega) u1 u2) (pg_td hdv ?_)
            refine lv_dstore (lv' := [(4, .double ((dB (1075 - (j + 1)) u))), (0, .ref ((xa X 0))), (1, .int (iI (((n : Nat) : Int)))), (2, .int (iI q)), (3, .int (iI (((pw n : Nat) : Int)))), (6, .int (iI (((pw n + j : Nat) : Int))))]) hx hb dX1_root_56 hl (by decide) rfl (fun ls hl => ?_)
            refine lv_iinc (v := iI (((pw n + (j + 1) : Nat) : Int))) (lv' := [(6, .int (iI (((pw n + (j + 1) : Nat) : Int)))), (4, .double ((dB (1075 - (j + 1)) u))), (0, .ref ((xa X 0))), (1, .int (iI (((n : Nat) : Int)))), (2, .int (iI q)), (3, .int (iI (((pw n : Nat) : Int))))]) hx hb dX1_root_58 hl (k := 5) rfl (iI_addp (by omega)) (by decide) rfl (fun ls hl => ?_)
            refine lv_goto (tgt := 34) hx hb dX1_root_61 (by decide) ?_
            exact ih3 (j + 1) (by omega) (by omega) ls (lv_sub hl [2, 3, 4, 5, 1, 0] rfl)
    refine loop3 (53 + 1) 0 (by omega) (by omega) ls (lv_sub hl [3, 4, 5, 2, 1, 0] rfl)
  · refine lv_dconst0 hx hb dX1_root_13 ?_
    refine pg_td (y := (0 : UInt64)) (by decide +kernel) ?_
    exact pg_wdret hx hb hr hlk hP hS  (by rw [show M = 0 by omega]; rfl) dX1_root_14
set_option maxRecDepth 100000 in
set_option maxHeartbeats 4000000 in
theorem c_X1_root_1 (l : Launch) (X : pgX) (S : pgS) (t : Int) (n : Int) (hn : inI n) (h : n < 0 ∨ 32768 ≤ n) (q : Int) : pg_wr l yX1_root wsX1_root (rm 2 44) (xG X) (xTy X) pT (mC X S t) (mC X S 1) 0 0 [.ref ((xa X 0)), .int (iI n), .int (iI q)] (some (.double ((0 : UInt64)))) := by
  refine pg_wr_of (cc := cX1_root) (maxL := 7) (ret := (some .double)) (by decide) rfl (Nat.le_of_ble_eq_true rfl) ?_
  intro p e s m below meth c ls SC hr hlk hP hK hD hS hB hl
  obtain ⟨hx, hb, hml, hown, hts⟩ := id SC
  have hown : s.vm.findClass RX1 = some m.cls := hown
  have hl : lv_has ls 7 [(0, .ref ((xa X 0))), (1, .int (iI n)), (2, .int (iI q))] := hl
  refine lv_aload_n hx hb dX1_root_0 rfl (lv_at hl 0 rfl) ?_
  refine lv_iload_n hx hb dX1_root_1 rfl (lv_at hl 1 rfl) ?_
  refine lv_iconst (v := iI 1) hx hb dX1_root_2 rfl ?_
  refine pg_wcallV (As := [.int (iI n), .int (iI 1)]) (rest := []) (l1 := []) (l2 := []) (w := [(xa X 0, .inr (1, [.int (iI t), .ref ((xa X 1)), .ref ((xa X 2)), .ref ((xa X 3)), .ref ((xa X 4)), .int (iI (((sN S : Nat) : Int))), .int (iI (((sW S : Nat) : Int)))])), (xa X 1, .inl (xZ X, 12, .inl (fI (sS S)))), (xa X 2, .inl (xI X, 12, .inl (fI (sA S)))), (xa X 3, .inl (xI X, 12, .inl (fI (sU S)))), (xa X 4, .inl (xI X, 12, .inl (fI (sR S))))]) (w' := [(xa X 0, .inr (1, [.int (iI 1), .ref ((xa X 1)), .ref ((xa X 2)), .ref ((xa X 3)), .ref ((xa X 4)), .int (iI (((sN S : Nat) : Int))), .int (iI (((sW S : Nat) : Int)))])), (xa X 1, .inl (xZ X, 12, .inl (fI (sS S)))), (xa X 2, .inl (xI X, 12, .inl (fI (sA S)))), (xa X 3, .inl (xI X, 12, .inl (fI (sU S)))), (xa X 4, .inl (xI X, 12, .inl (fI (sR S))))]) SC (c_X1_isNoAsked_1 l X S t n 1 ⟨by omega, by omega⟩ (by omega)) pT_st pT_h (cwV 2 hts gX1_root_X1_isNoAsked rfl rfl rfl (by decide +kernel) ⟨Nat.le_of_ble_eq_true rfl, Nat.le_of_ble_eq_true rfl⟩) (va_recv hK hP (ci := 1) (q0 := 0) rfl rfl) hK hP hD hS rfl rfl hl.1 rfl (Nat.le_of_ble_eq_true rfl) dX1_root_3 ⟨Nat.zero_le _, Nat.zero_le _⟩ (fun H locs hP hD hS => ?_)
  have hP : va_P (xG X) vwCl ([(xa X 0, .inr (1, [.int (iI 1), .ref ((xa X 1)), .ref ((xa X 2)), .ref ((xa X 3)), .ref ((xa X 4)), .int (iI (((sN S : Nat) : Int))), .int (iI (((sW S : Nat) : Int)))])), (xa X 1, .inl (xZ X, 12, .inl (fI (sS S)))), (xa X 2, .inl (xI X, 12, .inl (fI (sA S)))), (xa X 3, .inl (xI X, 12, .inl (fI (sU S)))), (xa X 4, .inl (xI X, 12, .inl (fI (sR S))))]) H := hP
  have hD : va_D (pg_in ((mC X S t))) ([(xa X 0, .inr (1, [.int (iI 1), .ref ((xa X 1)), .ref ((xa X 2)), .ref ((xa X 3)), .ref ((xa X 4)), .int (iI (((sN S : Nat) : Int))), .int (iI (((sW S : Nat) : Int)))])), (xa X 1, .inl (xZ X, 12, .inl (fI (sS S)))), (xa X 2, .inl (xI X, 12, .inl (fI (sA S)))), (xa X 3, .inl (xI X, 12, .inl (fI (sU S)))), (xa X 4, .inl (xI X, 12, .inl (fI (sR S))))]) := hD
  refine pg_if_ne (tgt := 13) hx hb dX1_root_6 (by decide) (⟨by omega, by omega⟩) (fun hc1 => ?_) (fun hc1 => absurd hc1 (by omega))
  refine lv_dconst0 hx hb dX1_root_13 ?_
  refine pg_td (y := (0 : UInt64)) (by decide +kernel) ?_
  exact pg_wdret hx hb hr hlk hP hS  (by rfl) dX1_root_14
