set_option maxRecDepth 100000 in
set_option maxHeartbeats 4000000 in
theorem lw_op23 {p : Program} {l : Launch} {e : Env} {s : State} {m : MethodId} {args : Array Value} {below : List Frame} {meth : Method} {c : Code} {H : Heap} {locs : List Loc} {cells slots : Nat} {Q : State → Prop} {b L : Nat} {xs : Nat → Int32} {X Y : pgX} {cJ cD aJ aD : Nat} (hC : lwK l p s m c args b L xs X Y cJ cD) {i : Nat} (hi : i + 5 ≤ L) {S : pgS} {t : Int} {f : Nat → Int64} {g : Nat → UInt64} (hG : lwG s X Y cJ aJ cD aD S t f g H locs) (hce : cells + 1 ≤ 1047 ∧ slots + 6 ≤ 8369) {ls : Array Slot} (hl : lv_has ls 9 (lwB b X Y aJ aD i)) (kk : ∀ (S1 : pgS) (t1 : Int) (f1 : Nat → Int64) (g1 : Nat → UInt64) (H1 : Heap) (locs1 : List Loc) (ls1 : Array Slot), lwG s X Y cJ aJ cD aD S1 t1 f1 g1 H1 locs1 → lv_has ls1 9 (lwB b X Y aJ aD i) → W p l e room_1 s m args below meth c H1 locs1 (cells + 1) (slots + 6) Q (F0 m 2002 ls1 [])) : W p l e room_1 s m args below meth c H locs cells slots Q (F0 m 1806 ls []) := by
  obtain ⟨SC, hfl, hX, hbl, hL, hYX, hKJ, hKD, hKY, hE, hN⟩ := id hC
  obtain ⟨hx, hb, hml, hown, hts⟩ := id SC
  obtain ⟨hP, hD, hS, hok⟩ := id hG
  have hKX : va_K (xG X) vwCl (xTy X) s := va_K.sub hKJ [0, 1] rfl
  have hbA : ¬ s.heap.size ≤ b := by omega
  have hc0 : cells ≤ 1047 ∧ slots ≤ 8369 := by omega
  have hl : lv_has ls 9 [(0, .ref b), (1, .ref ((xa X 0))), (2, .ref ((xa Y 0))), (3, .ref aJ), (4, .ref aD), (5, .int (iI ((i : Int))))] := hl
  have hn12 : sN S ≤ 12 := hok.2.2.2.2.1
  by_cases h4 : sN S = 0
  · refine lv_aload_n hx hb dL_law_1806 rfl (lv_at hl 1 rfl) ?_
    refine lv_aload_n hx hb dL_law_1807 rfl (lv_at hl 3 rfl) ?_
    refine pg_wcallH (As := [.ref ((xa X 0)), .ref aJ]) (rest := []) (l1 := []) (l2 := lwW X Y S S t (lwJ aJ cJ f) (lwD aD cD g)) (w := []) (w' := []) SC (c_L_unjoin_1 l hfl s.heap.size X S h4 aJ) xW_st (lw_xW hKX hP hS hE hN) (vx_cwSW 2 hts gL_law_L_unjoin rfl rfl rfl (by decide +kernel) ⟨Nat.le_of_ble_eq_true rfl, Nat.le_of_ble_eq_true rfl⟩) (va_K.sub hKX [] rfl) hP hD hS rfl rfl hl.1 rfl (Nat.le_of_ble_eq_true rfl) dL_law_1808 ⟨hce.1, hce.2⟩ (fun H locs hP hD hS => ?_)
    have hP : va_P (xG X) vwCl (lwW X Y S S t (lwJ aJ cJ f) (lwD aD cD g)) H := hP
    have hD : va_D (fun q => s.heap.size ≤ q) (lwW X Y S S t (lwJ aJ cJ f) (lwD aD cD g)) := hD
    refine lv_istore (lv' := [(6, .int (iI 1)), (0, .ref b), (1, .ref ((xa X 0))), (2, .ref ((xa Y 0))), (3, .ref aJ), (4, .ref aD), (5, .int (iI ((i : Int))))]) hx hb dL_law_1811 hl (by decide) rfl (fun ls hl => ?_)
    refine lv_aload_n hx hb dL_law_1813 rfl (lv_at hl 3 rfl) ?_
    refine pg_wcallV (As := []) (rest := []) (l1 := (lwJ aJ cJ f) :: (xC X S ++ [(lwD aD cD g)])) (l2 := []) (w := mC Y S t) (w' := mC Y S 1) SC (pg_cY hYX (c_X1_unjoin_1 l Y S t h4)) pT_st pT_h (cwV 0 hts gL_law_X1_unjoin rfl rfl rfl (by decide +kernel) ⟨Nat.le_of_ble_eq_true rfl, Nat.le_of_ble_eq_true rfl⟩) (va_recv hKY hP (ci := 1) (q0 := 7) rfl rfl) hKY hP hD hS rfl rfl hl.1 rfl (Nat.le_of_ble_eq_true rfl) dL_law_1814 ⟨hce.1, hce.2⟩ (fun H locs hP hD hS => ?_)
    have hP : va_P (xG X) vwCl (lwW X Y S S 1 (lwJ aJ cJ f) (lwD aD cD g)) H := hP
    have hD : va_D (fun q => s.heap.size ≤ q) (lwW X Y S S 1 (lwJ aJ cJ f) (lwD aD cD g)) := hD
    refine lv_istore (lv' := [(7, .int (iI 0)), (6, .int (iI 1)), (0, .ref b), (1, .ref ((xa X 0))), (2, .ref ((xa Y 0))), (3, .ref aJ), (4, .ref aD), (5, .int (iI ((i : Int))))]) hx hb dL_law_1817 hl (by decide) rfl (fun ls hl => ?_)
    refine lv_aload_n hx hb dL_law_1819 rfl (lv_at hl 4 rfl) ?_
    refine pg_callV (As := []) (rest := []) SC (c_X1_thrown l Y S 1) mB_st (lw_mB hYX hKY hP) (cwV 0 hts gL_law_X1_thrown rfl rfl rfl (by decide +kernel) ⟨Nat.le_of_ble_eq_true rfl, Nat.le_of_ble_eq_true rfl⟩) (va_recv hKY hP (ci := 1) (q0 := 7) rfl rfl) rfl hl.1 rfl (Nat.le_of_ble_eq_true rfl) dL_law_1820 ⟨hce.1, hce.2⟩ ?_
    refine lv_iload hx hb dL_law_1823 (lv_at hl 1 rfl) ?_
    refine lw_same (tgt := 1830) hx hb (⟨by omega, by omega⟩) dL_law_1825 (by decide) ?_
    refine lv_iload hx hb dL_law_1830 (lv_at hl 1 rfl) ?_
    refine pg_if_ne (tgt := 1847) hx hb dL_law_1832 (by decide) (⟨by omega, by omega⟩) (fun _ => ?_) (fun h9 => absurd h9 (by omega))
    refine lv_goto (tgt := 2002) hx hb dL_law_1847 (by decide) ?_
    exact kk S 1 f g H locs ls ⟨hP, hD, hS, hok⟩ (lv_sub hl [2, 3, 4, 5, 6, 7] rfl)
  · obtain ⟨n2, hn⟩ : ∃ n2, sN S = n2 + 1 := ⟨sN S - 1, by omega⟩
    have hrb := hok.2.2.2.1 n2
    refine lv_aload_n hx hb dL_law_1806 rfl (lv_at hl 1 rfl) ?_
    refine lv_aload_n hx hb dL_law_1807 rfl (lv_at hl 3 rfl) ?_
    refine pg_wcallH (As := [.ref ((xa X 0)), .ref aJ]) (rest := []) (l1 := []) (l2 := (lwD aD cD g) :: mC Y S t) (w := (lwJ aJ cJ f) :: xC X S) (w' := (lwJ aJ cJ (vp_updL f 0 (lI (((sR S n2 : Nat) : Int))))) :: xC X ((sS S, sA S, sU S, sR S, n2, sW S))) SC (c_L_unjoin_ok l X S n2 hn (by omega) hok cJ aJ f) pT_st pT_h (vx_cwSW 2 hts gL_law_L_unjoin rfl rfl rfl (by decide +kernel) ⟨Nat.le_of_ble_eq_true rfl, Nat.le_of_ble_eq_true rfl⟩) hKJ hP hD hS rfl rfl hl.1 rfl (Nat.le_of_ble_eq_true rfl) dL_law_1808 ⟨hc0.1, hc0.2⟩ (fun H locs hP hD hS => ?_)
    have hP : va_P (xG X) vwCl (lwW X Y ((sS S, sA S, sU S, sR S, n2, sW S)) S t (lwJ aJ cJ (vp_updL f 0 (lI (((sR S n2 : Nat) : Int))))) (lwD aD cD g)) H := hP
    have hD : va_D (fun q => s.heap.size ≤ q) (lwW X Y ((sS S, sA S, sU S, sR S, n2, sW S)) S t (lwJ aJ cJ (vp_updL f 0 (lI (((sR S n2 : Nat) : Int))))) (lwD aD cD g)) := hD
    refine lv_istore (lv' := [(6, .int (iI 0)), (0, .ref b), (1, .ref ((xa X 0))), (2, .ref ((xa Y 0))), (3, .ref aJ), (4, .ref aD), (5, .int (iI ((i : Int))))]) hx hb dL_law_1811 hl (by decide) rfl (fun ls hl => ?_)
    refine lv_aload_n hx hb dL_law_1813 rfl (lv_at hl 3 rfl) ?_
    refine pg_wcallV (As := []) (rest := []) (l1 := (lwJ aJ cJ (vp_updL f 0 (lI (((sR S n2 : Nat) : Int))))) :: (xC X ((sS S, sA S, sU S, sR S, n2, sW S)) ++ [(lwD aD cD g)])) (l2 := []) (w := mC Y S t) (w' := mC Y ((sS S, sA S, sU S, sR S, n2, sW S)) 0) SC (pg_cY hYX (c_X1_unjoin_ok l Y S t n2 hn (by omega))) pT_st pT_h (cwV 0 hts gL_law_X1_unjoin rfl rfl rfl (by decide +kernel) ⟨Nat.le_of_ble_eq_true rfl, Nat.le_of_ble_eq_true rfl⟩) (va_recv hKY hP (ci := 1) (q0 := 7) rfl rfl) hKY hP hD hS rfl rfl hl.1 rfl (Nat.le_of_ble_eq_true rfl) dL_law_1814 ⟨hc0.1, hc0.2⟩ (fun H locs hP hD hS => ?_)
    have hP : va_P (xG X) vwCl (lwW X Y ((sS S, sA S, sU S, sR S, n2, sW S)) ((sS S, sA S, sU S, sR S, n2, sW S)) 0 (lwJ aJ cJ (vp_updL f 0 (lI (((sR S n2 : Nat) : Int))))) (lwD aD cD g)) H := hP
    have hD : va_D (fun q => s.heap.size ≤ q) (lwW X Y ((sS S, sA S, sU S, sR S, n2, sW S)) ((sS S, sA S, sU S, sR S, n2, sW S)) 0 (lwJ aJ cJ (vp_updL f 0 (lI (((sR S n2 : Nat) : Int))))) (lwD aD cD g)) := hD
    refine lv_istore (lv' := [(7, .int (iI (((sR S n2 : Nat) : Int)))), (6, .int (iI 0)), (0, .ref b), (1, .ref ((xa X 0))), (2, .ref ((xa Y 0))), (3, .ref aJ), (4, .ref aD), (5, .int (iI ((i : Int))))]) hx hb dL_law_1817 hl (by decide) rfl (fun ls hl => ?_)
    refine lv_aload_n hx hb dL_law_1819 rfl (lv_at hl 4 rfl) ?_
    refine pg_callV (As := []) (rest := []) SC (c_X1_thrown l Y ((sS S, sA S, sU S, sR S, n2, sW S)) 0) mB_st (lw_mB hYX hKY hP) (cwV 0 hts gL_law_X1_thrown rfl rfl rfl (by decide +kernel) ⟨Nat.le_of_ble_eq_true rfl, Nat.le_of_ble_eq_true rfl⟩) (va_recv hKY hP (ci := 1) (q0 := 7) rfl rfl) rfl hl.1 rfl (Nat.le_of_ble_eq_true rfl) dL_law_1820 ⟨hc0.1, hc0.2⟩ ?_
    refine lv_iload hx hb dL_law_1823 (lv_at hl 1 rfl) ?_
    refine lw_same (tgt := 1830) hx hb (⟨by omega, by omega⟩) dL_law_1825 (by decide) ?_
    refine lv_iload hx hb dL_law_1830 (lv_at hl 1 rfl) ?_
    refine pg_if_ne (tgt := 1847) hx hb dL_law_1832 (by decide) (⟨by omega, by omega⟩) (fun h9 => absurd rfl h9) (fun _ => ?_)
    refine lv_aload_n hx hb dL_law_1835 rfl (lv_at hl 5 rfl) ?_
    refine lv_iconst (v := iI 0) hx hb dL_law_1836 rfl ?_
    refine pg_lld0 hx hb hKJ hP 0 2 rfl rfl dL_law_1837 ?_
    refine lv_iload hx hb dL_law_1838 (lv_at hl 0 rfl) ?_
    refine pg_i2l hx hb dL_law_1840 (⟨by omega, by omega⟩) ?_
    refine lw_leq (tgt := 1847) hx hb rfl dL_law_1841 dL_law_1842 (by decide) ?_
    refine lv_goto (tgt := 2002) hx hb dL_law_1847 (by decide) ?_
    exact pg_widen (Nat.le_succ _) (Nat.le_add_right _ 6) (kk ((sS S, sA S, sU S, sR S, n2, sW S)) 0 ((vp_updL f 0 (lI (((sR S n2 : Nat) : Int))))) g H locs ls ⟨hP, hD, hS, ⟨hok.1, hok.2.1, hok.2.2.1, hok.2.2.2.1, (by omega : n2 ≤ 12), hok.2.2.2.2.2⟩⟩ (lv_sub hl [2, 3, 4, 5, 6, 7] rfl))
set_option maxRecDepth 100000 in
set_option maxHeartbeats 4000000 in
theorem lw_op24 {p : Program} {l : Launch} {e : Env} {s : State} {m : MethodId} {args : Array Value} {below : List Frame} {meth : Method} {c : Code} {H : Heap} {locs : List Loc} {cells slots : Nat} {Q : State → Prop} {b L : Nat} {xs : Nat → Int32} {X Y : pgX} {cJ cD aJ aD : Nat} (hC : lwK l p s m c args b L xs X Y cJ cD) {i : Nat} (hi : i + 5 ≤ L) {S : pgS} {t : Int} {f : Nat → Int64} {g : Nat → UInt64} (hG : lwG s X Y cJ aJ cD aD S t f g H locs) (hce : cells + 1 ≤ 1047 ∧ slots + 6 ≤ 8369) {ls : Array Slot} (hl : lv_has ls 9 (lwB b X Y aJ aD i)) (kk : ∀ (S1 : pgS) (t1 : Int) (f1 : Nat → Int64) (g1 : Nat → UInt64) (H1 : Heap) (locs1 : List Loc) (ls1 : Array Slot), lwG s X Y cJ aJ cD aD S1 t1 f1 g1 H1 locs1 → lv_has ls1 9 (lwB b X Y aJ aD i) → W p l e room_1 s m args below meth c H1 locs1 (cells + 1) (slots + 6) Q (F0 m 2002 ls1 [])) : W p l e room_1 s m args below meth c H locs cells slots Q (F0 m 1850 ls []) := by
  obtain ⟨SC, hfl, hX, hbl, hL, hYX, hKJ, hKD, hKY, hE, hN⟩ := id hC
  obtain ⟨hx, hb, hml, hown, hts⟩ := id SC
  obtain ⟨hP, hD, hS, hok⟩ := id hG
  have hKX : va_K (xG X) vwCl (xTy X) s := va_K.sub hKJ [0, 1] rfl
  have hbA : ¬ s.heap.size ≤ b := by omega
  have hc0 : cells ≤ 1047 ∧ slots ≤ 8369 := by omega
  have hl : lv_has ls 9 [(0, .ref b), (1, .ref ((xa X 0))), (2, .ref ((xa Y 0))), (3, .ref aJ), (4, .ref aD), (5, .int (iI ((i : Int))))] := hl
  obtain ⟨v1, hv1, hq1⟩ : ∃ v : Int, xs (i + 1) = iI v ∧ inI v := ⟨_, iI_self _, inI_self _⟩
  have hn12 : sN S ≤ 12 := hok.2.2.2.2.1
  by_cases h1 : v1 < 0 ∨ (sN S : Int) ≤ v1
  · refine lv_aload_n hx hb dL_law_1850 rfl (lv_at hl 1 rfl) ?_
    refine lw_sc (j := i + 1) (v := v1) hx hb hX hbl hbA hS (lv_at hl 0 rfl) (lv_at hl 5 rfl) (by omega) (by omega) hL hv1 dL_law_1851 dL_law_1852 dL_law_1854 dL_law_1855 dL_law_1856 ?_
    refine lv_aload_n hx hb dL_law_1857 rfl (lv_at hl 3 rfl) ?_
    refine pg_wcallH (As := [.ref ((xa X 0)), .int (iI v1), .ref aJ]) (rest := []) (l1 := []) (l2 := lwW X Y S S t (lwJ aJ cJ f) (lwD aD cD g)) (w := []) (w' := []) SC (c_L_ringAt_1 l hfl s.heap.size X S v1 hq1 hn12 h1 aJ) xW_st (lw_xW hKX hP hS hE hN) (vx_cwSW 3 hts gL_law_L_ringAt rfl rfl rfl (by decide +kernel) ⟨Nat.le_of_ble_eq_true rfl, Nat.le_of_ble_eq_true rfl⟩) (va_K.sub hKX [] rfl) hP hD hS rfl rfl hl.1 rfl (Nat.le_of_ble_eq_true rfl) dL_law_1858 ⟨hce.1, hce.2⟩ (fun H locs hP hD hS => ?_)
    have hP : va_P (xG X) vwCl (lwW X Y S S t (lwJ aJ cJ f) (lwD aD cD g)) H := hP
    have hD : va_D (fun q => s.heap.size ≤ q) (lwW X Y S S t (lwJ aJ cJ f) (lwD aD cD g)) := hD
    refine lv_istore (lv' := [(6, .int (iI 1)), (0, .ref b), (1, .ref ((xa X 0))), (2, .ref ((xa Y 0))), (3, .ref aJ), (4, .ref aD), (5, .int (iI ((i : Int))))]) hx hb dL_law_1861 hl (by decide) rfl (fun ls hl => ?_)
    refine lv_aload_n hx hb dL_law_1863 rfl (lv_at hl 3 rfl) ?_
    refine lw_sc (j := i + 1) (v := v1) hx hb hX hbl hbA hS (lv_at hl 1 rfl) (lv_at hl 6 rfl) (by omega) (by omega) hL hv1 dL_law_1864 dL_law_1865 dL_law_1867 dL_law_1868 dL_law_1869 ?_
    refine pg_wcallV (As := [.int (iI v1)]) (rest := []) (l1 := (lwJ aJ cJ f) :: (xC X S ++ [(lwD aD cD g)])) (l2 := []) (w := mC Y S t) (w' := mC Y S 1) SC (pg_cY hYX (c_X1_ringAt_1 l Y S t v1 hq1 hn12 h1)) pT_st pT_h (cwV 1 hts gL_law_X1_ringAt rfl rfl rfl (by decide +kernel) ⟨Nat.le_of_ble_eq_true rfl, Nat.le_of_ble_eq_true rfl⟩) (va_recv hKY hP (ci := 1) (q0 := 7) rfl rfl) hKY hP hD hS rfl rfl hl.1 rfl (Nat.le_of_ble_eq_true rfl) dL_law_1870 ⟨hce.1, hce.2⟩ (fun H locs hP hD hS => ?_)
    have hP : va_P (xG X) vwCl (lwW X Y S S 1 (lwJ aJ cJ f) (lwD aD cD g)) H := hP
    have hD : va_D (fun q => s.heap.size ≤ q) (lwW X Y S S 1 (lwJ aJ cJ f) (lwD aD cD g)) := hD
    refine lv_istore (lv' := [(7, .int (iI 0)), (6, .int (iI 1)), (0, .ref b), (1, .ref ((xa X 0))), (2, .ref ((xa Y 0))), (3, .ref aJ), (4, .ref aD), (5, .int (iI ((i : Int))))]) hx hb dL_law_1873 hl (by decide) rfl (fun ls hl => ?_)
    refine lv_aload_n hx hb dL_law_1875 rfl (lv_at hl 4 rfl) ?_
    refine pg_callV (As := []) (rest := []) SC (c_X1_thrown l Y S 1) mB_st (lw_mB hYX hKY hP) (cwV 0 hts gL_law_X1_thrown rfl rfl rfl (by decide +kernel) ⟨Nat.le_of_ble_eq_true rfl, Nat.le_of_ble_eq_true rfl⟩) (va_recv hKY hP (ci := 1) (q0 := 7) rfl rfl) rfl hl.1 rfl (Nat.le_of_ble_eq_true rfl) dL_law_1876 ⟨hce.1, hce.2⟩ ?_
    refine lv_iload hx hb dL_law_1879 (lv_at hl 1 rfl) ?_
    refine lw_same (tgt := 1886) hx hb (⟨by omega, by omega⟩) dL_law_1881 (by decide) ?_
    refine lv_iload hx hb dL_law_1886 (lv_at hl 1 rfl) ?_
    refine pg_if_ne (tgt := 1903) hx hb dL_law_1888 (by decide) (⟨by omega, by omega⟩) (fun _ => ?_) (fun h9 => absurd h9 (by omega))
    refine lv_goto (tgt := 2002) hx hb dL_law_1903 (by decide) ?_
    exact kk S 1 f g H locs ls ⟨hP, hD, hS, hok⟩ (lv_sub hl [2, 3, 4, 5, 6, 7] rfl)
  · obtain ⟨k, rfl⟩ : ∃ z : Nat, v1 = (z : Int) := ⟨v1.toNat, by omega⟩
    have hrb := hok.2.2.2.1 k
    refine lv_aload_n hx hb dL_law_1850 rfl (lv_at hl 1 rfl) ?_
    refine lw_sc (j := i + 1) (v := ((k : Nat) : Int)) hx hb hX hbl hbA hS (lv_at hl 0 rfl) (lv_at hl 5 rfl) (by omega) (by omega) hL hv1 dL_law_1851 dL_law_1852 dL_law_1854 dL_law_1855 dL_law_1856 ?_
    refine lv_aload_n hx hb dL_law_1857 rfl (lv_at hl 3 rfl) ?_
    refine pg_wcallH (As := [.ref ((xa X 0)), .int (iI (((k : Nat) : Int))), .ref aJ]) (rest := []) (l1 := []) (l2 := (lwD aD cD g) :: mC Y S t) (w := (lwJ aJ cJ f) :: xC X S) (w' := (lwJ aJ cJ (vp_updL f 0 (lI (((sR S k : Nat) : Int))))) :: xC X S) SC (c_L_ringAt_ok l X S k (by omega) (by omega) hn12 hok cJ aJ f) pT_st pT_h (vx_cwSW 3 hts gL_law_L_ringAt rfl rfl rfl (by decide +kernel) ⟨Nat.le_of_ble_eq_true rfl, Nat.le_of_ble_eq_true rfl⟩) hKJ hP hD hS rfl rfl hl.1 rfl (Nat.le_of_ble_eq_true rfl) dL_law_1858 ⟨hc0.1, hc0.2⟩ (fun H locs hP hD hS => ?_)
    have hP : va_P (xG X) vwCl (lwW X Y S S t (lwJ aJ cJ (vp_updL f 0 (lI (((sR S k : Nat) : Int))))) (lwD aD cD g)) H := hP
    have hD : va_D (fun q => s.heap.size ≤ q) (lwW X Y S S t (lwJ aJ cJ (vp_updL f 0 (lI (((sR S k : Nat) : Int))))) (lwD aD cD g)) := hD
    refine lv_istore (lv' := [(6, .int (iI 0)), (0, .ref b), (1, .ref ((xa X 0))), (2, .ref ((xa Y 0))), (3, .ref aJ), (4, .ref aD), (5, .int (iI ((i : Int))))]) hx hb dL_law_1861 hl (by decide) rfl (fun ls hl => ?_)
    refine lv_aload_n hx hb dL_law_1863 rfl (lv_at hl 3 rfl) ?_
    refine lw_sc (j := i + 1) (v := ((k : Nat) : Int)) hx hb hX hbl hbA hS (lv_at hl 1 rfl) (lv_at hl 6 rfl) (by omega) (by omega) hL hv1 dL_law_1864 dL_law_1865 dL_law_1867 dL_law_1868 dL_law_1869 ?_
    refine pg_wcallV (As := [.int (iI (((k : Nat) : Int)))]) (rest := []) (l1 := (lwJ aJ cJ (vp_updL f 0 (lI (((sR S k : Nat) : Int))))) :: (xC X S ++ [(lwD aD cD g)])) (l2 := []) (w := mC Y S t) (w' := mC Y S 0) SC (pg_cY hYX (c_X1_ringAt_ok l Y S t k (by omega) (by omega) hn12)) pT_st pT_h (cwV 1 hts gL_law_X1_ringAt rfl rfl rfl (by decide +kernel) ⟨Nat.le_of_ble_eq_true rfl, Nat.le_of_ble_eq_true rfl⟩) (va_recv hKY hP (ci := 1) (q0 := 7) rfl rfl) hKY hP hD hS rfl rfl hl.1 rfl (Nat.le_of_ble_eq_true rfl) dL_law_1870 ⟨hc0.1, hc0.2⟩ (fun H locs hP hD hS => ?_)
    have hP : va_P (xG X) vwCl (lwW X Y S S 0 (lwJ aJ cJ (vp_updL f 0 (lI (((sR S k : Nat) : Int))))) (lwD aD cD g)) H := hP
    have hD : va_D (fun q => s.heap.size ≤ q) (lwW X Y S S 0 (lwJ aJ cJ (vp_updL f 0 (lI (((sR S k : Nat) : Int))))) (lwD aD cD g)) := hD
    refine lv_istore (lv' := [(7, .int (iI (((sR S k : Nat) : Int)))), (6, .int (iI 0)), (0, .ref b), (1, .ref ((xa X 0))), (2, .ref ((xa Y 0))), (3, .ref aJ), (4, .ref aD), (5, .int (iI ((i : Int))))]) hx hb dL_law_1873 hl (by decide) rfl (fun ls hl => ?_)
    refine lv_aload_n hx hb dL_law_1875 rfl (lv_at hl 4 rfl) ?_
    refine pg_callV (As := []) (rest := []) SC (c_X1_thrown l Y S 0) mB_st (lw_mB hYX hKY hP) (cwV 0 hts gL_law_X1_thrown rfl rfl rfl (by decide +kernel) ⟨Nat.le_of_ble_eq_true rfl, Nat.le_of_ble_eq_true rfl⟩) (va_recv hKY hP (ci := 1) (q0 := 7) rfl rfl) rfl hl.1 rfl (Nat.le_of_ble_eq_true rfl) dL_law_1876 ⟨hc0.1, hc0.2⟩ ?_
    refine lv_iload hx hb dL_law_1879 (lv_at hl 1 rfl) ?_
    refine lw_same (tgt := 1886) hx hb (⟨by omega, by omega⟩) dL_law_1881 (by decide) ?_
    refine lv_iload hx hb dL_law_1886 (lv_at hl 1 rfl) ?_
    refine pg_if_ne (tgt := 1903) hx hb dL_law_1888 (by decide) (⟨by omega, by omega⟩) (fun h9 => absurd rfl h9) (fun _ => ?_)
    refine lv_aload_n hx hb dL_law_1891 rfl (lv_at hl 5 rfl) ?_
    refine lv_iconst (v := iI 0) hx hb dL_law_1892 rfl ?_
    refine pg_lld0 hx hb hKJ hP 0 2 rfl rfl dL_law_1893 ?_
    refine lv_iload hx hb dL_law_1894 (lv_at hl 0 rfl) ?_
    refine pg_i2l hx hb dL_law_1896 (⟨by omega, by omega⟩) ?_
    refine lw_leq (tgt := 1903) hx hb rfl dL_law_1897 dL_law_1898 (by decide) ?_
    refine lv_goto (tgt := 2002) hx hb dL_law_1903 (by decide) ?_
    exact pg_widen (Nat.le_succ _) (Nat.le_add_right _ 6) (kk S 0 ((vp_updL f 0 (lI (((sR S k : Nat) : Int))))) g H locs ls ⟨hP, hD, hS, hok⟩ (lv_sub hl [2, 3, 4, 5, 6, 7] rfl))
set_option maxRecDepth 100000 in
set_option maxHeartbeats 4000000 in
theorem lw_op25 {p : Program} {l : Launch} {e : Env} {s : State} {m : MethodId} {args : Array Value} {below : List Frame} {meth : Method} {c : Code} {H : Heap} {locs : List Loc} {cells slots : Nat} {Q : State → Prop} {b L : Nat} {xs : Nat → Int32} {X Y : pgX} {cJ cD aJ aD : Nat} (hC : lwK l p s m c args b L xs X Y cJ cD) {i : Nat} (hi : i + 5 ≤ L) {S : pgS} {t : Int} {f : Nat → Int64} {g : Nat → UInt64} (hG : lwG s X Y cJ aJ cD aD S t f g H locs) (hce : cells + 1 ≤ 1047 ∧ slots + 6 ≤ 8369) {ls : Array Slot} (hl : lv_has ls 9 (lwB b X Y aJ aD i)) (kk : ∀ (S1 : pgS) (t1 : Int) (f1 : Nat → Int64) (g1 : Nat → UInt64) (H1 : Heap) (locs1 : List Loc) (ls1 : Array Slot), lwG s X Y cJ aJ cD aD S1 t1 f1 g1 H1 locs1 → lv_has ls1 9 (lwB b X Y aJ aD i) → W p l e room_1 s m args below meth c H1 locs1 (cells + 1) (slots + 6) Q (F0 m 2002 ls1 [])) : W p l e room_1 s m args below meth c H locs cells slots Q (F0 m 1906 ls []) := by
  obtain ⟨SC, hfl, hX, hbl, hL, hYX, hKJ, hKD, hKY, hE, hN⟩ := id hC
  obtain ⟨hx, hb, hml, hown, hts⟩ := id SC
  obtain ⟨hP, hD, hS, hok⟩ := id hG
  have hKX : va_K (xG X) vwCl (xTy X) s := va_K.sub hKJ [0, 1] rfl
  have hbA : ¬ s.heap.size ≤ b := by omega
  have hc0 : cells ≤ 1047 ∧ slots ≤ 8369 := by omega
  have hl : lv_has ls 9 [(0, .ref b), (1, .ref ((xa X 0))), (2, .ref ((xa Y 0))), (3, .ref aJ), (4, .ref aD), (5, .int (iI ((i : Int))))] := hl
  have hab := ar_le hok (sN S)
  have hn12 : sN S ≤ 12 := hok.2.2.2.2.1
  refine lv_aload_n hx hb dL_law_1906 rfl (lv_at hl 1 rfl) ?_
  refine pg_callV (As := []) (rest := []) SC (c_X0_around l X S hok) xB_st (xB_h (lw_hX hP) hKX) (cwV 0 hts gL_law_X0_around rfl rfl rfl (by decide +kernel) ⟨Nat.le_of_ble_eq_true rfl, Nat.le_of_ble_eq_true rfl⟩) (va_recv hKX hP (ci := 0) (q0 := 1) rfl rfl) rfl hl.1 rfl (Nat.le_of_ble_eq_true rfl) dL_law_1907 ⟨hc0.1, hc0.2⟩ ?_
  refine lv_aload_n hx hb dL_law_1910 rfl (lv_at hl 2 rfl) ?_
  refine pg_callV (As := []) (rest := [.int (iI (((ar S (sN S) : Nat) : Int)))]) SC (c_X1_around l Y S t hok) mB_st (lw_mB hYX hKY hP) (cwV 0 hts gL_law_X1_around rfl rfl rfl (by decide +kernel) ⟨Nat.le_of_ble_eq_true rfl, Nat.le_of_ble_eq_true rfl⟩) (va_recv hKY hP (ci := 1) (q0 := 7) rfl rfl) rfl hl.1 rfl (Nat.le_of_ble_eq_true rfl) dL_law_1911 ⟨hc0.1, hc0.2⟩ ?_
  refine lw_same (tgt := 2002) hx hb (⟨by omega, by omega⟩) dL_law_1914 (by decide) ?_
  exact pg_widen (Nat.le_succ _) (Nat.le_add_right _ 6) (kk S t f g H locs ls ⟨hP, hD, hS, hok⟩ (lv_sub hl [0, 1, 2, 3, 4, 5] rfl))
set_option maxRecDepth 100000 in
set_option maxHeartbeats 4000000 in
theorem lw_op26 {p : Program} {l : Launch} {e : Env} {s : State} {m : MethodId} {args : Array Value} {below : List Frame} {meth : Method} {c : Code} {H : Heap} {locs : List Loc} {cells slots : Nat} {Q : State → Prop} {b L : Nat} {xs : Nat → Int32} {X Y : pgX} {cJ cD aJ aD : Nat} (hC : lwK l p s m c args b L xs X Y cJ cD) {i : Nat} (hi : i + 5 ≤ L) {S : pgS} {t : Int} {f : Nat → Int64} {g : Nat → UInt64} (hG : lwG s X Y cJ aJ cD aD S t f g H locs) (hce : cells + 1 ≤ 1047 ∧ slots + 6 ≤ 8369) {ls : Array Slot} (hl : lv_has ls 9 (lwB b X Y aJ aD i)) (kk : ∀ (S1 : pgS) (t1 : Int) (f1 : Nat → Int64) (g1 : Nat → UInt64) (H1 : Heap) (locs1 : List Loc) (ls1 : Array Slot), lwG s X Y cJ aJ cD aD S1 t1 f1 g1 H1 locs1 → lv_has ls1 9 (lwB b X Y aJ aD i) → W p l e room_1 s m args below meth c H1 locs1 (cells + 1) (slots + 6) Q (F0 m 2002 ls1 [])) : W p l e room_1 s m args below meth c H locs cells slots Q (F0 m 1919 ls []) := by
  obtain ⟨SC, hfl, hX, hbl, hL, hYX, hKJ, hKD, hKY, hE, hN⟩ := id hC
  obtain ⟨hx, hb, hml, hown, hts⟩ := id SC
  obtain ⟨hP, hD, hS, hok⟩ := id hG
  have hKX : va_K (xG X) vwCl (xTy X) s := va_K.sub hKJ [0, 1] rfl
  have hbA : ¬ s.heap.size ≤ b := by omega
  have hc0 : cells ≤ 1047 ∧ slots ≤ 8369 := by omega
  have hl : lv_has ls 9 [(0, .ref b), (1, .ref ((xa X 0))), (2, .ref ((xa Y 0))), (3, .ref aJ), (4, .ref aD), (5, .int (iI ((i : Int))))] := hl
  have hab := da_b hok (sN S)
  have hn12 : sN S ≤ 12 := hok.2.2.2.2.1
  refine lv_aload_n hx hb dL_law_1919 rfl (lv_at hl 1 rfl) ?_
  refine pg_callV (As := []) (rest := []) SC (c_X0_doubleArea l X S hok) xB_st (xB_h (lw_hX hP) hKX) (cwV 0 hts gL_law_X0_doubleArea rfl rfl rfl (by decide +kernel) ⟨Nat.le_of_ble_eq_true rfl, Nat.le_of_ble_eq_true rfl⟩) (va_recv hKX hP (ci := 0) (q0 := 1) rfl rfl) rfl hl.1 rfl (Nat.le_of_ble_eq_true rfl) dL_law_1920 ⟨hc0.1, hc0.2⟩ ?_
  refine lv_aload_n hx hb dL_law_1923 rfl (lv_at hl 2 rfl) ?_
  refine pg_callV (As := []) (rest := [.int (iI (da S (sN S)))]) SC (c_X1_doubleArea l Y S t hok) mB_st (lw_mB hYX hKY hP) (cwV 0 hts gL_law_X1_doubleArea rfl rfl rfl (by decide +kernel) ⟨Nat.le_of_ble_eq_true rfl, Nat.le_of_ble_eq_true rfl⟩) (va_recv hKY hP (ci := 1) (q0 := 7) rfl rfl) rfl hl.1 rfl (Nat.le_of_ble_eq_true rfl) dL_law_1924 ⟨hc0.1, hc0.2⟩ ?_
  refine lw_same (tgt := 2002) hx hb (⟨by omega, by omega⟩) dL_law_1927 (by decide) ?_
  exact pg_widen (Nat.le_succ _) (Nat.le_add_right _ 6) (kk S t f g H locs ls ⟨hP, hD, hS, hok⟩ (lv_sub hl [0, 1, 2, 3, 4, 5] rfl))
set_option maxRecDepth 100000 in
set_option maxHeartbeats 4000000 in
theorem lw_op27 {p : Program} {l : Launch} {e : Env} {s : State} {m : MethodId} {args : Array Value} {below : List Frame} {meth : Method} {c : Code} {H : Heap} {locs : List Loc} {cells slots : Nat} {Q : State → Prop} {b L : Nat} {xs : Nat → Int32} {X Y : pgX} {cJ cD aJ aD : Nat} (hC : lwK l p s m c args b L xs X Y cJ cD) {i : Nat} (hi : i + 5 ≤ L) {S : pgS} {t : Int} {f : Nat → Int64} {g : Nat → UInt64} (hG : lwG s X Y cJ aJ cD aD S t f g H locs) (hce : cells + 1 ≤ 1047 ∧ slots + 6 ≤ 8369) {ls : Array Slot} (hl : lv_has ls 9 (lwB b X Y aJ aD i)) (kk : ∀ (S1 : pgS) (t1 : Int) (f1 : Nat → Int64) (g1 : Nat → UInt64) (H1 : Heap) (locs1 : List Loc) (ls1 : Array Slot), lwG s X Y cJ aJ cD aD S1 t1 f1 g1 H1 locs1 → lv_has ls1 9 (lwB b X Y aJ aD i) → W p l e room_1 s m args below meth c H1 locs1 (cells + 1) (slots + 6) Q (F0 m 2002 ls1 [])) : W p l e room_1 s m args below meth c H locs cells slots Q (F0 m 1932 ls []) := by
  obtain ⟨SC, hfl, hX, hbl, hL, hYX, hKJ, hKD, hKY, hE, hN⟩ := id hC
  obtain ⟨hx, hb, hml, hown, hts⟩ := id SC
  obtain ⟨hP, hD, hS, hok⟩ := id hG
  have hKX : va_K (xG X) vwCl (xTy X) s := va_K.sub hKJ [0, 1] rfl
  have hbA : ¬ s.heap.size ≤ b := by omega
  have hc0 : cells ≤ 1047 ∧ slots ≤ 8369 := by omega
  have hl : lv_has ls 9 [(0, .ref b), (1, .ref ((xa X 0))), (2, .ref ((xa Y 0))), (3, .ref aJ), (4, .ref aD), (5, .int (iI ((i : Int))))] := hl
  by_cases h1 : 32768 ≤ (da S (sN S)).natAbs
  · refine lv_aload_n hx hb dL_law_1932 rfl (lv_at hl 1 rfl) ?_
    refine lv_aload_n hx hb dL_law_1933 rfl (lv_at hl 3 rfl) ?_
    refine pg_wcallH (As := [.ref ((xa X 0)), .ref aJ]) (rest := []) (l1 := []) (l2 := lwW X Y S S t (lwJ aJ cJ f) (lwD aD cD g)) (w := []) (w' := []) SC (c_L_sideBits_1 l hfl s.heap.size X S hok h1 aJ) xW_st (lw_xW hKX hP hS hE hN) (vx_cwSW 2 hts gL_law_L_sideBits rfl rfl rfl (by decide +kernel) ⟨Nat.le_of_ble_eq_true rfl, Nat.le_of_ble_eq_true rfl⟩) (va_K.sub hKX [] rfl) hP hD hS rfl rfl hl.1 rfl (Nat.le_of_ble_eq_true rfl) dL_law_1934 ⟨hce.1, hce.2⟩ (fun H locs hP hD hS => ?_)
    have hP : va_P (xG X) vwCl (lwW X Y S S t (lwJ aJ cJ f) (lwD aD cD g)) H := hP
    have hD : va_D (fun q => s.heap.size ≤ q) (lwW X Y S S t (lwJ aJ cJ f) (lwD aD cD g)) := hD
    refine lv_istore (lv' := [(6, .int (iI 1)), (0, .ref b), (1, .ref ((xa X 0))), (2, .ref ((xa Y 0))), (3, .ref aJ), (4, .ref aD), (5, .int (iI ((i : Int))))]) hx hb dL_law_1937 hl (by decide) rfl (fun ls hl => ?_)
    refine lv_aload_n hx hb dL_law_1939 rfl (lv_at hl 3 rfl) ?_
    refine pg_wcallV (As := []) (rest := []) (l1 := (lwJ aJ cJ f) :: (xC X S ++ [(lwD aD cD g)])) (l2 := []) (w := mC Y S t) (w' := mC Y S 1) SC (pg_cY hYX (c_X1_sideBits_1 l Y S t hok h1)) pT_st pT_h (cwV 0 hts gL_law_X1_sideBits rfl rfl rfl (by decide +kernel) ⟨Nat.le_of_ble_eq_true rfl, Nat.le_of_ble_eq_true rfl⟩) (va_recv hKY hP (ci := 1) (q0 := 7) rfl rfl) hKY hP hD hS rfl rfl hl.1 rfl (Nat.le_of_ble_eq_true rfl) dL_law_1940 ⟨hce.1, hce.2⟩ (fun H locs hP hD hS => ?_)
    have hP : va_P (xG X) vwCl (lwW X Y S S 1 (lwJ aJ cJ f) (lwD aD cD g)) H := hP
    have hD : va_D (fun q => s.heap.size ≤ q) (lwW X Y S S 1 (lwJ aJ cJ f) (lwD aD cD g)) := hD
    refine lv_lstore (lv' := [(7, .long (lI 0)), (6, .int (iI 1)), (0, .ref b), (1, .ref ((xa X 0))), (2, .ref ((xa Y 0))), (3, .ref aJ), (4, .ref aD), (5, .int (iI ((i : Int))))]) hx hb dL_law_1943 hl (by decide) rfl (fun ls hl => ?_)
    refine lv_aload_n hx hb dL_law_1945 rfl (lv_at hl 4 rfl) ?_
    refine pg_callV (As := []) (rest := []) SC (c_X1_thrown l Y S 1) mB_st (lw_mB hYX hKY hP) (cwV 0 hts gL_law_X1_thrown rfl rfl rfl (by decide +kernel) ⟨Nat.le_of_ble_eq_true rfl, Nat.le_of_ble_eq_true rfl⟩) (va_recv hKY hP (ci := 1) (q0 := 7) rfl rfl) rfl hl.1 rfl (Nat.le_of_ble_eq_true rfl) dL_law_1946 ⟨hce.1, hce.2⟩ ?_
    refine lv_iload hx hb dL_law_1949 (lv_at hl 1 rfl) ?_
    refine lw_same (tgt := 1956) hx hb (⟨by omega, by omega⟩) dL_law_1951 (by decide) ?_
    refine lv_iload hx hb dL_law_1956 (lv_at hl 1 rfl) ?_
    refine pg_if_ne (tgt := 1972) hx hb dL_law_1958 (by decide) (⟨by omega, by omega⟩) (fun _ => ?_) (fun h9 => absurd h9 (by omega))
    refine lv_goto (tgt := 2002) hx hb dL_law_1972 (by decide) ?_
    exact kk S 1 f g H locs ls ⟨hP, hD, hS, hok⟩ (lv_sub hl [2, 3, 4, 5, 6, 7] rfl)
  · refine lv_aload_n hx hb dL_law_1932 rfl (lv_at hl 1 rfl) ?_
    refine lv_aload_n hx hb dL_law_1933 rfl (lv_at hl 3 rfl) ?_
    refine pg_wcallH (As := [.ref ((xa X 0)), .ref aJ]) (rest := []) (l1 := []) (l2 := (lwD aD cD g) :: mC Y S t) (w := (lwJ aJ cJ f) :: xC X S) (w' := (lwJ aJ cJ (vp_updL f 0 (lI (((bx (16 * (da S (sN S)).natAbs) : Nat) : Int))))) :: xC X S) SC (c_L_sideBits_ok l X S hok (by omega) cJ aJ f) pT_st pT_h (vx_cwSW 2 hts gL_law_L_sideBits rfl rfl rfl (by decide +kernel) ⟨Nat.le_of_ble_eq_true rfl, Nat.le_of_ble_eq_true rfl⟩) hKJ hP hD hS rfl rfl hl.1 rfl (Nat.le_of_ble_eq_true rfl) dL_law_1934 ⟨hc0.1, hc0.2⟩ (fun H locs hP hD hS => ?_)
    have hP : va_P (xG X) vwCl (lwW X Y S S t (lwJ aJ cJ (vp_updL f 0 (lI (((bx (16 * (da S (sN S)).natAbs) : Nat) : Int))))) (lwD aD cD g)) H := hP
    have hD : va_D (fun q => s.heap.size ≤ q) (lwW X Y S S t (lwJ aJ cJ (vp_updL f 0 (lI (((bx (16 * (da S (sN S)).natAbs) : Nat) : Int))))) (lwD aD cD g)) := hD
    refine lv_istore (lv' := [(6, .int (iI 0)), (0, .ref b), (1, .ref ((xa X 0))), (2, .ref ((xa Y 0))), (3, .ref aJ), (4, .ref aD), (5, .int (iI ((i : Int))))]) hx hb dL_law_1937 hl (by decide) rfl (fun ls hl => ?_)
    refine lv_aload_n hx hb dL_law_1939 rfl (lv_at hl 3 rfl) ?_
    refine pg_wcallV (As := []) (rest := []) (l1 := (lwJ aJ cJ (vp_updL f 0 (lI (((bx (16 * (da S (sN S)).natAbs) : Nat) : Int))))) :: (xC X S ++ [(lwD aD cD g)])) (l2 := []) (w := mC Y S t) (w' := mC Y S 0) SC (pg_cY hYX (c_X1_sideBits_ok l Y S t hok (by omega))) pT_st pT_h (cwV 0 hts gL_law_X1_sideBits rfl rfl rfl (by decide +kernel) ⟨Nat.le_of_ble_eq_true rfl, Nat.le_of_ble_eq_true rfl⟩) (va_recv hKY hP (ci := 1) (q0 := 7) rfl rfl) hKY hP hD hS rfl rfl hl.1 rfl (Nat.le_of_ble_eq_true rfl) dL_law_1940 ⟨hc0.1, hc0.2⟩ (fun H locs hP hD hS => ?_)
    have hP : va_P (xG X) vwCl (lwW X Y S S 0 (lwJ aJ cJ (vp_updL f 0 (lI (((bx (16 * (da S (sN S)).natAbs) : Nat) : Int))))) (lwD aD cD g)) H := hP
    have hD : va_D (fun q => s.heap.size ≤ q) (lwW X Y S S 0 (lwJ aJ cJ (vp_updL f 0 (lI (((bx (16 * (da S (sN S)).natAbs) : Nat) : Int))))) (lwD aD cD g)) := hD
    refine lv_lstore (lv' := [(7, .long (lI (((bx (16 * (da S (sN S)).natAbs) : Nat) : Int)))), (6, .int (iI 0)), (0, .ref b), (1, .ref ((xa X 0))), (2, .ref ((xa Y 0))), (3, .ref aJ), (4, .ref aD), (5, .int (iI ((i : Int))))]) hx hb dL_law_1943 hl (by decide) rfl (fun ls hl => ?_)
    refine lv_aload_n hx hb dL_law_1945 rfl (lv_at hl 4 rfl) ?_
    refine pg_callV (As := []) (rest := []) SC (c_X1_thrown l Y S 0) mB_st (lw_mB hYX hKY hP) (cwV 0 hts gL_law_X1_thrown rfl rfl rfl (by decide +kernel) ⟨Nat.le_of_ble_eq_true rfl, Nat.le_of_ble_eq_true rfl⟩) (va_recv hKY hP (ci := 1) (q0 := 7) rfl rfl) rfl hl.1 rfl (Nat.le_of_ble_eq_true rfl) dL_law_1946 ⟨hc0.1, hc0.2⟩ ?_
    refine lv_iload hx hb dL_law_1949 (lv_at hl 1 rfl) ?_
    refine lw_same (tgt := 1956) hx hb (⟨by omega, by omega⟩) dL_law_1951 (by decide) ?_
    refine lv_iload hx hb dL_law_1956 (lv_at hl 1 rfl) ?_
    refine pg_if_ne (tgt := 1972) hx hb dL_law_1958 (by decide) (⟨by omega, by omega⟩) (fun h9 => absurd rfl h9) (fun _ => ?_)
    refine lv_aload_n hx hb dL_law_1961 rfl (lv_at hl 5 rfl) ?_
    refine lv_iconst (v := iI 0) hx hb dL_law_1962 rfl ?_
    refine pg_lld0 hx hb hKJ hP 0 2 rfl rfl dL_law_1963 ?_
    refine lv_lload hx hb dL_law_1964 (lv_at hl 0 rfl) ?_
    refine lw_leq (tgt := 1972) hx hb rfl dL_law_1966 dL_law_1967 (by decide) ?_
    refine lv_goto (tgt := 2002) hx hb dL_law_1972 (by decide) ?_
    exact pg_widen (Nat.le_succ _) (Nat.le_add_right _ 6) (kk S 0 ((vp_updL f 0 (lI (((bx (16 * (da S (sN S)).natAbs) : Nat) : Int))))) g H locs ls ⟨hP, hD, hS, hok⟩ (lv_sub hl [2, 3, 4, 5, 6, 7] rfl))
set_option maxRecDepth 100000 in
set_option maxHeartbeats 4000000 in
theorem lw_op28 {p : Program} {l : Launch} {e : Env} {s : State} {m : MethodId} {args : Array Value} {below : List Frame} {meth : Method} {c : Code} {H : Heap} {locs : List Loc} {cells slots : Nat} {Q : State → Prop} {b L : Nat} {xs : Nat → Int32} {X Y : pgX} {cJ cD aJ aD : Nat} (hC : lwK l p s m c args b L xs X Y cJ cD) {i : Nat} (hi : i + 5 ≤ L) {S : pgS} {t : Int} {f : Nat → Int64} {g : Nat → UInt64} (hG : lwG s X Y cJ aJ cD aD S t f g H locs) (hce : cells + 1 ≤ 1047 ∧ slots + 6 ≤ 8369) {ls : Array Slot} (hl : lv_has ls 9 (lwB b X Y aJ aD i)) (kk : ∀ (S1 : pgS) (t1 : Int) (f1 : Nat → Int64) (g1 : Nat → UInt64) (H1 : Heap) (locs1 : List Loc) (ls1 : Array Slot), lwG s X Y cJ aJ cD aD S1 t1 f1 g1 H1 locs1 → lv_has ls1 9 (lwB b X Y aJ aD i) → W p l e room_1 s m args below meth c H1 locs1 (cells + 1) (slots + 6) Q (F0 m 2002 ls1 [])) : W p l e room_1 s m args below meth c H locs cells slots Q (F0 m 1975 ls []) := by
  obtain ⟨SC, hfl, hX, hbl, hL, hYX, hKJ, hKD, hKY, hE, hN⟩ := id hC
  obtain ⟨hx, hb, hml, hown, hts⟩ := id SC
  obtain ⟨hP, hD, hS, hok⟩ := id hG
  have hKX : va_K (xG X) vwCl (xTy X) s := va_K.sub hKJ [0, 1] rfl
  have hbA : ¬ s.heap.size ≤ b := by omega
  have hc0 : cells ≤ 1047 ∧ slots ≤ 8369 := by omega
  have hl : lv_has ls 9 [(0, .ref b), (1, .ref ((xa X 0))), (2, .ref ((xa Y 0))), (3, .ref aJ), (4, .ref aD), (5, .int (iI ((i : Int))))] := hl
  refine lv_aload_n hx hb dL_law_1975 rfl (lv_at hl 1 rfl) ?_
  refine pg_callV (As := []) (rest := []) SC (c_X0_checksum l X S hok) xB_st (xB_h (lw_hX hP) hKX) (cwV 0 hts gL_law_X0_checksum rfl rfl rfl (by decide +kernel) ⟨Nat.le_of_ble_eq_true rfl, Nat.le_of_ble_eq_true rfl⟩) (va_recv hKX hP (ci := 0) (q0 := 1) rfl rfl) rfl hl.1 rfl (Nat.le_of_ble_eq_true rfl) dL_law_1976 ⟨hc0.1, hc0.2⟩ ?_
  refine lv_aload_n hx hb dL_law_1979 rfl (lv_at hl 2 rfl) ?_
  refine pg_callV (As := []) (rest := [.long (lI (csum S))]) SC (c_X1_checksum l Y S t hok) mB_st (lw_mB hYX hKY hP) (cwV 0 hts gL_law_X1_checksum rfl rfl rfl (by decide +kernel) ⟨Nat.le_of_ble_eq_true rfl, Nat.le_of_ble_eq_true rfl⟩) (va_recv hKY hP (ci := 1) (q0 := 7) rfl rfl) rfl hl.1 rfl (Nat.le_of_ble_eq_true rfl) dL_law_1980 ⟨hc0.1, hc0.2⟩ ?_
  refine lw_leq (tgt := 2002) hx hb rfl dL_law_1983 dL_law_1984 (by decide) ?_
  exact pg_widen (Nat.le_succ _) (Nat.le_add_right _ 6) (kk S t f g H locs ls ⟨hP, hD, hS, hok⟩ (lv_sub hl [0, 1, 2, 3, 4, 5] rfl))
set_option maxRecDepth 100000 in
set_option maxHeartbeats 4000000 in
theorem lw_op29 {p : Program} {l : Launch} {e : Env} {s : State} {m : MethodId} {args : Array Value} {below : List Frame} {meth : Method} {c : Code} {H : Heap} {locs : List Loc} {cells slots : Nat} {Q : State → Prop} {b L : Nat} {xs : Nat → Int32} {X Y : pgX} {cJ cD aJ aD : Nat} (hC : lwK l p s m c args b L xs X Y cJ cD) {i : Nat} (hi : i + 5 ≤ L) {S : pgS} {t : Int} {f : Nat → Int64} {g : Nat → UInt64} (hG : lwG s X Y cJ aJ cD aD S t f g H locs) (hce : cells + 1 ≤ 1047 ∧ slots + 6 ≤ 8369) {ls : Array Slot} (hl : lv_has ls 9 (lwB b X Y aJ aD i)) (kk : ∀ (S1 : pgS) (t1 : Int) (f1 : Nat → Int64) (g1 : Nat → UInt64) (H1 : Heap) (locs1 : List Loc) (ls1 : Array Slot), lwG s X Y cJ aJ cD aD S1 t1 f1 g1 H1 locs1 → lv_has ls1 9 (lwB b X Y aJ aD i) → W p l e room_1 s m args below meth c H1 locs1 (cells + 1) (slots + 6) Q (F0 m 2002 ls1 [])) : W p l e room_1 s m args below meth c H locs cells slots Q (F0 m 1989 ls []) := by
  obtain ⟨SC, hfl, hX, hbl, hL, hYX, hKJ, hKD, hKY, hE, hN⟩ := id hC
  obtain ⟨hx, hb, hml, hown, hts⟩ := id SC
  obtain ⟨hP, hD, hS, hok⟩ := id hG
  have hKX : va_K (xG X) vwCl (xTy X) s := va_K.sub hKJ [0, 1] rfl
  have hbA : ¬ s.heap.size ≤ b := by omega
  have hc0 : cells ≤ 1047 ∧ slots ≤ 8369 := by omega
  have hl : lv_has ls 9 [(0, .ref b), (1, .ref ((xa X 0))), (2, .ref ((xa Y 0))), (3, .ref aJ), (4, .ref aD), (5, .int (iI ((i : Int))))] := hl
  refine lv_aload_n hx hb dL_law_1989 rfl (lv_at hl 1 rfl) ?_
  refine pg_callV (As := []) (rest := []) SC (c_X0_isSound l X S hok) xB_st (xB_h (lw_hX hP) hKX) (cwV 0 hts gL_law_X0_isSound rfl rfl rfl (by decide +kernel) ⟨Nat.le_of_ble_eq_true rfl, Nat.le_of_ble_eq_true rfl⟩) (va_recv hKX hP (ci := 0) (q0 := 1) rfl rfl) rfl hl.1 rfl (Nat.le_of_ble_eq_true rfl) dL_law_1990 ⟨hc0.1, hc0.2⟩ ?_
  refine lv_aload_n hx hb dL_law_1993 rfl (lv_at hl 2 rfl) ?_
  refine pg_callV (As := []) (rest := [.int (iI 1)]) SC (c_X1_isSound l Y S t hok) mB_st (lw_mB hYX hKY hP) (cwV 0 hts gL_law_X1_isSound rfl rfl rfl (by decide +kernel) ⟨Nat.le_of_ble_eq_true rfl, Nat.le_of_ble_eq_true rfl⟩) (va_recv hKY hP (ci := 1) (q0 := 7) rfl rfl) rfl hl.1 rfl (Nat.le_of_ble_eq_true rfl) dL_law_1994 ⟨hc0.1, hc0.2⟩ ?_
  refine lw_same (tgt := 2002) hx hb (⟨by omega, by omega⟩) dL_law_1997 (by decide) ?_
  exact pg_widen (Nat.le_succ _) (Nat.le_add_right _ 6) (kk S t f g H locs ls ⟨hP, hD, hS, hok⟩ (lv_sub hl [0, 1, 2, 3, 4, 5] rfl))
