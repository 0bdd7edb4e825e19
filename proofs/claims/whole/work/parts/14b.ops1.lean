theorem upN_self {f : Nat → Nat} {k v : Nat} (h : f k = v) : upN f k v = f := by
  funext j
  unfold upN
  by_cases hj : j = k
  · rw [if_pos hj, hj]; exact h.symm
  · rw [if_neg hj]
theorem upN_le {f : Nat → Nat} {B k v : Nat} (h : ∀ j, f j ≤ B) (hv : v ≤ B) : ∀ j, upN f k v j ≤ B := fun j => by
  unfold upN
  split
  · exact hv
  · exact h j
set_option maxRecDepth 100000 in
set_option maxHeartbeats 4000000 in
theorem lw_op0 {p : Program} {l : Launch} {e : Env} {s : State} {m : MethodId} {args : Array Value} {below : List Frame} {meth : Method} {c : Code} {H : Heap} {locs : List Loc} {cells slots : Nat} {Q : State → Prop} {b L : Nat} {xs : Nat → Int32} {X Y : pgX} {cJ cD aJ aD : Nat} (hC : lwK l p s m c args b L xs X Y cJ cD) {i : Nat} (hi : i + 5 ≤ L) {S : pgS} {t : Int} {f : Nat → Int64} {g : Nat → UInt64} (hG : lwG s X Y cJ aJ cD aD S t f g H locs) (hce : cells + 1 ≤ 1047 ∧ slots + 6 ≤ 8369) {ls : Array Slot} (hl : lv_has ls 9 (lwB b X Y aJ aD i)) (kk : ∀ (S1 : pgS) (t1 : Int) (f1 : Nat → Int64) (g1 : Nat → UInt64) (H1 : Heap) (locs1 : List Loc) (ls1 : Array Slot), lwG s X Y cJ aJ cD aD S1 t1 f1 g1 H1 locs1 → lv_has ls1 9 (lwB b X Y aJ aD i) → W p l e room_1 s m args below meth c H1 locs1 (cells + 1) (slots + 6) Q (F0 m 2002 ls1 [])) : W p l e room_1 s m args below meth c H locs cells slots Q (F0 m 180 ls []) := by
  obtain ⟨SC, hfl, hX, hbl, hL, hYX, hKJ, hKD, hKY, hE, hN⟩ := id hC
  obtain ⟨hx, hb, hml, hown, hts⟩ := id SC
  obtain ⟨hP, hD, hS, hok⟩ := id hG
  have hKX : va_K (xG X) vwCl (xTy X) s := va_K.sub hKJ [0, 1] rfl
  have hbA : ¬ s.heap.size ≤ b := by omega
  have hc0 : cells ≤ 1047 ∧ slots ≤ 8369 := by omega
  have hl : lv_has ls 9 [(0, .ref b), (1, .ref ((xa X 0))), (2, .ref ((xa Y 0))), (3, .ref aJ), (4, .ref aD), (5, .int (iI ((i : Int))))] := hl
  obtain ⟨v1, hv1, hq1⟩ : ∃ v : Int, xs (i + 1) = iI v ∧ inI v := ⟨_, iI_self _, inI_self _⟩
  obtain ⟨v2, hv2, hq2⟩ : ∃ v : Int, xs (i + 2) = iI v ∧ inI v := ⟨_, iI_self _, inI_self _⟩
  obtain ⟨v3, hv3, hq3⟩ : ∃ v : Int, xs (i + 3) = iI v ∧ inI v := ⟨_, iI_self _, inI_self _⟩
  by_cases h1 : v1 < 0 ∨ 12 ≤ v1
  · refine lv_aload_n hx hb dL_law_180 rfl (lv_at hl 1 rfl) ?_
    refine lw_sc (j := i + 1) (v := v1) hx hb hX hbl hbA hS (lv_at hl 0 rfl) (lv_at hl 5 rfl) (by omega) (by omega) hL hv1 dL_law_181 dL_law_182 dL_law_184 dL_law_185 dL_law_186 ?_
    refine lw_sc (j := i + 2) (v := v2) hx hb hX hbl hbA hS (lv_at hl 0 rfl) (lv_at hl 5 rfl) (by omega) (by omega) hL hv2 dL_law_187 dL_law_188 dL_law_190 dL_law_191 dL_law_192 ?_
    refine lw_sc (j := i + 3) (v := v3) hx hb hX hbl hbA hS (lv_at hl 0 rfl) (lv_at hl 5 rfl) (by omega) (by omega) hL hv3 dL_law_193 dL_law_194 dL_law_196 dL_law_197 dL_law_198 ?_
    refine lv_aload_n hx hb dL_law_199 rfl (lv_at hl 3 rfl) ?_
    refine pg_wcallH (As := [.ref ((xa X 0)), .int (iI v1), .int (iI v2), .int (iI v3), .ref aJ]) (rest := []) (l1 := []) (l2 := lwW X Y S S t (lwJ aJ cJ f) (lwD aD cD g)) (w := []) (w' := []) SC (c_L_put_1 l hfl s.heap.size X S v1 hq1 h1 v2 v3 aJ) xW_st (lw_xW hKX hP hS hE hN) (vx_cwSW 5 hts gL_law_L_put rfl rfl rfl (by decide +kernel) ⟨Nat.le_of_ble_eq_true rfl, Nat.le_of_ble_eq_true rfl⟩) (va_K.sub hKX [] rfl) hP hD hS rfl rfl hl.1 rfl (Nat.le_of_ble_eq_true rfl) dL_law_200 ⟨hce.1, hce.2⟩ (fun H locs hP hD hS => ?_)
    have hP : va_P (xG X) vwCl (lwW X Y S S t (lwJ aJ cJ f) (lwD aD cD g)) H := hP
    have hD : va_D (fun q => s.heap.size ≤ q) (lwW X Y S S t (lwJ aJ cJ f) (lwD aD cD g)) := hD
    refine lv_istore (lv' := [(6, .int (iI 1)), (0, .ref b), (1, .ref ((xa X 0))), (2, .ref ((xa Y 0))), (3, .ref aJ), (4, .ref aD), (5, .int (iI ((i : Int))))]) hx hb dL_law_203 hl (by decide) rfl (fun ls hl => ?_)
    refine lv_aload_n hx hb dL_law_205 rfl (lv_at hl 3 rfl) ?_
    refine lw_sc (j := i + 1) (v := v1) hx hb hX hbl hbA hS (lv_at hl 1 rfl) (lv_at hl 6 rfl) (by omega) (by omega) hL hv1 dL_law_206 dL_law_207 dL_law_209 dL_law_210 dL_law_211 ?_
    refine lw_sc (j := i + 2) (v := v2) hx hb hX hbl hbA hS (lv_at hl 1 rfl) (lv_at hl 6 rfl) (by omega) (by omega) hL hv2 dL_law_212 dL_law_213 dL_law_215 dL_law_216 dL_law_217 ?_
    refine lw_sc (j := i + 3) (v := v3) hx hb hX hbl hbA hS (lv_at hl 1 rfl) (lv_at hl 6 rfl) (by omega) (by omega) hL hv3 dL_law_218 dL_law_219 dL_law_221 dL_law_222 dL_law_223 ?_
    refine pg_wcallV (As := [.int (iI v1), .int (iI v2), .int (iI v3)]) (rest := []) (l1 := (lwJ aJ cJ f) :: (xC X S ++ [(lwD aD cD g)])) (l2 := []) (w := mC Y S t) (w' := mC Y S 1) SC (pg_cY hYX (c_X1_put_1 l Y S t v1 hq1 h1 v2 v3)) pT_st pT_h (cwV 3 hts gL_law_X1_put rfl rfl rfl (by decide +kernel) ⟨Nat.le_of_ble_eq_true rfl, Nat.le_of_ble_eq_true rfl⟩) (va_recv hKY hP (ci := 1) (q0 := 7) rfl rfl) hKY hP hD hS rfl rfl hl.1 rfl (Nat.le_of_ble_eq_true rfl) dL_law_224 ⟨hce.1, hce.2⟩ (fun H locs hP hD hS => ?_)
    have hP : va_P (xG X) vwCl (lwW X Y S S 1 (lwJ aJ cJ f) (lwD aD cD g)) H := hP
    have hD : va_D (fun q => s.heap.size ≤ q) (lwW X Y S S 1 (lwJ aJ cJ f) (lwD aD cD g)) := hD
    refine lv_istore (lv' := [(7, .int (iI 0)), (6, .int (iI 1)), (0, .ref b), (1, .ref ((xa X 0))), (2, .ref ((xa Y 0))), (3, .ref aJ), (4, .ref aD), (5, .int (iI ((i : Int))))]) hx hb dL_law_227 hl (by decide) rfl (fun ls hl => ?_)
    refine lv_aload_n hx hb dL_law_229 rfl (lv_at hl 4 rfl) ?_
    refine pg_callV (As := []) (rest := []) SC (c_X1_thrown l Y S 1) mB_st (lw_mB hYX hKY hP) (cwV 0 hts gL_law_X1_thrown rfl rfl rfl (by decide +kernel) ⟨Nat.le_of_ble_eq_true rfl, Nat.le_of_ble_eq_true rfl⟩) (va_recv hKY hP (ci := 1) (q0 := 7) rfl rfl) rfl hl.1 rfl (Nat.le_of_ble_eq_true rfl) dL_law_230 ⟨hce.1, hce.2⟩ ?_
    refine lv_iload hx hb dL_law_233 (lv_at hl 1 rfl) ?_
    refine lw_same (tgt := 240) hx hb (⟨by omega, by omega⟩) dL_law_235 (by decide) ?_
    refine lv_iload hx hb dL_law_240 (lv_at hl 1 rfl) ?_
    refine pg_if_ne (tgt := 264) hx hb dL_law_242 (by decide) (⟨by omega, by omega⟩) (fun _ => ?_) (fun h9 => absurd h9 (by omega))
    refine lv_goto (tgt := 2002) hx hb dL_law_264 (by decide) ?_
    exact kk S 1 f g H locs ls ⟨hP, hD, hS, hok⟩ (lv_sub hl [2, 3, 4, 5, 6, 7] rfl)
  · obtain ⟨k, rfl⟩ : ∃ z : Nat, v1 = (z : Int) := ⟨v1.toNat, by omega⟩
    have hk : k < 12 := by omega
    by_cases h2 : v2 < 0 ∨ 91 ≤ v2 ∨ v3 < 0 ∨ 91 ≤ v3
    · refine lv_aload_n hx hb dL_law_180 rfl (lv_at hl 1 rfl) ?_
      refine lw_sc (j := i + 1) (v := ((k : Nat) : Int)) hx hb hX hbl hbA hS (lv_at hl 0 rfl) (lv_at hl 5 rfl) (by omega) (by omega) hL hv1 dL_law_181 dL_law_182 dL_law_184 dL_law_185 dL_law_186 ?_
      refine lw_sc (j := i + 2) (v := v2) hx hb hX hbl hbA hS (lv_at hl 0 rfl) (lv_at hl 5 rfl) (by omega) (by omega) hL hv2 dL_law_187 dL_law_188 dL_law_190 dL_law_191 dL_law_192 ?_
      refine lw_sc (j := i + 3) (v := v3) hx hb hX hbl hbA hS (lv_at hl 0 rfl) (lv_at hl 5 rfl) (by omega) (by omega) hL hv3 dL_law_193 dL_law_194 dL_law_196 dL_law_197 dL_law_198 ?_
      refine lv_aload_n hx hb dL_law_199 rfl (lv_at hl 3 rfl) ?_
      refine pg_wcallH (As := [.ref ((xa X 0)), .int (iI (((k : Nat) : Int))), .int (iI v2), .int (iI v3), .ref aJ]) (rest := []) (l1 := []) (l2 := lwW X Y S S t (lwJ aJ cJ f) (lwD aD cD g)) (w := []) (w' := []) SC (c_L_put_2 l hfl s.heap.size X S k hk v2 v3 hq2 hq3 h2 aJ) xW_st (lw_xW hKX hP hS hE hN) (vx_cwSW 5 hts gL_law_L_put rfl rfl rfl (by decide +kernel) ⟨Nat.le_of_ble_eq_true rfl, Nat.le_of_ble_eq_true rfl⟩) (va_K.sub hKX [] rfl) hP hD hS rfl rfl hl.1 rfl (Nat.le_of_ble_eq_true rfl) dL_law_200 ⟨hce.1, hce.2⟩ (fun H locs hP hD hS => ?_)
      have hP : va_P (xG X) vwCl (lwW X Y S S t (lwJ aJ cJ f) (lwD aD cD g)) H := hP
      have hD : va_D (fun q => s.heap.size ≤ q) (lwW X Y S S t (lwJ aJ cJ f) (lwD aD cD g)) := hD
      refine lv_istore (lv' := [(6, .int (iI 2)), (0, .ref b), (1, .ref ((xa X 0))), (2, .ref ((xa Y 0))), (3, .ref aJ), (4, .ref aD), (5, .int (iI ((i : Int))))]) hx hb dL_law_203 hl (by decide) rfl (fun ls hl => ?_)
      refine lv_aload_n hx hb dL_law_205 rfl (lv_at hl 3 rfl) ?_
      refine lw_sc (j := i + 1) (v := ((k : Nat) : Int)) hx hb hX hbl hbA hS (lv_at hl 1 rfl) (lv_at hl 6 rfl) (by omega) (by omega) hL hv1 dL_law_206 dL_law_207 dL_law_209 dL_law_210 dL_law_211 ?_
      refine lw_sc (j := i + 2) (v := v2) hx hb hX hbl hbA hS (lv_at hl 1 rfl) (lv_at hl 6 rfl) (by omega) (by omega) hL hv2 dL_law_212 dL_law_213 dL_law_215 dL_law_216 dL_law_217 ?_
      refine lw_sc (j := i + 3) (v := v3) hx hb hX hbl hbA hS (lv_at hl 1 rfl) (lv_at hl 6 rfl) (by omega) (by omega) hL hv3 dL_law_218 dL_law_219 dL_law_221 dL_law_222 dL_law_223 ?_
      refine pg_wcallV (As := [.int (iI (((k : Nat) : Int))), .int (iI v2), .int (iI v3)]) (rest := []) (l1 := (lwJ aJ cJ f) :: (xC X S ++ [(lwD aD cD g)])) (l2 := []) (w := mC Y S t) (w' := mC Y S 2) SC (pg_cY hYX (c_X1_put_2 l Y S t k hk v2 v3 hq2 hq3 h2)) pT_st pT_h (cwV 3 hts gL_law_X1_put rfl rfl rfl (by decide +kernel) ⟨Nat.le_of_ble_eq_true rfl, Nat.le_of_ble_eq_true rfl⟩) (va_recv hKY hP (ci := 1) (q0 := 7) rfl rfl) hKY hP hD hS rfl rfl hl.1 rfl (Nat.le_of_ble_eq_true rfl) dL_law_224 ⟨hce.1, hce.2⟩ (fun H locs hP hD hS => ?_)
      have hP : va_P (xG X) vwCl (lwW X Y S S 2 (lwJ aJ cJ f) (lwD aD cD g)) H := hP
      have hD : va_D (fun q => s.heap.size ≤ q) (lwW X Y S S 2 (lwJ aJ cJ f) (lwD aD cD g)) := hD
      refine lv_istore (lv' := [(7, .int (iI 0)), (6, .int (iI 2)), (0, .ref b), (1, .ref ((xa X 0))), (2, .ref ((xa Y 0))), (3, .ref aJ), (4, .ref aD), (5, .int (iI ((i : Int))))]) hx hb dL_law_227 hl (by decide) rfl (fun ls hl => ?_)
      refine lv_aload_n hx hb dL_law_229 rfl (lv_at hl 4 rfl) ?_
      refine pg_callV (As := []) (rest := []) SC (c_X1_thrown l Y S 2) mB_st (lw_mB hYX hKY hP) (cwV 0 hts gL_law_X1_thrown rfl rfl rfl (by decide +kernel) ⟨Nat.le_of_ble_eq_true rfl, Nat.le_of_ble_eq_true rfl⟩) (va_recv hKY hP (ci := 1) (q0 := 7) rfl rfl) rfl hl.1 rfl (Nat.le_of_ble_eq_true rfl) dL_law_230 ⟨hce.1, hce.2⟩ ?_
      refine lv_iload hx hb dL_law_233 (lv_at hl 1 rfl) ?_
      refine lw_same (tgt := 240) hx hb (⟨by omega, by omega⟩) dL_law_235 (by decide) ?_
      refine lv_iload hx hb dL_law_240 (lv_at hl 1 rfl) ?_
      refine pg_if_ne (tgt := 264) hx hb dL_law_242 (by decide) (⟨by omega, by omega⟩) (fun _ => ?_) (fun h9 => absurd h9 (by omega))
      refine lv_goto (tgt := 2002) hx hb dL_law_264 (by decide) ?_
      exact kk S 2 f g H locs ls ⟨hP, hD, hS, hok⟩ (lv_sub hl [2, 3, 4, 5, 6, 7] rfl)
    · obtain ⟨a, rfl⟩ : ∃ z : Nat, v2 = (z : Int) := ⟨v2.toNat, by omega⟩
      obtain ⟨u, rfl⟩ : ∃ z : Nat, v3 = (z : Int) := ⟨v3.toNat, by omega⟩
      have hs1 := hok.1 k
      refine lv_aload_n hx hb dL_law_180 rfl (lv_at hl 1 rfl) ?_
      refine lw_sc (j := i + 1) (v := ((k : Nat) : Int)) hx hb hX hbl hbA hS (lv_at hl 0 rfl) (lv_at hl 5 rfl) (by omega) (by omega) hL hv1 dL_law_181 dL_law_182 dL_law_184 dL_law_185 dL_law_186 ?_
      refine lw_sc (j := i + 2) (v := ((a : Nat) : Int)) hx hb hX hbl hbA hS (lv_at hl 0 rfl) (lv_at hl 5 rfl) (by omega) (by omega) hL hv2 dL_law_187 dL_law_188 dL_law_190 dL_law_191 dL_law_192 ?_
      refine lw_sc (j := i + 3) (v := ((u : Nat) : Int)) hx hb hX hbl hbA hS (lv_at hl 0 rfl) (lv_at hl 5 rfl) (by omega) (by omega) hL hv3 dL_law_193 dL_law_194 dL_law_196 dL_law_197 dL_law_198 ?_
      refine lv_aload_n hx hb dL_law_199 rfl (lv_at hl 3 rfl) ?_
      refine pg_wcallH (As := [.ref ((xa X 0)), .int (iI (((k : Nat) : Int))), .int (iI (((a : Nat) : Int))), .int (iI (((u : Nat) : Int))), .ref aJ]) (rest := []) (l1 := []) (l2 := (lwD aD cD g) :: mC Y S t) (w := (lwJ aJ cJ f) :: xC X S) (w' := (lwJ aJ cJ (vp_updL f 0 (lI (1 - (sS S k : Int))))) :: xC X ((upN (sS S) k 1, upN (sA S) k a, upN (sU S) k u, sR S, sN S, sW S))) SC (c_L_put_ok l X S k a u hk (by omega) (by omega) hs1 cJ aJ f) pT_st pT_h (vx_cwSW 5 hts gL_law_L_put rfl rfl rfl (by decide +kernel) ⟨Nat.le_of_ble_eq_true rfl, Nat.le_of_ble_eq_true rfl⟩) hKJ hP hD hS rfl rfl hl.1 rfl (Nat.le_of_ble_eq_true rfl) dL_law_200 ⟨hc0.1, hc0.2⟩ (fun H locs hP hD hS => ?_)
      have hP : va_P (xG X) vwCl (lwW X Y ((upN (sS S) k 1, upN (sA S) k a, upN (sU S) k u, sR S, sN S, sW S)) S t (lwJ aJ cJ (vp_updL f 0 (lI (1 - (sS S k : Int))))) (lwD aD cD g)) H := hP
      have hD : va_D (fun q => s.heap.size ≤ q) (lwW X Y ((upN (sS S) k 1, upN (sA S) k a, upN (sU S) k u, sR S, sN S, sW S)) S t (lwJ aJ cJ (vp_updL f 0 (lI (1 - (sS S k : Int))))) (lwD aD cD g)) := hD
      refine lv_istore (lv' := [(6, .int (iI 0)), (0, .ref b), (1, .ref ((xa X 0))), (2, .ref ((xa Y 0))), (3, .ref aJ), (4, .ref aD), (5, .int (iI ((i : Int))))]) hx hb dL_law_203 hl (by decide) rfl (fun ls hl => ?_)
      refine lv_aload_n hx hb dL_law_205 rfl (lv_at hl 3 rfl) ?_
      refine lw_sc (j := i + 1) (v := ((k : Nat) : Int)) hx hb hX hbl hbA hS (lv_at hl 1 rfl) (lv_at hl 6 rfl) (by omega) (by omega) hL hv1 dL_law_206 dL_law_207 dL_law_209 dL_law_210 dL_law_211 ?_
      refine lw_sc (j := i + 2) (v := ((a : Nat) : Int)) hx hb hX hbl hbA hS (lv_at hl 1 rfl) (lv_at hl 6 rfl) (by omega) (by omega) hL hv2 dL_law_212 dL_law_213 dL_law_215 dL_law_216 dL_law_217 ?_
      refine lw_sc (j := i + 3) (v := ((u : Nat) : Int)) hx hb hX hbl hbA hS (lv_at hl 1 rfl) (lv_at hl 6 rfl) (by omega) (by omega) hL hv3 dL_law_218 dL_law_219 dL_law_221 dL_law_222 dL_law_223 ?_
      refine pg_wcallV (As := [.int (iI (((k : Nat) : Int))), .int (iI (((a : Nat) : Int))), .int (iI (((u : Nat) : Int)))]) (rest := []) (l1 := (lwJ aJ cJ (vp_updL f 0 (lI (1 - (sS S k : Int))))) :: (xC X ((upN (sS S) k 1, upN (sA S) k a, upN (sU S) k u, sR S, sN S, sW S)) ++ [(lwD aD cD g)])) (l2 := []) (w := mC Y S t) (w' := mC Y ((upN (sS S) k 1, upN (sA S) k a, upN (sU S) k u, sR S, sN S, sW S)) 0) SC (pg_cY hYX (c_X1_put_ok l Y S t k a u hk (by omega) (by omega) hs1)) pT_st pT_h (cwV 3 hts gL_law_X1_put rfl rfl rfl (by decide +kernel) ⟨Nat.le_of_ble_eq_true rfl, Nat.le_of_ble_eq_true rfl⟩) (va_recv hKY hP (ci := 1) (q0 := 7) rfl rfl) hKY hP hD hS rfl rfl hl.1 rfl (Nat.le_of_ble_eq_true rfl) dL_law_224 ⟨hc0.1, hc0.2⟩ (fun H locs hP hD hS => ?_)
      have hP : va_P (xG X) vwCl (lwW X Y ((upN (sS S) k 1, upN (sA S) k a, upN (sU S) k u, sR S, sN S, sW S)) ((upN (sS S) k 1, upN (sA S) k a, upN (sU S) k u, sR S, sN S, sW S)) 0 (lwJ aJ cJ (vp_updL f 0 (lI (1 - (sS S k : Int))))) (lwD aD cD g)) H := hP
      have hD : va_D (fun q => s.heap.size ≤ q) (lwW X Y ((upN (sS S) k 1, upN (sA S) k a, upN (sU S) k u, sR S, sN S, sW S)) ((upN (sS S) k 1, upN (sA S) k a, upN (sU S) k u, sR S, sN S, sW S)) 0 (lwJ aJ cJ (vp_updL f 0 (lI (1 - (sS S k : Int))))) (lwD aD cD g)) := hD
      refine lv_istore (lv' := [(7, .int (iI (1 - (sS S k : Int)))), (6, .int (iI 0)), (0, .ref b), (1, .ref ((xa X 0))), (2, .ref ((xa Y 0))), (3, .ref aJ), (4, .ref aD), (5, .int (iI ((i : Int))))]) hx hb dL_law_227 hl (by decide) rfl (fun ls hl => ?_)
      refine lv_aload_n hx hb dL_law_229 rfl (lv_at hl 4 rfl) ?_
      refine pg_callV (As := []) (rest := []) SC (c_X1_thrown l Y ((upN (sS S) k 1, upN (sA S) k a, upN (sU S) k u, sR S, sN S, sW S)) 0) mB_st (lw_mB hYX hKY hP) (cwV 0 hts gL_law_X1_thrown rfl rfl rfl (by decide +kernel) ⟨Nat.le_of_ble_eq_true rfl, Nat.le_of_ble_eq_true rfl⟩) (va_recv hKY hP (ci := 1) (q0 := 7) rfl rfl) rfl hl.1 rfl (Nat.le_of_ble_eq_true rfl) dL_law_230 ⟨hc0.1, hc0.2⟩ ?_
      refine lv_iload hx hb dL_law_233 (lv_at hl 1 rfl) ?_
      refine lw_same (tgt := 240) hx hb (⟨by omega, by omega⟩) dL_law_235 (by decide) ?_
      refine lv_iload hx hb dL_law_240 (lv_at hl 1 rfl) ?_
      refine pg_if_ne (tgt := 264) hx hb dL_law_242 (by decide) (⟨by omega, by omega⟩) (fun h9 => absurd rfl h9) (fun _ => ?_)
      refine lv_aload_n hx hb dL_law_245 rfl (lv_at hl 5 rfl) ?_
      refine lv_iconst (v := iI 0) hx hb dL_law_246 rfl ?_
      refine pg_lld0 hx hb hKJ hP 0 2 rfl rfl dL_law_247 ?_
      refine lv_iload hx hb dL_law_248 (lv_at hl 0 rfl) ?_
      refine lw_lbool hx hb (by omega) dL_law_250 dL_law_253 dL_law_254 dL_law_257 ?_
      refine lw_leq (tgt := 264) hx hb rfl dL_law_258 dL_law_259 (by decide) ?_
      refine lv_goto (tgt := 2002) hx hb dL_law_264 (by decide) ?_
      exact pg_widen (Nat.le_succ _) (Nat.le_add_right _ 6) (kk ((upN (sS S) k 1, upN (sA S) k a, upN (sU S) k u, sR S, sN S, sW S)) 0 ((vp_updL f 0 (lI (1 - (sS S k : Int))))) g H locs ls ⟨hP, hD, hS, ⟨upN_le hok.1 (by omega), upN_le hok.2.1 (by omega), upN_le hok.2.2.1 (by omega), hok.2.2.2⟩⟩ (lv_sub hl [2, 3, 4, 5, 6, 7] rfl))
set_option maxRecDepth 100000 in
set_option maxHeartbeats 4000000 in
theorem lw_op1 {p : Program} {l : Launch} {e : Env} {s : State} {m : MethodId} {args : Array Value} {below : List Frame} {meth : Method} {c : Code} {H : Heap} {locs : List Loc} {cells slots : Nat} {Q : State → Prop} {b L : Nat} {xs : Nat → Int32} {X Y : pgX} {cJ cD aJ aD : Nat} (hC : lwK l p s m c args b L xs X Y cJ cD) {i : Nat} (hi : i + 5 ≤ L) {S : pgS} {t : Int} {f : Nat → Int64} {g : Nat → UInt64} (hG : lwG s X Y cJ aJ cD aD S t f g H locs) (hce : cells + 1 ≤ 1047 ∧ slots + 6 ≤ 8369) {ls : Array Slot} (hl : lv_has ls 9 (lwB b X Y aJ aD i)) (kk : ∀ (S1 : pgS) (t1 : Int) (f1 : Nat → Int64) (g1 : Nat → UInt64) (H1 : Heap) (locs1 : List Loc) (ls1 : Array Slot), lwG s X Y cJ aJ cD aD S1 t1 f1 g1 H1 locs1 → lv_has ls1 9 (lwB b X Y aJ aD i) → W p l e room_1 s m args below meth c H1 locs1 (cells + 1) (slots + 6) Q (F0 m 2002 ls1 [])) : W p l e room_1 s m args below meth c H locs cells slots Q (F0 m 267 ls []) := by
  obtain ⟨SC, hfl, hX, hbl, hL, hYX, hKJ, hKD, hKY, hE, hN⟩ := id hC
  obtain ⟨hx, hb, hml, hown, hts⟩ := id SC
  obtain ⟨hP, hD, hS, hok⟩ := id hG
  have hKX : va_K (xG X) vwCl (xTy X) s := va_K.sub hKJ [0, 1] rfl
  have hbA : ¬ s.heap.size ≤ b := by omega
  have hc0 : cells ≤ 1047 ∧ slots ≤ 8369 := by omega
  have hl : lv_has ls 9 [(0, .ref b), (1, .ref ((xa X 0))), (2, .ref ((xa Y 0))), (3, .ref aJ), (4, .ref aD), (5, .int (iI ((i : Int))))] := hl
  obtain ⟨v1, hv1, hq1⟩ : ∃ v : Int, xs (i + 1) = iI v ∧ inI v := ⟨_, iI_self _, inI_self _⟩
  by_cases h1 : v1 < 0 ∨ 12 ≤ v1
  · refine lv_aload_n hx hb dL_law_267 rfl (lv_at hl 1 rfl) ?_
    refine lw_sc (j := i + 1) (v := v1) hx hb hX hbl hbA hS (lv_at hl 0 rfl) (lv_at hl 5 rfl) (by omega) (by omega) hL hv1 dL_law_268 dL_law_269 dL_law_271 dL_law_272 dL_law_273 ?_
    refine pg_wcallH (As := [.ref ((xa X 0)), .int (iI v1)]) (rest := []) (l1 := []) (l2 := lwW X Y S S t (lwJ aJ cJ f) (lwD aD cD g)) (w := []) (w' := []) SC (c_L_take_1 l hfl s.heap.size X S v1 hq1 h1) xW_st (lw_xW hKX hP hS hE hN) (vx_cwSW 2 hts gL_law_L_take rfl rfl rfl (by decide +kernel) ⟨Nat.le_of_ble_eq_true rfl, Nat.le_of_ble_eq_true rfl⟩) (va_K.sub hKX [] rfl) hP hD hS rfl rfl hl.1 rfl (Nat.le_of_ble_eq_true rfl) dL_law_274 ⟨hce.1, hce.2⟩ (fun H locs hP hD hS => ?_)
    have hP : va_P (xG X) vwCl (lwW X Y S S t (lwJ aJ cJ f) (lwD aD cD g)) H := hP
    have hD : va_D (fun q => s.heap.size ≤ q) (lwW X Y S S t (lwJ aJ cJ f) (lwD aD cD g)) := hD
    refine lv_istore (lv' := [(6, .int (iI 1)), (0, .ref b), (1, .ref ((xa X 0))), (2, .ref ((xa Y 0))), (3, .ref aJ), (4, .ref aD), (5, .int (iI ((i : Int))))]) hx hb dL_law_277 hl (by decide) rfl (fun ls hl => ?_)
    refine lv_aload_n hx hb dL_law_279 rfl (lv_at hl 3 rfl) ?_
    refine lw_sc (j := i + 1) (v := v1) hx hb hX hbl hbA hS (lv_at hl 1 rfl) (lv_at hl 6 rfl) (by omega) (by omega) hL hv1 dL_law_280 dL_law_281 dL_law_283 dL_law_284 dL_law_285 ?_
    refine pg_wcallVv (As := [.int (iI v1)]) (rest := []) (l1 := (lwJ aJ cJ f) :: (xC X S ++ [(lwD aD cD g)])) (l2 := []) (w := mC Y S t) (w' := mC Y S 1) SC (pg_cY hYX (c_X1_take_1 l Y S t v1 hq1 h1)) pT_st pT_h (cwV 1 hts gL_law_X1_take rfl rfl rfl (by decide +kernel) ⟨Nat.le_of_ble_eq_true rfl, Nat.le_of_ble_eq_true rfl⟩) (va_recv hKY hP (ci := 1) (q0 := 7) rfl rfl) hKY hP hD hS rfl rfl hl.1 rfl (Nat.le_of_ble_eq_true rfl) dL_law_286 ⟨hce.1, hce.2⟩ (fun H locs hP hD hS => ?_)
    have hP : va_P (xG X) vwCl (lwW X Y S S 1 (lwJ aJ cJ f) (lwD aD cD g)) H := hP
    have hD : va_D (fun q => s.heap.size ≤ q) (lwW X Y S S 1 (lwJ aJ cJ f) (lwD aD cD g)) := hD
    refine lv_aload_n hx hb dL_law_289 rfl (lv_at hl 3 rfl) ?_
    refine pg_callV (As := []) (rest := []) SC (c_X1_thrown l Y S 1) mB_st (lw_mB hYX hKY hP) (cwV 0 hts gL_law_X1_thrown rfl rfl rfl (by decide +kernel) ⟨Nat.le_of_ble_eq_true rfl, Nat.le_of_ble_eq_true rfl⟩) (va_recv hKY hP (ci := 1) (q0 := 7) rfl rfl) rfl hl.1 rfl (Nat.le_of_ble_eq_true rfl) dL_law_290 ⟨hce.1, hce.2⟩ ?_
    refine lv_iload hx hb dL_law_293 (lv_at hl 0 rfl) ?_
    refine lw_same (tgt := 300) hx hb (⟨by omega, by omega⟩) dL_law_295 (by decide) ?_
    refine lv_goto (tgt := 2002) hx hb dL_law_300 (by decide) ?_
    exact kk S 1 f g H locs ls ⟨hP, hD, hS, hok⟩ (lv_sub hl [1, 2, 3, 4, 5, 6] rfl)
  · obtain ⟨k, rfl⟩ : ∃ z : Nat, v1 = (z : Int) := ⟨v1.toNat, by omega⟩
    have hk : k < 12 := by omega
    have hs1 := hok.1 k
    by_cases h2 : sS S k = 0
    · refine lv_aload_n hx hb dL_law_267 rfl (lv_at hl 1 rfl) ?_
      refine lw_sc (j := i + 1) (v := ((k : Nat) : Int)) hx hb hX hbl hbA hS (lv_at hl 0 rfl) (lv_at hl 5 rfl) (by omega) (by omega) hL hv1 dL_law_268 dL_law_269 dL_law_271 dL_law_272 dL_law_273 ?_
      refine pg_wcallH (As := [.ref ((xa X 0)), .int (iI (((k : Nat) : Int)))]) (rest := []) (l1 := []) (l2 := lwW X Y S S t (lwJ aJ cJ f) (lwD aD cD g)) (w := []) (w' := []) SC (c_L_take_2 l hfl s.heap.size X S k hk h2) xW_st (lw_xW hKX hP hS hE hN) (vx_cwSW 2 hts gL_law_L_take rfl rfl rfl (by decide +kernel) ⟨Nat.le_of_ble_eq_true rfl, Nat.le_of_ble_eq_true rfl⟩) (va_K.sub hKX [] rfl) hP hD hS rfl rfl hl.1 rfl (Nat.le_of_ble_eq_true rfl) dL_law_274 ⟨hce.1, hce.2⟩ (fun H locs hP hD hS => ?_)
      have hP : va_P (xG X) vwCl (lwW X Y S S t (lwJ aJ cJ f) (lwD aD cD g)) H := hP
      have hD : va_D (fun q => s.heap.size ≤ q) (lwW X Y S S t (lwJ aJ cJ f) (lwD aD cD g)) := hD
      refine lv_istore (lv' := [(6, .int (iI 2)), (0, .ref b), (1, .ref ((xa X 0))), (2, .ref ((xa Y 0))), (3, .ref aJ), (4, .ref aD), (5, .int (iI ((i : Int))))]) hx hb dL_law_277 hl (by decide) rfl (fun ls hl => ?_)
      refine lv_aload_n hx hb dL_law_279 rfl (lv_at hl 3 rfl) ?_
      refine lw_sc (j := i + 1) (v := ((k : Nat) : Int)) hx hb hX hbl hbA hS (lv_at hl 1 rfl) (lv_at hl 6 rfl) (by omega) (by omega) hL hv1 dL_law_280 dL_law_281 dL_law_283 dL_law_284 dL_law_285 ?_
      refine pg_wcallVv (As := [.int (iI (((k : Nat) : Int)))]) (rest := []) (l1 := (lwJ aJ cJ f) :: (xC X S ++ [(lwD aD cD g)])) (l2 := []) (w := mC Y S t) (w' := mC Y S 2) SC (pg_cY hYX (c_X1_take_2 l Y S t k hk h2)) pT_st pT_h (cwV 1 hts gL_law_X1_take rfl rfl rfl (by decide +kernel) ⟨Nat.le_of_ble_eq_true rfl, Nat.le_of_ble_eq_true rfl⟩) (va_recv hKY hP (ci := 1) (q0 := 7) rfl rfl) hKY hP hD hS rfl rfl hl.1 rfl (Nat.le_of_ble_eq_true rfl) dL_law_286 ⟨hce.1, hce.2⟩ (fun H locs hP hD hS => ?_)
      have hP : va_P (xG X) vwCl (lwW X Y S S 2 (lwJ aJ cJ f) (lwD aD cD g)) H := hP
      have hD : va_D (fun q => s.heap.size ≤ q) (lwW X Y S S 2 (lwJ aJ cJ f) (lwD aD cD g)) := hD
      refine lv_aload_n hx hb dL_law_289 rfl (lv_at hl 3 rfl) ?_
      refine pg_callV (As := []) (rest := []) SC (c_X1_thrown l Y S 2) mB_st (lw_mB hYX hKY hP) (cwV 0 hts gL_law_X1_thrown rfl rfl rfl (by decide +kernel) ⟨Nat.le_of_ble_eq_true rfl, Nat.le_of_ble_eq_true rfl⟩) (va_recv hKY hP (ci := 1) (q0 := 7) rfl rfl) rfl hl.1 rfl (Nat.le_of_ble_eq_true rfl) dL_law_290 ⟨hce.1, hce.2⟩ ?_
      refine lv_iload hx hb dL_law_293 (lv_at hl 0 rfl) ?_
      refine lw_same (tgt := 300) hx hb (⟨by omega, by omega⟩) dL_law_295 (by decide) ?_
      refine lv_goto (tgt := 2002) hx hb dL_law_300 (by decide) ?_
      exact kk S 2 f g H locs ls ⟨hP, hD, hS, hok⟩ (lv_sub hl [1, 2, 3, 4, 5, 6] rfl)
    · have h3 : sS S k = 1 := by omega
      by_cases h4 : ∃ j, j < sN S ∧ sR S j = k
      · refine lv_aload_n hx hb dL_law_267 rfl (lv_at hl 1 rfl) ?_
        refine lw_sc (j := i + 1) (v := ((k : Nat) : Int)) hx hb hX hbl hbA hS (lv_at hl 0 rfl) (lv_at hl 5 rfl) (by omega) (by omega) hL hv1 dL_law_268 dL_law_269 dL_law_271 dL_law_272 dL_law_273 ?_
        refine pg_wcallH (As := [.ref ((xa X 0)), .int (iI (((k : Nat) : Int)))]) (rest := []) (l1 := []) (l2 := lwW X Y S S t (lwJ aJ cJ f) (lwD aD cD g)) (w := []) (w' := []) SC (c_L_take_3 l hfl s.heap.size X S hok k hk h3 h4) xW_st (lw_xW hKX hP hS hE hN) (vx_cwSW 2 hts gL_law_L_take rfl rfl rfl (by decide +kernel) ⟨Nat.le_of_ble_eq_true rfl, Nat.le_of_ble_eq_true rfl⟩) (va_K.sub hKX [] rfl) hP hD hS rfl rfl hl.1 rfl (Nat.le_of_ble_eq_true rfl) dL_law_274 ⟨hce.1, hce.2⟩ (fun H locs hP hD hS => ?_)
        have hP : va_P (xG X) vwCl (lwW X Y S S t (lwJ aJ cJ f) (lwD aD cD g)) H := hP
        have hD : va_D (fun q => s.heap.size ≤ q) (lwW X Y S S t (lwJ aJ cJ f) (lwD aD cD g)) := hD
        refine lv_istore (lv' := [(6, .int (iI 3)), (0, .ref b), (1, .ref ((xa X 0))), (2, .ref ((xa Y 0))), (3, .ref aJ), (4, .ref aD), (5, .int (iI ((i : Int))))]) hx hb dL_law_277 hl (by decide) rfl (fun ls hl => ?_)
        refine lv_aload_n hx hb dL_law_279 rfl (lv_at hl 3 rfl) ?_
        refine lw_sc (j := i + 1) (v := ((k : Nat) : Int)) hx hb hX hbl hbA hS (lv_at hl 1 rfl) (lv_at hl 6 rfl) (by omega) (by omega) hL hv1 dL_law_280 dL_law_281 dL_law_283 dL_law_284 dL_law_285 ?_
        refine pg_wcallVv (As := [.int (iI (((k : Nat) : Int)))]) (rest := []) (l1 := (lwJ aJ cJ f) :: (xC X S ++ [(lwD aD cD g)])) (l2 := []) (w := mC Y S t) (w' := mC Y S 3) SC (pg_cY hYX (c_X1_take_3 l Y S t hok k hk h3 h4)) pT_st pT_h (cwV 1 hts gL_law_X1_take rfl rfl rfl (by decide +kernel) ⟨Nat.le_of_ble_eq_true rfl, Nat.le_of_ble_eq_true rfl⟩) (va_recv hKY hP (ci := 1) (q0 := 7) rfl rfl) hKY hP hD hS rfl rfl hl.1 rfl (Nat.le_of_ble_eq_true rfl) dL_law_286 ⟨hce.1, hce.2⟩ (fun H locs hP hD hS => ?_)
        have hP : va_P (xG X) vwCl (lwW X Y S S 3 (lwJ aJ cJ f) (lwD aD cD g)) H := hP
        have hD : va_D (fun q => s.heap.size ≤ q) (lwW X Y S S 3 (lwJ aJ cJ f) (lwD aD cD g)) := hD
        refine lv_aload_n hx hb dL_law_289 rfl (lv_at hl 3 rfl) ?_
        refine pg_callV (As := []) (rest := []) SC (c_X1_thrown l Y S 3) mB_st (lw_mB hYX hKY hP) (cwV 0 hts gL_law_X1_thrown rfl rfl rfl (by decide +kernel) ⟨Nat.le_of_ble_eq_true rfl, Nat.le_of_ble_eq_true rfl⟩) (va_recv hKY hP (ci := 1) (q0 := 7) rfl rfl) rfl hl.1 rfl (Nat.le_of_ble_eq_true rfl) dL_law_290 ⟨hce.1, hce.2⟩ ?_
        refine lv_iload hx hb dL_law_293 (lv_at hl 0 rfl) ?_
        refine lw_same (tgt := 300) hx hb (⟨by omega, by omega⟩) dL_law_295 (by decide) ?_
        refine lv_goto (tgt := 2002) hx hb dL_law_300 (by decide) ?_
        exact kk S 3 f g H locs ls ⟨hP, hD, hS, hok⟩ (lv_sub hl [1, 2, 3, 4, 5, 6] rfl)
      · refine lv_aload_n hx hb dL_law_267 rfl (lv_at hl 1 rfl) ?_
        refine lw_sc (j := i + 1) (v := ((k : Nat) : Int)) hx hb hX hbl hbA hS (lv_at hl 0 rfl) (lv_at hl 5 rfl) (by omega) (by omega) hL hv1 dL_law_268 dL_law_269 dL_law_271 dL_law_272 dL_law_273 ?_
        refine pg_wcallH (As := [.ref ((xa X 0)), .int (iI (((k : Nat) : Int)))]) (rest := []) (l1 := [(lwJ aJ cJ f)]) (l2 := (lwD aD cD g) :: mC Y S t) (w := xC X S) (w' := xC X ((upN (sS S) k 0, sA S, sU S, sR S, sN S, sW S))) SC (c_L_take_ok l X S hok k hk h3 ((fun j h5 h6 => h4 ⟨j, h5, h6⟩))) pT_st pT_h (vx_cwSW 2 hts gL_law_L_take rfl rfl rfl (by decide +kernel) ⟨Nat.le_of_ble_eq_true rfl, Nat.le_of_ble_eq_true rfl⟩) hKX hP hD hS rfl rfl hl.1 rfl (Nat.le_of_ble_eq_true rfl) dL_law_274 ⟨hc0.1, hc0.2⟩ (fun H locs hP hD hS => ?_)
        have hP : va_P (xG X) vwCl (lwW X Y ((upN (sS S) k 0, sA S, sU S, sR S, sN S, sW S)) S t (lwJ aJ cJ f) (lwD aD cD g)) H := hP
        have hD : va_D (fun q => s.heap.size ≤ q) (lwW X Y ((upN (sS S) k 0, sA S, sU S, sR S, sN S, sW S)) S t (lwJ aJ cJ f) (lwD aD cD g)) := hD
        refine lv_istore (lv' := [(6, .int (iI 0)), (0, .ref b), (1, .ref ((xa X 0))), (2, .ref ((xa Y 0))), (3, .ref aJ), (4, .ref aD), (5, .int (iI ((i : Int))))]) hx hb dL_law_277 hl (by decide) rfl (fun ls hl => ?_)
        refine lv_aload_n hx hb dL_law_279 rfl (lv_at hl 3 rfl) ?_
        refine lw_sc (j := i + 1) (v := ((k : Nat) : Int)) hx hb hX hbl hbA hS (lv_at hl 1 rfl) (lv_at hl 6 rfl) (by omega) (by omega) hL hv1 dL_law_280 dL_law_281 dL_law_283 dL_law_284 dL_law_285 ?_
        refine pg_wcallVv (As := [.int (iI (((k : Nat) : Int)))]) (rest := []) (l1 := (lwJ aJ cJ f) :: (xC X ((upN (sS S) k 0, sA S, sU S, sR S, sN S, sW S)) ++ [(lwD aD cD g)])) (l2 := []) (w := mC Y S t) (w' := mC Y ((upN (sS S) k 0, sA S, sU S, sR S, sN S, sW S)) 0) SC (pg_cY hYX (c_X1_take_ok l Y S t hok k hk h3 ((fun j h5 h6 => h4 ⟨j, h5, h6⟩)))) pT_st pT_h (cwV 1 hts gL_law_X1_take rfl rfl rfl (by decide +kernel) ⟨Nat.le_of_ble_eq_true rfl, Nat.le_of_ble_eq_true rfl⟩) (va_recv hKY hP (ci := 1) (q0 := 7) rfl rfl) hKY hP hD hS rfl rfl hl.1 rfl (Nat.le_of_ble_eq_true rfl) dL_law_286 ⟨hc0.1, hc0.2⟩ (fun H locs hP hD hS => ?_)
        have hP : va_P (xG X) vwCl (lwW X Y ((upN (sS S) k 0, sA S, sU S, sR S, sN S, sW S)) ((upN (sS S) k 0, sA S, sU S, sR S, sN S, sW S)) 0 (lwJ aJ cJ f) (lwD aD cD g)) H := hP
        have hD : va_D (fun q => s.heap.size ≤ q) (lwW X Y ((upN (sS S) k 0, sA S, sU S, sR S, sN S, sW S)) ((upN (sS S) k 0, sA S, sU S, sR S, sN S, sW S)) 0 (lwJ aJ cJ f) (lwD aD cD g)) := hD
        refine lv_aload_n hx hb dL_law_289 rfl (lv_at hl 3 rfl) ?_
        refine pg_callV (As := []) (rest := []) SC (c_X1_thrown l Y ((upN (sS S) k 0, sA S, sU S, sR S, sN S, sW S)) 0) mB_st (lw_mB hYX hKY hP) (cwV 0 hts gL_law_X1_thrown rfl rfl rfl (by decide +kernel) ⟨Nat.le_of_ble_eq_true rfl, Nat.le_of_ble_eq_true rfl⟩) (va_recv hKY hP (ci := 1) (q0 := 7) rfl rfl) rfl hl.1 rfl (Nat.le_of_ble_eq_true rfl) dL_law_290 ⟨hc0.1, hc0.2⟩ ?_
        refine lv_iload hx hb dL_law_293 (lv_at hl 0 rfl) ?_
        refine lw_same (tgt := 300) hx hb (⟨by omega, by omega⟩) dL_law_295 (by decide) ?_
        refine lv_goto (tgt := 2002) hx hb dL_law_300 (by decide) ?_
        exact pg_widen (Nat.le_succ _) (Nat.le_add_right _ 6) (kk ((upN (sS S) k 0, sA S, sU S, sR S, sN S, sW S)) 0 f g H locs ls ⟨hP, hD, hS, ⟨upN_le hok.1 (by omega), hok.2⟩⟩ (lv_sub hl [1, 2, 3, 4, 5, 6] rfl))
set_option maxRecDepth 100000 in
set_option maxHeartbeats 4000000 in
theorem lw_op2 {p : Program} {l : Launch} {e : Env} {s : State} {m : MethodId} {args : Array Value} {below : List Frame} {meth : Method} {c : Code} {H : Heap} {locs : List Loc} {cells slots : Nat} {Q : State → Prop} {b L : Nat} {xs : Nat → Int32} {X Y : pgX} {cJ cD aJ aD : Nat} (hC : lwK l p s m c args b L xs X Y cJ cD) {i : Nat} (hi : i + 5 ≤ L) {S : pgS} {t : Int} {f : Nat → Int64} {g : Nat → UInt64} (hG : lwG s X Y cJ aJ cD aD S t f g H locs) (hce : cells + 1 ≤ 1047 ∧ slots + 6 ≤ 8369) {ls : Array Slot} (hl : lv_has ls 9 (lwB b X Y aJ aD i)) (kk : ∀ (S1 : pgS) (t1 : Int) (f1 : Nat → Int64) (g1 : Nat → UInt64) (H1 : Heap) (locs1 : List Loc) (ls1 : Array Slot), lwG s X Y cJ aJ cD aD S1 t1 f1 g1 H1 locs1 → lv_has ls1 9 (lwB b X Y aJ aD i) → W p l e room_1 s m args below meth c H1 locs1 (cells + 1) (slots + 6) Q (F0 m 2002 ls1 [])) : W p l e room_1 s m args below meth c H locs cells slots Q (F0 m 303 ls []) := by
  obtain ⟨SC, hfl, hX, hbl, hL, hYX, hKJ, hKD, hKY, hE, hN⟩ := id hC
  obtain ⟨hx, hb, hml, hown, hts⟩ := id SC
  obtain ⟨hP, hD, hS, hok⟩ := id hG
  have hKX : va_K (xG X) vwCl (xTy X) s := va_K.sub hKJ [0, 1] rfl
  have hbA : ¬ s.heap.size ≤ b := by omega
  have hc0 : cells ≤ 1047 ∧ slots ≤ 8369 := by omega
  have hl : lv_has ls 9 [(0, .ref b), (1, .ref ((xa X 0))), (2, .ref ((xa Y 0))), (3, .ref aJ), (4, .ref aD), (5, .int (iI ((i : Int))))] := hl
  obtain ⟨v1, hv1, hq1⟩ : ∃ v : Int, xs (i + 1) = iI v ∧ inI v := ⟨_, iI_self _, inI_self _⟩
  obtain ⟨v2, hv2, hq2⟩ : ∃ v : Int, xs (i + 2) = iI v ∧ inI v := ⟨_, iI_self _, inI_self _⟩
  obtain ⟨w, hw, hwi⟩ : ∃ w : Int, ((iI v2).toUInt32 % 65536).toInt32 = iI w ∧ inI w := ⟨_, iI_self _, inI_self _⟩
  by_cases h1 : v1 < 0 ∨ 12 ≤ v1
  · refine lv_aload_n hx hb dL_law_303 rfl (lv_at hl 1 rfl) ?_
    refine lw_sc (j := i + 1) (v := v1) hx hb hX hbl hbA hS (lv_at hl 0 rfl) (lv_at hl 5 rfl) (by omega) (by omega) hL hv1 dL_law_304 dL_law_305 dL_law_307 dL_law_308 dL_law_309 ?_
    refine lw_sc (j := i + 2) (v := v2) hx hb hX hbl hbA hS (lv_at hl 0 rfl) (lv_at hl 5 rfl) (by omega) (by omega) hL hv2 dL_law_310 dL_law_311 dL_law_313 dL_law_314 dL_law_315 ?_
    refine lv_i2c (v := iI w) hx hb dL_law_316 hw ?_
    refine lv_aload_n hx hb dL_law_317 rfl (lv_at hl 3 rfl) ?_
    refine pg_wcallH (As := [.ref ((xa X 0)), .int (iI v1), .int (iI w), .ref aJ]) (rest := []) (l1 := []) (l2 := lwW X Y S S t (lwJ aJ cJ f) (lwD aD cD g)) (w := []) (w' := []) SC (c_L_step_1 l hfl s.heap.size X S v1 hq1 h1 w aJ) xW_st (lw_xW hKX hP hS hE hN) (vx_cwSW 4 hts gL_law_L_step rfl rfl rfl (by decide +kernel) ⟨Nat.le_of_ble_eq_true rfl, Nat.le_of_ble_eq_true rfl⟩) (va_K.sub hKX [] rfl) hP hD hS rfl rfl hl.1 rfl (Nat.le_of_ble_eq_true rfl) dL_law_318 ⟨hce.1, hce.2⟩ (fun H locs hP hD hS => ?_)
    have hP : va_P (xG X) vwCl (lwW X Y S S t (lwJ aJ cJ f) (lwD aD cD g)) H := hP
    have hD : va_D (fun q => s.heap.size ≤ q) (lwW X Y S S t (lwJ aJ cJ f) (lwD aD cD g)) := hD
    refine lv_istore (lv' := [(6, .int (iI 1)), (0, .ref b), (1, .ref ((xa X 0))), (2, .ref ((xa Y 0))), (3, .ref aJ), (4, .ref aD), (5, .int (iI ((i : Int))))]) hx hb dL_law_321 hl (by decide) rfl (fun ls hl => ?_)
    refine lv_aload_n hx hb dL_law_323 rfl (lv_at hl 3 rfl) ?_
    refine lw_sc (j := i + 1) (v := v1) hx hb hX hbl hbA hS (lv_at hl 1 rfl) (lv_at hl 6 rfl) (by omega) (by omega) hL hv1 dL_law_324 dL_law_325 dL_law_327 dL_law_328 dL_law_329 ?_
    refine lw_sc (j := i + 2) (v := v2) hx hb hX hbl hbA hS (lv_at hl 1 rfl) (lv_at hl 6 rfl) (by omega) (by omega) hL hv2 dL_law_330 dL_law_331 dL_law_333 dL_law_334 dL_law_335 ?_
    refine lv_i2c (v := iI w) hx hb dL_law_336 hw ?_
    refine pg_wcallV (As := [.int (iI v1), .int (iI w)]) (rest := []) (l1 := (lwJ aJ cJ f) :: (xC X S ++ [(lwD aD cD g)])) (l2 := []) (w := mC Y S t) (w' := mC Y S 1) SC (pg_cY hYX (c_X1_step_1 l Y S t v1 hq1 h1 w)) pT_st pT_h (cwV 2 hts gL_law_X1_step rfl rfl rfl (by decide +kernel) ⟨Nat.le_of_ble_eq_true rfl, Nat.le_of_ble_eq_true rfl⟩) (va_recv hKY hP (ci := 1) (q0 := 7) rfl rfl) hKY hP hD hS rfl rfl hl.1 rfl (Nat.le_of_ble_eq_true rfl) dL_law_337 ⟨hce.1, hce.2⟩ (fun H locs hP hD hS => ?_)
    have hP : va_P (xG X) vwCl (lwW X Y S S 1 (lwJ aJ cJ f) (lwD aD cD g)) H := hP
    have hD : va_D (fun q => s.heap.size ≤ q) (lwW X Y S S 1 (lwJ aJ cJ f) (lwD aD cD g)) := hD
    refine lv_istore (lv' := [(7, .int (iI 0)), (6, .int (iI 1)), (0, .ref b), (1, .ref ((xa X 0))), (2, .ref ((xa Y 0))), (3, .ref aJ), (4, .ref aD), (5, .int (iI ((i : Int))))]) hx hb dL_law_340 hl (by decide) rfl (fun ls hl => ?_)
    refine lv_aload_n hx hb dL_law_342 rfl (lv_at hl 4 rfl) ?_
    refine pg_callV (As := []) (rest := []) SC (c_X1_thrown l Y S 1) mB_st (lw_mB hYX hKY hP) (cwV 0 hts gL_law_X1_thrown rfl rfl rfl (by decide +kernel) ⟨Nat.le_of_ble_eq_true rfl, Nat.le_of_ble_eq_true rfl⟩) (va_recv hKY hP (ci := 1) (q0 := 7) rfl rfl) rfl hl.1 rfl (Nat.le_of_ble_eq_true rfl) dL_law_343 ⟨hce.1, hce.2⟩ ?_
    refine lv_iload hx hb dL_law_346 (lv_at hl 1 rfl) ?_
    refine lw_same (tgt := 353) hx hb (⟨by omega, by omega⟩) dL_law_348 (by decide) ?_
    refine lv_iload hx hb dL_law_353 (lv_at hl 1 rfl) ?_
    refine pg_if_ne (tgt := 377) hx hb dL_law_355 (by decide) (⟨by omega, by omega⟩) (fun _ => ?_) (fun h9 => absurd h9 (by omega))
    refine lv_goto (tgt := 2002) hx hb dL_law_377 (by decide) ?_
    exact kk S 1 f g H locs ls ⟨hP, hD, hS, hok⟩ (lv_sub hl [2, 3, 4, 5, 6, 7] rfl)
  · obtain ⟨k, rfl⟩ : ∃ z : Nat, v1 = (z : Int) := ⟨v1.toNat, by omega⟩
    have hk : k < 12 := by omega
    have hs1 := hok.1 k
    by_cases h2 : sS S k = 0
    · refine lv_aload_n hx hb dL_law_303 rfl (lv_at hl 1 rfl) ?_
      refine lw_sc (j := i + 1) (v := ((k : Nat) : Int)) hx hb hX hbl hbA hS (lv_at hl 0 rfl) (lv_at hl 5 rfl) (by omega) (by omega) hL hv1 dL_law_304 dL_law_305 dL_law_307 dL_law_308 dL_law_309 ?_
      refine lw_sc (j := i + 2) (v := v2) hx hb hX hbl hbA hS (lv_at hl 0 rfl) (lv_at hl 5 rfl) (by omega) (by omega) hL hv2 dL_law_310 dL_law_311 dL_law_313 dL_law_314 dL_law_315 ?_
      refine lv_i2c (v := iI w) hx hb dL_law_316 hw ?_
      refine lv_aload_n hx hb dL_law_317 rfl (lv_at hl 3 rfl) ?_
      refine pg_wcallH (As := [.ref ((xa X 0)), .int (iI (((k : Nat) : Int))), .int (iI w), .ref aJ]) (rest := []) (l1 := []) (l2 := lwW X Y S S t (lwJ aJ cJ f) (lwD aD cD g)) (w := []) (w' := []) SC (c_L_step_2 l hfl s.heap.size X S k hk h2 w aJ) xW_st (lw_xW hKX hP hS hE hN) (vx_cwSW 4 hts gL_law_L_step rfl rfl rfl (by decide +kernel) ⟨Nat.le_of_ble_eq_true rfl, Nat.le_of_ble_eq_true rfl⟩) (va_K.sub hKX [] rfl) hP hD hS rfl rfl hl.1 rfl (Nat.le_of_ble_eq_true rfl) dL_law_318 ⟨hce.1, hce.2⟩ (fun H locs hP hD hS => ?_)
      have hP : va_P (xG X) vwCl (lwW X Y S S t (lwJ aJ cJ f) (lwD aD cD g)) H := hP
      have hD : va_D (fun q => s.heap.size ≤ q) (lwW X Y S S t (lwJ aJ cJ f) (lwD aD cD g)) := hD
      refine lv_istore (lv' := [(6, .int (iI 2)), (0, .ref b), (1, .ref ((xa X 0))), (2, .ref ((xa Y 0))), (3, .ref aJ), (4, .ref aD), (5, .int (iI ((i : Int))))]) hx hb dL_law_321 hl (by decide) rfl (fun ls hl => ?_)
      refine lv_aload_n hx hb dL_law_323 rfl (lv_at hl 3 rfl) ?_
      refine lw_sc (j := i + 1) (v := ((k : Nat) : Int)) hx hb hX hbl hbA hS (lv_at hl 1 rfl) (lv_at hl 6 rfl) (by omega) (by omega) hL hv1 dL_law_324 dL_law_325 dL_law_327 dL_law_328 dL_law_329 ?_
      refine lw_sc (j := i + 2) (v := v2) hx hb hX hbl hbA hS (lv_at hl 1 rfl) (lv_at hl 6 rfl) (by omega) (by omega) hL hv2 dL_law_330 dL_law_331 dL_law_333 dL_law_334 dL_law_335 ?_
      refine lv_i2c (v := iI w) hx hb dL_law_336 hw ?_
      refine pg_wcallV (As := [.int (iI (((k : Nat) : Int))), .int (iI w)]) (rest := []) (l1 := (lwJ aJ cJ f) :: (xC X S ++ [(lwD aD cD g)])) (l2 := []) (w := mC Y S t) (w' := mC Y S 2) SC (pg_cY hYX (c_X1_step_2 l Y S t k hk h2 w)) pT_st pT_h (cwV 2 hts gL_law_X1_step rfl rfl rfl (by decide +kernel) ⟨Nat.le_of_ble_eq_true rfl, Nat.le_of_ble_eq_true rfl⟩) (va_recv hKY hP (ci := 1) (q0 := 7) rfl rfl) hKY hP hD hS rfl rfl hl.1 rfl (Nat.le_of_ble_eq_true rfl) dL_law_337 ⟨hce.1, hce.2⟩ (fun H locs hP hD hS => ?_)
      have hP : va_P (xG X) vwCl (lwW X Y S S 2 (lwJ aJ cJ f) (lwD aD cD g)) H := hP
      have hD : va_D (fun q => s.heap.size ≤ q) (lwW X Y S S 2 (lwJ aJ cJ f) (lwD aD cD g)) := hD
      refine lv_istore (lv' := [(7, .int (iI 0)), (6, .int (iI 2)), (0, .ref b), (1, .ref ((xa X 0))), (2, .ref ((xa Y 0))), (3, .ref aJ), (4, .ref aD), (5, .int (iI ((i : Int))))]) hx hb dL_law_340 hl (by decide) rfl (fun ls hl => ?_)
      refine lv_aload_n hx hb dL_law_342 rfl (lv_at hl 4 rfl) ?_
      refine pg_callV (As := []) (rest := []) SC (c_X1_thrown l Y S 2) mB_st (lw_mB hYX hKY hP) (cwV 0 hts gL_law_X1_thrown rfl rfl rfl (by decide +kernel) ⟨Nat.le_of_ble_eq_true rfl, Nat.le_of_ble_eq_true rfl⟩) (va_recv hKY hP (ci := 1) (q0 := 7) rfl rfl) rfl hl.1 rfl (Nat.le_of_ble_eq_true rfl) dL_law_343 ⟨hce.1, hce.2⟩ ?_
      refine lv_iload hx hb dL_law_346 (lv_at hl 1 rfl) ?_
      refine lw_same (tgt := 353) hx hb (⟨by omega, by omega⟩) dL_law_348 (by decide) ?_
      refine lv_iload hx hb dL_law_353 (lv_at hl 1 rfl) ?_
      refine pg_if_ne (tgt := 377) hx hb dL_law_355 (by decide) (⟨by omega, by omega⟩) (fun _ => ?_) (fun h9 => absurd h9 (by omega))
      refine lv_goto (tgt := 2002) hx hb dL_law_377 (by decide) ?_
      exact kk S 2 f g H locs ls ⟨hP, hD, hS, hok⟩ (lv_sub hl [2, 3, 4, 5, 6, 7] rfl)
    · have h3 : sS S k = 1 := by omega
      have hsk : upN (sS S) k 1 = sS S := upN_self h3
      have hA1 := hok.2.1 k
      have hU1 := hok.2.2.1 k
      by_cases hw110 : w = 110
      · subst hw110
        by_cases h6 : sU S k = 90
        · refine lv_aload_n hx hb dL_law_303 rfl (lv_at hl 1 rfl) ?_
          refine lw_sc (j := i + 1) (v := ((k : Nat) : Int)) hx hb hX hbl hbA hS (lv_at hl 0 rfl) (lv_at hl 5 rfl) (by omega) (by omega) hL hv1 dL_law_304 dL_law_305 dL_law_307 dL_law_308 dL_law_309 ?_
          refine lw_sc (j := i + 2) (v := v2) hx hb hX hbl hbA hS (lv_at hl 0 rfl) (lv_at hl 5 rfl) (by omega) (by omega) hL hv2 dL_law_310 dL_law_311 dL_law_313 dL_law_314 dL_law_315 ?_
          refine lv_i2c (v := iI 110) hx hb dL_law_316 hw ?_
          refine lv_aload_n hx hb dL_law_317 rfl (lv_at hl 3 rfl) ?_
          refine pg_wcallH (As := [.ref ((xa X 0)), .int (iI (((k : Nat) : Int))), .int (iI 110), .ref aJ]) (rest := []) (l1 := []) (l2 := (lwD aD cD g) :: mC Y S t) (w := (lwJ aJ cJ f) :: xC X S) (w' := (lwJ aJ cJ (vp_updL f 0 (lI 0))) :: xC X S) SC (c_L_step_non l X S hok k hk h3 h6 cJ aJ f) pT_st pT_h (vx_cwSW 4 hts gL_law_L_step rfl rfl rfl (by decide +kernel) ⟨Nat.le_of_ble_eq_true rfl, Nat.le_of_ble_eq_true rfl⟩) hKJ hP hD hS rfl rfl hl.1 rfl (Nat.le_of_ble_eq_true rfl) dL_law_318 ⟨hc0.1, hc0.2⟩ (fun H locs hP hD hS => ?_)
          have hP : va_P (xG X) vwCl (lwW X Y S S t (lwJ aJ cJ (vp_updL f 0 (lI 0))) (lwD aD cD g)) H := hP
          have hD : va_D (fun q => s.heap.size ≤ q) (lwW X Y S S t (lwJ aJ cJ (vp_updL f 0 (lI 0))) (lwD aD cD g)) := hD
          refine lv_istore (lv' := [(6, .int (iI 0)), (0, .ref b), (1, .ref ((xa X 0))), (2, .ref ((xa Y 0))), (3, .ref aJ), (4, .ref aD), (5, .int (iI ((i : Int))))]) hx hb dL_law_321 hl (by decide) rfl (fun ls hl => ?_)
          refine lv_aload_n hx hb dL_law_323 rfl (lv_at hl 3 rfl) ?_
          refine lw_sc (j := i + 1) (v := ((k : Nat) : Int)) hx hb hX hbl hbA hS (lv_at hl 1 rfl) (lv_at hl 6 rfl) (by omega) (by omega) hL hv1 dL_law_324 dL_law_325 dL_law_327 dL_law_328 dL_law_329 ?_
          refine lw_sc (j := i + 2) (v := v2) hx hb hX hbl hbA hS (lv_at hl 1 rfl) (lv_at hl 6 rfl) (by omega) (by omega) hL hv2 dL_law_330 dL_law_331 dL_law_333 dL_law_334 dL_law_335 ?_
          refine lv_i2c (v := iI 110) hx hb dL_law_336 hw ?_
          refine pg_wcallV (As := [.int (iI (((k : Nat) : Int))), .int (iI 110)]) (rest := []) (l1 := (lwJ aJ cJ (vp_updL f 0 (lI 0))) :: (xC X S ++ [(lwD aD cD g)])) (l2 := []) (w := mC Y S t) (w' := mC Y S 0) SC (pg_cY hYX (c_X1_stepno_n l Y S t hok k hk h3 h6)) pT_st pT_h (cwV 2 hts gL_law_X1_step rfl rfl rfl (by decide +kernel) ⟨Nat.le_of_ble_eq_true rfl, Nat.le_of_ble_eq_true rfl⟩) (va_recv hKY hP (ci := 1) (q0 := 7) rfl rfl) hKY hP hD hS rfl rfl hl.1 rfl (Nat.le_of_ble_eq_true rfl) dL_law_337 ⟨hc0.1, hc0.2⟩ (fun H locs hP hD hS => ?_)
          have hP : va_P (xG X) vwCl (lwW X Y S S 0 (lwJ aJ cJ (vp_updL f 0 (lI 0))) (lwD aD cD g)) H := hP
          have hD : va_D (fun q => s.heap.size ≤ q) (lwW X Y S S 0 (lwJ aJ cJ (vp_updL f 0 (lI 0))) (lwD aD cD g)) := hD
          refine lv_istore (lv' := [(7, .int (iI 0)), (6, .int (iI 0)), (0, .ref b), (1, .ref ((xa X 0))), (2, .ref ((xa Y 0))), (3, .ref aJ), (4, .ref aD), (5, .int (iI ((i : Int))))]) hx hb dL_law_340 hl (by decide) rfl (fun ls hl => ?_)
          refine lv_aload_n hx hb dL_law_342 rfl (lv_at hl 4 rfl) ?_
          refine pg_callV (As := []) (rest := []) SC (c_X1_thrown l Y S 0) mB_st (lw_mB hYX hKY hP) (cwV 0 hts gL_law_X1_thrown rfl rfl rfl (by decide +kernel) ⟨Nat.le_of_ble_eq_true rfl, Nat.le_of_ble_eq_true rfl⟩) (va_recv hKY hP (ci := 1) (q0 := 7) rfl rfl) rfl hl.1 rfl (Nat.le_of_ble_eq_true rfl) dL_law_343 ⟨hc0.1, hc0.2⟩ ?_
          refine lv_iload hx hb dL_law_346 (lv_at hl 1 rfl) ?_
          refine lw_same (tgt := 353) hx hb (⟨by omega, by omega⟩) dL_law_348 (by decide) ?_
          refine lv_iload hx hb dL_law_353 (lv_at hl 1 rfl) ?_
          refine pg_if_ne (tgt := 377) hx hb dL_law_355 (by decide) (⟨by omega, by omega⟩) (fun h9 => absurd rfl h9) (fun _ => ?_)
          refine lv_aload_n hx hb dL_law_358 rfl (lv_at hl 5 rfl) ?_
          refine lv_iconst (v := iI 0) hx hb dL_law_359 rfl ?_
          refine pg_lld0 hx hb hKJ hP 0 2 rfl rfl dL_law_360 ?_
          refine lv_iload hx hb dL_law_361 (lv_at hl 0 rfl) ?_
          refine lw_lbool hx hb (by omega) dL_law_363 dL_law_366 dL_law_367 dL_law_370 ?_
          refine lw_leq (tgt := 377) hx hb rfl dL_law_371 dL_law_372 (by decide) ?_
          refine lv_goto (tgt := 2002) hx hb dL_law_377 (by decide) ?_
          exact pg_widen (Nat.le_succ _) (Nat.le_add_right _ 6) (kk S 0 ((vp_updL f 0 (lI 0))) g H locs ls ⟨hP, hD, hS, hok⟩ (lv_sub hl [2, 3, 4, 5, 6, 7] rfl))
        · have hM := c_L_step_n l X S k (sA S k) (sU S k + 1) hk h3 (by omega) (by omega) (by omega) (by omega) cJ aJ f
          rw [hsk] at hM
          refine lv_aload_n hx hb dL_law_303 rfl (lv_at hl 1 rfl) ?_
          refine lw_sc (j := i + 1) (v := ((k : Nat) : Int)) hx hb hX hbl hbA hS (lv_at hl 0 rfl) (lv_at hl 5 rfl) (by omega) (by omega) hL hv1 dL_law_304 dL_law_305 dL_law_307 dL_law_308 dL_law_309 ?_
          refine lw_sc (j := i + 2) (v := v2) hx hb hX hbl hbA hS (lv_at hl 0 rfl) (lv_at hl 5 rfl) (by omega) (by omega) hL hv2 dL_law_310 dL_law_311 dL_law_313 dL_law_314 dL_law_315 ?_
          refine lv_i2c (v := iI 110) hx hb dL_law_316 hw ?_
          refine lv_aload_n hx hb dL_law_317 rfl (lv_at hl 3 rfl) ?_
          refine pg_wcallH (As := [.ref ((xa X 0)), .int (iI (((k : Nat) : Int))), .int (iI 110), .ref aJ]) (rest := []) (l1 := []) (l2 := (lwD aD cD g) :: mC Y S t) (w := (lwJ aJ cJ f) :: xC X S) (w' := (lwJ aJ cJ (vp_updL f 0 (lI 1))) :: xC X ((sS S, upN (sA S) k (sA S k), upN (sU S) k (sU S k + 1), sR S, sN S, sW S))) SC hM pT_st pT_h (vx_cwSW 4 hts gL_law_L_step rfl rfl rfl (by decide +kernel) ⟨Nat.le_of_ble_eq_true rfl, Nat.le_of_ble_eq_true rfl⟩) hKJ hP hD hS rfl rfl hl.1 rfl (Nat.le_of_ble_eq_true rfl) dL_law_318 ⟨hc0.1, hc0.2⟩ (fun H locs hP hD hS => ?_)
          have hP : va_P (xG X) vwCl (lwW X Y ((sS S, upN (sA S) k (sA S k), upN (sU S) k (sU S k + 1), sR S, sN S, sW S)) S t (lwJ aJ cJ (vp_updL f 0 (lI 1))) (lwD aD cD g)) H := hP
          have hD : va_D (fun q => s.heap.size ≤ q) (lwW X Y ((sS S, upN (sA S) k (sA S k), upN (sU S) k (sU S k + 1), sR S, sN S, sW S)) S t (lwJ aJ cJ (vp_updL f 0 (lI 1))) (lwD aD cD g)) := hD
          refine lv_istore (lv' := [(6, .int (iI 0)), (0, .ref b), (1, .ref ((xa X 0))), (2, .ref ((xa Y 0))), (3, .ref aJ), (4, .ref aD), (5, .int (iI ((i : Int))))]) hx hb dL_law_321 hl (by decide) rfl (fun ls hl => ?_)
          refine lv_aload_n hx hb dL_law_323 rfl (lv_at hl 3 rfl) ?_
          refine lw_sc (j := i + 1) (v := ((k : Nat) : Int)) hx hb hX hbl hbA hS (lv_at hl 1 rfl) (lv_at hl 6 rfl) (by omega) (by omega) hL hv1 dL_law_324 dL_law_325 dL_law_327 dL_law_328 dL_law_329 ?_
          refine lw_sc (j := i + 2) (v := v2) hx hb hX hbl hbA hS (lv_at hl 1 rfl) (lv_at hl 6 rfl) (by omega) (by omega) hL hv2 dL_law_330 dL_law_331 dL_law_333 dL_law_334 dL_law_335 ?_
          refine lv_i2c (v := iI 110) hx hb dL_law_336 hw ?_
          refine pg_wcallV (As := [.int (iI (((k : Nat) : Int))), .int (iI 110)]) (rest := []) (l1 := (lwJ aJ cJ (vp_updL f 0 (lI 1))) :: (xC X ((sS S, upN (sA S) k (sA S k), upN (sU S) k (sU S k + 1), sR S, sN S, sW S)) ++ [(lwD aD cD g)])) (l2 := []) (w := mC Y S t) (w' := mC Y ((sS S, upN (sA S) k (sA S k), upN (sU S) k (sU S k + 1), sR S, sN S, sW S)) 0) SC (pg_cY hYX (c_X1_step_n l Y S t k (sA S k) (sU S k + 1) hk h3 (by omega) (by omega) (by omega) (by omega))) pT_st pT_h (cwV 2 hts gL_law_X1_step rfl rfl rfl (by decide +kernel) ⟨Nat.le_of_ble_eq_true rfl, Nat.le_of_ble_eq_true rfl⟩) (va_recv hKY hP (ci := 1) (q0 := 7) rfl rfl) hKY hP hD hS rfl rfl hl.1 rfl (Nat.le_of_ble_eq_true rfl) dL_law_337 ⟨hc0.1, hc0.2⟩ (fun H locs hP hD hS => ?_)
          have hP : va_P (xG X) vwCl (lwW X Y ((sS S, upN (sA S) k (sA S k), upN (sU S) k (sU S k + 1), sR S, sN S, sW S)) ((sS S, upN (sA S) k (sA S k), upN (sU S) k (sU S k + 1), sR S, sN S, sW S)) 0 (lwJ aJ cJ (vp_updL f 0 (lI 1))) (lwD aD cD g)) H := hP
          have hD : va_D (fun q => s.heap.size ≤ q) (lwW X Y ((sS S, upN (sA S) k (sA S k), upN (sU S) k (sU S k + 1), sR S, sN S, sW S)) ((sS S, upN (sA S) k (sA S k), upN (sU S) k (sU S k + 1), sR S, sN S, sW S)) 0 (lwJ aJ cJ (vp_updL f 0 (lI 1))) (lwD aD cD g)) := hD
          refine lv_istore (lv' := [(7, .int (iI 1)), (6, .int (iI 0)), (0, .ref b), (1, .ref ((xa X 0))), (2, .ref ((xa Y 0))), (3, .ref aJ), (4, .ref aD), (5, .int (iI ((i : Int))))]) hx hb dL_law_340 hl (by decide) rfl (fun ls hl => ?_)
          refine lv_aload_n hx hb dL_law_342 rfl (lv_at hl 4 rfl) ?_
          refine pg_callV (As := []) (rest := []) SC (c_X1_thrown l Y ((sS S, upN (sA S) k (sA S k), upN (sU S) k (sU S k + 1), sR S, sN S, sW S)) 0) mB_st (lw_mB hYX hKY hP) (cwV 0 hts gL_law_X1_thrown rfl rfl rfl (by decide +kernel) ⟨Nat.le_of_ble_eq_true rfl, Nat.le_of_ble_eq_true rfl⟩) (va_recv hKY hP (ci := 1) (q0 := 7) rfl rfl) rfl hl.1 rfl (Nat.le_of_ble_eq_true rfl) dL_law_343 ⟨hc0.1, hc0.2⟩ ?_
          refine lv_iload hx hb dL_law_346 (lv_at hl 1 rfl) ?_
          refine lw_same (tgt := 353) hx hb (⟨by omega, by omega⟩) dL_law_348 (by decide) ?_
          refine lv_iload hx hb dL_law_353 (lv_at hl 1 rfl) ?_
          refine pg_if_ne (tgt := 377) hx hb dL_law_355 (by decide) (⟨by omega, by omega⟩) (fun h9 => absurd rfl h9) (fun _ => ?_)
          refine lv_aload_n hx hb dL_law_358 rfl (lv_at hl 5 rfl) ?_
          refine lv_iconst (v := iI 0) hx hb dL_law_359 rfl ?_
          refine pg_lld0 hx hb hKJ hP 0 2 rfl rfl dL_law_360 ?_
          refine lv_iload hx hb dL_law_361 (lv_at hl 0 rfl) ?_
          refine lw_lbool hx hb (by omega) dL_law_363 dL_law_366 dL_law_367 dL_law_370 ?_
          refine lw_leq (tgt := 377) hx hb rfl dL_law_371 dL_law_372 (by decide) ?_
          refine lv_goto (tgt := 2002) hx hb dL_law_377 (by decide) ?_
          exact pg_widen (Nat.le_succ _) (Nat.le_add_right _ 6) (kk ((sS S, upN (sA S) k (sA S k), upN (sU S) k (sU S k + 1), sR S, sN S, sW S)) 0 ((vp_updL f 0 (lI 1))) g H locs ls ⟨hP, hD, hS, ⟨hok.1, upN_le hok.2.1 (by omega), upN_le hok.2.2.1 (by omega), hok.2.2.2⟩⟩ (lv_sub hl [2, 3, 4, 5, 6, 7] rfl))
      · skip
        by_cases hw115 : w = 115
        · subst hw115
          by_cases h6 : sU S k = 0
          · refine lv_aload_n hx hb dL_law_303 rfl (lv_at hl 1 rfl) ?_
            refine lw_sc (j := i + 1) (v := ((k : Nat) : Int)) hx hb hX hbl hbA hS (lv_at hl 0 rfl) (lv_at hl 5 rfl) (by omega) (by omega) hL hv1 dL_law_304 dL_law_305 dL_law_307 dL_law_308 dL_law_309 ?_
            refine lw_sc (j := i + 2) (v := v2) hx hb hX hbl hbA hS (lv_at hl 0 rfl) (lv_at hl 5 rfl) (by omega) (by omega) hL hv2 dL_law_310 dL_law_311 dL_law_313 dL_law_314 dL_law_315 ?_
            refine lv_i2c (v := iI 115) hx hb dL_law_316 hw ?_
            refine lv_aload_n hx hb dL_law_317 rfl (lv_at hl 3 rfl) ?_
            refine pg_wcallH (As := [.ref ((xa X 0)), .int (iI (((k : Nat) : Int))), .int (iI 115), .ref aJ]) (rest := []) (l1 := []) (l2 := (lwD aD cD g) :: mC Y S t) (w := (lwJ aJ cJ f) :: xC X S) (w' := (lwJ aJ cJ (vp_updL f 0 (lI 0))) :: xC X S) SC (c_L_step_nos l X S hok k hk h3 h6 cJ aJ f) pT_st pT_h (vx_cwSW 4 hts gL_law_L_step rfl rfl rfl (by decide +kernel) ⟨Nat.le_of_ble_eq_true rfl, Nat.le_of_ble_eq_true rfl⟩) hKJ hP hD hS rfl rfl hl.1 rfl (Nat.le_of_ble_eq_true rfl) dL_law_318 ⟨hc0.1, hc0.2⟩ (fun H locs hP hD hS => ?_)
            have hP : va_P (xG X) vwCl (lwW X Y S S t (lwJ aJ cJ (vp_updL f 0 (lI 0))) (lwD aD cD g)) H := hP
            have hD : va_D (fun q => s.heap.size ≤ q) (lwW X Y S S t (lwJ aJ cJ (vp_updL f 0 (lI 0))) (lwD aD cD g)) := hD
            refine lv_istore (lv' := [(6, .int (iI 0)), (0, .ref b), (1, .ref ((xa X 0))), (2, .ref ((xa Y 0))), (3, .ref aJ), (4, .ref aD), (5, .int (iI ((i : Int))))]) hx hb dL_law_321 hl (by decide) rfl (fun ls hl => ?_)
            refine lv_aload_n hx hb dL_law_323 rfl (lv_at hl 3 rfl) ?_
            refine lw_sc (j := i + 1) (v := ((k : Nat) : Int)) hx hb hX hbl hbA hS (lv_at hl 1 rfl) (lv_at hl 6 rfl) (by omega) (by omega) hL hv1 dL_law_324 dL_law_325 dL_law_327 dL_law_328 dL_law_329 ?_
            refine lw_sc (j := i + 2) (v := v2) hx hb hX hbl hbA hS (lv_at hl 1 rfl) (lv_at hl 6 rfl) (by omega) (by omega) hL hv2 dL_law_330 dL_law_331 dL_law_333 dL_law_334 dL_law_335 ?_
            refine lv_i2c (v := iI 115) hx hb dL_law_336 hw ?_
            refine pg_wcallV (As := [.int (iI (((k : Nat) : Int))), .int (iI 115)]) (rest := []) (l1 := (lwJ aJ cJ (vp_updL f 0 (lI 0))) :: (xC X S ++ [(lwD aD cD g)])) (l2 := []) (w := mC Y S t) (w' := mC Y S 0) SC (pg_cY hYX (c_X1_stepno_s l Y S t hok k hk h3 h6)) pT_st pT_h (cwV 2 hts gL_law_X1_step rfl rfl rfl (by decide +kernel) ⟨Nat.le_of_ble_eq_true rfl, Nat.le_of_ble_eq_true rfl⟩) (va_recv hKY hP (ci := 1) (q0 := 7) rfl rfl) hKY hP hD hS rfl rfl hl.1 rfl (Nat.le_of_ble_eq_true rfl) dL_law_337 ⟨hc0.1, hc0.2⟩ (fun H locs hP hD hS => ?_)
            have hP : va_P (xG X) vwCl (lwW X Y S S 0 (lwJ aJ cJ (vp_updL f 0 (lI 0))) (lwD aD cD g)) H := hP
            have hD : va_D (fun q => s.heap.size ≤ q) (lwW X Y S S 0 (lwJ aJ cJ (vp_updL f 0 (lI 0))) (lwD aD cD g)) := hD
            refine lv_istore (lv' := [(7, .int (iI 0)), (6, .int (iI 0)), (0, .ref b), (1, .ref ((xa X 0))), (2, .ref ((xa Y 0))), (3, .ref aJ), (4, .ref aD), (5, .int (iI ((i : Int))))]) hx hb dL_law_340 hl (by decide) rfl (fun ls hl => ?_)
            refine lv_aload_n hx hb dL_law_342 rfl (lv_at hl 4 rfl) ?_
            refine pg_callV (As := []) (rest := []) SC (c_X1_thrown l Y S 0) mB_st (lw_mB hYX hKY hP) (cwV 0 hts gL_law_X1_thrown rfl rfl rfl (by decide +kernel) ⟨Nat.le_of_ble_eq_true rfl, Nat.le_of_ble_eq_true rfl⟩) (va_recv hKY hP (ci := 1) (q0 := 7) rfl rfl) rfl hl.1 rfl (Nat.le_of_ble_eq_true rfl) dL_law_343 ⟨hc0.1, hc0.2⟩ ?_
            refine lv_iload hx hb dL_law_346 (lv_at hl 1 rfl) ?_
            refine lw_same (tgt := 353) hx hb (⟨by omega, by omega⟩) dL_law_348 (by decide) ?_
            refine lv_iload hx hb dL_law_353 (lv_at hl 1 rfl) ?_
            refine pg_if_ne (tgt := 377) hx hb dL_law_355 (by decide) (⟨by omega, by omega⟩) (fun h9 => absurd rfl h9) (fun _ => ?_)
            refine lv_aload_n hx hb dL_law_358 rfl (lv_at hl 5 rfl) ?_
            refine lv_iconst (v := iI 0) hx hb dL_law_359 rfl ?_
            refine pg_lld0 hx hb hKJ hP 0 2 rfl rfl dL_law_360 ?_
            refine lv_iload hx hb dL_law_361 (lv_at hl 0 rfl) ?_
            refine lw_lbool hx hb (by omega) dL_law_363 dL_law_366 dL_law_367 dL_law_370 ?_
            refine lw_leq (tgt := 377) hx hb rfl dL_law_371 dL_law_372 (by decide) ?_
            refine lv_goto (tgt := 2002) hx hb dL_law_377 (by decide) ?_
            exact pg_widen (Nat.le_succ _) (Nat.le_add_right _ 6) (kk S 0 ((vp_updL f 0 (lI 0))) g H locs ls ⟨hP, hD, hS, hok⟩ (lv_sub hl [2, 3, 4, 5, 6, 7] rfl))
          · have hM := c_L_step_s l X S k (sA S k) (sU S k - 1) hk h3 (by omega) (by omega) (by omega) (by omega) cJ aJ f
            rw [hsk] at hM
            refine lv_aload_n hx hb dL_law_303 rfl (lv_at hl 1 rfl) ?_
            refine lw_sc (j := i + 1) (v := ((k : Nat) : Int)) hx hb hX hbl hbA hS (lv_at hl 0 rfl) (lv_at hl 5 rfl) (by omega) (by omega) hL hv1 dL_law_304 dL_law_305 dL_law_307 dL_law_308 dL_law_309 ?_
            refine lw_sc (j := i + 2) (v := v2) hx hb hX hbl hbA hS (lv_at hl 0 rfl) (lv_at hl 5 rfl) (by omega) (by omega) hL hv2 dL_law_310 dL_law_311 dL_law_313 dL_law_314 dL_law_315 ?_
            refine lv_i2c (v := iI 115) hx hb dL_law_316 hw ?_
            refine lv_aload_n hx hb dL_law_317 rfl (lv_at hl 3 rfl) ?_
            refine pg_wcallH (As := [.ref ((xa X 0)), .int (iI (((k : Nat) : Int))), .int (iI 115), .ref aJ]) (rest := []) (l1 := []) (l2 := (lwD aD cD g) :: mC Y S t) (w := (lwJ aJ cJ f) :: xC X S) (w' := (lwJ aJ cJ (vp_updL f 0 (lI 1))) :: xC X ((sS S, upN (sA S) k (sA S k), upN (sU S) k (sU S k - 1), sR S, sN S, sW S))) SC hM pT_st pT_h (vx_cwSW 4 hts gL_law_L_step rfl rfl rfl (by decide +kernel) ⟨Nat.le_of_ble_eq_true rfl, Nat.le_of_ble_eq_true rfl⟩) hKJ hP hD hS rfl rfl hl.1 rfl (Nat.le_of_ble_eq_true rfl) dL_law_318 ⟨hc0.1, hc0.2⟩ (fun H locs hP hD hS => ?_)
            have hP : va_P (xG X) vwCl (lwW X Y ((sS S, upN (sA S) k (sA S k), upN (sU S) k (sU S k - 1), sR S, sN S, sW S)) S t (lwJ aJ cJ (vp_updL f 0 (lI 1))) (lwD aD cD g)) H := hP
            have hD : va_D (fun q => s.heap.size ≤ q) (lwW X Y ((sS S, upN (sA S) k (sA S k), upN (sU S) k (sU S k - 1), sR S, sN S, sW S)) S t (lwJ aJ cJ (vp_updL f 0 (lI 1))) (lwD aD cD g)) := hD
            refine lv_istore (lv' := [(6, .int (iI 0)), (0, .ref b), (1, .ref ((xa X 0))), (2, .ref ((xa Y 0))), (3, .ref aJ), (4, .ref aD), (5, .int (iI ((i : Int))))]) hx hb dL_law_321 hl (by decide) rfl (fun ls hl => ?_)
            refine lv_aload_n hx hb dL_law_323 rfl (lv_at hl 3 rfl) ?_
            refine lw_sc (j := i + 1) (v := ((k : Nat) : Int)) hx hb hX hbl hbA hS (lv_at hl 1 rfl) (lv_at hl 6 rfl) (by omega) (by omega) hL hv1 dL_law_324 dL_law_325 dL_law_327 dL_law_328 dL_law_329 ?_
            refine lw_sc (j := i + 2) (v := v2) hx hb hX hbl hbA hS (lv_at hl 1 rfl) (lv_at hl 6 rfl) (by omega) (by omega) hL hv2 dL_law_330 dL_law_331 dL_law_333 dL_law_334 dL_law_335 ?_
            refine lv_i2c (v := iI 115) hx hb dL_law_336 hw ?_
            refine pg_wcallV (As := [.int (iI (((k : Nat) : Int))), .int (iI 115)]) (rest := []) (l1 := (lwJ aJ cJ (vp_updL f 0 (lI 1))) :: (xC X ((sS S, upN (sA S) k (sA S k), upN (sU S) k (sU S k - 1), sR S, sN S, sW S)) ++ [(lwD aD cD g)])) (l2 := []) (w := mC Y S t) (w' := mC Y ((sS S, upN (sA S) k (sA S k), upN (sU S) k (sU S k - 1), sR S, sN S, sW S)) 0) SC (pg_cY hYX (c_X1_step_s l Y S t k (sA S k) (sU S k - 1) hk h3 (by omega) (by omega) (by omega) (by omega))) pT_st pT_h (cwV 2 hts gL_law_X1_step rfl rfl rfl (by decide +kernel) ⟨Nat.le_of_ble_eq_true rfl, Nat.le_of_ble_eq_true rfl⟩) (va_recv hKY hP (ci := 1) (q0 := 7) rfl rfl) hKY hP hD hS rfl rfl hl.1 rfl (Nat.le_of_ble_eq_true rfl) dL_law_337 ⟨hc0.1, hc0.2⟩ (fun H locs hP hD hS => ?_)
            have hP : va_P (xG X) vwCl (lwW X Y ((sS S, upN (sA S) k (sA S k), upN (sU S) k (sU S k - 1), sR S, sN S, sW S)) ((sS S, upN (sA S) k (sA S k), upN (sU S) k (sU S k - 1), sR S, sN S, sW S)) 0 (lwJ aJ cJ (vp_updL f 0 (lI 1))) (lwD aD cD g)) H := hP
            have hD : va_D (fun q => s.heap.size ≤ q) (lwW X Y ((sS S, upN (sA S) k (sA S k), upN (sU S) k (sU S k - 1), sR S, sN S, sW S)) ((sS S, upN (sA S) k (sA S k), upN (sU S) k (sU S k - 1), sR S, sN S, sW S)) 0 (lwJ aJ cJ (vp_updL f 0 (lI 1))) (lwD aD cD g)) := hD
            refine lv_istore (lv' := [(7, .int (iI 1)), (6, .int (iI 0)), (0, .ref b), (1, .ref ((xa X 0))), (2, .ref ((xa Y 0))), (3, .ref aJ), (4, .ref aD), (5, .int (iI ((i : Int))))]) hx hb dL_law_340 hl (by decide) rfl (fun ls hl => ?_)
            refine lv_aload_n hx hb dL_law_342 rfl (lv_at hl 4 rfl) ?_
            refine pg_callV (As := []) (rest := []) SC (c_X1_thrown l Y ((sS S, upN (sA S) k (sA S k), upN (sU S) k (sU S k - 1), sR S, sN S, sW S)) 0) mB_st (lw_mB hYX hKY hP) (cwV 0 hts gL_law_X1_thrown rfl rfl rfl (by decide +kernel) ⟨Nat.le_of_ble_eq_true rfl, Nat.le_of_ble_eq_true rfl⟩) (va_recv hKY hP (ci := 1) (q0 := 7) rfl rfl) rfl hl.1 rfl (Nat.le_of_ble_eq_true rfl) dL_law_343 ⟨hc0.1, hc0.2⟩ ?_
            refine lv_iload hx hb dL_law_346 (lv_at hl 1 rfl) ?_
            refine lw_same (tgt := 353) hx hb (⟨by omega, by omega⟩) dL_law_348 (by decide) ?_
            refine lv_iload hx hb dL_law_353 (lv_at hl 1 rfl) ?_
            refine pg_if_ne (tgt := 377) hx hb dL_law_355 (by decide) (⟨by omega, by omega⟩) (fun h9 => absurd rfl h9) (fun _ => ?_)
            refine lv_aload_n hx hb dL_law_358 rfl (lv_at hl 5 rfl) ?_
            refine lv_iconst (v := iI 0) hx hb dL_law_359 rfl ?_
            refine pg_lld0 hx hb hKJ hP 0 2 rfl rfl dL_law_360 ?_
            refine lv_iload hx hb dL_law_361 (lv_at hl 0 rfl) ?_
            refine lw_lbool hx hb (by omega) dL_law_363 dL_law_366 dL_law_367 dL_law_370 ?_
            refine lw_leq (tgt := 377) hx hb rfl dL_law_371 dL_law_372 (by decide) ?_
            refine lv_goto (tgt := 2002) hx hb dL_law_377 (by decide) ?_
            exact pg_widen (Nat.le_succ _) (Nat.le_add_right _ 6) (kk ((sS S, upN (sA S) k (sA S k), upN (sU S) k (sU S k - 1), sR S, sN S, sW S)) 0 ((vp_updL f 0 (lI 1))) g H locs ls ⟨hP, hD, hS, ⟨hok.1, upN_le hok.2.1 (by omega), upN_le hok.2.2.1 (by omega), hok.2.2.2⟩⟩ (lv_sub hl [2, 3, 4, 5, 6, 7] rfl))
        · skip
          by_cases hw101 : w = 101
          · subst hw101
            by_cases h6 : sA S k = 90
            · refine lv_aload_n hx hb dL_law_303 rfl (lv_at hl 1 rfl) ?_
              refine lw_sc (j := i + 1) (v := ((k : Nat) : Int)) hx hb hX hbl hbA hS (lv_at hl 0 rfl) (lv_at hl 5 rfl) (by omega) (by omega) hL hv1 dL_law_304 dL_law_305 dL_law_307 dL_law_308 dL_law_309 ?_
              refine lw_sc (j := i + 2) (v := v2) hx hb hX hbl hbA hS (lv_at hl 0 rfl) (lv_at hl 5 rfl) (by omega) (by omega) hL hv2 dL_law_310 dL_law_311 dL_law_313 dL_law_314 dL_law_315 ?_
              refine lv_i2c (v := iI 101) hx hb dL_law_316 hw ?_
              refine lv_aload_n hx hb dL_law_317 rfl (lv_at hl 3 rfl) ?_
              refine pg_wcallH (As := [.ref ((xa X 0)), .int (iI (((k : Nat) : Int))), .int (iI 101), .ref aJ]) (rest := []) (l1 := []) (l2 := (lwD aD cD g) :: mC Y S t) (w := (lwJ aJ cJ f) :: xC X S) (w' := (lwJ aJ cJ (vp_updL f 0 (lI 0))) :: xC X S) SC (c_L_step_noe l X S hok k hk h3 h6 cJ aJ f) pT_st pT_h (vx_cwSW 4 hts gL_law_L_step rfl rfl rfl (by decide +kernel) ⟨Nat.le_of_ble_eq_true rfl, Nat.le_of_ble_eq_true rfl⟩) hKJ hP hD hS rfl rfl hl.1 rfl (Nat.le_of_ble_eq_true rfl) dL_law_318 ⟨hc0.1, hc0.2⟩ (fun H locs hP hD hS => ?_)
              have hP : va_P (xG X) vwCl (lwW X Y S S t (lwJ aJ cJ (vp_updL f 0 (lI 0))) (lwD aD cD g)) H := hP
              have hD : va_D (fun q => s.heap.size ≤ q) (lwW X Y S S t (lwJ aJ cJ (vp_updL f 0 (lI 0))) (lwD aD cD g)) := hD
              refine lv_istore (lv' := [(6, .int (iI 0)), (0, .ref b), (1, .ref ((xa X 0))), (2, .ref ((xa Y 0))), (3, .ref aJ), (4, .ref aD), (5, .int (iI ((i : Int))))]) hx hb dL_law_321 hl (by decide) rfl (fun ls hl => ?_)
              refine lv_aload_n hx hb dL_law_323 rfl (lv_at hl 3 rfl) ?_
              refine lw_sc (j := i + 1) (v := ((k : Nat) : Int)) hx hb hX hbl hbA hS (lv_at hl 1 rfl) (lv_at hl 6 rfl) (by omega) (by omega) hL hv1 dL_law_324 dL_law_325 dL_law_327 dL_law_328 dL_law_329 ?_
              refine lw_sc (j := i + 2) (v := v2) hx hb hX hbl hbA hS (lv_at hl 1 rfl) (lv_at hl 6 rfl) (by omega) (by omega) hL hv2 dL_law_330 dL_law_331 dL_law_333 dL_law_334 dL_law_335 ?_
              refine lv_i2c (v := iI 101) hx hb dL_law_336 hw ?_
              refine pg_wcallV (As := [.int (iI (((k : Nat) : Int))), .int (iI 101)]) (rest := []) (l1 := (lwJ aJ cJ (vp_updL f 0 (lI 0))) :: (xC X S ++ [(lwD aD cD g)])) (l2 := []) (w := mC Y S t) (w' := mC Y S 0) SC (pg_cY hYX (c_X1_stepno_e l Y S t hok k hk h3 h6)) pT_st pT_h (cwV 2 hts gL_law_X1_step rfl rfl rfl (by decide +kernel) ⟨Nat.le_of_ble_eq_true rfl, Nat.le_of_ble_eq_true rfl⟩) (va_recv hKY hP (ci := 1) (q0 := 7) rfl rfl) hKY hP hD hS rfl rfl hl.1 rfl (Nat.le_of_ble_eq_true rfl) dL_law_337 ⟨hc0.1, hc0.2⟩ (fun H locs hP hD hS => ?_)
              have hP : va_P (xG X) vwCl (lwW X Y S S 0 (lwJ aJ cJ (vp_updL f 0 (lI 0))) (lwD aD cD g)) H := hP
              have hD : va_D (fun q => s.heap.size ≤ q) (lwW X Y S S 0 (lwJ aJ cJ (vp_updL f 0 (lI 0))) (lwD aD cD g)) := hD
              refine lv_istore (lv' := [(7, .int (iI 0)), (6, .int (iI 0)), (0, .ref b), (1, .ref ((xa X 0))), (2, .ref ((xa Y 0))), (3, .ref aJ), (4, .ref aD), (5, .int (iI ((i : Int))))]) hx hb dL_law_340 hl (by decide) rfl (fun ls hl => ?_)
              refine lv_aload_n hx hb dL_law_342 rfl (lv_at hl 4 rfl) ?_
              refine pg_callV (As := []) (rest := []) SC (c_X1_thrown l Y S 0) mB_st (lw_mB hYX hKY hP) (cwV 0 hts gL_law_X1_thrown rfl rfl rfl (by decide +kernel) ⟨Nat.le_of_ble_eq_true rfl, Nat.le_of_ble_eq_true rfl⟩) (va_recv hKY hP (ci := 1) (q0 := 7) rfl rfl) rfl hl.1 rfl (Nat.le_of_ble_eq_true rfl) dL_law_343 ⟨hc0.1, hc0.2⟩ ?_
              refine lv_iload hx hb dL_law_346 (lv_at hl 1 rfl) ?_
              refine lw_same (tgt := 353) hx hb (⟨by omega, by omega⟩) dL_law_348 (by decide) ?_
              refine lv_iload hx hb dL_law_353 (lv_at hl 1 rfl) ?_
              refine pg_if_ne (tgt := 377) hx hb dL_law_355 (by decide) (⟨by omega, by omega⟩) (fun h9 => absurd rfl h9) (fun _ => ?_)
              refine lv_aload_n hx hb dL_law_358 rfl (lv_at hl 5 rfl) ?_
              refine lv_iconst (v := iI 0) hx hb dL_law_359 rfl ?_
              refine pg_lld0 hx hb hKJ hP 0 2 rfl rfl dL_law_360 ?_
              refine lv_iload hx hb dL_law_361 (lv_at hl 0 rfl) ?_
              refine lw_lbool hx hb (by omega) dL_law_363 dL_law_366 dL_law_367 dL_law_370 ?_
              refine lw_leq (tgt := 377) hx hb rfl dL_law_371 dL_law_372 (by decide) ?_
              refine lv_goto (tgt := 2002) hx hb dL_law_377 (by decide) ?_
              exact pg_widen (Nat.le_succ _) (Nat.le_add_right _ 6) (kk S 0 ((vp_updL f 0 (lI 0))) g H locs ls ⟨hP, hD, hS, hok⟩ (lv_sub hl [2, 3, 4, 5, 6, 7] rfl))
            · have hM := c_L_step_e l X S k (sA S k + 1) (sU S k) hk h3 (by omega) (by omega) (by omega) (by omega) cJ aJ f
              rw [hsk] at hM
              refine lv_aload_n hx hb dL_law_303 rfl (lv_at hl 1 rfl) ?_
              refine lw_sc (j := i + 1) (v := ((k : Nat) : Int)) hx hb hX hbl hbA hS (lv_at hl 0 rfl) (lv_at hl 5 rfl) (by omega) (by omega) hL hv1 dL_law_304 dL_law_305 dL_law_307 dL_law_308 dL_law_309 ?_
              refine lw_sc (j := i + 2) (v := v2) hx hb hX hbl hbA hS (lv_at hl 0 rfl) (lv_at hl 5 rfl) (by omega) (by omega) hL hv2 dL_law_310 dL_law_311 dL_law_313 dL_law_314 dL_law_315 ?_
              refine lv_i2c (v := iI 101) hx hb dL_law_316 hw ?_
              refine lv_aload_n hx hb dL_law_317 rfl (lv_at hl 3 rfl) ?_
              refine pg_wcallH (As := [.ref ((xa X 0)), .int (iI (((k : Nat) : Int))), .int (iI 101), .ref aJ]) (rest := []) (l1 := []) (l2 := (lwD aD cD g) :: mC Y S t) (w := (lwJ aJ cJ f) :: xC X S) (w' := (lwJ aJ cJ (vp_updL f 0 (lI 1))) :: xC X ((sS S, upN (sA S) k (sA S k + 1), upN (sU S) k (sU S k), sR S, sN S, sW S))) SC hM pT_st pT_h (vx_cwSW 4 hts gL_law_L_step rfl rfl rfl (by decide +kernel) ⟨Nat.le_of_ble_eq_true rfl, Nat.le_of_ble_eq_true rfl⟩) hKJ hP hD hS rfl rfl hl.1 rfl (Nat.le_of_ble_eq_true rfl) dL_law_318 ⟨hc0.1, hc0.2⟩ (fun H locs hP hD hS => ?_)
              have hP : va_P (xG X) vwCl (lwW X Y ((sS S, upN (sA S) k (sA S k + 1), upN (sU S) k (sU S k), sR S, sN S, sW S)) S t (lwJ aJ cJ (vp_updL f 0 (lI 1))) (lwD aD cD g)) H := hP
              have hD : va_D (fun q => s.heap.size ≤ q) (lwW X Y ((sS S, upN (sA S) k (sA S k + 1), upN (sU S) k (sU S k), sR S, sN S, sW S)) S t (lwJ aJ cJ (vp_updL f 0 (lI 1))) (lwD aD cD g)) := hD
              refine lv_istore (lv' := [(6, .int (iI 0)), (0, .ref b), (1, .ref ((xa X 0))), (2, .ref ((xa Y 0))), (3, .ref aJ), (4, .ref aD), (5, .int (iI ((i : Int))))]) hx hb dL_law_321 hl (by decide) rfl (fun ls hl => ?_)
              refine lv_aload_n hx hb dL_law_323 rfl (lv_at hl 3 rfl) ?_
              refine lw_sc (j := i + 1) (v := ((k : Nat) : Int)) hx hb hX hbl hbA hS (lv_at hl 1 rfl) (lv_at hl 6 rfl) (by omega) (by omega) hL hv1 dL_law_324 dL_law_325 dL_law_327 dL_law_328 dL_law_329 ?_
              refine lw_sc (j := i + 2) (v := v2) hx hb hX hbl hbA hS (lv_at hl 1 rfl) (lv_at hl 6 rfl) (by omega) (by omega) hL hv2 dL_law_330 dL_law_331 dL_law_333 dL_law_334 dL_law_335 ?_
              refine lv_i2c (v := iI 101) hx hb dL_law_336 hw ?_
              refine pg_wcallV (As := [.int (iI (((k : Nat) : Int))), .int (iI 101)]) (rest := []) (l1 := (lwJ aJ cJ (vp_updL f 0 (lI 1))) :: (xC X ((sS S, upN (sA S) k (sA S k + 1), upN (sU S) k (sU S k), sR S, sN S, sW S)) ++ [(lwD aD cD g)])) (l2 := []) (w := mC Y S t) (w' := mC Y ((sS S, upN (sA S) k (sA S k + 1), upN (sU S) k (sU S k), sR S, sN S, sW S)) 0) SC (pg_cY hYX (c_X1_step_e l Y S t k (sA S k + 1) (sU S k) hk h3 (by omega) (by omega) (by omega) (by omega))) pT_st pT_h (cwV 2 hts gL_law_X1_step rfl rfl rfl (by decide +kernel) ⟨Nat.le_of_ble_eq_true rfl, Nat.le_of_ble_eq_true rfl⟩) (va_recv hKY hP (ci := 1) (q0 := 7) rfl rfl) hKY hP hD hS rfl rfl hl.1 rfl (Nat.le_of_ble_eq_true rfl) dL_law_337 ⟨hc0.1, hc0.2⟩ (fun H locs hP hD hS => ?_)
              have hP : va_P (xG X) vwCl (lwW X Y ((sS S, upN (sA S) k (sA S k + 1), upN (sU S) k (sU S k), sR S, sN S, sW S)) ((sS S, upN (sA S) k (sA S k + 1), upN (sU S) k (sU S k), sR S, sN S, sW S)) 0 (lwJ aJ cJ (vp_updL f 0 (lI 1))) (lwD aD cD g)) H := hP
              have hD : va_D (fun q => s.heap.size ≤ q) (lwW X Y ((sS S, upN (sA S) k (sA S k + 1), upN (sU S) k (sU S k), sR S, sN S, sW S)) ((sS S, upN (sA S) k (sA S k + 1), upN (sU S) k (sU S k), sR S, sN S, sW S)) 0 (lwJ aJ cJ (vp_updL f 0 (lI 1))) (lwD aD cD g)) := hD
              refine lv_istore (lv' := [(7, .int (iI 1)), (6, .int (iI 0)), (0, .ref b), (1, .ref ((xa X 0))), (2, .ref ((xa Y 0))), (3, .ref aJ), (4, .ref aD), (5, .int (iI ((i : Int))))]) hx hb dL_law_340 hl (by decide) rfl (fun ls hl => ?_)
              refine lv_aload_n hx hb dL_law_342 rfl (lv_at hl 4 rfl) ?_
              refine pg_callV (As := []) (rest := []) SC (c_X1_thrown l Y ((sS S, upN (sA S) k (sA S k + 1), upN (sU S) k (sU S k), sR S, sN S, sW S)) 0) mB_st (lw_mB hYX hKY hP) (cwV 0 hts gL_law_X1_thrown rfl rfl rfl (by decide +kernel) ⟨Nat.le_of_ble_eq_true rfl, Nat.le_of_ble_eq_true rfl⟩) (va_recv hKY hP (ci := 1) (q0 := 7) rfl rfl) rfl hl.1 rfl (Nat.le_of_ble_eq_true rfl) dL_law_343 ⟨hc0.1, hc0.2⟩ ?_
              refine lv_iload hx hb dL_law_346 (lv_at hl 1 rfl) ?_
              refine lw_same (tgt := 353) hx hb (⟨by omega, by omega⟩) dL_law_348 (by decide) ?_
              refine lv_iload hx hb dL_law_353 (lv_at hl 1 rfl) ?_
              refine pg_if_ne (tgt := 377) hx hb dL_law_355 (by decide) (⟨by omega, by omega⟩) (fun h9 => absurd rfl h9) (fun _ => ?_)
              refine lv_aload_n hx hb dL_law_358 rfl (lv_at hl 5 rfl) ?_
              refine lv_iconst (v := iI 0) hx hb dL_law_359 rfl ?_
              refine pg_lld0 hx hb hKJ hP 0 2 rfl rfl dL_law_360 ?_
              refine lv_iload hx hb dL_law_361 (lv_at hl 0 rfl) ?_
              refine lw_lbool hx hb (by omega) dL_law_363 dL_law_366 dL_law_367 dL_law_370 ?_
              refine lw_leq (tgt := 377) hx hb rfl dL_law_371 dL_law_372 (by decide) ?_
              refine lv_goto (tgt := 2002) hx hb dL_law_377 (by decide) ?_
              exact pg_widen (Nat.le_succ _) (Nat.le_add_right _ 6) (kk ((sS S, upN (sA S) k (sA S k + 1), upN (sU S) k (sU S k), sR S, sN S, sW S)) 0 ((vp_updL f 0 (lI 1))) g H locs ls ⟨hP, hD, hS, ⟨hok.1, upN_le hok.2.1 (by omega), upN_le hok.2.2.1 (by omega), hok.2.2.2⟩⟩ (lv_sub hl [2, 3, 4, 5, 6, 7] rfl))
          · skip
            by_cases hw119 : w = 119
            · subst hw119
              by_cases h6 : sA S k = 0
              · refine lv_aload_n hx hb dL_law_303 rfl (lv_at hl 1 rfl) ?_
                refine lw_sc (j := i + 1) (v := ((k : Nat) : Int)) hx hb hX hbl hbA hS (lv_at hl 0 rfl) (lv_at hl 5 rfl) (by omega) (by omega) hL hv1 dL_law_304 dL_law_305 dL_law_307 dL_law_308 dL_law_309 ?_
                refine lw_sc (j := i + 2) (v := v2) hx hb hX hbl hbA hS (lv_at hl 0 rfl) (lv_at hl 5 rfl) (by omega) (by omega) hL hv2 dL_law_310 dL_law_311 dL_law_313 dL_law_314 dL_law_315 ?_
                refine lv_i2c (v := iI 119) hx hb dL_law_316 hw ?_
                refine lv_aload_n hx hb dL_law_317 rfl (lv_at hl 3 rfl) ?_
                refine pg_wcallH (As := [.ref ((xa X 0)), .int (iI (((k : Nat) : Int))), .int (iI 119), .ref aJ]) (rest := []) (l1 := []) (l2 := (lwD aD cD g) :: mC Y S t) (w := (lwJ aJ cJ f) :: xC X S) (w' := (lwJ aJ cJ (vp_updL f 0 (lI 0))) :: xC X S) SC (c_L_step_now l X S hok k hk h3 h6 cJ aJ f) pT_st pT_h (vx_cwSW 4 hts gL_law_L_step rfl rfl rfl (by decide +kernel) ⟨Nat.le_of_ble_eq_true rfl, Nat.le_of_ble_eq_true rfl⟩) hKJ hP hD hS rfl rfl hl.1 rfl (Nat.le_of_ble_eq_true rfl) dL_law_318 ⟨hc0.1, hc0.2⟩ (fun H locs hP hD hS => ?_)
                have hP : va_P (xG X) vwCl (lwW X Y S S t (lwJ aJ cJ (vp_updL f 0 (lI 0))) (lwD aD cD g)) H := hP
                have hD : va_D (fun q => s.heap.size ≤ q) (lwW X Y S S t (lwJ aJ cJ (vp_updL f 0 (lI 0))) (lwD aD cD g)) := hD
                refine lv_istore (lv' := [(6, .int (iI 0)), (0, .ref b), (1, .ref ((xa X 0))), (2, .ref ((xa Y 0))), (3, .ref aJ), (4, .ref aD), (5, .int (iI ((i : Int))))]) hx hb dL_law_321 hl (by decide) rfl (fun ls hl => ?_)
                refine lv_aload_n hx hb dL_law_323 rfl (lv_at hl 3 rfl) ?_
                refine lw_sc (j := i + 1) (v := ((k : Nat) : Int)) hx hb hX hbl hbA hS (lv_at hl 1 rfl) (lv_at hl 6 rfl) (by omega) (by omega) hL hv1 dL_law_324 dL_law_325 dL_law_327 dL_law_328 dL_law_329 ?_
                refine lw_sc (j := i + 2) (v := v2) hx hb hX hbl hbA hS (lv_at hl 1 rfl) (lv_at hl 6 rfl) (by omega) (by omega) hL hv2 dL_law_330 dL_law_331 dL_law_333 dL_law_334 dL_law_335 ?_
                refine lv_i2c (v := iI 119) hx hb dL_law_336 hw ?_
                refine pg_wcallV (As := [.int (iI (((k : Nat) : Int))), .int (iI 119)]) (rest := []) (l1 := (lwJ aJ cJ (vp_updL f 0 (lI 0))) :: (xC X S ++ [(lwD aD cD g)])) (l2 := []) (w := mC Y S t) (w' := mC Y S 0) SC (pg_cY hYX (c_X1_stepno_w l Y S t hok k hk h3 h6)) pT_st pT_h (cwV 2 hts gL_law_X1_step rfl rfl rfl (by decide +kernel) ⟨Nat.le_of_ble_eq_true rfl, Nat.le_of_ble_eq_true rfl⟩) (va_recv hKY hP (ci := 1) (q0 := 7) rfl rfl) hKY hP hD hS rfl rfl hl.1 rfl (Nat.le_of_ble_eq_true rfl) dL_law_337 ⟨hc0.1, hc0.2⟩ (fun H locs hP hD hS => ?_)
                have hP : va_P (xG X) vwCl (lwW X Y S S 0 (lwJ aJ cJ (vp_updL f 0 (lI 0))) (lwD aD cD g)) H := hP
                have hD : va_D (fun q => s.heap.size ≤ q) (lwW X Y S S 0 (lwJ aJ cJ (vp_updL f 0 (lI 0))) (lwD aD cD g)) := hD
                refine lv_istore (lv' := [(7, .int (iI 0)), (6, .int (iI 0)), (0, .ref b), (1, .ref ((xa X 0))), (2, .ref ((xa Y 0))), (3, .ref aJ), (4, .ref aD), (5, .int (iI ((i : Int))))]) hx hb dL_law_340 hl (by decide) rfl (fun ls hl => ?_)
                refine lv_aload_n hx hb dL_law_342 rfl (lv_at hl 4 rfl) ?_
                refine pg_callV (As := []) (rest := []) SC (c_X1_thrown l Y S 0) mB_st (lw_mB hYX hKY hP) (cwV 0 hts gL_law_X1_thrown rfl rfl rfl (by decide +kernel) ⟨Nat.le_of_ble_eq_true rfl, Nat.le_of_ble_eq_true rfl⟩) (va_recv hKY hP (ci := 1) (q0 := 7) rfl rfl) rfl hl.1 rfl (Nat.le_of_ble_eq_true rfl) dL_law_343 ⟨hc0.1, hc0.2⟩ ?_
                refine lv_iload hx hb dL_law_346 (lv_at hl 1 rfl) ?_
                refine lw_same (tgt := 353) hx hb (⟨by omega, by omega⟩) dL_law_348 (by decide) ?_
                refine lv_iload hx hb dL_law_353 (lv_at hl 1 rfl) ?_
                refine pg_if_ne (tgt := 377) hx hb dL_law_355 (by decide) (⟨by omega, by omega⟩) (fun h9 => absurd rfl h9) (fun _ => ?_)
                refine lv_aload_n hx hb dL_law_358 rfl (lv_at hl 5 rfl) ?_
                refine lv_iconst (v := iI 0) hx hb dL_law_359 rfl ?_
                refine pg_lld0 hx hb hKJ hP 0 2 rfl rfl dL_law_360 ?_
                refine lv_iload hx hb dL_law_361 (lv_at hl 0 rfl) ?_
                refine lw_lbool hx hb (by omega) dL_law_363 dL_law_366 dL_law_367 dL_law_370 ?_
                refine lw_leq (tgt := 377) hx hb rfl dL_law_371 dL_law_372 (by decide) ?_
                refine lv_goto (tgt := 2002) hx hb dL_law_377 (by decide) ?_
                exact pg_widen (Nat.le_succ _) (Nat.le_add_right _ 6) (kk S 0 ((vp_updL f 0 (lI 0))) g H locs ls ⟨hP, hD, hS, hok⟩ (lv_sub hl [2, 3, 4, 5, 6, 7] rfl))
              · have hM := c_L_step_w l X S k (sA S k - 1) (sU S k) hk h3 (by omega) (by omega) (by omega) (by omega) cJ aJ f
                rw [hsk] at hM
                refine lv_aload_n hx hb dL_law_303 rfl (lv_at hl 1 rfl) ?_
                refine lw_sc (j := i + 1) (v := ((k : Nat) : Int)) hx hb hX hbl hbA hS (lv_at hl 0 rfl) (lv_at hl 5 rfl) (by omega) (by omega) hL hv1 dL_law_304 dL_law_305 dL_law_307 dL_law_308 dL_law_309 ?_
                refine lw_sc (j := i + 2) (v := v2) hx hb hX hbl hbA hS (lv_at hl 0 rfl) (lv_at hl 5 rfl) (by omega) (by omega) hL hv2 dL_law_310 dL_law_311 dL_law_313 dL_law_314 dL_law_315 ?_
                refine lv_i2c (v := iI 119) hx hb dL_law_316 hw ?_
                refine lv_aload_n hx hb dL_law_317 rfl (lv_at hl 3 rfl) ?_
                refine pg_wcallH (As := [.ref ((xa X 0)), .int (iI (((k : Nat) : Int))), .int (iI 119), .ref aJ]) (rest := []) (l1 := []) (l2 := (lwD aD cD g) :: mC Y S t) (w := (lwJ aJ cJ f) :: xC X S) (w' := (lwJ aJ cJ (vp_updL f 0 (lI 1))) :: xC X ((sS S, upN (sA S) k (sA S k - 1), upN (sU S) k (sU S k), sR S, sN S, sW S))) SC hM pT_st pT_h (vx_cwSW 4 hts gL_law_L_step rfl rfl rfl (by decide +kernel) ⟨Nat.le_of_ble_eq_true rfl, Nat.le_of_ble_eq_true rfl⟩) hKJ hP hD hS rfl rfl hl.1 rfl (Nat.le_of_ble_eq_true rfl) dL_law_318 ⟨hc0.1, hc0.2⟩ (fun H locs hP hD hS => ?_)
                have hP : va_P (xG X) vwCl (lwW X Y ((sS S, upN (sA S) k (sA S k - 1), upN (sU S) k (sU S k), sR S, sN S, sW S)) S t (lwJ aJ cJ (vp_updL f 0 (lI 1))) (lwD aD cD g)) H := hP
                have hD : va_D (fun q => s.heap.size ≤ q) (lwW X Y ((sS S, upN (sA S) k (sA S k - 1), upN (sU S) k (sU S k), sR S, sN S, sW S)) S t (lwJ aJ cJ (vp_updL f 0 (lI 1))) (lwD aD cD g)) := hD
                refine lv_istore (lv' := [(6, .int (iI 0)), (0, .ref b), (1, .ref ((xa X 0))), (2, .ref ((xa Y 0))), (3, .ref aJ), (4, .ref aD), (5, .int (iI ((i : Int))))]) hx hb dL_law_321 hl (by decide) rfl (fun ls hl => ?_)
                refine lv_aload_n hx hb dL_law_323 rfl (lv_at hl 3 rfl) ?_
                refine lw_sc (j := i + 1) (v := ((k : Nat) : Int)) hx hb hX hbl hbA hS (lv_at hl 1 rfl) (lv_at hl 6 rfl) (by omega) (by omega) hL hv1 dL_law_324 dL_law_325 dL_law_327 dL_law_328 dL_law_329 ?_
                refine lw_sc (j := i + 2) (v := v2) hx hb hX hbl hbA hS (lv_at hl 1 rfl) (lv_at hl 6 rfl) (by omega) (by omega) hL hv2 dL_law_330 dL_law_331 dL_law_333 dL_law_334 dL_law_335 ?_
                refine lv_i2c (v := iI 119) hx hb dL_law_336 hw ?_
                refine pg_wcallV (As := [.int (iI (((k : Nat) : Int))), .int (iI 119)]) (rest := []) (l1 := (lwJ aJ cJ (vp_updL f 0 (lI 1))) :: (xC X ((sS S, upN (sA S) k (sA S k - 1), upN (sU S) k (sU S k), sR S, sN S, sW S)) ++ [(lwD aD cD g)])) (l2 := []) (w := mC Y S t) (w' := mC Y ((sS S, upN (sA S) k (sA S k - 1), upN (sU S) k (sU S k), sR S, sN S, sW S)) 0) SC (pg_cY hYX (c_X1_step_w l Y S t k (sA S k - 1) (sU S k) hk h3 (by omega) (by omega) (by omega) (by omega))) pT_st pT_h (cwV 2 hts gL_law_X1_step rfl rfl rfl (by decide +kernel) ⟨Nat.le_of_ble_eq_true rfl, Nat.le_of_ble_eq_true rfl⟩) (va_recv hKY hP (ci := 1) (q0 := 7) rfl rfl) hKY hP hD hS rfl rfl hl.1 rfl (Nat.le_of_ble_eq_true rfl) dL_law_337 ⟨hc0.1, hc0.2⟩ (fun H locs hP hD hS => ?_)
                have hP : va_P (xG X) vwCl (lwW X Y ((sS S, upN (sA S) k (sA S k - 1), upN (sU S) k (sU S k), sR S, sN S, sW S)) ((sS S, upN (sA S) k (sA S k - 1), upN (sU S) k (sU S k), sR S, sN S, sW S)) 0 (lwJ aJ cJ (vp_updL f 0 (lI 1))) (lwD aD cD g)) H := hP
                have hD : va_D (fun q => s.heap.size ≤ q) (lwW X Y ((sS S, upN (sA S) k (sA S k - 1), upN (sU S) k (sU S k), sR S, sN S, sW S)) ((sS S, upN (sA S) k (sA S k - 1), upN (sU S) k (sU S k), sR S, sN S, sW S)) 0 (lwJ aJ cJ (vp_updL f 0 (lI 1))) (lwD aD cD g)) := hD
                refine lv_istore (lv' := [(7, .int (iI 1)), (6, .int (iI 0)), (0, .ref b), (1, .ref ((xa X 0))), (2, .ref ((xa Y 0))), (3, .ref aJ), (4, .ref aD), (5, .int (iI ((i : Int))))]) hx hb dL_law_340 hl (by decide) rfl (fun ls hl => ?_)
                refine lv_aload_n hx hb dL_law_342 rfl (lv_at hl 4 rfl) ?_
                refine pg_callV (As := []) (rest := []) SC (c_X1_thrown l Y ((sS S, upN (sA S) k (sA S k - 1), upN (sU S) k (sU S k), sR S, sN S, sW S)) 0) mB_st (lw_mB hYX hKY hP) (cwV 0 hts gL_law_X1_thrown rfl rfl rfl (by decide +kernel) ⟨Nat.le_of_ble_eq_true rfl, Nat.le_of_ble_eq_true rfl⟩) (va_recv hKY hP (ci := 1) (q0 := 7) rfl rfl) rfl hl.1 rfl (Nat.le_of_ble_eq_true rfl) dL_law_343 ⟨hc0.1, hc0.2⟩ ?_
                refine lv_iload hx hb dL_law_346 (lv_at hl 1 rfl) ?_
                refine lw_same (tgt := 353) hx hb (⟨by omega, by omega⟩) dL_law_348 (by decide) ?_
                refine lv_iload hx hb dL_law_353 (lv_at hl 1 rfl) ?_
                refine pg_if_ne (tgt := 377) hx hb dL_law_355 (by decide) (⟨by omega, by omega⟩) (fun h9 => absurd rfl h9) (fun _ => ?_)
                refine lv_aload_n hx hb dL_law_358 rfl (lv_at hl 5 rfl) ?_
                refine lv_iconst (v := iI 0) hx hb dL_law_359 rfl ?_
                refine pg_lld0 hx hb hKJ hP 0 2 rfl rfl dL_law_360 ?_
                refine lv_iload hx hb dL_law_361 (lv_at hl 0 rfl) ?_
                refine lw_lbool hx hb (by omega) dL_law_363 dL_law_366 dL_law_367 dL_law_370 ?_
                refine lw_leq (tgt := 377) hx hb rfl dL_law_371 dL_law_372 (by decide) ?_
                refine lv_goto (tgt := 2002) hx hb dL_law_377 (by decide) ?_
                exact pg_widen (Nat.le_succ _) (Nat.le_add_right _ 6) (kk ((sS S, upN (sA S) k (sA S k - 1), upN (sU S) k (sU S k), sR S, sN S, sW S)) 0 ((vp_updL f 0 (lI 1))) g H locs ls ⟨hP, hD, hS, ⟨hok.1, upN_le hok.2.1 (by omega), upN_le hok.2.2.1 (by omega), hok.2.2.2⟩⟩ (lv_sub hl [2, 3, 4, 5, 6, 7] rfl))
            · skip
              refine lv_aload_n hx hb dL_law_303 rfl (lv_at hl 1 rfl) ?_
              refine lw_sc (j := i + 1) (v := ((k : Nat) : Int)) hx hb hX hbl hbA hS (lv_at hl 0 rfl) (lv_at hl 5 rfl) (by omega) (by omega) hL hv1 dL_law_304 dL_law_305 dL_law_307 dL_law_308 dL_law_309 ?_
              refine lw_sc (j := i + 2) (v := v2) hx hb hX hbl hbA hS (lv_at hl 0 rfl) (lv_at hl 5 rfl) (by omega) (by omega) hL hv2 dL_law_310 dL_law_311 dL_law_313 dL_law_314 dL_law_315 ?_
              refine lv_i2c (v := iI w) hx hb dL_law_316 hw ?_
              refine lv_aload_n hx hb dL_law_317 rfl (lv_at hl 3 rfl) ?_
              refine pg_wcallH (As := [.ref ((xa X 0)), .int (iI (((k : Nat) : Int))), .int (iI w), .ref aJ]) (rest := []) (l1 := []) (l2 := lwW X Y S S t (lwJ aJ cJ f) (lwD aD cD g)) (w := []) (w' := []) SC (c_L_step_3 l hfl s.heap.size X S k hk h3 w hwi (⟨hw110, hw115, hw101, hw119⟩) aJ) xW_st (lw_xW hKX hP hS hE hN) (vx_cwSW 4 hts gL_law_L_step rfl rfl rfl (by decide +kernel) ⟨Nat.le_of_ble_eq_true rfl, Nat.le_of_ble_eq_true rfl⟩) (va_K.sub hKX [] rfl) hP hD hS rfl rfl hl.1 rfl (Nat.le_of_ble_eq_true rfl) dL_law_318 ⟨hce.1, hce.2⟩ (fun H locs hP hD hS => ?_)
              have hP : va_P (xG X) vwCl (lwW X Y S S t (lwJ aJ cJ f) (lwD aD cD g)) H := hP
              have hD : va_D (fun q => s.heap.size ≤ q) (lwW X Y S S t (lwJ aJ cJ f) (lwD aD cD g)) := hD
              refine lv_istore (lv' := [(6, .int (iI 3)), (0, .ref b), (1, .ref ((xa X 0))), (2, .ref ((xa Y 0))), (3, .ref aJ), (4, .ref aD), (5, .int (iI ((i : Int))))]) hx hb dL_law_321 hl (by decide) rfl (fun ls hl => ?_)
              refine lv_aload_n hx hb dL_law_323 rfl (lv_at hl 3 rfl) ?_
              refine lw_sc (j := i + 1) (v := ((k : Nat) : Int)) hx hb hX hbl hbA hS (lv_at hl 1 rfl) (lv_at hl 6 rfl) (by omega) (by omega) hL hv1 dL_law_324 dL_law_325 dL_law_327 dL_law_328 dL_law_329 ?_
              refine lw_sc (j := i + 2) (v := v2) hx hb hX hbl hbA hS (lv_at hl 1 rfl) (lv_at hl 6 rfl) (by omega) (by omega) hL hv2 dL_law_330 dL_law_331 dL_law_333 dL_law_334 dL_law_335 ?_
              refine lv_i2c (v := iI w) hx hb dL_law_336 hw ?_
              refine pg_wcallV (As := [.int (iI (((k : Nat) : Int))), .int (iI w)]) (rest := []) (l1 := (lwJ aJ cJ f) :: (xC X S ++ [(lwD aD cD g)])) (l2 := []) (w := mC Y S t) (w' := mC Y S 3) SC (pg_cY hYX (c_X1_step_3 l Y S t k hk h3 w hwi (⟨hw110, hw115, hw101, hw119⟩))) pT_st pT_h (cwV 2 hts gL_law_X1_step rfl rfl rfl (by decide +kernel) ⟨Nat.le_of_ble_eq_true rfl, Nat.le_of_ble_eq_true rfl⟩) (va_recv hKY hP (ci := 1) (q0 := 7) rfl rfl) hKY hP hD hS rfl rfl hl.1 rfl (Nat.le_of_ble_eq_true rfl) dL_law_337 ⟨hce.1, hce.2⟩ (fun H locs hP hD hS => ?_)
              have hP : va_P (xG X) vwCl (lwW X Y S S 3 (lwJ aJ cJ f) (lwD aD cD g)) H := hP
              have hD : va_D (fun q => s.heap.size ≤ q) (lwW X Y S S 3 (lwJ aJ cJ f) (lwD aD cD g)) := hD
              refine lv_istore (lv' := [(7, .int (iI 0)), (6, .int (iI 3)), (0, .ref b), (1, .ref ((xa X 0))), (2, .ref ((xa Y 0))), (3, .ref aJ), (4, .ref aD), (5, .int (iI ((i : Int))))]) hx hb dL_law_340 hl (by decide) rfl (fun ls hl => ?_)
              refine lv_aload_n hx hb dL_law_342 rfl (lv_at hl 4 rfl) ?_
              refine pg_callV (As := []) (rest := []) SC (c_X1_thrown l Y S 3) mB_st (lw_mB hYX hKY hP) (cwV 0 hts gL_law_X1_thrown rfl rfl rfl (by decide +kernel) ⟨Nat.le_of_ble_eq_true rfl, Nat.le_of_ble_eq_true rfl⟩) (va_recv hKY hP (ci := 1) (q0 := 7) rfl rfl) rfl hl.1 rfl (Nat.le_of_ble_eq_true rfl) dL_law_343 ⟨hce.1, hce.2⟩ ?_
              refine lv_iload hx hb dL_law_346 (lv_at hl 1 rfl) ?_
              refine lw_same (tgt := 353) hx hb (⟨by omega, by omega⟩) dL_law_348 (by decide) ?_
              refine lv_iload hx hb dL_law_353 (lv_at hl 1 rfl) ?_
              refine pg_if_ne (tgt := 377) hx hb dL_law_355 (by decide) (⟨by omega, by omega⟩) (fun _ => ?_) (fun h9 => absurd h9 (by omega))
              refine lv_goto (tgt := 2002) hx hb dL_law_377 (by decide) ?_
              exact kk S 3 f g H locs ls ⟨hP, hD, hS, hok⟩ (lv_sub hl [2, 3, 4, 5, 6, 7] rfl)
set_option maxRecDepth 100000 in
set_option maxHeartbeats 4000000 in
theorem lw_op3 {p : Program} {l : Launch} {e : Env} {s : State} {m : MethodId} {args : Array Value} {below : List Frame} {meth : Method} {c : Code} {H : Heap} {locs : List Loc} {cells slots : Nat} {Q : State → Prop} {b L : Nat} {xs : Nat → Int32} {X Y : pgX} {cJ cD aJ aD : Nat} (hC : lwK l p s m c args b L xs X Y cJ cD) {i : Nat} (hi : i + 5 ≤ L) {S : pgS} {t : Int} {f : Nat → Int64} {g : Nat → UInt64} (hG : lwG s X Y cJ aJ cD aD S t f g H locs) (hce : cells + 1 ≤ 1047 ∧ slots + 6 ≤ 8369) {ls : Array Slot} (hl : lv_has ls 9 (lwB b X Y aJ aD i)) (kk : ∀ (S1 : pgS) (t1 : Int) (f1 : Nat → Int64) (g1 : Nat → UInt64) (H1 : Heap) (locs1 : List Loc) (ls1 : Array Slot), lwG s X Y cJ aJ cD aD S1 t1 f1 g1 H1 locs1 → lv_has ls1 9 (lwB b X Y aJ aD i) → W p l e room_1 s m args below meth c H1 locs1 (cells + 1) (slots + 6) Q (F0 m 2002 ls1 [])) : W p l e room_1 s m args below meth c H locs cells slots Q (F0 m 380 ls []) := by
  obtain ⟨SC, hfl, hX, hbl, hL, hYX, hKJ, hKD, hKY, hE, hN⟩ := id hC
  obtain ⟨hx, hb, hml, hown, hts⟩ := id SC
  obtain ⟨hP, hD, hS, hok⟩ := id hG
  have hKX : va_K (xG X) vwCl (xTy X) s := va_K.sub hKJ [0, 1] rfl
  have hbA : ¬ s.heap.size ≤ b := by omega
  have hc0 : cells ≤ 1047 ∧ slots ≤ 8369 := by omega
  have hl : lv_has ls 9 [(0, .ref b), (1, .ref ((xa X 0))), (2, .ref ((xa Y 0))), (3, .ref aJ), (4, .ref aD), (5, .int (iI ((i : Int))))] := hl
  obtain ⟨v1, hv1, hq1⟩ : ∃ v : Int, xs (i + 1) = iI v ∧ inI v := ⟨_, iI_self _, inI_self _⟩
  by_cases h1 : v1 < 0 ∨ 12 ≤ v1
  · refine lv_aload_n hx hb dL_law_380 rfl (lv_at hl 1 rfl) ?_
    refine lw_sc (j := i + 1) (v := v1) hx hb hX hbl hbA hS (lv_at hl 0 rfl) (lv_at hl 5 rfl) (by omega) (by omega) hL hv1 dL_law_381 dL_law_382 dL_law_384 dL_law_385 dL_law_386 ?_
    refine lv_aload_n hx hb dL_law_387 rfl (lv_at hl 3 rfl) ?_
    refine pg_wcallH (As := [.ref ((xa X 0)), .int (iI v1), .ref aJ]) (rest := []) (l1 := []) (l2 := lwW X Y S S t (lwJ aJ cJ f) (lwD aD cD g)) (w := []) (w' := []) SC (c_L_isThere_1 l hfl s.heap.size X S v1 hq1 h1 aJ) xW_st (lw_xW hKX hP hS hE hN) (vx_cwSW 3 hts gL_law_L_isThere rfl rfl rfl (by decide +kernel) ⟨Nat.le_of_ble_eq_true rfl, Nat.le_of_ble_eq_true rfl⟩) (va_K.sub hKX [] rfl) hP hD hS rfl rfl hl.1 rfl (Nat.le_of_ble_eq_true rfl) dL_law_388 ⟨hce.1, hce.2⟩ (fun H locs hP hD hS => ?_)
    have hP : va_P (xG X) vwCl (lwW X Y S S t (lwJ aJ cJ f) (lwD aD cD g)) H := hP
    have hD : va_D (fun q => s.heap.size ≤ q) (lwW X Y S S t (lwJ aJ cJ f) (lwD aD cD g)) := hD
    refine lv_istore (lv' := [(6, .int (iI 1)), (0, .ref b), (1, .ref ((xa X 0))), (2, .ref ((xa Y 0))), (3, .ref aJ), (4, .ref aD), (5, .int (iI ((i : Int))))]) hx hb dL_law_391 hl (by decide) rfl (fun ls hl => ?_)
    refine lv_aload_n hx hb dL_law_393 rfl (lv_at hl 3 rfl) ?_
    refine lw_sc (j := i + 1) (v := v1) hx hb hX hbl hbA hS (lv_at hl 1 rfl) (lv_at hl 6 rfl) (by omega) (by omega) hL hv1 dL_law_394 dL_law_395 dL_law_397 dL_law_398 dL_law_399 ?_
    refine pg_wcallV (As := [.int (iI v1)]) (rest := []) (l1 := (lwJ aJ cJ f) :: (xC X S ++ [(lwD aD cD g)])) (l2 := []) (w := mC Y S t) (w' := mC Y S 1) SC (pg_cY hYX (c_X1_isThere_1 l Y S t v1 hq1 h1)) pT_st pT_h (cwV 1 hts gL_law_X1_isThere rfl rfl rfl (by decide +kernel) ⟨Nat.le_of_ble_eq_true rfl, Nat.le_of_ble_eq_true rfl⟩) (va_recv hKY hP (ci := 1) (q0 := 7) rfl rfl) hKY hP hD hS rfl rfl hl.1 rfl (Nat.le_of_ble_eq_true rfl) dL_law_400 ⟨hce.1, hce.2⟩ (fun H locs hP hD hS => ?_)
    have hP : va_P (xG X) vwCl (lwW X Y S S 1 (lwJ aJ cJ f) (lwD aD cD g)) H := hP
    have hD : va_D (fun q => s.heap.size ≤ q) (lwW X Y S S 1 (lwJ aJ cJ f) (lwD aD cD g)) := hD
    refine lv_istore (lv' := [(7, .int (iI 0)), (6, .int (iI 1)), (0, .ref b), (1, .ref ((xa X 0))), (2, .ref ((xa Y 0))), (3, .ref aJ), (4, .ref aD), (5, .int (iI ((i : Int))))]) hx hb dL_law_403 hl (by decide) rfl (fun ls hl => ?_)
    refine lv_aload_n hx hb dL_law_405 rfl (lv_at hl 4 rfl) ?_
    refine pg_callV (As := []) (rest := []) SC (c_X1_thrown l Y S 1) mB_st (lw_mB hYX hKY hP) (cwV 0 hts gL_law_X1_thrown rfl rfl rfl (by decide +kernel) ⟨Nat.le_of_ble_eq_true rfl, Nat.le_of_ble_eq_true rfl⟩) (va_recv hKY hP (ci := 1) (q0 := 7) rfl rfl) rfl hl.1 rfl (Nat.le_of_ble_eq_true rfl) dL_law_406 ⟨hce.1, hce.2⟩ ?_
    refine lv_iload hx hb dL_law_409 (lv_at hl 1 rfl) ?_
    refine lw_same (tgt := 416) hx hb (⟨by omega, by omega⟩) dL_law_411 (by decide) ?_
    refine lv_iload hx hb dL_law_416 (lv_at hl 1 rfl) ?_
    refine pg_if_ne (tgt := 440) hx hb dL_law_418 (by decide) (⟨by omega, by omega⟩) (fun _ => ?_) (fun h9 => absurd h9 (by omega))
    refine lv_goto (tgt := 2002) hx hb dL_law_440 (by decide) ?_
    exact kk S 1 f g H locs ls ⟨hP, hD, hS, hok⟩ (lv_sub hl [2, 3, 4, 5, 6, 7] rfl)
  · obtain ⟨k, rfl⟩ : ∃ z : Nat, v1 = (z : Int) := ⟨v1.toNat, by omega⟩
    have hk : k < 12 := by omega
    have hs1 := hok.1 k
    refine lv_aload_n hx hb dL_law_380 rfl (lv_at hl 1 rfl) ?_
    refine lw_sc (j := i + 1) (v := ((k : Nat) : Int)) hx hb hX hbl hbA hS (lv_at hl 0 rfl) (lv_at hl 5 rfl) (by omega) (by omega) hL hv1 dL_law_381 dL_law_382 dL_law_384 dL_law_385 dL_law_386 ?_
    refine lv_aload_n hx hb dL_law_387 rfl (lv_at hl 3 rfl) ?_
    refine pg_wcallH (As := [.ref ((xa X 0)), .int (iI (((k : Nat) : Int))), .ref aJ]) (rest := []) (l1 := []) (l2 := (lwD aD cD g) :: mC Y S t) (w := (lwJ aJ cJ f) :: xC X S) (w' := (lwJ aJ cJ (vp_updL f 0 (lI (((sS S k : Nat) : Int))))) :: xC X S) SC (c_L_isThere_ok l X S hok k hk cJ aJ f) pT_st pT_h (vx_cwSW 3 hts gL_law_L_isThere rfl rfl rfl (by decide +kernel) ⟨Nat.le_of_ble_eq_true rfl, Nat.le_of_ble_eq_true rfl⟩) hKJ hP hD hS rfl rfl hl.1 rfl (Nat.le_of_ble_eq_true rfl) dL_law_388 ⟨hc0.1, hc0.2⟩ (fun H locs hP hD hS => ?_)
    have hP : va_P (xG X) vwCl (lwW X Y S S t (lwJ aJ cJ (vp_updL f 0 (lI (((sS S k : Nat) : Int))))) (lwD aD cD g)) H := hP
    have hD : va_D (fun q => s.heap.size ≤ q) (lwW X Y S S t (lwJ aJ cJ (vp_updL f 0 (lI (((sS S k : Nat) : Int))))) (lwD aD cD g)) := hD
    refine lv_istore (lv' := [(6, .int (iI 0)), (0, .ref b), (1, .ref ((xa X 0))), (2, .ref ((xa Y 0))), (3, .ref aJ), (4, .ref aD), (5, .int (iI ((i : Int))))]) hx hb dL_law_391 hl (by decide) rfl (fun ls hl => ?_)
    refine lv_aload_n hx hb dL_law_393 rfl (lv_at hl 3 rfl) ?_
    refine lw_sc (j := i + 1) (v := ((k : Nat) : Int)) hx hb hX hbl hbA hS (lv_at hl 1 rfl) (lv_at hl 6 rfl) (by omega) (by omega) hL hv1 dL_law_394 dL_law_395 dL_law_397 dL_law_398 dL_law_399 ?_
    refine pg_wcallV (As := [.int (iI (((k : Nat) : Int)))]) (rest := []) (l1 := (lwJ aJ cJ (vp_updL f 0 (lI (((sS S k : Nat) : Int))))) :: (xC X S ++ [(lwD aD cD g)])) (l2 := []) (w := mC Y S t) (w' := mC Y S 0) SC (pg_cY hYX (c_X1_isThere_ok l Y S t hok k hk)) pT_st pT_h (cwV 1 hts gL_law_X1_isThere rfl rfl rfl (by decide +kernel) ⟨Nat.le_of_ble_eq_true rfl, Nat.le_of_ble_eq_true rfl⟩) (va_recv hKY hP (ci := 1) (q0 := 7) rfl rfl) hKY hP hD hS rfl rfl hl.1 rfl (Nat.le_of_ble_eq_true rfl) dL_law_400 ⟨hc0.1, hc0.2⟩ (fun H locs hP hD hS => ?_)
    have hP : va_P (xG X) vwCl (lwW X Y S S 0 (lwJ aJ cJ (vp_updL f 0 (lI (((sS S k : Nat) : Int))))) (lwD aD cD g)) H := hP
    have hD : va_D (fun q => s.heap.size ≤ q) (lwW X Y S S 0 (lwJ aJ cJ (vp_updL f 0 (lI (((sS S k : Nat) : Int))))) (lwD aD cD g)) := hD
    refine lv_istore (lv' := [(7, .int (iI (((sS S k : Nat) : Int)))), (6, .int (iI 0)), (0, .ref b), (1, .ref ((xa X 0))), (2, .ref ((xa Y 0))), (3, .ref aJ), (4, .ref aD), (5, .int (iI ((i : Int))))]) hx hb dL_law_403 hl (by decide) rfl (fun ls hl => ?_)
    refine lv_aload_n hx hb dL_law_405 rfl (lv_at hl 4 rfl) ?_
    refine pg_callV (As := []) (rest := []) SC (c_X1_thrown l Y S 0) mB_st (lw_mB hYX hKY hP) (cwV 0 hts gL_law_X1_thrown rfl rfl rfl (by decide +kernel) ⟨Nat.le_of_ble_eq_true rfl, Nat.le_of_ble_eq_true rfl⟩) (va_recv hKY hP (ci := 1) (q0 := 7) rfl rfl) rfl hl.1 rfl (Nat.le_of_ble_eq_true rfl) dL_law_406 ⟨hc0.1, hc0.2⟩ ?_
    refine lv_iload hx hb dL_law_409 (lv_at hl 1 rfl) ?_
    refine lw_same (tgt := 416) hx hb (⟨by omega, by omega⟩) dL_law_411 (by decide) ?_
    refine lv_iload hx hb dL_law_416 (lv_at hl 1 rfl) ?_
    refine pg_if_ne (tgt := 440) hx hb dL_law_418 (by decide) (⟨by omega, by omega⟩) (fun h9 => absurd rfl h9) (fun _ => ?_)
    refine lv_aload_n hx hb dL_law_421 rfl (lv_at hl 5 rfl) ?_
    refine lv_iconst (v := iI 0) hx hb dL_law_422 rfl ?_
    refine pg_lld0 hx hb hKJ hP 0 2 rfl rfl dL_law_423 ?_
    refine lv_iload hx hb dL_law_424 (lv_at hl 0 rfl) ?_
    refine lw_lbool hx hb (by omega) dL_law_426 dL_law_429 dL_law_430 dL_law_433 ?_
    refine lw_leq (tgt := 440) hx hb rfl dL_law_434 dL_law_435 (by decide) ?_
    refine lv_goto (tgt := 2002) hx hb dL_law_440 (by decide) ?_
    exact pg_widen (Nat.le_succ _) (Nat.le_add_right _ 6) (kk S 0 ((vp_updL f 0 (lI (((sS S k : Nat) : Int))))) g H locs ls ⟨hP, hD, hS, hok⟩ (lv_sub hl [2, 3, 4, 5, 6, 7] rfl))
set_option maxRecDepth 100000 in
set_option maxHeartbeats 4000000 in
theorem lw_op4 {p : Program} {l : Launch} {e : Env} {s : State} {m : MethodId} {args : Array Value} {below : List Frame} {meth : Method} {c : Code} {H : Heap} {locs : List Loc} {cells slots : Nat} {Q : State → Prop} {b L : Nat} {xs : Nat → Int32} {X Y : pgX} {cJ cD aJ aD : Nat} (hC : lwK l p s m c args b L xs X Y cJ cD) {i : Nat} (hi : i + 5 ≤ L) {S : pgS} {t : Int} {f : Nat → Int64} {g : Nat → UInt64} (hG : lwG s X Y cJ aJ cD aD S t f g H locs) (hce : cells + 1 ≤ 1047 ∧ slots + 6 ≤ 8369) {ls : Array Slot} (hl : lv_has ls 9 (lwB b X Y aJ aD i)) (kk : ∀ (S1 : pgS) (t1 : Int) (f1 : Nat → Int64) (g1 : Nat → UInt64) (H1 : Heap) (locs1 : List Loc) (ls1 : Array Slot), lwG s X Y cJ aJ cD aD S1 t1 f1 g1 H1 locs1 → lv_has ls1 9 (lwB b X Y aJ aD i) → W p l e room_1 s m args below meth c H1 locs1 (cells + 1) (slots + 6) Q (F0 m 2002 ls1 [])) : W p l e room_1 s m args below meth c H locs cells slots Q (F0 m 443 ls []) := by
  obtain ⟨SC, hfl, hX, hbl, hL, hYX, hKJ, hKD, hKY, hE, hN⟩ := id hC
  obtain ⟨hx, hb, hml, hown, hts⟩ := id SC
  obtain ⟨hP, hD, hS, hok⟩ := id hG
  have hKX : va_K (xG X) vwCl (xTy X) s := va_K.sub hKJ [0, 1] rfl
  have hbA : ¬ s.heap.size ≤ b := by omega
  have hc0 : cells ≤ 1047 ∧ slots ≤ 8369 := by omega
  have hl : lv_has ls 9 [(0, .ref b), (1, .ref ((xa X 0))), (2, .ref ((xa Y 0))), (3, .ref aJ), (4, .ref aD), (5, .int (iI ((i : Int))))] := hl
  obtain ⟨v1, hv1, hq1⟩ : ∃ v : Int, xs (i + 1) = iI v ∧ inI v := ⟨_, iI_self _, inI_self _⟩
  by_cases h1 : v1 < 0 ∨ 12 ≤ v1
  · refine lv_aload_n hx hb dL_law_443 rfl (lv_at hl 1 rfl) ?_
    refine lw_sc (j := i + 1) (v := v1) hx hb hX hbl hbA hS (lv_at hl 0 rfl) (lv_at hl 5 rfl) (by omega) (by omega) hL hv1 dL_law_444 dL_law_445 dL_law_447 dL_law_448 dL_law_449 ?_
    refine lv_aload_n hx hb dL_law_450 rfl (lv_at hl 3 rfl) ?_
    refine pg_wcallH (As := [.ref ((xa X 0)), .int (iI v1), .ref aJ]) (rest := []) (l1 := []) (l2 := lwW X Y S S t (lwJ aJ cJ f) (lwD aD cD g)) (w := []) (w' := []) SC (c_L_placeOf_1 l hfl s.heap.size X S v1 hq1 h1 aJ) xW_st (lw_xW hKX hP hS hE hN) (vx_cwSW 3 hts gL_law_L_placeOf rfl rfl rfl (by decide +kernel) ⟨Nat.le_of_ble_eq_true rfl, Nat.le_of_ble_eq_true rfl⟩) (va_K.sub hKX [] rfl) hP hD hS rfl rfl hl.1 rfl (Nat.le_of_ble_eq_true rfl) dL_law_451 ⟨hce.1, hce.2⟩ (fun H locs hP hD hS => ?_)
    have hP : va_P (xG X) vwCl (lwW X Y S S t (lwJ aJ cJ f) (lwD aD cD g)) H := hP
    have hD : va_D (fun q => s.heap.size ≤ q) (lwW X Y S S t (lwJ aJ cJ f) (lwD aD cD g)) := hD
    refine lv_istore (lv' := [(6, .int (iI 1)), (0, .ref b), (1, .ref ((xa X 0))), (2, .ref ((xa Y 0))), (3, .ref aJ), (4, .ref aD), (5, .int (iI ((i : Int))))]) hx hb dL_law_454 hl (by decide) rfl (fun ls hl => ?_)
    refine lv_aload_n hx hb dL_law_456 rfl (lv_at hl 3 rfl) ?_
    refine lw_sc (j := i + 1) (v := v1) hx hb hX hbl hbA hS (lv_at hl 1 rfl) (lv_at hl 6 rfl) (by omega) (by omega) hL hv1 dL_law_457 dL_law_458 dL_law_460 dL_law_461 dL_law_462 ?_
    refine pg_wcallV (As := [.int (iI v1)]) (rest := []) (l1 := (lwJ aJ cJ f) :: (xC X S ++ [(lwD aD cD g)])) (l2 := []) (w := mC Y S t) (w' := mC Y S 1) SC (pg_cY hYX (c_X1_placeOf_1 l Y S t v1 hq1 h1)) pT_st pT_h (cwV 1 hts gL_law_X1_placeOf rfl rfl rfl (by decide +kernel) ⟨Nat.le_of_ble_eq_true rfl, Nat.le_of_ble_eq_true rfl⟩) (va_recv hKY hP (ci := 1) (q0 := 7) rfl rfl) hKY hP hD hS rfl rfl hl.1 rfl (Nat.le_of_ble_eq_true rfl) dL_law_463 ⟨hce.1, hce.2⟩ (fun H locs hP hD hS => ?_)
    have hP : va_P (xG X) vwCl (lwW X Y S S 1 (lwJ aJ cJ f) (lwD aD cD g)) H := hP
    have hD : va_D (fun q => s.heap.size ≤ q) (lwW X Y S S 1 (lwJ aJ cJ f) (lwD aD cD g)) := hD
    refine lv_istore (lv' := [(7, .int (iI 0)), (6, .int (iI 1)), (0, .ref b), (1, .ref ((xa X 0))), (2, .ref ((xa Y 0))), (3, .ref aJ), (4, .ref aD), (5, .int (iI ((i : Int))))]) hx hb dL_law_466 hl (by decide) rfl (fun ls hl => ?_)
    refine lv_aload_n hx hb dL_law_468 rfl (lv_at hl 4 rfl) ?_
    refine pg_callV (As := []) (rest := []) SC (c_X1_thrown l Y S 1) mB_st (lw_mB hYX hKY hP) (cwV 0 hts gL_law_X1_thrown rfl rfl rfl (by decide +kernel) ⟨Nat.le_of_ble_eq_true rfl, Nat.le_of_ble_eq_true rfl⟩) (va_recv hKY hP (ci := 1) (q0 := 7) rfl rfl) rfl hl.1 rfl (Nat.le_of_ble_eq_true rfl) dL_law_469 ⟨hce.1, hce.2⟩ ?_
    refine lv_iload hx hb dL_law_472 (lv_at hl 1 rfl) ?_
    refine lw_same (tgt := 479) hx hb (⟨by omega, by omega⟩) dL_law_474 (by decide) ?_
    refine lv_iload hx hb dL_law_479 (lv_at hl 1 rfl) ?_
    refine pg_if_ne (tgt := 496) hx hb dL_law_481 (by decide) (⟨by omega, by omega⟩) (fun _ => ?_) (fun h9 => absurd h9 (by omega))
    refine lv_goto (tgt := 2002) hx hb dL_law_496 (by decide) ?_
    exact kk S 1 f g H locs ls ⟨hP, hD, hS, hok⟩ (lv_sub hl [2, 3, 4, 5, 6, 7] rfl)
  · obtain ⟨k, rfl⟩ : ∃ z : Nat, v1 = (z : Int) := ⟨v1.toNat, by omega⟩
    have hk : k < 12 := by omega
    have hs1 := hok.1 k
    by_cases h2 : sS S k = 0
    · refine lv_aload_n hx hb dL_law_443 rfl (lv_at hl 1 rfl) ?_
      refine lw_sc (j := i + 1) (v := ((k : Nat) : Int)) hx hb hX hbl hbA hS (lv_at hl 0 rfl) (lv_at hl 5 rfl) (by omega) (by omega) hL hv1 dL_law_444 dL_law_445 dL_law_447 dL_law_448 dL_law_449 ?_
      refine lv_aload_n hx hb dL_law_450 rfl (lv_at hl 3 rfl) ?_
      refine pg_wcallH (As := [.ref ((xa X 0)), .int (iI (((k : Nat) : Int))), .ref aJ]) (rest := []) (l1 := []) (l2 := lwW X Y S S t (lwJ aJ cJ f) (lwD aD cD g)) (w := []) (w' := []) SC (c_L_placeOf_2 l hfl s.heap.size X S k hk h2 aJ) xW_st (lw_xW hKX hP hS hE hN) (vx_cwSW 3 hts gL_law_L_placeOf rfl rfl rfl (by decide +kernel) ⟨Nat.le_of_ble_eq_true rfl, Nat.le_of_ble_eq_true rfl⟩) (va_K.sub hKX [] rfl) hP hD hS rfl rfl hl.1 rfl (Nat.le_of_ble_eq_true rfl) dL_law_451 ⟨hce.1, hce.2⟩ (fun H locs hP hD hS => ?_)
      have hP : va_P (xG X) vwCl (lwW X Y S S t (lwJ aJ cJ f) (lwD aD cD g)) H := hP
      have hD : va_D (fun q => s.heap.size ≤ q) (lwW X Y S S t (lwJ aJ cJ f) (lwD aD cD g)) := hD
      refine lv_istore (lv' := [(6, .int (iI 2)), (0, .ref b), (1, .ref ((xa X 0))), (2, .ref ((xa Y 0))), (3, .ref aJ), (4, .ref aD), (5, .int (iI ((i : Int))))]) hx hb dL_law_454 hl (by decide) rfl (fun ls hl => ?_)
      refine lv_aload_n hx hb dL_law_456 rfl (lv_at hl 3 rfl) ?_
      refine lw_sc (j := i + 1) (v := ((k : Nat) : Int)) hx hb hX hbl hbA hS (lv_at hl 1 rfl) (lv_at hl 6 rfl) (by omega) (by omega) hL hv1 dL_law_457 dL_law_458 dL_law_460 dL_law_461 dL_law_462 ?_
      refine pg_wcallV (As := [.int (iI (((k : Nat) : Int)))]) (rest := []) (l1 := (lwJ aJ cJ f) :: (xC X S ++ [(lwD aD cD g)])) (l2 := []) (w := mC Y S t) (w' := mC Y S 2) SC (pg_cY hYX (c_X1_placeOf_2 l Y S t k hk h2)) pT_st pT_h (cwV 1 hts gL_law_X1_placeOf rfl rfl rfl (by decide +kernel) ⟨Nat.le_of_ble_eq_true rfl, Nat.le_of_ble_eq_true rfl⟩) (va_recv hKY hP (ci := 1) (q0 := 7) rfl rfl) hKY hP hD hS rfl rfl hl.1 rfl (Nat.le_of_ble_eq_true rfl) dL_law_463 ⟨hce.1, hce.2⟩ (fun H locs hP hD hS => ?_)
      have hP : va_P (xG X) vwCl (lwW X Y S S 2 (lwJ aJ cJ f) (lwD aD cD g)) H := hP
      have hD : va_D (fun q => s.heap.size ≤ q) (lwW X Y S S 2 (lwJ aJ cJ f) (lwD aD cD g)) := hD
      refine lv_istore (lv' := [(7, .int (iI 0)), (6, .int (iI 2)), (0, .ref b), (1, .ref ((xa X 0))), (2, .ref ((xa Y 0))), (3, .ref aJ), (4, .ref aD), (5, .int (iI ((i : Int))))]) hx hb dL_law_466 hl (by decide) rfl (fun ls hl => ?_)
      refine lv_aload_n hx hb dL_law_468 rfl (lv_at hl 4 rfl) ?_
      refine pg_callV (As := []) (rest := []) SC (c_X1_thrown l Y S 2) mB_st (lw_mB hYX hKY hP) (cwV 0 hts gL_law_X1_thrown rfl rfl rfl (by decide +kernel) ⟨Nat.le_of_ble_eq_true rfl, Nat.le_of_ble_eq_true rfl⟩) (va_recv hKY hP (ci := 1) (q0 := 7) rfl rfl) rfl hl.1 rfl (Nat.le_of_ble_eq_true rfl) dL_law_469 ⟨hce.1, hce.2⟩ ?_
      refine lv_iload hx hb dL_law_472 (lv_at hl 1 rfl) ?_
      refine lw_same (tgt := 479) hx hb (⟨by omega, by omega⟩) dL_law_474 (by decide) ?_
      refine lv_iload hx hb dL_law_479 (lv_at hl 1 rfl) ?_
      refine pg_if_ne (tgt := 496) hx hb dL_law_481 (by decide) (⟨by omega, by omega⟩) (fun _ => ?_) (fun h9 => absurd h9 (by omega))
      refine lv_goto (tgt := 2002) hx hb dL_law_496 (by decide) ?_
      exact kk S 2 f g H locs ls ⟨hP, hD, hS, hok⟩ (lv_sub hl [2, 3, 4, 5, 6, 7] rfl)
    · have h3 : sS S k = 1 := by omega
      have hA1 := hok.2.1 k
      have hU1 := hok.2.2.1 k
      refine lv_aload_n hx hb dL_law_443 rfl (lv_at hl 1 rfl) ?_
      refine lw_sc (j := i + 1) (v := ((k : Nat) : Int)) hx hb hX hbl hbA hS (lv_at hl 0 rfl) (lv_at hl 5 rfl) (by omega) (by omega) hL hv1 dL_law_444 dL_law_445 dL_law_447 dL_law_448 dL_law_449 ?_
      refine lv_aload_n hx hb dL_law_450 rfl (lv_at hl 3 rfl) ?_
      refine pg_wcallH (As := [.ref ((xa X 0)), .int (iI (((k : Nat) : Int))), .ref aJ]) (rest := []) (l1 := []) (l2 := (lwD aD cD g) :: mC Y S t) (w := (lwJ aJ cJ f) :: xC X S) (w' := (lwJ aJ cJ (vp_updL f 0 (lI (((sU S k * 91 + sA S k : Nat) : Int))))) :: xC X S) SC (c_L_placeOf_ok l X S k hk h3 hok cJ aJ f) pT_st pT_h (vx_cwSW 3 hts gL_law_L_placeOf rfl rfl rfl (by decide +kernel) ⟨Nat.le_of_ble_eq_true rfl, Nat.le_of_ble_eq_true rfl⟩) hKJ hP hD hS rfl rfl hl.1 rfl (Nat.le_of_ble_eq_true rfl) dL_law_451 ⟨hc0.1, hc0.2⟩ (fun H locs hP hD hS => ?_)
      have hP : va_P (xG X) vwCl (lwW X Y S S t (lwJ aJ cJ (vp_updL f 0 (lI (((sU S k * 91 + sA S k : Nat) : Int))))) (lwD aD cD g)) H := hP
      have hD : va_D (fun q => s.heap.size ≤ q) (lwW X Y S S t (lwJ aJ cJ (vp_updL f 0 (lI (((sU S k * 91 + sA S k : Nat) : Int))))) (lwD aD cD g)) := hD
      refine lv_istore (lv' := [(6, .int (iI 0)), (0, .ref b), (1, .ref ((xa X 0))), (2, .ref ((xa Y 0))), (3, .ref aJ), (4, .ref aD), (5, .int (iI ((i : Int))))]) hx hb dL_law_454 hl (by decide) rfl (fun ls hl => ?_)
      refine lv_aload_n hx hb dL_law_456 rfl (lv_at hl 3 rfl) ?_
      refine lw_sc (j := i + 1) (v := ((k : Nat) : Int)) hx hb hX hbl hbA hS (lv_at hl 1 rfl) (lv_at hl 6 rfl) (by omega) (by omega) hL hv1 dL_law_457 dL_law_458 dL_law_460 dL_law_461 dL_law_462 ?_
      refine pg_wcallV (As := [.int (iI (((k : Nat) : Int)))]) (rest := []) (l1 := (lwJ aJ cJ (vp_updL f 0 (lI (((sU S k * 91 + sA S k : Nat) : Int))))) :: (xC X S ++ [(lwD aD cD g)])) (l2 := []) (w := mC Y S t) (w' := mC Y S 0) SC (pg_cY hYX (c_X1_placeOf_ok l Y S t k hk h3)) pT_st pT_h (cwV 1 hts gL_law_X1_placeOf rfl rfl rfl (by decide +kernel) ⟨Nat.le_of_ble_eq_true rfl, Nat.le_of_ble_eq_true rfl⟩) (va_recv hKY hP (ci := 1) (q0 := 7) rfl rfl) hKY hP hD hS rfl rfl hl.1 rfl (Nat.le_of_ble_eq_true rfl) dL_law_463 ⟨hc0.1, hc0.2⟩ (fun H locs hP hD hS => ?_)
      have hP : va_P (xG X) vwCl (lwW X Y S S 0 (lwJ aJ cJ (vp_updL f 0 (lI (((sU S k * 91 + sA S k : Nat) : Int))))) (lwD aD cD g)) H := hP
      have hD : va_D (fun q => s.heap.size ≤ q) (lwW X Y S S 0 (lwJ aJ cJ (vp_updL f 0 (lI (((sU S k * 91 + sA S k : Nat) : Int))))) (lwD aD cD g)) := hD
      refine lv_istore (lv' := [(7, .int (iI (((sU S k * 91 + sA S k : Nat) : Int)))), (6, .int (iI 0)), (0, .ref b), (1, .ref ((xa X 0))), (2, .ref ((xa Y 0))), (3, .ref aJ), (4, .ref aD), (5, .int (iI ((i : Int))))]) hx hb dL_law_466 hl (by decide) rfl (fun ls hl => ?_)
      refine lv_aload_n hx hb dL_law_468 rfl (lv_at hl 4 rfl) ?_
      refine pg_callV (As := []) (rest := []) SC (c_X1_thrown l Y S 0) mB_st (lw_mB hYX hKY hP) (cwV 0 hts gL_law_X1_thrown rfl rfl rfl (by decide +kernel) ⟨Nat.le_of_ble_eq_true rfl, Nat.le_of_ble_eq_true rfl⟩) (va_recv hKY hP (ci := 1) (q0 := 7) rfl rfl) rfl hl.1 rfl (Nat.le_of_ble_eq_true rfl) dL_law_469 ⟨hc0.1, hc0.2⟩ ?_
      refine lv_iload hx hb dL_law_472 (lv_at hl 1 rfl) ?_
      refine lw_same (tgt := 479) hx hb (⟨by omega, by omega⟩) dL_law_474 (by decide) ?_
      refine lv_iload hx hb dL_law_479 (lv_at hl 1 rfl) ?_
      refine pg_if_ne (tgt := 496) hx hb dL_law_481 (by decide) (⟨by omega, by omega⟩) (fun h9 => absurd rfl h9) (fun _ => ?_)
      refine lv_aload_n hx hb dL_law_484 rfl (lv_at hl 5 rfl) ?_
      refine lv_iconst (v := iI 0) hx hb dL_law_485 rfl ?_
      refine pg_lld0 hx hb hKJ hP 0 2 rfl rfl dL_law_486 ?_
      refine lv_iload hx hb dL_law_487 (lv_at hl 0 rfl) ?_
      refine pg_i2l hx hb dL_law_489 (⟨by omega, by omega⟩) ?_
      refine lw_leq (tgt := 496) hx hb rfl dL_law_490 dL_law_491 (by decide) ?_
      refine lv_goto (tgt := 2002) hx hb dL_law_496 (by decide) ?_
      exact pg_widen (Nat.le_succ _) (Nat.le_add_right _ 6) (kk S 0 ((vp_updL f 0 (lI (((sU S k * 91 + sA S k : Nat) : Int))))) g H locs ls ⟨hP, hD, hS, hok⟩ (lv_sub hl [2, 3, 4, 5, 6, 7] rfl))
set_option maxRecDepth 100000 in
set_option maxHeartbeats 4000000 in
theorem lw_op5 {p : Program} {l : Launch} {e : Env} {s : State} {m : MethodId} {args : Array Value} {below : List Frame} {meth : Method} {c : Code} {H : Heap} {locs : List Loc} {cells slots : Nat} {Q : State → Prop} {b L : Nat} {xs : Nat → Int32} {X Y : pgX} {cJ cD aJ aD : Nat} (hC : lwK l p s m c args b L xs X Y cJ cD) {i : Nat} (hi : i + 5 ≤ L) {S : pgS} {t : Int} {f : Nat → Int64} {g : Nat → UInt64} (hG : lwG s X Y cJ aJ cD aD S t f g H locs) (hce : cells + 1 ≤ 1047 ∧ slots + 6 ≤ 8369) {ls : Array Slot} (hl : lv_has ls 9 (lwB b X Y aJ aD i)) (kk : ∀ (S1 : pgS) (t1 : Int) (f1 : Nat → Int64) (g1 : Nat → UInt64) (H1 : Heap) (locs1 : List Loc) (ls1 : Array Slot), lwG s X Y cJ aJ cD aD S1 t1 f1 g1 H1 locs1 → lv_has ls1 9 (lwB b X Y aJ aD i) → W p l e room_1 s m args below meth c H1 locs1 (cells + 1) (slots + 6) Q (F0 m 2002 ls1 [])) : W p l e room_1 s m args below meth c H locs cells slots Q (F0 m 499 ls []) := by
  obtain ⟨SC, hfl, hX, hbl, hL, hYX, hKJ, hKD, hKY, hE, hN⟩ := id hC
  obtain ⟨hx, hb, hml, hown, hts⟩ := id SC
  obtain ⟨hP, hD, hS, hok⟩ := id hG
  have hKX : va_K (xG X) vwCl (xTy X) s := va_K.sub hKJ [0, 1] rfl
  have hbA : ¬ s.heap.size ≤ b := by omega
  have hc0 : cells ≤ 1047 ∧ slots ≤ 8369 := by omega
  have hl : lv_has ls 9 [(0, .ref b), (1, .ref ((xa X 0))), (2, .ref ((xa Y 0))), (3, .ref aJ), (4, .ref aD), (5, .int (iI ((i : Int))))] := hl
  have hb1 := cnt_le hok.1 12
  refine lv_aload_n hx hb dL_law_499 rfl (lv_at hl 1 rfl) ?_
  refine pg_callV (As := []) (rest := []) SC (c_X0_count l X S hok) xB_st (xB_h (lw_hX hP) hKX) (cwV 0 hts gL_law_X0_count rfl rfl rfl (by decide +kernel) ⟨Nat.le_of_ble_eq_true rfl, Nat.le_of_ble_eq_true rfl⟩) (va_recv hKX hP (ci := 0) (q0 := 1) rfl rfl) rfl hl.1 rfl (Nat.le_of_ble_eq_true rfl) dL_law_500 ⟨hc0.1, hc0.2⟩ ?_
  refine lv_aload_n hx hb dL_law_503 rfl (lv_at hl 2 rfl) ?_
  refine pg_callV (As := []) (rest := [.int (iI (((cnt S 12 : Nat) : Int)))]) SC (c_X1_count l Y S t hok) mB_st (lw_mB hYX hKY hP) (cwV 0 hts gL_law_X1_count rfl rfl rfl (by decide +kernel) ⟨Nat.le_of_ble_eq_true rfl, Nat.le_of_ble_eq_true rfl⟩) (va_recv hKY hP (ci := 1) (q0 := 7) rfl rfl) rfl hl.1 rfl (Nat.le_of_ble_eq_true rfl) dL_law_504 ⟨hc0.1, hc0.2⟩ ?_
  refine lw_same (tgt := 2002) hx hb (⟨by omega, by omega⟩) dL_law_507 (by decide) ?_
  exact pg_widen (Nat.le_succ _) (Nat.le_add_right _ 6) (kk S t f g H locs ls ⟨hP, hD, hS, hok⟩ (lv_sub hl [0, 1, 2, 3, 4, 5] rfl))
set_option maxRecDepth 100000 in
set_option maxHeartbeats 4000000 in
theorem lw_op6 {p : Program} {l : Launch} {e : Env} {s : State} {m : MethodId} {args : Array Value} {below : List Frame} {meth : Method} {c : Code} {H : Heap} {locs : List Loc} {cells slots : Nat} {Q : State → Prop} {b L : Nat} {xs : Nat → Int32} {X Y : pgX} {cJ cD aJ aD : Nat} (hC : lwK l p s m c args b L xs X Y cJ cD) {i : Nat} (hi : i + 5 ≤ L) {S : pgS} {t : Int} {f : Nat → Int64} {g : Nat → UInt64} (hG : lwG s X Y cJ aJ cD aD S t f g H locs) (hce : cells + 1 ≤ 1047 ∧ slots + 6 ≤ 8369) {ls : Array Slot} (hl : lv_has ls 9 (lwB b X Y aJ aD i)) (kk : ∀ (S1 : pgS) (t1 : Int) (f1 : Nat → Int64) (g1 : Nat → UInt64) (H1 : Heap) (locs1 : List Loc) (ls1 : Array Slot), lwG s X Y cJ aJ cD aD S1 t1 f1 g1 H1 locs1 → lv_has ls1 9 (lwB b X Y aJ aD i) → W p l e room_1 s m args below meth c H1 locs1 (cells + 1) (slots + 6) Q (F0 m 2002 ls1 [])) : W p l e room_1 s m args below meth c H locs cells slots Q (F0 m 512 ls []) := by
  obtain ⟨SC, hfl, hX, hbl, hL, hYX, hKJ, hKD, hKY, hE, hN⟩ := id hC
  obtain ⟨hx, hb, hml, hown, hts⟩ := id SC
  obtain ⟨hP, hD, hS, hok⟩ := id hG
  have hKX : va_K (xG X) vwCl (xTy X) s := va_K.sub hKJ [0, 1] rfl
  have hbA : ¬ s.heap.size ≤ b := by omega
  have hc0 : cells ≤ 1047 ∧ slots ≤ 8369 := by omega
  have hl : lv_has ls 9 [(0, .ref b), (1, .ref ((xa X 0))), (2, .ref ((xa Y 0))), (3, .ref aJ), (4, .ref aD), (5, .int (iI ((i : Int))))] := hl
  obtain ⟨v1, hv1, hq1⟩ : ∃ v : Int, xs (i + 1) = iI v ∧ inI v := ⟨_, iI_self _, inI_self _⟩
  obtain ⟨q, hq⟩ : ∃ z : Int, (v1 = 0 ∧ z = 0) ∨ (v1 ≠ 0 ∧ z = 1) := by
    by_cases hz : v1 = 0
    · exact ⟨0, Or.inl ⟨hz, rfl⟩⟩
    · exact ⟨1, Or.inr ⟨hz, rfl⟩⟩
  have hiq : inI q := ⟨by omega, by omega⟩
  obtain ⟨w2, rfl⟩ : ∃ z : Nat, q = (z : Int) := ⟨q.toNat, by omega⟩
  have hw2 : w2 ≤ 1 := by omega
  have hsw := hok.2.2.2.2.2
  obtain ⟨r, hr⟩ : ∃ r : Int, (sW S = w2 ∧ r = 0) ∨ (sW S ≠ w2 ∧ r = 1) := by
    by_cases hz : sW S = w2
    · exact ⟨0, Or.inl ⟨hz, rfl⟩⟩
    · exact ⟨1, Or.inr ⟨hz, rfl⟩⟩
  refine lv_aload_n hx hb dL_law_512 rfl (lv_at hl 1 rfl) ?_
  refine lw_sc (j := i + 1) (v := v1) hx hb hX hbl hbA hS (lv_at hl 0 rfl) (lv_at hl 5 rfl) (by omega) (by omega) hL hv1 dL_law_513 dL_law_514 dL_law_516 dL_law_517 dL_law_518 ?_
  refine lw_bool (b := ((w2 : Nat) : Int)) hx hb (by omega) hq dL_law_519 dL_law_522 dL_law_523 dL_law_526 ?_
  refine pg_wcallV (As := [.int (iI (((w2 : Nat) : Int)))]) (rest := []) (l1 := [(lwJ aJ cJ f)]) (l2 := (lwD aD cD g) :: mC Y S t) (w := xC X S) (w' := xC X ((sS S, sA S, sU S, sR S, sN S, w2))) SC (c_X0_widen l X S w2 r hsw hw2 hr) pT_st pT_h (cwV 1 hts gL_law_X0_widen rfl rfl rfl (by decide +kernel) ⟨Nat.le_of_ble_eq_true rfl, Nat.le_of_ble_eq_true rfl⟩) (va_recv hKX hP (ci := 0) (q0 := 1) rfl rfl) hKX hP hD hS rfl rfl hl.1 rfl (Nat.le_of_ble_eq_true rfl) dL_law_527 ⟨hc0.1, hc0.2⟩ (fun H locs hP hD hS => ?_)
  have hP : va_P (xG X) vwCl (lwW X Y ((sS S, sA S, sU S, sR S, sN S, w2)) S t (lwJ aJ cJ f) (lwD aD cD g)) H := hP
  have hD : va_D (fun q => s.heap.size ≤ q) (lwW X Y ((sS S, sA S, sU S, sR S, sN S, w2)) S t (lwJ aJ cJ f) (lwD aD cD g)) := hD
  refine lv_aload_n hx hb dL_law_530 rfl (lv_at hl 2 rfl) ?_
  refine lw_sc (j := i + 1) (v := v1) hx hb hX hbl hbA hS (lv_at hl 0 rfl) (lv_at hl 5 rfl) (by omega) (by omega) hL hv1 dL_law_531 dL_law_532 dL_law_534 dL_law_535 dL_law_536 ?_
  refine lw_bool (b := ((w2 : Nat) : Int)) hx hb (by omega) hq dL_law_537 dL_law_540 dL_law_541 dL_law_544 ?_
  refine pg_wcallV (As := [.int (iI (((w2 : Nat) : Int)))]) (rest := [.int (iI r)]) (l1 := (lwJ aJ cJ f) :: (xC X ((sS S, sA S, sU S, sR S, sN S, w2)) ++ [(lwD aD cD g)])) (l2 := []) (w := mC Y S t) (w' := mC Y ((sS S, sA S, sU S, sR S, sN S, w2)) t) SC (pg_cY hYX (c_X1_widen l Y S t w2 r hsw hw2 hr)) pT_st pT_h (cwV 1 hts gL_law_X1_widen rfl rfl rfl (by decide +kernel) ⟨Nat.le_of_ble_eq_true rfl, Nat.le_of_ble_eq_true rfl⟩) (va_recv hKY hP (ci := 1) (q0 := 7) rfl rfl) hKY hP hD hS rfl rfl hl.1 rfl (Nat.le_of_ble_eq_true rfl) dL_law_545 ⟨hc0.1, hc0.2⟩ (fun H locs hP hD hS => ?_)
  have hP : va_P (xG X) vwCl (lwW X Y ((sS S, sA S, sU S, sR S, sN S, w2)) ((sS S, sA S, sU S, sR S, sN S, w2)) t (lwJ aJ cJ f) (lwD aD cD g)) H := hP
  have hD : va_D (fun q => s.heap.size ≤ q) (lwW X Y ((sS S, sA S, sU S, sR S, sN S, w2)) ((sS S, sA S, sU S, sR S, sN S, w2)) t (lwJ aJ cJ f) (lwD aD cD g)) := hD
  refine lw_same (tgt := 2002) hx hb (⟨by omega, by omega⟩) dL_law_548 (by decide) ?_
  exact pg_widen (Nat.le_succ _) (Nat.le_add_right _ 6) (kk ((sS S, sA S, sU S, sR S, sN S, w2)) t f g H locs ls ⟨hP, hD, hS, ⟨hok.1, hok.2.1, hok.2.2.1, hok.2.2.2.1, hok.2.2.2.2.1, hw2⟩⟩ (lv_sub hl [0, 1, 2, 3, 4, 5] rfl))
set_option maxRecDepth 100000 in
set_option maxHeartbeats 4000000 in
theorem lw_op7 {p : Program} {l : Launch} {e : Env} {s : State} {m : MethodId} {args : Array Value} {below : List Frame} {meth : Method} {c : Code} {H : Heap} {locs : List Loc} {cells slots : Nat} {Q : State → Prop} {b L : Nat} {xs : Nat → Int32} {X Y : pgX} {cJ cD aJ aD : Nat} (hC : lwK l p s m c args b L xs X Y cJ cD) {i : Nat} (hi : i + 5 ≤ L) {S : pgS} {t : Int} {f : Nat → Int64} {g : Nat → UInt64} (hG : lwG s X Y cJ aJ cD aD S t f g H locs) (hce : cells + 1 ≤ 1047 ∧ slots + 6 ≤ 8369) {ls : Array Slot} (hl : lv_has ls 9 (lwB b X Y aJ aD i)) (kk : ∀ (S1 : pgS) (t1 : Int) (f1 : Nat → Int64) (g1 : Nat → UInt64) (H1 : Heap) (locs1 : List Loc) (ls1 : Array Slot), lwG s X Y cJ aJ cD aD S1 t1 f1 g1 H1 locs1 → lv_has ls1 9 (lwB b X Y aJ aD i) → W p l e room_1 s m args below meth c H1 locs1 (cells + 1) (slots + 6) Q (F0 m 2002 ls1 [])) : W p l e room_1 s m args below meth c H locs cells slots Q (F0 m 553 ls []) := by
  obtain ⟨SC, hfl, hX, hbl, hL, hYX, hKJ, hKD, hKY, hE, hN⟩ := id hC
  obtain ⟨hx, hb, hml, hown, hts⟩ := id SC
  obtain ⟨hP, hD, hS, hok⟩ := id hG
  have hKX : va_K (xG X) vwCl (xTy X) s := va_K.sub hKJ [0, 1] rfl
  have hbA : ¬ s.heap.size ≤ b := by omega
  have hc0 : cells ≤ 1047 ∧ slots ≤ 8369 := by omega
  have hl : lv_has ls 9 [(0, .ref b), (1, .ref ((xa X 0))), (2, .ref ((xa Y 0))), (3, .ref aJ), (4, .ref aD), (5, .int (iI ((i : Int))))] := hl
  obtain ⟨v1, hv1, hq1⟩ : ∃ v : Int, xs (i + 1) = iI v ∧ inI v := ⟨_, iI_self _, inI_self _⟩
  obtain ⟨v2, hv2, hq2⟩ : ∃ v : Int, xs (i + 2) = iI v ∧ inI v := ⟨_, iI_self _, inI_self _⟩
  by_cases h1 : v1 < 0 ∨ 12 ≤ v1 ∨ v2 < 0 ∨ 12 ≤ v2
  · refine lv_aload_n hx hb dL_law_553 rfl (lv_at hl 1 rfl) ?_
    refine lw_sc (j := i + 1) (v := v1) hx hb hX hbl hbA hS (lv_at hl 0 rfl) (lv_at hl 5 rfl) (by omega) (by omega) hL hv1 dL_law_554 dL_law_555 dL_law_557 dL_law_558 dL_law_559 ?_
    refine lw_sc (j := i + 2) (v := v2) hx hb hX hbl hbA hS (lv_at hl 0 rfl) (lv_at hl 5 rfl) (by omega) (by omega) hL hv2 dL_law_560 dL_law_561 dL_law_563 dL_law_564 dL_law_565 ?_
    refine lv_aload_n hx hb dL_law_566 rfl (lv_at hl 3 rfl) ?_
    refine pg_wcallH (As := [.ref ((xa X 0)), .int (iI v1), .int (iI v2), .ref aJ]) (rest := []) (l1 := []) (l2 := lwW X Y S S t (lwJ aJ cJ f) (lwD aD cD g)) (w := []) (w' := []) SC (c_L_stretch_1 l hfl s.heap.size X S v1 v2 hq1 hq2 h1 aJ) xW_st (lw_xW hKX hP hS hE hN) (vx_cwSW 4 hts gL_law_L_stretch rfl rfl rfl (by decide +kernel) ⟨Nat.le_of_ble_eq_true rfl, Nat.le_of_ble_eq_true rfl⟩) (va_K.sub hKX [] rfl) hP hD hS rfl rfl hl.1 rfl (Nat.le_of_ble_eq_true rfl) dL_law_567 ⟨hce.1, hce.2⟩ (fun H locs hP hD hS => ?_)
    have hP : va_P (xG X) vwCl (lwW X Y S S t (lwJ aJ cJ f) (lwD aD cD g)) H := hP
    have hD : va_D (fun q => s.heap.size ≤ q) (lwW X Y S S t (lwJ aJ cJ f) (lwD aD cD g)) := hD
    refine lv_istore (lv' := [(6, .int (iI 1)), (0, .ref b), (1, .ref ((xa X 0))), (2, .ref ((xa Y 0))), (3, .ref aJ), (4, .ref aD), (5, .int (iI ((i : Int))))]) hx hb dL_law_570 hl (by decide) rfl (fun ls hl => ?_)
    refine lv_aload_n hx hb dL_law_572 rfl (lv_at hl 3 rfl) ?_
    refine lw_sc (j := i + 1) (v := v1) hx hb hX hbl hbA hS (lv_at hl 1 rfl) (lv_at hl 6 rfl) (by omega) (by omega) hL hv1 dL_law_573 dL_law_574 dL_law_576 dL_law_577 dL_law_578 ?_
    refine lw_sc (j := i + 2) (v := v2) hx hb hX hbl hbA hS (lv_at hl 1 rfl) (lv_at hl 6 rfl) (by omega) (by omega) hL hv2 dL_law_579 dL_law_580 dL_law_582 dL_law_583 dL_law_584 ?_
    refine pg_wcallV (As := [.int (iI v1), .int (iI v2)]) (rest := []) (l1 := (lwJ aJ cJ f) :: (xC X S ++ [(lwD aD cD g)])) (l2 := []) (w := mC Y S t) (w' := mC Y S 1) SC (pg_cY hYX (c_X1_stretch_1 l Y S t v1 v2 hq1 hq2 h1)) pT_st pT_h (cwV 2 hts gL_law_X1_stretch rfl rfl rfl (by decide +kernel) ⟨Nat.le_of_ble_eq_true rfl, Nat.le_of_ble_eq_true rfl⟩) (va_recv hKY hP (ci := 1) (q0 := 7) rfl rfl) hKY hP hD hS rfl rfl hl.1 rfl (Nat.le_of_ble_eq_true rfl) dL_law_585 ⟨hce.1, hce.2⟩ (fun H locs hP hD hS => ?_)
    have hP : va_P (xG X) vwCl (lwW X Y S S 1 (lwJ aJ cJ f) (lwD aD cD g)) H := hP
    have hD : va_D (fun q => s.heap.size ≤ q) (lwW X Y S S 1 (lwJ aJ cJ f) (lwD aD cD g)) := hD
    refine lv_istore (lv' := [(7, .int (iI 0)), (6, .int (iI 1)), (0, .ref b), (1, .ref ((xa X 0))), (2, .ref ((xa Y 0))), (3, .ref aJ), (4, .ref aD), (5, .int (iI ((i : Int))))]) hx hb dL_law_588 hl (by decide) rfl (fun ls hl => ?_)
    refine lv_aload_n hx hb dL_law_590 rfl (lv_at hl 4 rfl) ?_
    refine pg_callV (As := []) (rest := []) SC (c_X1_thrown l Y S 1) mB_st (lw_mB hYX hKY hP) (cwV 0 hts gL_law_X1_thrown rfl rfl rfl (by decide +kernel) ⟨Nat.le_of_ble_eq_true rfl, Nat.le_of_ble_eq_true rfl⟩) (va_recv hKY hP (ci := 1) (q0 := 7) rfl rfl) rfl hl.1 rfl (Nat.le_of_ble_eq_true rfl) dL_law_591 ⟨hce.1, hce.2⟩ ?_
    refine lv_iload hx hb dL_law_594 (lv_at hl 1 rfl) ?_
    refine lw_same (tgt := 601) hx hb (⟨by omega, by omega⟩) dL_law_596 (by decide) ?_
    refine lv_iload hx hb dL_law_601 (lv_at hl 1 rfl) ?_
    refine pg_if_ne (tgt := 618) hx hb dL_law_603 (by decide) (⟨by omega, by omega⟩) (fun _ => ?_) (fun h9 => absurd h9 (by omega))
    refine lv_goto (tgt := 2002) hx hb dL_law_618 (by decide) ?_
    exact kk S 1 f g H locs ls ⟨hP, hD, hS, hok⟩ (lv_sub hl [2, 3, 4, 5, 6, 7] rfl)
  · obtain ⟨a, rfl⟩ : ∃ z : Nat, v1 = (z : Int) := ⟨v1.toNat, by omega⟩
    obtain ⟨b2, rfl⟩ : ∃ z : Nat, v2 = (z : Int) := ⟨v2.toNat, by omega⟩
    have ha : a < 12 := by omega
    have hb2 : b2 < 12 := by omega
    have hsa := hok.1 a
    have hsb := hok.1 b2
    by_cases h2 : sS S a = 0 ∨ sS S b2 = 0
    · refine lv_aload_n hx hb dL_law_553 rfl (lv_at hl 1 rfl) ?_
      refine lw_sc (j := i + 1) (v := ((a : Nat) : Int)) hx hb hX hbl hbA hS (lv_at hl 0 rfl) (lv_at hl 5 rfl) (by omega) (by omega) hL hv1 dL_law_554 dL_law_555 dL_law_557 dL_law_558 dL_law_559 ?_
      refine lw_sc (j := i + 2) (v := ((b2 : Nat) : Int)) hx hb hX hbl hbA hS (lv_at hl 0 rfl) (lv_at hl 5 rfl) (by omega) (by omega) hL hv2 dL_law_560 dL_law_561 dL_law_563 dL_law_564 dL_law_565 ?_
      refine lv_aload_n hx hb dL_law_566 rfl (lv_at hl 3 rfl) ?_
      refine pg_wcallH (As := [.ref ((xa X 0)), .int (iI (((a : Nat) : Int))), .int (iI (((b2 : Nat) : Int))), .ref aJ]) (rest := []) (l1 := []) (l2 := lwW X Y S S t (lwJ aJ cJ f) (lwD aD cD g)) (w := []) (w' := []) SC (c_L_stretch_2 l hfl s.heap.size X S a b2 ha hb2 h2 hsa hsb aJ) xW_st (lw_xW hKX hP hS hE hN) (vx_cwSW 4 hts gL_law_L_stretch rfl rfl rfl (by decide +kernel) ⟨Nat.le_of_ble_eq_true rfl, Nat.le_of_ble_eq_true rfl⟩) (va_K.sub hKX [] rfl) hP hD hS rfl rfl hl.1 rfl (Nat.le_of_ble_eq_true rfl) dL_law_567 ⟨hce.1, hce.2⟩ (fun H locs hP hD hS => ?_)
      have hP : va_P (xG X) vwCl (lwW X Y S S t (lwJ aJ cJ f) (lwD aD cD g)) H := hP
      have hD : va_D (fun q => s.heap.size ≤ q) (lwW X Y S S t (lwJ aJ cJ f) (lwD aD cD g)) := hD
      refine lv_istore (lv' := [(6, .int (iI 2)), (0, .ref b), (1, .ref ((xa X 0))), (2, .ref ((xa Y 0))), (3, .ref aJ), (4, .ref aD), (5, .int (iI ((i : Int))))]) hx hb dL_law_570 hl (by decide) rfl (fun ls hl => ?_)
      refine lv_aload_n hx hb dL_law_572 rfl (lv_at hl 3 rfl) ?_
      refine lw_sc (j := i + 1) (v := ((a : Nat) : Int)) hx hb hX hbl hbA hS (lv_at hl 1 rfl) (lv_at hl 6 rfl) (by omega) (by omega) hL hv1 dL_law_573 dL_law_574 dL_law_576 dL_law_577 dL_law_578 ?_
      refine lw_sc (j := i + 2) (v := ((b2 : Nat) : Int)) hx hb hX hbl hbA hS (lv_at hl 1 rfl) (lv_at hl 6 rfl) (by omega) (by omega) hL hv2 dL_law_579 dL_law_580 dL_law_582 dL_law_583 dL_law_584 ?_
      refine pg_wcallV (As := [.int (iI (((a : Nat) : Int))), .int (iI (((b2 : Nat) : Int)))]) (rest := []) (l1 := (lwJ aJ cJ f) :: (xC X S ++ [(lwD aD cD g)])) (l2 := []) (w := mC Y S t) (w' := mC Y S 2) SC (pg_cY hYX (c_X1_stretch_2 l Y S t a b2 ha hb2 h2 hsa hsb)) pT_st pT_h (cwV 2 hts gL_law_X1_stretch rfl rfl rfl (by decide +kernel) ⟨Nat.le_of_ble_eq_true rfl, Nat.le_of_ble_eq_true rfl⟩) (va_recv hKY hP (ci := 1) (q0 := 7) rfl rfl) hKY hP hD hS rfl rfl hl.1 rfl (Nat.le_of_ble_eq_true rfl) dL_law_585 ⟨hce.1, hce.2⟩ (fun H locs hP hD hS => ?_)
      have hP : va_P (xG X) vwCl (lwW X Y S S 2 (lwJ aJ cJ f) (lwD aD cD g)) H := hP
      have hD : va_D (fun q => s.heap.size ≤ q) (lwW X Y S S 2 (lwJ aJ cJ f) (lwD aD cD g)) := hD
      refine lv_istore (lv' := [(7, .int (iI 0)), (6, .int (iI 2)), (0, .ref b), (1, .ref ((xa X 0))), (2, .ref ((xa Y 0))), (3, .ref aJ), (4, .ref aD), (5, .int (iI ((i : Int))))]) hx hb dL_law_588 hl (by decide) rfl (fun ls hl => ?_)
      refine lv_aload_n hx hb dL_law_590 rfl (lv_at hl 4 rfl) ?_
      refine pg_callV (As := []) (rest := []) SC (c_X1_thrown l Y S 2) mB_st (lw_mB hYX hKY hP) (cwV 0 hts gL_law_X1_thrown rfl rfl rfl (by decide +kernel) ⟨Nat.le_of_ble_eq_true rfl, Nat.le_of_ble_eq_true rfl⟩) (va_recv hKY hP (ci := 1) (q0 := 7) rfl rfl) rfl hl.1 rfl (Nat.le_of_ble_eq_true rfl) dL_law_591 ⟨hce.1, hce.2⟩ ?_
      refine lv_iload hx hb dL_law_594 (lv_at hl 1 rfl) ?_
      refine lw_same (tgt := 601) hx hb (⟨by omega, by omega⟩) dL_law_596 (by decide) ?_
      refine lv_iload hx hb dL_law_601 (lv_at hl 1 rfl) ?_
      refine pg_if_ne (tgt := 618) hx hb dL_law_603 (by decide) (⟨by omega, by omega⟩) (fun _ => ?_) (fun h9 => absurd h9 (by omega))
      refine lv_goto (tgt := 2002) hx hb dL_law_618 (by decide) ?_
      exact kk S 2 f g H locs ls ⟨hP, hD, hS, hok⟩ (lv_sub hl [2, 3, 4, 5, 6, 7] rfl)
    · have ha1 : sS S a = 1 := by omega
      have hb1 : sS S b2 = 1 := by omega
      have hgb := gN_lt hok a b2
      refine lv_aload_n hx hb dL_law_553 rfl (lv_at hl 1 rfl) ?_
      refine lw_sc (j := i + 1) (v := ((a : Nat) : Int)) hx hb hX hbl hbA hS (lv_at hl 0 rfl) (lv_at hl 5 rfl) (by omega) (by omega) hL hv1 dL_law_554 dL_law_555 dL_law_557 dL_law_558 dL_law_559 ?_
      refine lw_sc (j := i + 2) (v := ((b2 : Nat) : Int)) hx hb hX hbl hbA hS (lv_at hl 0 rfl) (lv_at hl 5 rfl) (by omega) (by omega) hL hv2 dL_law_560 dL_law_561 dL_law_563 dL_law_564 dL_law_565 ?_
      refine lv_aload_n hx hb dL_law_566 rfl (lv_at hl 3 rfl) ?_
      refine pg_wcallH (As := [.ref ((xa X 0)), .int (iI (((a : Nat) : Int))), .int (iI (((b2 : Nat) : Int))), .ref aJ]) (rest := []) (l1 := []) (l2 := (lwD aD cD g) :: mC Y S t) (w := (lwJ aJ cJ f) :: xC X S) (w' := (lwJ aJ cJ (vp_updL f 0 (lI (((gN S a b2 : Nat) : Int))))) :: xC X S) SC (c_L_stretch_ok l X S hok a b2 ha hb2 ha1 hb1 cJ aJ f) pT_st pT_h (vx_cwSW 4 hts gL_law_L_stretch rfl rfl rfl (by decide +kernel) ⟨Nat.le_of_ble_eq_true rfl, Nat.le_of_ble_eq_true rfl⟩) hKJ hP hD hS rfl rfl hl.1 rfl (Nat.le_of_ble_eq_true rfl) dL_law_567 ⟨hc0.1, hc0.2⟩ (fun H locs hP hD hS => ?_)
      have hP : va_P (xG X) vwCl (lwW X Y S S t (lwJ aJ cJ (vp_updL f 0 (lI (((gN S a b2 : Nat) : Int))))) (lwD aD cD g)) H := hP
      have hD : va_D (fun q => s.heap.size ≤ q) (lwW X Y S S t (lwJ aJ cJ (vp_updL f 0 (lI (((gN S a b2 : Nat) : Int))))) (lwD aD cD g)) := hD
      refine lv_istore (lv' := [(6, .int (iI 0)), (0, .ref b), (1, .ref ((xa X 0))), (2, .ref ((xa Y 0))), (3, .ref aJ), (4, .ref aD), (5, .int (iI ((i : Int))))]) hx hb dL_law_570 hl (by decide) rfl (fun ls hl => ?_)
      refine lv_aload_n hx hb dL_law_572 rfl (lv_at hl 3 rfl) ?_
      refine lw_sc (j := i + 1) (v := ((a : Nat) : Int)) hx hb hX hbl hbA hS (lv_at hl 1 rfl) (lv_at hl 6 rfl) (by omega) (by omega) hL hv1 dL_law_573 dL_law_574 dL_law_576 dL_law_577 dL_law_578 ?_
      refine lw_sc (j := i + 2) (v := ((b2 : Nat) : Int)) hx hb hX hbl hbA hS (lv_at hl 1 rfl) (lv_at hl 6 rfl) (by omega) (by omega) hL hv2 dL_law_579 dL_law_580 dL_law_582 dL_law_583 dL_law_584 ?_
      refine pg_wcallV (As := [.int (iI (((a : Nat) : Int))), .int (iI (((b2 : Nat) : Int)))]) (rest := []) (l1 := (lwJ aJ cJ (vp_updL f 0 (lI (((gN S a b2 : Nat) : Int))))) :: (xC X S ++ [(lwD aD cD g)])) (l2 := []) (w := mC Y S t) (w' := mC Y S 0) SC (pg_cY hYX (c_X1_stretch_ok l Y S t hok a b2 ha hb2 ha1 hb1)) pT_st pT_h (cwV 2 hts gL_law_X1_stretch rfl rfl rfl (by decide +kernel) ⟨Nat.le_of_ble_eq_true rfl, Nat.le_of_ble_eq_true rfl⟩) (va_recv hKY hP (ci := 1) (q0 := 7) rfl rfl) hKY hP hD hS rfl rfl hl.1 rfl (Nat.le_of_ble_eq_true rfl) dL_law_585 ⟨hc0.1, hc0.2⟩ (fun H locs hP hD hS => ?_)
      have hP : va_P (xG X) vwCl (lwW X Y S S 0 (lwJ aJ cJ (vp_updL f 0 (lI (((gN S a b2 : Nat) : Int))))) (lwD aD cD g)) H := hP
      have hD : va_D (fun q => s.heap.size ≤ q) (lwW X Y S S 0 (lwJ aJ cJ (vp_updL f 0 (lI (((gN S a b2 : Nat) : Int))))) (lwD aD cD g)) := hD
      refine lv_istore (lv' := [(7, .int (iI (((gN S a b2 : Nat) : Int)))), (6, .int (iI 0)), (0, .ref b), (1, .ref ((xa X 0))), (2, .ref ((xa Y 0))), (3, .ref aJ), (4, .ref aD), (5, .int (iI ((i : Int))))]) hx hb dL_law_588 hl (by decide) rfl (fun ls hl => ?_)
      refine lv_aload_n hx hb dL_law_590 rfl (lv_at hl 4 rfl) ?_
      refine pg_callV (As := []) (rest := []) SC (c_X1_thrown l Y S 0) mB_st (lw_mB hYX hKY hP) (cwV 0 hts gL_law_X1_thrown rfl rfl rfl (by decide +kernel) ⟨Nat.le_of_ble_eq_true rfl, Nat.le_of_ble_eq_true rfl⟩) (va_recv hKY hP (ci := 1) (q0 := 7) rfl rfl) rfl hl.1 rfl (Nat.le_of_ble_eq_true rfl) dL_law_591 ⟨hc0.1, hc0.2⟩ ?_
      refine lv_iload hx hb dL_law_594 (lv_at hl 1 rfl) ?_
      refine lw_same (tgt := 601) hx hb (⟨by omega, by omega⟩) dL_law_596 (by decide) ?_
      refine lv_iload hx hb dL_law_601 (lv_at hl 1 rfl) ?_
      refine pg_if_ne (tgt := 618) hx hb dL_law_603 (by decide) (⟨by omega, by omega⟩) (fun h9 => absurd rfl h9) (fun _ => ?_)
      refine lv_aload_n hx hb dL_law_606 rfl (lv_at hl 5 rfl) ?_
      refine lv_iconst (v := iI 0) hx hb dL_law_607 rfl ?_
      refine pg_lld0 hx hb hKJ hP 0 2 rfl rfl dL_law_608 ?_
      refine lv_iload hx hb dL_law_609 (lv_at hl 0 rfl) ?_
      refine pg_i2l hx hb dL_law_611 (⟨by omega, by omega⟩) ?_
      refine lw_leq (tgt := 618) hx hb rfl dL_law_612 dL_law_613 (by decide) ?_
      refine lv_goto (tgt := 2002) hx hb dL_law_618 (by decide) ?_
      exact pg_widen (Nat.le_succ _) (Nat.le_add_right _ 6) (kk S 0 ((vp_updL f 0 (lI (((gN S a b2 : Nat) : Int))))) g H locs ls ⟨hP, hD, hS, hok⟩ (lv_sub hl [2, 3, 4, 5, 6, 7] rfl))
