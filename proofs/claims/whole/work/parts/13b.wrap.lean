theorem pg_ps0 {P : ExceptionTableEntry → Prop} : ∀ z ∈ ([] : List ExceptionTableEntry), P z := fun _ h => nomatch h
theorem pg_ps {P : ExceptionTableEntry → Prop} {a : ExceptionTableEntry} {t : List ExceptionTableEntry} (h : P a) (ht : ∀ z ∈ t, P z) : ∀ z ∈ a :: t, P z := List.forall_mem_cons.mpr ⟨h, ht⟩
set_option maxRecDepth 100000 in
set_option maxHeartbeats 4000000 in
theorem c_L_put_ok (l : Launch) (X : pgX) (S : pgS) (k a u : Nat) (hk : k < 12) (ha : a < 91) (hu : u < 91) (h1 : sS S k ≤ 1) (cJ ao : Nat) (f : Nat → Int64) : pg_wr l yL_put wsL_put (rm 3 67) (xG X) (xTy X ++ [(cJ, .long)]) pT ((ao, .inl (cJ, 1, .inr (.inl f))) :: xC X S) ((ao, .inl (cJ, 1, .inr (.inl (vp_updL f 0 (lI ((1 - (sS S k : Int)))))))) :: (xC X (upN (sS S) k 1, upN (sA S) k a, upN (sU S) k u, sR S, sN S, sW S))) 0 0 [.ref ((xa X 0)), .int (iI (((k : Nat) : Int))), .int (iI (((a : Nat) : Int))), .int (iI (((u : Nat) : Int))), .ref ao] (some (.int (iI 0))) := by
  refine pg_wrH_of (cc := cL_put) (maxL := 6) (ret := some .int) (hh := [(0, 19, 22, 13), (0, 19, 26, 15)]) (by decide) rfl (Nat.le_of_ble_eq_true rfl) ?_
  intro p e s m below meth c ls SC hr hlk hT hP hK hD hS hB hl
  obtain ⟨hx, hb, hml, hown, hts⟩ := id SC
  have hown : s.vm.findClass RL = some m.cls := hown
  have hl : lv_has ls 6 [(0, .ref ((xa X 0))), (1, .int (iI (((k : Nat) : Int)))), (2, .int (iI (((a : Nat) : Int)))), (3, .int (iI (((u : Nat) : Int)))), (4, .ref ao)] := hl
  have hK0 : va_K (xG X) vwCl (xTy X) s := va_K.sub hK [0, 1] rfl
  have hP0 : va_P (xG X) vwCl (xC X S) s.heap := pg_part (l1 := [(ao, .inl (cJ, 1, .inr (.inl f)))]) (l2 := []) hP
  refine lv_aload hx hb dL_put_0 (lv_at hl 4 rfl) ?_
  refine lv_iconst (v := iI 0) hx hb dL_put_2 rfl ?_
  refine lv_aload_n hx hb dL_put_3 rfl (lv_at hl 0 rfl) ?_
  refine lv_iload_n hx hb dL_put_4 rfl (lv_at hl 1 rfl) ?_
  refine lv_iload_n hx hb dL_put_5 rfl (lv_at hl 2 rfl) ?_
  refine lv_iload_n hx hb dL_put_6 rfl (lv_at hl 3 rfl) ?_
  refine pg_wcallV (As := [.int (iI (((k : Nat) : Int))), .int (iI (((a : Nat) : Int))), .int (iI (((u : Nat) : Int)))]) (rest := [.int (iI 0), .ref ao]) (l1 := [(ao, .inl (cJ, 1, .inr (.inl f)))]) (l2 := []) (w := xC X S) (w' := (xC X (upN (sS S) k 1, upN (sA S) k a, upN (sU S) k u, sR S, sN S, sW S))) SC (c_X0_put_ok l X S k a u hk ha hu h1) pT_st pT_h (cwV 3 hts gL_put_X0_put rfl rfl rfl (by decide +kernel) ⟨Nat.le_of_ble_eq_true rfl, Nat.le_of_ble_eq_true rfl⟩) (va_recv hK0 hP0 (ci := 0) (q0 := 0) rfl rfl) hK0 hP hD hS rfl rfl hl.1 rfl (Nat.le_of_ble_eq_true rfl) dL_put_7 ⟨Nat.zero_le _, Nat.zero_le _⟩ (fun H locs hP hD hS => ?_)
  have hP : va_P (xG X) vwCl (((ao, .inl (cJ, 1, .inr (.inl f))) :: (xC X (upN (sS S) k 1, upN (sA S) k a, upN (sU S) k u, sR S, sN S, sW S)))) H := hP
  have hD : va_D (pg_in ((ao, .inl (cJ, 1, .inr (.inl f))) :: xC X S)) (((ao, .inl (cJ, 1, .inr (.inl f))) :: (xC X (upN (sS S) k 1, upN (sA S) k a, upN (sU S) k u, sR S, sN S, sW S)))) := hD
  have hz : ((1 - (sS S k : Int)) : Int) = 0 ∨ ((1 - (sS S k : Int)) : Int) = 1 := by omega
  refine pg_if_eq (tgt := 17) hx hb dL_put_10 (by decide) (⟨by omega, by omega⟩) (fun hc1 => ?_) (fun hc1 => ?_)
  · have hz0 : ((1 - (sS S k : Int)) : Int) = 0 := hc1
    refine lv_lconst (v := lI 0) hx hb dL_put_17 rfl ?_
    refine pg_tl (y := lI ((1 - (sS S k : Int)))) (congrArg lI hz0).symm ?_
    refine pg_lst0 hx hb hK hP hD hS 0 2 rfl rfl dL_put_18 (fun H locs hP hD hS => ?_)
    refine lv_goto (tgt := 30) hx hb dL_put_19 (by decide) ?_
    refine lv_iconst (v := iI 0) hx hb dL_put_30 rfl ?_
    exact pg_wiret hx hb hr hlk hP hS rfl dL_put_31
  · have hz1 : ((1 - (sS S k : Int)) : Int) = 1 := hz.resolve_left hc1
    refine lv_lconst (v := lI 1) hx hb dL_put_13 rfl ?_
    refine lv_goto (tgt := 18) hx hb dL_put_14 (by decide) ?_
    refine pg_tl (y := lI ((1 - (sS S k : Int)))) (congrArg lI hz1).symm ?_
    refine pg_lst0 hx hb hK hP hD hS 0 2 rfl rfl dL_put_18 (fun H locs hP hD hS => ?_)
    refine lv_goto (tgt := 30) hx hb dL_put_19 (by decide) ?_
    refine lv_iconst (v := iI 0) hx hb dL_put_30 rfl ?_
    exact pg_wiret hx hb hr hlk hP hS rfl dL_put_31
set_option maxRecDepth 100000 in
set_option maxHeartbeats 4000000 in
theorem c_L_put_1 (l : Launch) (hfl : l.stackTraces = false) (N : Nat) (X : pgX) (S : pgS) (pp : Int) (hp : inI pp) (h : pp < 0 ∨ 12 ≤ pp) (a u : Int) (ao : Nat) : pg_wr l yL_put wsL_put (rmx 8 126) (xG X) [] (xW N X S) [] [] 1 6 [.ref ((xa X 0)), .int (iI pp), .int (iI a), .int (iI u), .ref ao] (some (.int (iI 1))) := by
  refine pg_wrH_of (cc := cL_put) (maxL := 6) (ret := some .int) (hh := [(0, 19, 22, 13), (0, 19, 26, 15)]) (by decide) rfl (Nat.le_of_ble_eq_true rfl) ?_
  intro p e s m below meth c ls SC hr hlk hT hP hK hD hS hB hl
  obtain ⟨hx, hb, hml, hown, hts⟩ := id SC
  have hown : s.vm.findClass RL = some m.cls := hown
  have hl : lv_has ls 6 [(0, .ref ((xa X 0))), (1, .int (iI pp)), (2, .int (iI a)), (3, .int (iI u)), (4, .ref ao)] := hl
  obtain ⟨⟨⟨hP0, hK0⟩, hE⟩, hN⟩ := id hB
  refine lv_aload hx hb dL_put_0 (lv_at hl 4 rfl) ?_
  refine lv_iconst (v := iI 0) hx hb dL_put_2 rfl ?_
  refine lv_aload_n hx hb dL_put_3 rfl (lv_at hl 0 rfl) ?_
  refine lv_iload_n hx hb dL_put_4 rfl (lv_at hl 1 rfl) ?_
  refine lv_iload_n hx hb dL_put_5 rfl (lv_at hl 2 rfl) ?_
  refine lv_iload_n hx hb dL_put_6 rfl (lv_at hl 3 rfl) ?_
  refine pg_thrV (As := [.int (iI pp), .int (iI a), .int (iI u)]) (rest := [.int (iI 0), .ref ao]) SC (c_X0_put_th1 l hfl N X S pp hp h a u) xE_st (pg_h_of xE_st ⟨⟨hP0, hK0⟩, hE⟩) (cwV 3 hts gL_put_X0_put rfl rfl rfl (by decide +kernel) ⟨Nat.le_of_ble_eq_true rfl, Nat.le_of_ble_eq_true rfl⟩) (va_recv hK0 hP0 (ci := 0) (q0 := 0) rfl rfl) rfl hl.1 rfl (Nat.le_of_ble_eq_true rfl) dL_put_7 ⟨Nat.le_of_ble_eq_true rfl, Nat.le_of_ble_eq_true rfl⟩ (fun H1 qx ce h1 h2 h3 h4 h5 => ?_)
  refine vx_catch (own := RL) (E := "java/lang/IndexOutOfBoundsException") (name := "java/lang/IndexOutOfBoundsException") hown [] ⟨0, 19, 22, 13⟩ [⟨0, 19, 26, 15⟩] (hT.trans rfl) pg_ps0 (by decide) (by decide) (hts (.classLink RL 13 "java/lang/IndexOutOfBoundsException") (by decide +kernel)) (hE.2.2.2 _ (by decide) _) h3 h4 h5 ?_
  refine lv_astore (lv' := [(5, .ref qx), (0, .ref ((xa X 0))), (1, .int (iI pp)), (2, .int (iI a)), (3, .int (iI u)), (4, .ref ao)]) hx hb dL_put_22 hl (by decide) rfl (fun ls hl => ?_)
  refine lv_iconst (v := iI 1) hx hb dL_put_24 rfl ?_
  exact pg_wiret hx hb hr hlk (fun _ _ h => nomatch h) ⟨h1, fun x hx _ => h2 x hx, fun z h => nomatch h⟩ rfl dL_put_25
set_option maxRecDepth 100000 in
set_option maxHeartbeats 4000000 in
theorem c_L_put_2 (l : Launch) (hfl : l.stackTraces = false) (N : Nat) (X : pgX) (S : pgS) (k : Nat) (hk : k < 12) (a u : Int) (ha : inI a) (hu : inI u) (h : a < 0 ∨ 91 ≤ a ∨ u < 0 ∨ 91 ≤ u) (ao : Nat) : pg_wr l yL_put wsL_put (rmx 7 106) (xG X) [] (xW N X S) [] [] 1 6 [.ref ((xa X 0)), .int (iI (((k : Nat) : Int))), .int (iI a), .int (iI u), .ref ao] (some (.int (iI 2))) := by
  refine pg_wrH_of (cc := cL_put) (maxL := 6) (ret := some .int) (hh := [(0, 19, 22, 13), (0, 19, 26, 15)]) (by decide) rfl (Nat.le_of_ble_eq_true rfl) ?_
  intro p e s m below meth c ls SC hr hlk hT hP hK hD hS hB hl
  obtain ⟨hx, hb, hml, hown, hts⟩ := id SC
  have hown : s.vm.findClass RL = some m.cls := hown
  have hl : lv_has ls 6 [(0, .ref ((xa X 0))), (1, .int (iI (((k : Nat) : Int)))), (2, .int (iI a)), (3, .int (iI u)), (4, .ref ao)] := hl
  obtain ⟨⟨⟨hP0, hK0⟩, hE⟩, hN⟩ := id hB
  refine lv_aload hx hb dL_put_0 (lv_at hl 4 rfl) ?_
  refine lv_iconst (v := iI 0) hx hb dL_put_2 rfl ?_
  refine lv_aload_n hx hb dL_put_3 rfl (lv_at hl 0 rfl) ?_
  refine lv_iload_n hx hb dL_put_4 rfl (lv_at hl 1 rfl) ?_
  refine lv_iload_n hx hb dL_put_5 rfl (lv_at hl 2 rfl) ?_
  refine lv_iload_n hx hb dL_put_6 rfl (lv_at hl 3 rfl) ?_
  refine pg_thrV (As := [.int (iI (((k : Nat) : Int))), .int (iI a), .int (iI u)]) (rest := [.int (iI 0), .ref ao]) SC (c_X0_put_th2 l hfl N X S k hk a u ha hu h) xE_st (pg_h_of xE_st ⟨⟨hP0, hK0⟩, hE⟩) (cwV 3 hts gL_put_X0_put rfl rfl rfl (by decide +kernel) ⟨Nat.le_of_ble_eq_true rfl, Nat.le_of_ble_eq_true rfl⟩) (va_recv hK0 hP0 (ci := 0) (q0 := 0) rfl rfl) rfl hl.1 rfl (Nat.le_of_ble_eq_true rfl) dL_put_7 ⟨Nat.le_of_ble_eq_true rfl, Nat.le_of_ble_eq_true rfl⟩ (fun H1 qx ce h1 h2 h3 h4 h5 => ?_)
  refine vx_catch (own := RL) (E := "java/lang/IllegalArgumentException") (name := "java/lang/IllegalArgumentException") hown [⟨0, 19, 22, 13⟩] ⟨0, 19, 26, 15⟩ [] (hT.trans rfl) (pg_ps (Or.inr ⟨by decide, "java/lang/IndexOutOfBoundsException", hts (.classLink RL 13 "java/lang/IndexOutOfBoundsException") (by decide +kernel), hN ("java/lang/IllegalArgumentException", "java/lang/IndexOutOfBoundsException") (by decide)⟩) pg_ps0) (by decide) (by decide) (hts (.classLink RL 15 "java/lang/IllegalArgumentException") (by decide +kernel)) (hE.2.2.2 _ (by decide) _) h3 h4 h5 ?_
  refine lv_astore (lv' := [(5, .ref qx), (0, .ref ((xa X 0))), (1, .int (iI (((k : Nat) : Int)))), (2, .int (iI a)), (3, .int (iI u)), (4, .ref ao)]) hx hb dL_put_26 hl (by decide) rfl (fun ls hl => ?_)
  refine lv_iconst (v := iI 2) hx hb dL_put_28 rfl ?_
  exact pg_wiret hx hb hr hlk (fun _ _ h => nomatch h) ⟨h1, fun x hx _ => h2 x hx, fun z h => nomatch h⟩ rfl dL_put_29
set_option maxRecDepth 100000 in
set_option maxHeartbeats 4000000 in
theorem c_L_take_ok (l : Launch) (X : pgX) (S : pgS) (hok : pgOk S) (k : Nat) (hk : k < 12) (h1 : sS S k = 1) (hr9 : ∀ j, j < sN S → sR S j ≠ k) : pg_wr l yL_take wsL_take (rm 4 83) (xG X) (xTy X) pT (xC X S) (xC X (upN (sS S) k 0, sA S, sU S, sR S, sN S, sW S)) 0 0 [.ref ((xa X 0)), .int (iI (((k : Nat) : Int)))] (some (.int (iI 0))) := by
  refine pg_wrH_of (cc := cL_take) (maxL := 3) (ret := some .int) (hh := [(0, 5, 8, 13), (0, 5, 11, 21), (0, 5, 14, 23)]) (by decide) rfl (Nat.le_of_ble_eq_true rfl) ?_
  intro p e s m below meth c ls SC hr hlk hT hP hK hD hS hB hl
  obtain ⟨hx, hb, hml, hown, hts⟩ := id SC
  have hown : s.vm.findClass RL = some m.cls := hown
  have hl : lv_has ls 3 [(0, .ref ((xa X 0))), (1, .int (iI (((k : Nat) : Int))))] := hl
  have hK0 : va_K (xG X) vwCl (xTy X) s := hK
  have hP0 : va_P (xG X) vwCl (xC X S) s.heap := hP
  refine lv_aload_n hx hb dL_take_0 rfl (lv_at hl 0 rfl) ?_
  refine lv_iload_n hx hb dL_take_1 rfl (lv_at hl 1 rfl) ?_
  refine pg_wcallVv (As := [.int (iI (((k : Nat) : Int)))]) (rest := []) (l1 := []) (l2 := []) (w := xC X S) (w' := (xC X (upN (sS S) k 0, sA S, sU S, sR S, sN S, sW S))) SC (c_X0_take_ok l X S hok k hk h1 hr9) pT_st pT_h (cwV 1 hts gL_take_X0_take rfl rfl rfl (by decide +kernel) ⟨Nat.le_of_ble_eq_true rfl, Nat.le_of_ble_eq_true rfl⟩) (va_recv hK0 hP0 (ci := 0) (q0 := 0) rfl rfl) hK0 hP hD hS rfl rfl hl.1 rfl (Nat.le_of_ble_eq_true rfl) dL_take_2 ⟨Nat.zero_le _, Nat.zero_le _⟩ (fun H locs hP hD hS => ?_)
  have hP : va_P (xG X) vwCl ((xC X (upN (sS S) k 0, sA S, sU S, sR S, sN S, sW S))) H := hP
  have hD : va_D (pg_in (xC X S)) ((xC X (upN (sS S) k 0, sA S, sU S, sR S, sN S, sW S))) := hD
  refine lv_goto (tgt := 17) hx hb dL_take_5 (by decide) ?_
  refine lv_iconst (v := iI 0) hx hb dL_take_17 rfl ?_
  exact pg_wiret hx hb hr hlk hP hS rfl dL_take_18
set_option maxRecDepth 100000 in
set_option maxHeartbeats 4000000 in
theorem c_L_take_1 (l : Launch) (hfl : l.stackTraces = false) (N : Nat) (X : pgX) (S : pgS) (pp : Int) (hp : inI pp) (h : pp < 0 ∨ 12 ≤ pp)  : pg_wr l yL_take wsL_take (rmx 8 123) (xG X) [] (xW N X S) [] [] 1 6 [.ref ((xa X 0)), .int (iI pp)] (some (.int (iI 1))) := by
  refine pg_wrH_of (cc := cL_take) (maxL := 3) (ret := some .int) (hh := [(0, 5, 8, 13), (0, 5, 11, 21), (0, 5, 14, 23)]) (by decide) rfl (Nat.le_of_ble_eq_true rfl) ?_
  intro p e s m below meth c ls SC hr hlk hT hP hK hD hS hB hl
  obtain ⟨hx, hb, hml, hown, hts⟩ := id SC
  have hown : s.vm.findClass RL = some m.cls := hown
  have hl : lv_has ls 3 [(0, .ref ((xa X 0))), (1, .int (iI pp))] := hl
  obtain ⟨⟨⟨hP0, hK0⟩, hE⟩, hN⟩ := id hB
  refine lv_aload_n hx hb dL_take_0 rfl (lv_at hl 0 rfl) ?_
  refine lv_iload_n hx hb dL_take_1 rfl (lv_at hl 1 rfl) ?_
  refine pg_thrV (As := [.int (iI pp)]) (rest := []) SC (c_X0_take_th1 l hfl N X S pp hp h) xE_st (pg_h_of xE_st ⟨⟨hP0, hK0⟩, hE⟩) (cwV 1 hts gL_take_X0_take rfl rfl rfl (by decide +kernel) ⟨Nat.le_of_ble_eq_true rfl, Nat.le_of_ble_eq_true rfl⟩) (va_recv hK0 hP0 (ci := 0) (q0 := 0) rfl rfl) rfl hl.1 rfl (Nat.le_of_ble_eq_true rfl) dL_take_2 ⟨Nat.le_of_ble_eq_true rfl, Nat.le_of_ble_eq_true rfl⟩ (fun H1 qx ce h1 h2 h3 h4 h5 => ?_)
  refine vx_catch (own := RL) (E := "java/lang/IndexOutOfBoundsException") (name := "java/lang/IndexOutOfBoundsException") hown [] ⟨0, 5, 8, 13⟩ [⟨0, 5, 11, 21⟩, ⟨0, 5, 14, 23⟩] (hT.trans rfl) pg_ps0 (by decide) (by decide) (hts (.classLink RL 13 "java/lang/IndexOutOfBoundsException") (by decide +kernel)) (hE.2.2.2 _ (by decide) _) h3 h4 h5 ?_
  refine lv_astore_n (lv' := [(2, .ref qx), (0, .ref ((xa X 0))), (1, .int (iI pp))]) hx hb dL_take_8 rfl hl (by decide) rfl (fun ls hl => ?_)
  refine lv_iconst (v := iI 1) hx hb dL_take_9 rfl ?_
  exact pg_wiret hx hb hr hlk (fun _ _ h => nomatch h) ⟨h1, fun x hx _ => h2 x hx, fun z h => nomatch h⟩ rfl dL_take_10
set_option maxRecDepth 100000 in
set_option maxHeartbeats 4000000 in
theorem c_L_take_2 (l : Launch) (hfl : l.stackTraces = false) (N : Nat) (X : pgX) (S : pgS) (k : Nat) (hk : k < 12) (h1 : sS S k = 0)  : pg_wr l yL_take wsL_take (rmx 8 124) (xG X) [] (xW N X S) [] [] 1 6 [.ref ((xa X 0)), .int (iI (((k : Nat) : Int)))] (some (.int (iI 2))) := by
  refine pg_wrH_of (cc := cL_take) (maxL := 3) (ret := some .int) (hh := [(0, 5, 8, 13), (0, 5, 11, 21), (0, 5, 14, 23)]) (by decide) rfl (Nat.le_of_ble_eq_true rfl) ?_
  intro p e s m below meth c ls SC hr hlk hT hP hK hD hS hB hl
  obtain ⟨hx, hb, hml, hown, hts⟩ := id SC
  have hown : s.vm.findClass RL = some m.cls := hown
  have hl : lv_has ls 3 [(0, .ref ((xa X 0))), (1, .int (iI (((k : Nat) : Int))))] := hl
  obtain ⟨⟨⟨hP0, hK0⟩, hE⟩, hN⟩ := id hB
  refine lv_aload_n hx hb dL_take_0 rfl (lv_at hl 0 rfl) ?_
  refine lv_iload_n hx hb dL_take_1 rfl (lv_at hl 1 rfl) ?_
  refine pg_thrV (As := [.int (iI (((k : Nat) : Int)))]) (rest := []) SC (c_X0_take_th2 l hfl N X S k hk h1) xE_st (pg_h_of xE_st ⟨⟨hP0, hK0⟩, hE⟩) (cwV 1 hts gL_take_X0_take rfl rfl rfl (by decide +kernel) ⟨Nat.le_of_ble_eq_true rfl, Nat.le_of_ble_eq_true rfl⟩) (va_recv hK0 hP0 (ci := 0) (q0 := 0) rfl rfl) rfl hl.1 rfl (Nat.le_of_ble_eq_true rfl) dL_take_2 ⟨Nat.le_of_ble_eq_true rfl, Nat.le_of_ble_eq_true rfl⟩ (fun H1 qx ce h1 h2 h3 h4 h5 => ?_)
  refine vx_catch (own := RL) (E := "java/util/NoSuchElementException") (name := "java/util/NoSuchElementException") hown [⟨0, 5, 8, 13⟩] ⟨0, 5, 11, 21⟩ [⟨0, 5, 14, 23⟩] (hT.trans rfl) (pg_ps (Or.inr ⟨by decide, "java/lang/IndexOutOfBoundsException", hts (.classLink RL 13 "java/lang/IndexOutOfBoundsException") (by decide +kernel), hN ("java/util/NoSuchElementException", "java/lang/IndexOutOfBoundsException") (by decide)⟩) pg_ps0) (by decide) (by decide) (hts (.classLink RL 21 "java/util/NoSuchElementException") (by decide +kernel)) (hE.2.2.2 _ (by decide) _) h3 h4 h5 ?_
  refine lv_astore_n (lv' := [(2, .ref qx), (0, .ref ((xa X 0))), (1, .int (iI (((k : Nat) : Int))))]) hx hb dL_take_11 rfl hl (by decide) rfl (fun ls hl => ?_)
  refine lv_iconst (v := iI 2) hx hb dL_take_12 rfl ?_
  exact pg_wiret hx hb hr hlk (fun _ _ h => nomatch h) ⟨h1, fun x hx _ => h2 x hx, fun z h => nomatch h⟩ rfl dL_take_13
set_option maxRecDepth 100000 in
set_option maxHeartbeats 4000000 in
theorem c_L_take_3 (l : Launch) (hfl : l.stackTraces = false) (N : Nat) (X : pgX) (S : pgS) (hok : pgOk S) (k : Nat) (hk : k < 12) (h1 : sS S k = 1) (hr9 : ∃ j, j < sN S ∧ sR S j = k) : pg_wr l yL_take wsL_take (rmx 7 103) (xG X) [] (xW N X S) [] [] 1 6 [.ref ((xa X 0)), .int (iI (((k : Nat) : Int)))] (some (.int (iI 3))) := by
  refine pg_wrH_of (cc := cL_take) (maxL := 3) (ret := some .int) (hh := [(0, 5, 8, 13), (0, 5, 11, 21), (0, 5, 14, 23)]) (by decide) rfl (Nat.le_of_ble_eq_true rfl) ?_
  intro p e s m below meth c ls SC hr hlk hT hP hK hD hS hB hl
  obtain ⟨hx, hb, hml, hown, hts⟩ := id SC
  have hown : s.vm.findClass RL = some m.cls := hown
  have hl : lv_has ls 3 [(0, .ref ((xa X 0))), (1, .int (iI (((k : Nat) : Int))))] := hl
  obtain ⟨⟨⟨hP0, hK0⟩, hE⟩, hN⟩ := id hB
  refine lv_aload_n hx hb dL_take_0 rfl (lv_at hl 0 rfl) ?_
  refine lv_iload_n hx hb dL_take_1 rfl (lv_at hl 1 rfl) ?_
  refine pg_thrV (As := [.int (iI (((k : Nat) : Int)))]) (rest := []) SC (c_X0_take_th3 l hfl N X S hok k hk h1 hr9) xE_st (pg_h_of xE_st ⟨⟨hP0, hK0⟩, hE⟩) (cwV 1 hts gL_take_X0_take rfl rfl rfl (by decide +kernel) ⟨Nat.le_of_ble_eq_true rfl, Nat.le_of_ble_eq_true rfl⟩) (va_recv hK0 hP0 (ci := 0) (q0 := 0) rfl rfl) rfl hl.1 rfl (Nat.le_of_ble_eq_true rfl) dL_take_2 ⟨Nat.le_of_ble_eq_true rfl, Nat.le_of_ble_eq_true rfl⟩ (fun H1 qx ce h1 h2 h3 h4 h5 => ?_)
  refine vx_catch (own := RL) (E := "java/lang/IllegalStateException") (name := "java/lang/IllegalStateException") hown [⟨0, 5, 8, 13⟩, ⟨0, 5, 11, 21⟩] ⟨0, 5, 14, 23⟩ [] (hT.trans rfl) (pg_ps (Or.inr ⟨by decide, "java/lang/IndexOutOfBoundsException", hts (.classLink RL 13 "java/lang/IndexOutOfBoundsException") (by decide +kernel), hN ("java/lang/IllegalStateException", "java/lang/IndexOutOfBoundsException") (by decide)⟩) (pg_ps (Or.inr ⟨by decide, "java/util/NoSuchElementException", hts (.classLink RL 21 "java/util/NoSuchElementException") (by decide +kernel), hN ("java/lang/IllegalStateException", "java/util/NoSuchElementException") (by decide)⟩) pg_ps0)) (by decide) (by decide) (hts (.classLink RL 23 "java/lang/IllegalStateException") (by decide +kernel)) (hE.2.2.2 _ (by decide) _) h3 h4 h5 ?_
  refine lv_astore_n (lv' := [(2, .ref qx), (0, .ref ((xa X 0))), (1, .int (iI (((k : Nat) : Int))))]) hx hb dL_take_14 rfl hl (by decide) rfl (fun ls hl => ?_)
  refine lv_iconst (v := iI 3) hx hb dL_take_15 rfl ?_
  exact pg_wiret hx hb hr hlk (fun _ _ h => nomatch h) ⟨h1, fun x hx _ => h2 x hx, fun z h => nomatch h⟩ rfl dL_take_16
set_option maxRecDepth 100000 in
set_option maxHeartbeats 4000000 in
theorem c_L_step_n (l : Launch) (X : pgX) (S : pgS) (k a2 u2 : Nat) (hk : k < 12) (h1 : sS S k = 1) (ha9 : a2 < 91) (hu9 : u2 < 91) (ha : a2 = sA S k) (hu : u2 = sU S k + 1) (cJ ao : Nat) (f : Nat → Int64) : pg_wr l yL_step wsL_step (rm 4 86) (xG X) (xTy X ++ [(cJ, .long)]) pT ((ao, .inl (cJ, 1, .inr (.inl f))) :: xC X S) ((ao, .inl (cJ, 1, .inr (.inl (vp_updL f 0 (lI 1))))) :: (xC X (upN (sS S) k 1, upN (sA S) k a2, upN (sU S) k u2, sR S, sN S, sW S))) 0 0 [.ref ((xa X 0)), .int (iI (((k : Nat) : Int))), .int (iI 110), .ref ao] (some (.int (iI 0))) := by
  refine pg_wrH_of (cc := cL_step) (maxL := 5) (ret := some .int) (hh := [(0, 17, 20, 13), (0, 17, 24, 21), (0, 17, 28, 15)]) (by decide) rfl (Nat.le_of_ble_eq_true rfl) ?_
  intro p e s m below meth c ls SC hr hlk hT hP hK hD hS hB hl
  obtain ⟨hx, hb, hml, hown, hts⟩ := id SC
  have hown : s.vm.findClass RL = some m.cls := hown
  have hl : lv_has ls 5 [(0, .ref ((xa X 0))), (1, .int (iI (((k : Nat) : Int)))), (2, .int (iI 110)), (3, .ref ao)] := hl
  have hK0 : va_K (xG X) vwCl (xTy X) s := va_K.sub hK [0, 1] rfl
  have hP0 : va_P (xG X) vwCl (xC X S) s.heap := pg_part (l1 := [(ao, .inl (cJ, 1, .inr (.inl f)))]) (l2 := []) hP
  refine lv_aload_n hx hb dL_step_0 rfl (lv_at hl 3 rfl) ?_
  refine lv_iconst (v := iI 0) hx hb dL_step_1 rfl ?_
  refine lv_aload_n hx hb dL_step_2 rfl (lv_at hl 0 rfl) ?_
  refine lv_iload_n hx hb dL_step_3 rfl (lv_at hl 1 rfl) ?_
  refine lv_iload_n hx hb dL_step_4 rfl (lv_at hl 2 rfl) ?_
  refine pg_wcallV (As := [.int (iI (((k : Nat) : Int))), .int (iI 110)]) (rest := [.int (iI 0), .ref ao]) (l1 := [(ao, .inl (cJ, 1, .inr (.inl f)))]) (l2 := []) (w := xC X S) (w' := (xC X (upN (sS S) k 1, upN (sA S) k a2, upN (sU S) k u2, sR S, sN S, sW S))) SC (c_X0_step_n l X S k a2 u2 hk h1 ha9 hu9 ha hu) pT_st pT_h (cwV 2 hts gL_step_X0_step rfl rfl rfl (by decide +kernel) ⟨Nat.le_of_ble_eq_true rfl, Nat.le_of_ble_eq_true rfl⟩) (va_recv hK0 hP0 (ci := 0) (q0 := 0) rfl rfl) hK0 hP hD hS rfl rfl hl.1 rfl (Nat.le_of_ble_eq_true rfl) dL_step_5 ⟨Nat.zero_le _, Nat.zero_le _⟩ (fun H locs hP hD hS => ?_)
  have hP : va_P (xG X) vwCl (((ao, .inl (cJ, 1, .inr (.inl f))) :: (xC X (upN (sS S) k 1, upN (sA S) k a2, upN (sU S) k u2, sR S, sN S, sW S)))) H := hP
  have hD : va_D (pg_in ((ao, .inl (cJ, 1, .inr (.inl f))) :: xC X S)) (((ao, .inl (cJ, 1, .inr (.inl f))) :: (xC X (upN (sS S) k 1, upN (sA S) k a2, upN (sU S) k u2, sR S, sN S, sW S)))) := hD
  have hz : (1 : Int) = 0 ∨ (1 : Int) = 1 := by omega
  refine pg_if_eq (tgt := 15) hx hb dL_step_8 (by decide) (⟨by omega, by omega⟩) (fun hc1 => ?_) (fun hc1 => ?_)
  · have hz0 : (1 : Int) = 0 := hc1
    refine lv_lconst (v := lI 0) hx hb dL_step_15 rfl ?_
    refine pg_tl (y := lI 1) (congrArg lI hz0).symm ?_
    refine pg_lst0 hx hb hK hP hD hS 0 2 rfl rfl dL_step_16 (fun H locs hP hD hS => ?_)
    refine lv_goto (tgt := 32) hx hb dL_step_17 (by decide) ?_
    refine lv_iconst (v := iI 0) hx hb dL_step_32 rfl ?_
    exact pg_wiret hx hb hr hlk hP hS rfl dL_step_33
  · have hz1 : (1 : Int) = 1 := hz.resolve_left hc1
    refine lv_lconst (v := lI 1) hx hb dL_step_11 rfl ?_
    refine lv_goto (tgt := 16) hx hb dL_step_12 (by decide) ?_
    refine pg_tl (y := lI 1) (congrArg lI hz1).symm ?_
    refine pg_lst0 hx hb hK hP hD hS 0 2 rfl rfl dL_step_16 (fun H locs hP hD hS => ?_)
    refine lv_goto (tgt := 32) hx hb dL_step_17 (by decide) ?_
    refine lv_iconst (v := iI 0) hx hb dL_step_32 rfl ?_
    exact pg_wiret hx hb hr hlk hP hS rfl dL_step_33
set_option maxRecDepth 100000 in
set_option maxHeartbeats 4000000 in
theorem c_L_step_non (l : Launch) (X : pgX) (S : pgS) (hok : pgOk S) (k : Nat) (hk : k < 12) (h1 : sS S k = 1) (hed : sU S k = 90) (cJ ao : Nat) (f : Nat → Int64) : pg_wr l yL_step wsL_step (rm 4 86) (xG X) (xTy X ++ [(cJ, .long)]) pT ((ao, .inl (cJ, 1, .inr (.inl f))) :: xC X S) ((ao, .inl (cJ, 1, .inr (.inl (vp_updL f 0 (lI 0))))) :: (xC X S)) 0 0 [.ref ((xa X 0)), .int (iI (((k : Nat) : Int))), .int (iI 110), .ref ao] (some (.int (iI 0))) := by
  refine pg_wrH_of (cc := cL_step) (maxL := 5) (ret := some .int) (hh := [(0, 17, 20, 13), (0, 17, 24, 21), (0, 17, 28, 15)]) (by decide) rfl (Nat.le_of_ble_eq_true rfl) ?_
  intro p e s m below meth c ls SC hr hlk hT hP hK hD hS hB hl
  obtain ⟨hx, hb, hml, hown, hts⟩ := id SC
  have hown : s.vm.findClass RL = some m.cls := hown
  have hl : lv_has ls 5 [(0, .ref ((xa X 0))), (1, .int (iI (((k : Nat) : Int)))), (2, .int (iI 110)), (3, .ref ao)] := hl
  have hK0 : va_K (xG X) vwCl (xTy X) s := va_K.sub hK [0, 1] rfl
  have hP0 : va_P (xG X) vwCl (xC X S) s.heap := pg_part (l1 := [(ao, .inl (cJ, 1, .inr (.inl f)))]) (l2 := []) hP
  refine lv_aload_n hx hb dL_step_0 rfl (lv_at hl 3 rfl) ?_
  refine lv_iconst (v := iI 0) hx hb dL_step_1 rfl ?_
  refine lv_aload_n hx hb dL_step_2 rfl (lv_at hl 0 rfl) ?_
  refine lv_iload_n hx hb dL_step_3 rfl (lv_at hl 1 rfl) ?_
  refine lv_iload_n hx hb dL_step_4 rfl (lv_at hl 2 rfl) ?_
  refine pg_callV (As := [.int (iI (((k : Nat) : Int))), .int (iI 110)]) (rest := [.int (iI 0), .ref ao]) SC (c_X0_stepno_n l X S hok k hk h1 hed) xB_st (xB_h hP0 hK0) (cwV 2 hts gL_step_X0_step rfl rfl rfl (by decide +kernel) ⟨Nat.le_of_ble_eq_true rfl, Nat.le_of_ble_eq_true rfl⟩) (va_recv hK0 hP0 (ci := 0) (q0 := 0) rfl rfl) rfl hl.1 rfl (Nat.le_of_ble_eq_true rfl) dL_step_5 ⟨Nat.zero_le _, Nat.zero_le _⟩ ?_
  have hz : (0 : Int) = 0 ∨ (0 : Int) = 1 := by omega
  refine pg_if_eq (tgt := 15) hx hb dL_step_8 (by decide) (⟨by omega, by omega⟩) (fun hc1 => ?_) (fun hc1 => ?_)
  · have hz0 : (0 : Int) = 0 := hc1
    refine lv_lconst (v := lI 0) hx hb dL_step_15 rfl ?_
    refine pg_tl (y := lI 0) (congrArg lI hz0).symm ?_
    refine pg_lst0 hx hb hK hP hD hS 0 2 rfl rfl dL_step_16 (fun H locs hP hD hS => ?_)
    refine lv_goto (tgt := 32) hx hb dL_step_17 (by decide) ?_
    refine lv_iconst (v := iI 0) hx hb dL_step_32 rfl ?_
    exact pg_wiret hx hb hr hlk hP hS rfl dL_step_33
  · have hz1 : (0 : Int) = 1 := hz.resolve_left hc1
    refine lv_lconst (v := lI 1) hx hb dL_step_11 rfl ?_
    refine lv_goto (tgt := 16) hx hb dL_step_12 (by decide) ?_
    refine pg_tl (y := lI 0) (congrArg lI hz1).symm ?_
    refine pg_lst0 hx hb hK hP hD hS 0 2 rfl rfl dL_step_16 (fun H locs hP hD hS => ?_)
    refine lv_goto (tgt := 32) hx hb dL_step_17 (by decide) ?_
    refine lv_iconst (v := iI 0) hx hb dL_step_32 rfl ?_
    exact pg_wiret hx hb hr hlk hP hS rfl dL_step_33
set_option maxRecDepth 100000 in
set_option maxHeartbeats 4000000 in
theorem c_L_step_s (l : Launch) (X : pgX) (S : pgS) (k a2 u2 : Nat) (hk : k < 12) (h1 : sS S k = 1) (ha9 : a2 < 91) (hu9 : u2 < 91) (ha : a2 = sA S k) (hu : u2 + 1 = sU S k) (cJ ao : Nat) (f : Nat → Int64) : pg_wr l yL_step wsL_step (rm 4 86) (xG X) (xTy X ++ [(cJ, .long)]) pT ((ao, .inl (cJ, 1, .inr (.inl f))) :: xC X S) ((ao, .inl (cJ, 1, .inr (.inl (vp_updL f 0 (lI 1))))) :: (xC X (upN (sS S) k 1, upN (sA S) k a2, upN (sU S) k u2, sR S, sN S, sW S))) 0 0 [.ref ((xa X 0)), .int (iI (((k : Nat) : Int))), .int (iI 115), .ref ao] (some (.int (iI 0))) := by
  refine pg_wrH_of (cc := cL_step) (maxL := 5) (ret := some .int) (hh := [(0, 17, 20, 13), (0, 17, 24, 21), (0, 17, 28, 15)]) (by decide) rfl (Nat.le_of_ble_eq_true rfl) ?_
  intro p e s m below meth c ls SC hr hlk hT hP hK hD hS hB hl
  obtain ⟨hx, hb, hml, hown, hts⟩ := id SC
  have hown : s.vm.findClass RL = some m.cls := hown
  have hl : lv_has ls 5 [(0, .ref ((xa X 0))), (1, .int (iI (((k : Nat) : Int)))), (2, .int (iI 115)), (3, .ref ao)] := hl
  have hK0 : va_K (xG X) vwCl (xTy X) s := va_K.sub hK [0, 1] rfl
  have hP0 : va_P (xG X) vwCl (xC X S) s.heap := pg_part (l1 := [(ao, .inl (cJ, 1, .inr (.inl f)))]) (l2 := []) hP
  refine lv_aload_n hx hb dL_step_0 rfl (lv_at hl 3 rfl) ?_
  refine lv_iconst (v := iI 0) hx hb dL_step_1 rfl ?_
  refine lv_aload_n hx hb dL_step_2 rfl (lv_at hl 0 rfl) ?_
  refine lv_iload_n hx hb dL_step_3 rfl (lv_at hl 1 rfl) ?_
  refine lv_iload_n hx hb dL_step_4 rfl (lv_at hl 2 rfl) ?_
  refine pg_wcallV (As := [.int (iI (((k : Nat) : Int))), .int (iI 115)]) (rest := [.int (iI 0), .ref ao]) (l1 := [(ao, .inl (cJ, 1, .inr (.inl f)))]) (l2 := []) (w := xC X S) (w' := (xC X (upN (sS S) k 1, upN (sA S) k a2, upN (sU S) k u2, sR S, sN S, sW S))) SC (c_X0_step_s l X S k a2 u2 hk h1 ha9 hu9 ha hu) pT_st pT_h (cwV 2 hts gL_step_X0_step rfl rfl rfl (by decide +kernel) ⟨Nat.le_of_ble_eq_true rfl, Nat.le_of_ble_eq_true rfl⟩) (va_recv hK0 hP0 (ci := 0) (q0 := 0) rfl rfl) hK0 hP hD hS rfl rfl hl.1 rfl (Nat.le_of_ble_eq_true rfl) dL_step_5 ⟨Nat.zero_le _, Nat.zero_le _⟩ (fun H locs hP hD hS => ?_)
  have hP : va_P (xG X) vwCl (((ao, .inl (cJ, 1, .inr (.inl f))) :: (xC X (upN (sS S) k 1, upN (sA S) k a2, upN (sU S) k u2, sR S, sN S, sW S)))) H := hP
  have hD : va_D (pg_in ((ao, .inl (cJ, 1, .inr (.inl f))) :: xC X S)) (((ao, .inl (cJ, 1, .inr (.inl f))) :: (xC X (upN (sS S) k 1, upN (sA S) k a2, upN (sU S) k u2, sR S, sN S, sW S)))) := hD
  have hz : (1 : Int) = 0 ∨ (1 : Int) = 1 := by omega
  refine pg_if_eq (tgt := 15) hx hb dL_step_8 (by decide) (⟨by omega, by omega⟩) (fun hc1 => ?_) (fun hc1 => ?_)
  · have hz0 : (1 : Int) = 0 := hc1
    refine lv_lconst (v := lI 0) hx hb dL_step_15 rfl ?_
    refine pg_tl (y := lI 1) (congrArg lI hz0).symm ?_
    refine pg_lst0 hx hb hK hP hD hS 0 2 rfl rfl dL_step_16 (fun H locs hP hD hS => ?_)
    refine lv_goto (tgt := 32) hx hb dL_step_17 (by decide) ?_
    refine lv_iconst (v := iI 0) hx hb dL_step_32 rfl ?_
    exact pg_wiret hx hb hr hlk hP hS rfl dL_step_33
  · have hz1 : (1 : Int) = 1 := hz.resolve_left hc1
    refine lv_lconst (v := lI 1) hx hb dL_step_11 rfl ?_
    refine lv_goto (tgt := 16) hx hb dL_step_12 (by decide) ?_
    refine pg_tl (y := lI 1) (congrArg lI hz1).symm ?_
    refine pg_lst0 hx hb hK hP hD hS 0 2 rfl rfl dL_step_16 (fun H locs hP hD hS => ?_)
    refine lv_goto (tgt := 32) hx hb dL_step_17 (by decide) ?_
    refine lv_iconst (v := iI 0) hx hb dL_step_32 rfl ?_
    exact pg_wiret hx hb hr hlk hP hS rfl dL_step_33
set_option maxRecDepth 100000 in
set_option maxHeartbeats 4000000 in
theorem c_L_step_nos (l : Launch) (X : pgX) (S : pgS) (hok : pgOk S) (k : Nat) (hk : k < 12) (h1 : sS S k = 1) (hed : sU S k = 0) (cJ ao : Nat) (f : Nat → Int64) : pg_wr l yL_step wsL_step (rm 4 86) (xG X) (xTy X ++ [(cJ, .long)]) pT ((ao, .inl (cJ, 1, .inr (.inl f))) :: xC X S) ((ao, .inl (cJ, 1, .inr (.inl (vp_updL f 0 (lI 0))))) :: (xC X S)) 0 0 [.ref ((xa X 0)), .int (iI (((k : Nat) : Int))), .int (iI 115), .ref ao] (some (.int (iI 0))) := by
  refine pg_wrH_of (cc := cL_step) (maxL := 5) (ret := some .int) (hh := [(0, 17, 20, 13), (0, 17, 24, 21), (0, 17, 28, 15)]) (by decide) rfl (Nat.le_of_ble_eq_true rfl) ?_
  intro p e s m below meth c ls SC hr hlk hT hP hK hD hS hB hl
  obtain ⟨hx, hb, hml, hown, hts⟩ := id SC
  have hown : s.vm.findClass RL = some m.cls := hown
  have hl : lv_has ls 5 [(0, .ref ((xa X 0))), (1, .int (iI (((k : Nat) : Int)))), (2, .int (iI 115)), (3, .ref ao)] := hl
  have hK0 : va_K (xG X) vwCl (xTy X) s := va_K.sub hK [0, 1] rfl
  have hP0 : va_P (xG X) vwCl (xC X S) s.heap := pg_part (l1 := [(ao, .inl (cJ, 1, .inr (.inl f)))]) (l2 := []) hP
  refine lv_aload_n hx hb dL_step_0 rfl (lv_at hl 3 rfl) ?_
  refine lv_iconst (v := iI 0) hx hb dL_step_1 rfl ?_
  refine lv_aload_n hx hb dL_step_2 rfl (lv_at hl 0 rfl) ?_
  refine lv_iload_n hx hb dL_step_3 rfl (lv_at hl 1 rfl) ?_
  refine lv_iload_n hx hb dL_step_4 rfl (lv_at hl 2 rfl) ?_
  refine pg_callV (As := [.int (iI (((k : Nat) : Int))), .int (iI 115)]) (rest := [.int (iI 0), .ref ao]) SC (c_X0_stepno_s l X S hok k hk h1 hed) xB_st (xB_h hP0 hK0) (cwV 2 hts gL_step_X0_step rfl rfl rfl (by decide +kernel) ⟨Nat.le_of_ble_eq_true rfl, Nat.le_of_ble_eq_true rfl⟩) (va_recv hK0 hP0 (ci := 0) (q0 := 0) rfl rfl) rfl hl.1 rfl (Nat.le_of_ble_eq_true rfl) dL_step_5 ⟨Nat.zero_le _, Nat.zero_le _⟩ ?_
  have hz : (0 : Int) = 0 ∨ (0 : Int) = 1 := by omega
  refine pg_if_eq (tgt := 15) hx hb dL_step_8 (by decide) (⟨by omega, by omega⟩) (fun hc1 => ?_) (fun hc1 => ?_)
  · have hz0 : (0 : Int) = 0 := hc1
    refine lv_lconst (v := lI 0) hx hb dL_step_15 rfl ?_
    refine pg_tl (y := lI 0) (congrArg lI hz0).symm ?_
    refine pg_lst0 hx hb hK hP hD hS 0 2 rfl rfl dL_step_16 (fun H locs hP hD hS => ?_)
    refine lv_goto (tgt := 32) hx hb dL_step_17 (by decide) ?_
    refine lv_iconst (v := iI 0) hx hb dL_step_32 rfl ?_
    exact pg_wiret hx hb hr hlk hP hS rfl dL_step_33
  · have hz1 : (0 : Int) = 1 := hz.resolve_left hc1
    refine lv_lconst (v := lI 1) hx hb dL_step_11 rfl ?_
    refine lv_goto (tgt := 16) hx hb dL_step_12 (by decide) ?_
    refine pg_tl (y := lI 0) (congrArg lI hz1).symm ?_
    refine pg_lst0 hx hb hK hP hD hS 0 2 rfl rfl dL_step_16 (fun H locs hP hD hS => ?_)
    refine lv_goto (tgt := 32) hx hb dL_step_17 (by decide) ?_
    refine lv_iconst (v := iI 0) hx hb dL_step_32 rfl ?_
    exact pg_wiret hx hb hr hlk hP hS rfl dL_step_33
set_option maxRecDepth 100000 in
set_option maxHeartbeats 4000000 in
theorem c_L_step_e (l : Launch) (X : pgX) (S : pgS) (k a2 u2 : Nat) (hk : k < 12) (h1 : sS S k = 1) (ha9 : a2 < 91) (hu9 : u2 < 91) (ha : a2 = sA S k + 1) (hu : u2 = sU S k) (cJ ao : Nat) (f : Nat → Int64) : pg_wr l yL_step wsL_step (rm 4 86) (xG X) (xTy X ++ [(cJ, .long)]) pT ((ao, .inl (cJ, 1, .inr (.inl f))) :: xC X S) ((ao, .inl (cJ, 1, .inr (.inl (vp_updL f 0 (lI 1))))) :: (xC X (upN (sS S) k 1, upN (sA S) k a2, upN (sU S) k u2, sR S, sN S, sW S))) 0 0 [.ref ((xa X 0)), .int (iI (((k : Nat) : Int))), .int (iI 101), .ref ao] (some (.int (iI 0))) := by
  refine pg_wrH_of (cc := cL_step) (maxL := 5) (ret := some .int) (hh := [(0, 17, 20, 13), (0, 17, 24, 21), (0, 17, 28, 15)]) (by decide) rfl (Nat.le_of_ble_eq_true rfl) ?_
  intro p e s m below meth c ls SC hr hlk hT hP hK hD hS hB hl
  obtain ⟨hx, hb, hml, hown, hts⟩ := id SC
  have hown : s.vm.findClass RL = some m.cls := hown
  have hl : lv_has ls 5 [(0, .ref ((xa X 0))), (1, .int (iI (((k : Nat) : Int)))), (2, .int (iI 101)), (3, .ref ao)] := hl
  have hK0 : va_K (xG X) vwCl (xTy X) s := va_K.sub hK [0, 1] rfl
  have hP0 : va_P (xG X) vwCl (xC X S) s.heap := pg_part (l1 := [(ao, .inl (cJ, 1, .inr (.inl f)))]) (l2 := []) hP
  refine lv_aload_n hx hb dL_step_0 rfl (lv_at hl 3 rfl) ?_
  refine lv_iconst (v := iI 0) hx hb dL_step_1 rfl ?_
  refine lv_aload_n hx hb dL_step_2 rfl (lv_at hl 0 rfl) ?_
  refine lv_iload_n hx hb dL_step_3 rfl (lv_at hl 1 rfl) ?_
  refine lv_iload_n hx hb dL_step_4 rfl (lv_at hl 2 rfl) ?_
  refine pg_wcallV (As := [.int (iI (((k : Nat) : Int))), .int (iI 101)]) (rest := [.int (iI 0), .ref ao]) (l1 := [(ao, .inl (cJ, 1, .inr (.inl f)))]) (l2 := []) (w := xC X S) (w' := (xC X (upN (sS S) k 1, upN (sA S) k a2, upN (sU S) k u2, sR S, sN S, sW S))) SC (c_X0_step_e l X S k a2 u2 hk h1 ha9 hu9 ha hu) pT_st pT_h (cwV 2 hts gL_step_X0_step rfl rfl rfl (by decide +kernel) ⟨Nat.le_of_ble_eq_true rfl, Nat.le_of_ble_eq_true rfl⟩) (va_recv hK0 hP0 (ci := 0) (q0 := 0) rfl rfl) hK0 hP hD hS rfl rfl hl.1 rfl (Nat.le_of_ble_eq_true rfl) dL_step_5 ⟨Nat.zero_le _, Nat.zero_le _⟩ (fun H locs hP hD hS => ?_)
  have hP : va_P (xG X) vwCl (((ao, .inl (cJ, 1, .inr (.inl f))) :: (xC X (upN (sS S) k 1, upN (sA S) k a2, upN (sU S) k u2, sR S, sN S, sW S)))) H := hP
  have hD : va_D (pg_in ((ao, .inl (cJ, 1, .inr (.inl f))) :: xC X S)) (((ao, .inl (cJ, 1, .inr (.inl f))) :: (xC X (upN (sS S) k 1, upN (sA S) k a2, upN (sU S) k u2, sR S, sN S, sW S)))) := hD
  have hz : (1 : Int) = 0 ∨ (1 : Int) = 1 := by omega
  refine pg_if_eq (tgt := 15) hx hb dL_step_8 (by decide) (⟨by omega, by omega⟩) (fun hc1 => ?_) (fun hc1 => ?_)
  · have hz0 : (1 : Int) = 0 := hc1
    refine lv_lconst (v := lI 0) hx hb dL_step_15 rfl ?_
    refine pg_tl (y := lI 1) (congrArg lI hz0).symm ?_
    refine pg_lst0 hx hb hK hP hD hS 0 2 rfl rfl dL_step_16 (fun H locs hP hD hS => ?_)
    refine lv_goto (tgt := 32) hx hb dL_step_17 (by decide) ?_
    refine lv_iconst (v := iI 0) hx hb dL_step_32 rfl ?_
    exact pg_wiret hx hb hr hlk hP hS rfl dL_step_33
  · have hz1 : (1 : Int) = 1 := hz.resolve_left hc1
    refine lv_lconst (v := lI 1) hx hb dL_step_11 rfl ?_
    refine lv_goto (tgt := 16) hx hb dL_step_12 (by decide) ?_
    refine pg_tl (y := lI 1) (congrArg lI hz1).symm ?_
    refine pg_lst0 hx hb hK hP hD hS 0 2 rfl rfl dL_step_16 (fun H locs hP hD hS => ?_)
    refine lv_goto (tgt := 32) hx hb dL_step_17 (by decide) ?_
    refine lv_iconst (v := iI 0) hx hb dL_step_32 rfl ?_
    exact pg_wiret hx hb hr hlk hP hS rfl dL_step_33
set_option maxRecDepth 100000 in
set_option maxHeartbeats 4000000 in
theorem c_L_step_noe (l : Launch) (X : pgX) (S : pgS) (hok : pgOk S) (k : Nat) (hk : k < 12) (h1 : sS S k = 1) (hed : sA S k = 90) (cJ ao : Nat) (f : Nat → Int64) : pg_wr l yL_step wsL_step (rm 4 86) (xG X) (xTy X ++ [(cJ, .long)]) pT ((ao, .inl (cJ, 1, .inr (.inl f))) :: xC X S) ((ao, .inl (cJ, 1, .inr (.inl (vp_updL f 0 (lI 0))))) :: (xC X S)) 0 0 [.ref ((xa X 0)), .int (iI (((k : Nat) : Int))), .int (iI 101), .ref ao] (some (.int (iI 0))) := by
  refine pg_wrH_of (cc := cL_step) (maxL := 5) (ret := some .int) (hh := [(0, 17, 20, 13), (0, 17, 24, 21), (0, 17, 28, 15)]) (by decide) rfl (Nat.le_of_ble_eq_true rfl) ?_
  intro p e s m below meth c ls SC hr hlk hT hP hK hD hS hB hl
  obtain ⟨hx, hb, hml, hown, hts⟩ := id SC
  have hown : s.vm.findClass RL = some m.cls := hown
  have hl : lv_has ls 5 [(0, .ref ((xa X 0))), (1, .int (iI (((k : Nat) : Int)))), (2, .int (iI 101)), (3, .ref ao)] := hl
  have hK0 : va_K (xG X) vwCl (xTy X) s := va_K.sub hK [0, 1] rfl
  have hP0 : va_P (xG X) vwCl (xC X S) s.heap := pg_part (l1 := [(ao, .inl (cJ, 1, .inr (.inl f)))]) (l2 := []) hP
  refine lv_aload_n hx hb dL_step_0 rfl (lv_at hl 3 rfl) ?_
  refine lv_iconst (v := iI 0) hx hb dL_step_1 rfl ?_
  refine lv_aload_n hx hb dL_step_2 rfl (lv_at hl 0 rfl) ?_
  refine lv_iload_n hx hb dL_step_3 rfl (lv_at hl 1 rfl) ?_
  refine lv_iload_n hx hb dL_step_4 rfl (lv_at hl 2 rfl) ?_
  refine pg_callV (As := [.int (iI (((k : Nat) : Int))), .int (iI 101)]) (rest := [.int (iI 0), .ref ao]) SC (c_X0_stepno_e l X S hok k hk h1 hed) xB_st (xB_h hP0 hK0) (cwV 2 hts gL_step_X0_step rfl rfl rfl (by decide +kernel) ⟨Nat.le_of_ble_eq_true rfl, Nat.le_of_ble_eq_true rfl⟩) (va_recv hK0 hP0 (ci := 0) (q0 := 0) rfl rfl) rfl hl.1 rfl (Nat.le_of_ble_eq_true rfl) dL_step_5 ⟨Nat.zero_le _, Nat.zero_le _⟩ ?_
  have hz : (0 : Int) = 0 ∨ (0 : Int) = 1 := by omega
  refine pg_if_eq (tgt := 15) hx hb dL_step_8 (by decide) (⟨by omega, by omega⟩) (fun hc1 => ?_) (fun hc1 => ?_)
  · have hz0 : (0 : Int) = 0 := hc1
    refine lv_lconst (v := lI 0) hx hb dL_step_15 rfl ?_
    refine pg_tl (y := lI 0) (congrArg lI hz0).symm ?_
    refine pg_lst0 hx hb hK hP hD hS 0 2 rfl rfl dL_step_16 (fun H locs hP hD hS => ?_)
    refine lv_goto (tgt := 32) hx hb dL_step_17 (by decide) ?_
    refine lv_iconst (v := iI 0) hx hb dL_step_32 rfl ?_
    exact pg_wiret hx hb hr hlk hP hS rfl dL_step_33
  · have hz1 : (0 : Int) = 1 := hz.resolve_left hc1
    refine lv_lconst (v := lI 1) hx hb dL_step_11 rfl ?_
    refine lv_goto (tgt := 16) hx hb dL_step_12 (by decide) ?_
    refine pg_tl (y := lI 0) (congrArg lI hz1).symm ?_
    refine pg_lst0 hx hb hK hP hD hS 0 2 rfl rfl dL_step_16 (fun H locs hP hD hS => ?_)
    refine lv_goto (tgt := 32) hx hb dL_step_17 (by decide) ?_
    refine lv_iconst (v := iI 0) hx hb dL_step_32 rfl ?_
    exact pg_wiret hx hb hr hlk hP hS rfl dL_step_33
set_option maxRecDepth 100000 in
set_option maxHeartbeats 4000000 in
theorem c_L_step_w (l : Launch) (X : pgX) (S : pgS) (k a2 u2 : Nat) (hk : k < 12) (h1 : sS S k = 1) (ha9 : a2 < 91) (hu9 : u2 < 91) (ha : a2 + 1 = sA S k) (hu : u2 = sU S k) (cJ ao : Nat) (f : Nat → Int64) : pg_wr l yL_step wsL_step (rm 4 86) (xG X) (xTy X ++ [(cJ, .long)]) pT ((ao, .inl (cJ, 1, .inr (.inl f))) :: xC X S) ((ao, .inl (cJ, 1, .inr (.inl (vp_updL f 0 (lI 1))))) :: (xC X (upN (sS S) k 1, upN (sA S) k a2, upN (sU S) k u2, sR S, sN S, sW S))) 0 0 [.ref ((xa X 0)), .int (iI (((k : Nat) : Int))), .int (iI 119), .ref ao] (some (.int (iI 0))) := by
  refine pg_wrH_of (cc := cL_step) (maxL := 5) (ret := some .int) (hh := [(0, 17, 20, 13), (0, 17, 24, 21), (0, 17, 28, 15)]) (by decide) rfl (Nat.le_of_ble_eq_true rfl) ?_
  intro p e s m below meth c ls SC hr hlk hT hP hK hD hS hB hl
  obtain ⟨hx, hb, hml, hown, hts⟩ := id SC
  have hown : s.vm.findClass RL = some m.cls := hown
  have hl : lv_has ls 5 [(0, .ref ((xa X 0))), (1, .int (iI (((k : Nat) : Int)))), (2, .int (iI 119)), (3, .ref ao)] := hl
  have hK0 : va_K (xG X) vwCl (xTy X) s := va_K.sub hK [0, 1] rfl
  have hP0 : va_P (xG X) vwCl (xC X S) s.heap := pg_part (l1 := [(ao, .inl (cJ, 1, .inr (.inl f)))]) (l2 := []) hP
  refine lv_aload_n hx hb dL_step_0 rfl (lv_at hl 3 rfl) ?_
  refine lv_iconst (v := iI 0) hx hb dL_step_1 rfl ?_
  refine lv_aload_n hx hb dL_step_2 rfl (lv_at hl 0 rfl) ?_
  refine lv_iload_n hx hb dL_step_3 rfl (lv_at hl 1 rfl) ?_
  refine lv_iload_n hx hb dL_step_4 rfl (lv_at hl 2 rfl) ?_
  refine pg_wcallV (As := [.int (iI (((k : Nat) : Int))), .int (iI 119)]) (rest := [.int (iI 0), .ref ao]) (l1 := [(ao, .inl (cJ, 1, .inr (.inl f)))]) (l2 := []) (w := xC X S) (w' := (xC X (upN (sS S) k 1, upN (sA S) k a2, upN (sU S) k u2, sR S, sN S, sW S))) SC (c_X0_step_w l X S k a2 u2 hk h1 ha9 hu9 ha hu) pT_st pT_h (cwV 2 hts gL_step_X0_step rfl rfl rfl (by decide +kernel) ⟨Nat.le_of_ble_eq_true rfl, Nat.le_of_ble_eq_true rfl⟩) (va_recv hK0 hP0 (ci := 0) (q0 := 0) rfl rfl) hK0 hP hD hS rfl rfl hl.1 rfl (Nat.le_of_ble_eq_true rfl) dL_step_5 ⟨Nat.zero_le _, Nat.zero_le _⟩ (fun H locs hP hD hS => ?_)
  have hP : va_P (xG X) vwCl (((ao, .inl (cJ, 1, .inr (.inl f))) :: (xC X (upN (sS S) k 1, upN (sA S) k a2, upN (sU S) k u2, sR S, sN S, sW S)))) H := hP
  have hD : va_D (pg_in ((ao, .inl (cJ, 1, .inr (.inl f))) :: xC X S)) (((ao, .inl (cJ, 1, .inr (.inl f))) :: (xC X (upN (sS S) k 1, upN (sA S) k a2, upN (sU S) k u2, sR S, sN S, sW S)))) := hD
  have hz : (1 : Int) = 0 ∨ (1 : Int) = 1 := by omega
  refine pg_if_eq (tgt := 15) hx hb dL_step_8 (by decide) (⟨by omega, by omega⟩) (fun hc1 => ?_) (fun hc1 => ?_)
  · have hz0 : (1 : Int) = 0 := hc1
    refine lv_lconst (v := lI 0) hx hb dL_step_15 rfl ?_
    refine pg_tl (y := lI 1) (congrArg lI hz0).symm ?_
    refine pg_lst0 hx hb hK hP hD hS 0 2 rfl rfl dL_step_16 (fun H locs hP hD hS => ?_)
    refine lv_goto (tgt := 32) hx hb dL_step_17 (by decide) ?_
    refine lv_iconst (v := iI 0) hx hb dL_step_32 rfl ?_
    exact pg_wiret hx hb hr hlk hP hS rfl dL_step_33
  · have hz1 : (1 : Int) = 1 := hz.resolve_left hc1
    refine lv_lconst (v := lI 1) hx hb dL_step_11 rfl ?_
    refine lv_goto (tgt := 16) hx hb dL_step_12 (by decide) ?_
    refine pg_tl (y := lI 1) (congrArg lI hz1).symm ?_
    refine pg_lst0 hx hb hK hP hD hS 0 2 rfl rfl dL_step_16 (fun H locs hP hD hS => ?_)
    refine lv_goto (tgt := 32) hx hb dL_step_17 (by decide) ?_
    refine lv_iconst (v := iI 0) hx hb dL_step_32 rfl ?_
    exact pg_wiret hx hb hr hlk hP hS rfl dL_step_33
set_option maxRecDepth 100000 in
set_option maxHeartbeats 4000000 in
theorem c_L_step_now (l : Launch) (X : pgX) (S : pgS) (hok : pgOk S) (k : Nat) (hk : k < 12) (h1 : sS S k = 1) (hed : sA S k = 0) (cJ ao : Nat) (f : Nat → Int64) : pg_wr l yL_step wsL_step (rm 4 86) (xG X) (xTy X ++ [(cJ, .long)]) pT ((ao, .inl (cJ, 1, .inr (.inl f))) :: xC X S) ((ao, .inl (cJ, 1, .inr (.inl (vp_updL f 0 (lI 0))))) :: (xC X S)) 0 0 [.ref ((xa X 0)), .int (iI (((k : Nat) : Int))), .int (iI 119), .ref ao] (some (.int (iI 0))) := by
  refine pg_wrH_of (cc := cL_step) (maxL := 5) (ret := some .int) (hh := [(0, 17, 20, 13), (0, 17, 24, 21), (0, 17, 28, 15)]) (by decide) rfl (Nat.le_of_ble_eq_true rfl) ?_
  intro p e s m below meth c ls SC hr hlk hT hP hK hD hS hB hl
  obtain ⟨hx, hb, hml, hown, hts⟩ := id SC
  have hown : s.vm.findClass RL = some m.cls := hown
  have hl : lv_has ls 5 [(0, .ref ((xa X 0))), (1, .int (iI (((k : Nat) : Int)))), (2, .int (iI 119)), (3, .ref ao)] := hl
  have hK0 : va_K (xG X) vwCl (xTy X) s := va_K.sub hK [0, 1] rfl
  have hP0 : va_P (xG X) vwCl (xC X S) s.heap := pg_part (l1 := [(ao, .inl (cJ, 1, .inr (.inl f)))]) (l2 := []) hP
  refine lv_aload_n hx hb dL_step_0 rfl (lv_at hl 3 rfl) ?_
  refine lv_iconst (v := iI 0) hx hb dL_step_1 rfl ?_
  refine lv_aload_n hx hb dL_step_2 rfl (lv_at hl 0 rfl) ?_
  refine lv_iload_n hx hb dL_step_3 rfl (lv_at hl 1 rfl) ?_
  refine lv_iload_n hx hb dL_step_4 rfl (lv_at hl 2 rfl) ?_
  refine pg_callV (As := [.int (iI (((k : Nat) : Int))), .int (iI 119)]) (rest := [.int (iI 0), .ref ao]) SC (c_X0_stepno_w l X S hok k hk h1 hed) xB_st (xB_h hP0 hK0) (cwV 2 hts gL_step_X0_step rfl rfl rfl (by decide +kernel) ⟨Nat.le_of_ble_eq_true rfl, Nat.le_of_ble_eq_true rfl⟩) (va_recv hK0 hP0 (ci := 0) (q0 := 0) rfl rfl) rfl hl.1 rfl (Nat.le_of_ble_eq_true rfl) dL_step_5 ⟨Nat.zero_le _, Nat.zero_le _⟩ ?_
  have hz : (0 : Int) = 0 ∨ (0 : Int) = 1 := by omega
  refine pg_if_eq (tgt := 15) hx hb dL_step_8 (by decide) (⟨by omega, by omega⟩) (fun hc1 => ?_) (fun hc1 => ?_)
  · have hz0 : (0 : Int) = 0 := hc1
    refine lv_lconst (v := lI 0) hx hb dL_step_15 rfl ?_
    refine pg_tl (y := lI 0) (congrArg lI hz0).symm ?_
    refine pg_lst0 hx hb hK hP hD hS 0 2 rfl rfl dL_step_16 (fun H locs hP hD hS => ?_)
    refine lv_goto (tgt := 32) hx hb dL_step_17 (by decide) ?_
    refine lv_iconst (v := iI 0) hx hb dL_step_32 rfl ?_
    exact pg_wiret hx hb hr hlk hP hS rfl dL_step_33
  · have hz1 : (0 : Int) = 1 := hz.resolve_left hc1
    refine lv_lconst (v := lI 1) hx hb dL_step_11 rfl ?_
    refine lv_goto (tgt := 16) hx hb dL_step_12 (by decide) ?_
    refine pg_tl (y := lI 0) (congrArg lI hz1).symm ?_
    refine pg_lst0 hx hb hK hP hD hS 0 2 rfl rfl dL_step_16 (fun H locs hP hD hS => ?_)
    refine lv_goto (tgt := 32) hx hb dL_step_17 (by decide) ?_
    refine lv_iconst (v := iI 0) hx hb dL_step_32 rfl ?_
    exact pg_wiret hx hb hr hlk hP hS rfl dL_step_33
set_option maxRecDepth 100000 in
set_option maxHeartbeats 4000000 in
theorem c_L_step_1 (l : Launch) (hfl : l.stackTraces = false) (N : Nat) (X : pgX) (S : pgS) (pp : Int) (hp : inI pp) (h : pp < 0 ∨ 12 ≤ pp) (way : Int) (ao : Nat) : pg_wr l yL_step wsL_step (rmx 8 126) (xG X) [] (xW N X S) [] [] 1 6 [.ref ((xa X 0)), .int (iI pp), .int (iI way), .ref ao] (some (.int (iI 1))) := by
  refine pg_wrH_of (cc := cL_step) (maxL := 5) (ret := some .int) (hh := [(0, 17, 20, 13), (0, 17, 24, 21), (0, 17, 28, 15)]) (by decide) rfl (Nat.le_of_ble_eq_true rfl) ?_
  intro p e s m below meth c ls SC hr hlk hT hP hK hD hS hB hl
  obtain ⟨hx, hb, hml, hown, hts⟩ := id SC
  have hown : s.vm.findClass RL = some m.cls := hown
  have hl : lv_has ls 5 [(0, .ref ((xa X 0))), (1, .int (iI pp)), (2, .int (iI way)), (3, .ref ao)] := hl
  obtain ⟨⟨⟨hP0, hK0⟩, hE⟩, hN⟩ := id hB
  refine lv_aload_n hx hb dL_step_0 rfl (lv_at hl 3 rfl) ?_
  refine lv_iconst (v := iI 0) hx hb dL_step_1 rfl ?_
  refine lv_aload_n hx hb dL_step_2 rfl (lv_at hl 0 rfl) ?_
  refine lv_iload_n hx hb dL_step_3 rfl (lv_at hl 1 rfl) ?_
  refine lv_iload_n hx hb dL_step_4 rfl (lv_at hl 2 rfl) ?_
  refine pg_thrV (As := [.int (iI pp), .int (iI way)]) (rest := [.int (iI 0), .ref ao]) SC (c_X0_step_th1 l hfl N X S pp hp h way) xE_st (pg_h_of xE_st ⟨⟨hP0, hK0⟩, hE⟩) (cwV 2 hts gL_step_X0_step rfl rfl rfl (by decide +kernel) ⟨Nat.le_of_ble_eq_true rfl, Nat.le_of_ble_eq_true rfl⟩) (va_recv hK0 hP0 (ci := 0) (q0 := 0) rfl rfl) rfl hl.1 rfl (Nat.le_of_ble_eq_true rfl) dL_step_5 ⟨Nat.le_of_ble_eq_true rfl, Nat.le_of_ble_eq_true rfl⟩ (fun H1 qx ce h1 h2 h3 h4 h5 => ?_)
  refine vx_catch (own := RL) (E := "java/lang/IndexOutOfBoundsException") (name := "java/lang/IndexOutOfBoundsException") hown [] ⟨0, 17, 20, 13⟩ [⟨0, 17, 24, 21⟩, ⟨0, 17, 28, 15⟩] (hT.trans rfl) pg_ps0 (by decide) (by decide) (hts (.classLink RL 13 "java/lang/IndexOutOfBoundsException") (by decide +kernel)) (hE.2.2.2 _ (by decide) _) h3 h4 h5 ?_
  refine lv_astore (lv' := [(4, .ref qx), (0, .ref ((xa X 0))), (1, .int (iI pp)), (2, .int (iI way)), (3, .ref ao)]) hx hb dL_step_20 hl (by decide) rfl (fun ls hl => ?_)
  refine lv_iconst (v := iI 1) hx hb dL_step_22 rfl ?_
  exact pg_wiret hx hb hr hlk (fun _ _ h => nomatch h) ⟨h1, fun x hx _ => h2 x hx, fun z h => nomatch h⟩ rfl dL_step_23
set_option maxRecDepth 100000 in
set_option maxHeartbeats 4000000 in
theorem c_L_step_2 (l : Launch) (hfl : l.stackTraces = false) (N : Nat) (X : pgX) (S : pgS) (k : Nat) (hk : k < 12) (h1 : sS S k = 0) (way : Int) (ao : Nat) : pg_wr l yL_step wsL_step (rmx 8 127) (xG X) [] (xW N X S) [] [] 1 6 [.ref ((xa X 0)), .int (iI (((k : Nat) : Int))), .int (iI way), .ref ao] (some (.int (iI 2))) := by
  refine pg_wrH_of (cc := cL_step) (maxL := 5) (ret := some .int) (hh := [(0, 17, 20, 13), (0, 17, 24, 21), (0, 17, 28, 15)]) (by decide) rfl (Nat.le_of_ble_eq_true rfl) ?_
  intro p e s m below meth c ls SC hr hlk hT hP hK hD hS hB hl
  obtain ⟨hx, hb, hml, hown, hts⟩ := id SC
  have hown : s.vm.findClass RL = some m.cls := hown
  have hl : lv_has ls 5 [(0, .ref ((xa X 0))), (1, .int (iI (((k : Nat) : Int)))), (2, .int (iI way)), (3, .ref ao)] := hl
  obtain ⟨⟨⟨hP0, hK0⟩, hE⟩, hN⟩ := id hB
  refine lv_aload_n hx hb dL_step_0 rfl (lv_at hl 3 rfl) ?_
  refine lv_iconst (v := iI 0) hx hb dL_step_1 rfl ?_
  refine lv_aload_n hx hb dL_step_2 rfl (lv_at hl 0 rfl) ?_
  refine lv_iload_n hx hb dL_step_3 rfl (lv_at hl 1 rfl) ?_
  refine lv_iload_n hx hb dL_step_4 rfl (lv_at hl 2 rfl) ?_
  refine pg_thrV (As := [.int (iI (((k : Nat) : Int))), .int (iI way)]) (rest := [.int (iI 0), .ref ao]) SC (c_X0_step_th2 l hfl N X S k hk h1 way) xE_st (pg_h_of xE_st ⟨⟨hP0, hK0⟩, hE⟩) (cwV 2 hts gL_step_X0_step rfl rfl rfl (by decide +kernel) ⟨Nat.le_of_ble_eq_true rfl, Nat.le_of_ble_eq_true rfl⟩) (va_recv hK0 hP0 (ci := 0) (q0 := 0) rfl rfl) rfl hl.1 rfl (Nat.le_of_ble_eq_true rfl) dL_step_5 ⟨Nat.le_of_ble_eq_true rfl, Nat.le_of_ble_eq_true rfl⟩ (fun H1 qx ce h1 h2 h3 h4 h5 => ?_)
  refine vx_catch (own := RL) (E := "java/util/NoSuchElementException") (name := "java/util/NoSuchElementException") hown [⟨0, 17, 20, 13⟩] ⟨0, 17, 24, 21⟩ [⟨0, 17, 28, 15⟩] (hT.trans rfl) (pg_ps (Or.inr ⟨by decide, "java/lang/IndexOutOfBoundsException", hts (.classLink RL 13 "java/lang/IndexOutOfBoundsException") (by decide +kernel), hN ("java/util/NoSuchElementException", "java/lang/IndexOutOfBoundsException") (by decide)⟩) pg_ps0) (by decide) (by decide) (hts (.classLink RL 21 "java/util/NoSuchElementException") (by decide +kernel)) (hE.2.2.2 _ (by decide) _) h3 h4 h5 ?_
  refine lv_astore (lv' := [(4, .ref qx), (0, .ref ((xa X 0))), (1, .int (iI (((k : Nat) : Int)))), (2, .int (iI way)), (3, .ref ao)]) hx hb dL_step_24 hl (by decide) rfl (fun ls hl => ?_)
  refine lv_iconst (v := iI 2) hx hb dL_step_26 rfl ?_
  exact pg_wiret hx hb hr hlk (fun _ _ h => nomatch h) ⟨h1, fun x hx _ => h2 x hx, fun z h => nomatch h⟩ rfl dL_step_27
set_option maxRecDepth 100000 in
set_option maxHeartbeats 4000000 in
theorem c_L_step_3 (l : Launch) (hfl : l.stackTraces = false) (N : Nat) (X : pgX) (S : pgS) (k : Nat) (hk : k < 12) (h1 : sS S k = 1) (way : Int) (hwi : inI way) (hw : way ≠ 110 ∧ way ≠ 115 ∧ way ≠ 101 ∧ way ≠ 119) (ao : Nat) : pg_wr l yL_step wsL_step (rmx 7 106) (xG X) [] (xW N X S) [] [] 1 6 [.ref ((xa X 0)), .int (iI (((k : Nat) : Int))), .int (iI way), .ref ao] (some (.int (iI 3))) := by
  refine pg_wrH_of (cc := cL_step) (maxL := 5) (ret := some .int) (hh := [(0, 17, 20, 13), (0, 17, 24, 21), (0, 17, 28, 15)]) (by decide) rfl (Nat.le_of_ble_eq_true rfl) ?_
  intro p e s m below meth c ls SC hr hlk hT hP hK hD hS hB hl
  obtain ⟨hx, hb, hml, hown, hts⟩ := id SC
  have hown : s.vm.findClass RL = some m.cls := hown
  have hl : lv_has ls 5 [(0, .ref ((xa X 0))), (1, .int (iI (((k : Nat) : Int)))), (2, .int (iI way)), (3, .ref ao)] := hl
  obtain ⟨⟨⟨hP0, hK0⟩, hE⟩, hN⟩ := id hB
  refine lv_aload_n hx hb dL_step_0 rfl (lv_at hl 3 rfl) ?_
  refine lv_iconst (v := iI 0) hx hb dL_step_1 rfl ?_
  refine lv_aload_n hx hb dL_step_2 rfl (lv_at hl 0 rfl) ?_
  refine lv_iload_n hx hb dL_step_3 rfl (lv_at hl 1 rfl) ?_
  refine lv_iload_n hx hb dL_step_4 rfl (lv_at hl 2 rfl) ?_
  refine pg_thrV (As := [.int (iI (((k : Nat) : Int))), .int (iI way)]) (rest := [.int (iI 0), .ref ao]) SC (c_X0_step_th3 l hfl N X S k hk h1 way hwi hw) xE_st (pg_h_of xE_st ⟨⟨hP0, hK0⟩, hE⟩) (cwV 2 hts gL_step_X0_step rfl rfl rfl (by decide +kernel) ⟨Nat.le_of_ble_eq_true rfl, Nat.le_of_ble_eq_true rfl⟩) (va_recv hK0 hP0 (ci := 0) (q0 := 0) rfl rfl) rfl hl.1 rfl (Nat.le_of_ble_eq_true rfl) dL_step_5 ⟨Nat.le_of_ble_eq_true rfl, Nat.le_of_ble_eq_true rfl⟩ (fun H1 qx ce h1 h2 h3 h4 h5 => ?_)
  refine vx_catch (own := RL) (E := "java/lang/IllegalArgumentException") (name := "java/lang/IllegalArgumentException") hown [⟨0, 17, 20, 13⟩, ⟨0, 17, 24, 21⟩] ⟨0, 17, 28, 15⟩ [] (hT.trans rfl) (pg_ps (Or.inr ⟨by decide, "java/lang/IndexOutOfBoundsException", hts (.classLink RL 13 "java/lang/IndexOutOfBoundsException") (by decide +kernel), hN ("java/lang/IllegalArgumentException", "java/lang/IndexOutOfBoundsException") (by decide)⟩) (pg_ps (Or.inr ⟨by decide, "java/util/NoSuchElementException", hts (.classLink RL 21 "java/util/NoSuchElementException") (by decide +kernel), hN ("java/lang/IllegalArgumentException", "java/util/NoSuchElementException") (by decide)⟩) pg_ps0)) (by decide) (by decide) (hts (.classLink RL 15 "java/lang/IllegalArgumentException") (by decide +kernel)) (hE.2.2.2 _ (by decide) _) h3 h4 h5 ?_
  refine lv_astore (lv' := [(4, .ref qx), (0, .ref ((xa X 0))), (1, .int (iI (((k : Nat) : Int)))), (2, .int (iI way)), (3, .ref ao)]) hx hb dL_step_28 hl (by decide) rfl (fun ls hl => ?_)
  refine lv_iconst (v := iI 3) hx hb dL_step_30 rfl ?_
  exact pg_wiret hx hb hr hlk (fun _ _ h => nomatch h) ⟨h1, fun x hx _ => h2 x hx, fun z h => nomatch h⟩ rfl dL_step_31
set_option maxRecDepth 100000 in
set_option maxHeartbeats 4000000 in
theorem c_L_isThere_ok (l : Launch) (X : pgX) (S : pgS) (hok : pgOk S) (k : Nat) (hk : k < 12)  (cJ ao : Nat) (f : Nat → Int64) : pg_wr l yL_isThere wsL_isThere (rm 3 62) (xG X) (xTy X ++ [(cJ, .long)]) pT ((ao, .inl (cJ, 1, .inr (.inl f))) :: xC X S) ((ao, .inl (cJ, 1, .inr (.inl (vp_updL f 0 (lI ((((sS S k : Nat) : Int)))))))) :: (xC X S)) 0 0 [.ref ((xa X 0)), .int (iI (((k : Nat) : Int))), .ref ao] (some (.int (iI 0))) := by
  refine pg_wrH_of (cc := cL_isThere) (maxL := 4) (ret := some .int) (hh := [(0, 16, 19, 13)]) (by decide) rfl (Nat.le_of_ble_eq_true rfl) ?_
  intro p e s m below meth c ls SC hr hlk hT hP hK hD hS hB hl
  obtain ⟨hx, hb, hml, hown, hts⟩ := id SC
  have hown : s.vm.findClass RL = some m.cls := hown
  have hl : lv_has ls 4 [(0, .ref ((xa X 0))), (1, .int (iI (((k : Nat) : Int)))), (2, .ref ao)] := hl
  have hK0 : va_K (xG X) vwCl (xTy X) s := va_K.sub hK [0, 1] rfl
  have hP0 : va_P (xG X) vwCl (xC X S) s.heap := pg_part (l1 := [(ao, .inl (cJ, 1, .inr (.inl f)))]) (l2 := []) hP
  refine lv_aload_n hx hb dL_isThere_0 rfl (lv_at hl 2 rfl) ?_
  refine lv_iconst (v := iI 0) hx hb dL_isThere_1 rfl ?_
  refine lv_aload_n hx hb dL_isThere_2 rfl (lv_at hl 0 rfl) ?_
  refine lv_iload_n hx hb dL_isThere_3 rfl (lv_at hl 1 rfl) ?_
  refine pg_callV (As := [.int (iI (((k : Nat) : Int)))]) (rest := [.int (iI 0), .ref ao]) SC (c_X0_isThere_ok l X S hok k hk) xB_st (xB_h hP0 hK0) (cwV 1 hts gL_isThere_X0_isThere rfl rfl rfl (by decide +kernel) ⟨Nat.le_of_ble_eq_true rfl, Nat.le_of_ble_eq_true rfl⟩) (va_recv hK0 hP0 (ci := 0) (q0 := 0) rfl rfl) rfl hl.1 rfl (Nat.le_of_ble_eq_true rfl) dL_isThere_4 ⟨Nat.zero_le _, Nat.zero_le _⟩ ?_
  have hz : ((((sS S k : Nat) : Int)) : Int) = 0 ∨ ((((sS S k : Nat) : Int)) : Int) = 1 := by have := hok.1 k; omega
  refine pg_if_eq (tgt := 14) hx hb dL_isThere_7 (by decide) (⟨by omega, by omega⟩) (fun hc1 => ?_) (fun hc1 => ?_)
  · have hz0 : ((((sS S k : Nat) : Int)) : Int) = 0 := hc1
    refine lv_lconst (v := lI 0) hx hb dL_isThere_14 rfl ?_
    refine pg_tl (y := lI ((((sS S k : Nat) : Int)))) (congrArg lI hz0).symm ?_
    refine pg_lst0 hx hb hK hP hD hS 0 2 rfl rfl dL_isThere_15 (fun H locs hP hD hS => ?_)
    refine lv_goto (tgt := 22) hx hb dL_isThere_16 (by decide) ?_
    refine lv_iconst (v := iI 0) hx hb dL_isThere_22 rfl ?_
    exact pg_wiret hx hb hr hlk hP hS rfl dL_isThere_23
  · have hz1 : ((((sS S k : Nat) : Int)) : Int) = 1 := hz.resolve_left hc1
    refine lv_lconst (v := lI 1) hx hb dL_isThere_10 rfl ?_
    refine lv_goto (tgt := 15) hx hb dL_isThere_11 (by decide) ?_
    refine pg_tl (y := lI ((((sS S k : Nat) : Int)))) (congrArg lI hz1).symm ?_
    refine pg_lst0 hx hb hK hP hD hS 0 2 rfl rfl dL_isThere_15 (fun H locs hP hD hS => ?_)
    refine lv_goto (tgt := 22) hx hb dL_isThere_16 (by decide) ?_
    refine lv_iconst (v := iI 0) hx hb dL_isThere_22 rfl ?_
    exact pg_wiret hx hb hr hlk hP hS rfl dL_isThere_23
set_option maxRecDepth 100000 in
set_option maxHeartbeats 4000000 in
theorem c_L_isThere_1 (l : Launch) (hfl : l.stackTraces = false) (N : Nat) (X : pgX) (S : pgS) (pp : Int) (hp : inI pp) (h : pp < 0 ∨ 12 ≤ pp)  (ao : Nat) : pg_wr l yL_isThere wsL_isThere (rmx 8 123) (xG X) [] (xW N X S) [] [] 1 6 [.ref ((xa X 0)), .int (iI pp), .ref ao] (some (.int (iI 1))) := by
  refine pg_wrH_of (cc := cL_isThere) (maxL := 4) (ret := some .int) (hh := [(0, 16, 19, 13)]) (by decide) rfl (Nat.le_of_ble_eq_true rfl) ?_
  intro p e s m below meth c ls SC hr hlk hT hP hK hD hS hB hl
  obtain ⟨hx, hb, hml, hown, hts⟩ := id SC
  have hown : s.vm.findClass RL = some m.cls := hown
  have hl : lv_has ls 4 [(0, .ref ((xa X 0))), (1, .int (iI pp)), (2, .ref ao)] := hl
  obtain ⟨⟨⟨hP0, hK0⟩, hE⟩, hN⟩ := id hB
  refine lv_aload_n hx hb dL_isThere_0 rfl (lv_at hl 2 rfl) ?_
  refine lv_iconst (v := iI 0) hx hb dL_isThere_1 rfl ?_
  refine lv_aload_n hx hb dL_isThere_2 rfl (lv_at hl 0 rfl) ?_
  refine lv_iload_n hx hb dL_isThere_3 rfl (lv_at hl 1 rfl) ?_
  refine pg_thrV (As := [.int (iI pp)]) (rest := [.int (iI 0), .ref ao]) SC (c_X0_isThere_th1 l hfl N X S pp hp h) xE_st (pg_h_of xE_st ⟨⟨hP0, hK0⟩, hE⟩) (cwV 1 hts gL_isThere_X0_isThere rfl rfl rfl (by decide +kernel) ⟨Nat.le_of_ble_eq_true rfl, Nat.le_of_ble_eq_true rfl⟩) (va_recv hK0 hP0 (ci := 0) (q0 := 0) rfl rfl) rfl hl.1 rfl (Nat.le_of_ble_eq_true rfl) dL_isThere_4 ⟨Nat.le_of_ble_eq_true rfl, Nat.le_of_ble_eq_true rfl⟩ (fun H1 qx ce h1 h2 h3 h4 h5 => ?_)
  refine vx_catch (own := RL) (E := "java/lang/IndexOutOfBoundsException") (name := "java/lang/IndexOutOfBoundsException") hown [] ⟨0, 16, 19, 13⟩ [] (hT.trans rfl) pg_ps0 (by decide) (by decide) (hts (.classLink RL 13 "java/lang/IndexOutOfBoundsException") (by decide +kernel)) (hE.2.2.2 _ (by decide) _) h3 h4 h5 ?_
  refine lv_astore_n (lv' := [(3, .ref qx), (0, .ref ((xa X 0))), (1, .int (iI pp)), (2, .ref ao)]) hx hb dL_isThere_19 rfl hl (by decide) rfl (fun ls hl => ?_)
  refine lv_iconst (v := iI 1) hx hb dL_isThere_20 rfl ?_
  exact pg_wiret hx hb hr hlk (fun _ _ h => nomatch h) ⟨h1, fun x hx _ => h2 x hx, fun z h => nomatch h⟩ rfl dL_isThere_21
set_option maxRecDepth 100000 in
set_option maxHeartbeats 4000000 in
theorem c_L_placeOf_ok (l : Launch) (X : pgX) (S : pgS) (k : Nat) (hk : k < 12) (h1 : sS S k = 1) (hok : pgOk S) (cJ ao : Nat) (f : Nat → Int64) : pg_wr l yL_placeOf wsL_placeOf (rm 4 83) (xG X) (xTy X ++ [(cJ, .long)]) pT ((ao, .inl (cJ, 1, .inr (.inl f))) :: xC X S) ((ao, .inl (cJ, 1, .inr (.inl (vp_updL f 0 (lI ((((sU S k * 91 + sA S k : Nat) : Int)))))))) :: (xC X S)) 0 0 [.ref ((xa X 0)), .int (iI (((k : Nat) : Int))), .ref ao] (some (.int (iI 0))) := by
  refine pg_wrH_of (cc := cL_placeOf) (maxL := 4) (ret := some .int) (hh := [(0, 9, 12, 13), (0, 9, 15, 21)]) (by decide) rfl (Nat.le_of_ble_eq_true rfl) ?_
  intro p e s m below meth c ls SC hr hlk hT hP hK hD hS hB hl
  obtain ⟨hx, hb, hml, hown, hts⟩ := id SC
  have hown : s.vm.findClass RL = some m.cls := hown
  have hl : lv_has ls 4 [(0, .ref ((xa X 0))), (1, .int (iI (((k : Nat) : Int)))), (2, .ref ao)] := hl
  have hK0 : va_K (xG X) vwCl (xTy X) s := va_K.sub hK [0, 1] rfl
  have hP0 : va_P (xG X) vwCl (xC X S) s.heap := pg_part (l1 := [(ao, .inl (cJ, 1, .inr (.inl f)))]) (l2 := []) hP
  refine lv_aload_n hx hb dL_placeOf_0 rfl (lv_at hl 2 rfl) ?_
  refine lv_iconst (v := iI 0) hx hb dL_placeOf_1 rfl ?_
  refine lv_aload_n hx hb dL_placeOf_2 rfl (lv_at hl 0 rfl) ?_
  refine lv_iload_n hx hb dL_placeOf_3 rfl (lv_at hl 1 rfl) ?_
  refine pg_callV (As := [.int (iI (((k : Nat) : Int)))]) (rest := [.int (iI 0), .ref ao]) SC (c_X0_placeOf_ok l X S k hk h1) xB_st (xB_h hP0 hK0) (cwV 1 hts gL_placeOf_X0_placeOf rfl rfl rfl (by decide +kernel) ⟨Nat.le_of_ble_eq_true rfl, Nat.le_of_ble_eq_true rfl⟩) (va_recv hK0 hP0 (ci := 0) (q0 := 0) rfl rfl) rfl hl.1 rfl (Nat.le_of_ble_eq_true rfl) dL_placeOf_4 ⟨Nat.zero_le _, Nat.zero_le _⟩ ?_
  refine pg_i2l hx hb dL_placeOf_7 (⟨by have := hok.2.1 k; have := hok.2.2.1 k; omega, by have := hok.2.1 k; have := hok.2.2.1 k; omega⟩) ?_
  refine pg_lst0 hx hb hK hP hD hS 0 2 rfl rfl dL_placeOf_8 (fun H locs hP hD hS => ?_)
  refine lv_goto (tgt := 18) hx hb dL_placeOf_9 (by decide) ?_
  refine lv_iconst (v := iI 0) hx hb dL_placeOf_18 rfl ?_
  exact pg_wiret hx hb hr hlk hP hS rfl dL_placeOf_19
set_option maxRecDepth 100000 in
set_option maxHeartbeats 4000000 in
theorem c_L_placeOf_1 (l : Launch) (hfl : l.stackTraces = false) (N : Nat) (X : pgX) (S : pgS) (pp : Int) (hp : inI pp) (h : pp < 0 ∨ 12 ≤ pp)  (ao : Nat) : pg_wr l yL_placeOf wsL_placeOf (rmx 8 123) (xG X) [] (xW N X S) [] [] 1 6 [.ref ((xa X 0)), .int (iI pp), .ref ao] (some (.int (iI 1))) := by
  refine pg_wrH_of (cc := cL_placeOf) (maxL := 4) (ret := some .int) (hh := [(0, 9, 12, 13), (0, 9, 15, 21)]) (by decide) rfl (Nat.le_of_ble_eq_true rfl) ?_
  intro p e s m below meth c ls SC hr hlk hT hP hK hD hS hB hl
  obtain ⟨hx, hb, hml, hown, hts⟩ := id SC
  have hown : s.vm.findClass RL = some m.cls := hown
  have hl : lv_has ls 4 [(0, .ref ((xa X 0))), (1, .int (iI pp)), (2, .ref ao)] := hl
  obtain ⟨⟨⟨hP0, hK0⟩, hE⟩, hN⟩ := id hB
  refine lv_aload_n hx hb dL_placeOf_0 rfl (lv_at hl 2 rfl) ?_
  refine lv_iconst (v := iI 0) hx hb dL_placeOf_1 rfl ?_
  refine lv_aload_n hx hb dL_placeOf_2 rfl (lv_at hl 0 rfl) ?_
  refine lv_iload_n hx hb dL_placeOf_3 rfl (lv_at hl 1 rfl) ?_
  refine pg_thrV (As := [.int (iI pp)]) (rest := [.int (iI 0), .ref ao]) SC (c_X0_placeOf_th1 l hfl N X S pp hp h) xE_st (pg_h_of xE_st ⟨⟨hP0, hK0⟩, hE⟩) (cwV 1 hts gL_placeOf_X0_placeOf rfl rfl rfl (by decide +kernel) ⟨Nat.le_of_ble_eq_true rfl, Nat.le_of_ble_eq_true rfl⟩) (va_recv hK0 hP0 (ci := 0) (q0 := 0) rfl rfl) rfl hl.1 rfl (Nat.le_of_ble_eq_true rfl) dL_placeOf_4 ⟨Nat.le_of_ble_eq_true rfl, Nat.le_of_ble_eq_true rfl⟩ (fun H1 qx ce h1 h2 h3 h4 h5 => ?_)
  refine vx_catch (own := RL) (E := "java/lang/IndexOutOfBoundsException") (name := "java/lang/IndexOutOfBoundsException") hown [] ⟨0, 9, 12, 13⟩ [⟨0, 9, 15, 21⟩] (hT.trans rfl) pg_ps0 (by decide) (by decide) (hts (.classLink RL 13 "java/lang/IndexOutOfBoundsException") (by decide +kernel)) (hE.2.2.2 _ (by decide) _) h3 h4 h5 ?_
  refine lv_astore_n (lv' := [(3, .ref qx), (0, .ref ((xa X 0))), (1, .int (iI pp)), (2, .ref ao)]) hx hb dL_placeOf_12 rfl hl (by decide) rfl (fun ls hl => ?_)
  refine lv_iconst (v := iI 1) hx hb dL_placeOf_13 rfl ?_
  exact pg_wiret hx hb hr hlk (fun _ _ h => nomatch h) ⟨h1, fun x hx _ => h2 x hx, fun z h => nomatch h⟩ rfl dL_placeOf_14
set_option maxRecDepth 100000 in
set_option maxHeartbeats 4000000 in
theorem c_L_placeOf_2 (l : Launch) (hfl : l.stackTraces = false) (N : Nat) (X : pgX) (S : pgS) (k : Nat) (hk : k < 12) (h1 : sS S k = 0)  (ao : Nat) : pg_wr l yL_placeOf wsL_placeOf (rmx 8 124) (xG X) [] (xW N X S) [] [] 1 6 [.ref ((xa X 0)), .int (iI (((k : Nat) : Int))), .ref ao] (some (.int (iI 2))) := by
  refine pg_wrH_of (cc := cL_placeOf) (maxL := 4) (ret := some .int) (hh := [(0, 9, 12, 13), (0, 9, 15, 21)]) (by decide) rfl (Nat.le_of_ble_eq_true rfl) ?_
  intro p e s m below meth c ls SC hr hlk hT hP hK hD hS hB hl
  obtain ⟨hx, hb, hml, hown, hts⟩ := id SC
  have hown : s.vm.findClass RL = some m.cls := hown
  have hl : lv_has ls 4 [(0, .ref ((xa X 0))), (1, .int (iI (((k : Nat) : Int)))), (2, .ref ao)] := hl
  obtain ⟨⟨⟨hP0, hK0⟩, hE⟩, hN⟩ := id hB
  refine lv_aload_n hx hb dL_placeOf_0 rfl (lv_at hl 2 rfl) ?_
  refine lv_iconst (v := iI 0) hx hb dL_placeOf_1 rfl ?_
  refine lv_aload_n hx hb dL_placeOf_2 rfl (lv_at hl 0 rfl) ?_
  refine lv_iload_n hx hb dL_placeOf_3 rfl (lv_at hl 1 rfl) ?_
  refine pg_thrV (As := [.int (iI (((k : Nat) : Int)))]) (rest := [.int (iI 0), .ref ao]) SC (c_X0_placeOf_th2 l hfl N X S k hk h1) xE_st (pg_h_of xE_st ⟨⟨hP0, hK0⟩, hE⟩) (cwV 1 hts gL_placeOf_X0_placeOf rfl rfl rfl (by decide +kernel) ⟨Nat.le_of_ble_eq_true rfl, Nat.le_of_ble_eq_true rfl⟩) (va_recv hK0 hP0 (ci := 0) (q0 := 0) rfl rfl) rfl hl.1 rfl (Nat.le_of_ble_eq_true rfl) dL_placeOf_4 ⟨Nat.le_of_ble_eq_true rfl, Nat.le_of_ble_eq_true rfl⟩ (fun H1 qx ce h1 h2 h3 h4 h5 => ?_)
  refine vx_catch (own := RL) (E := "java/util/NoSuchElementException") (name := "java/util/NoSuchElementException") hown [⟨0, 9, 12, 13⟩] ⟨0, 9, 15, 21⟩ [] (hT.trans rfl) (pg_ps (Or.inr ⟨by decide, "java/lang/IndexOutOfBoundsException", hts (.classLink RL 13 "java/lang/IndexOutOfBoundsException") (by decide +kernel), hN ("java/util/NoSuchElementException", "java/lang/IndexOutOfBoundsException") (by decide)⟩) pg_ps0) (by decide) (by decide) (hts (.classLink RL 21 "java/util/NoSuchElementException") (by decide +kernel)) (hE.2.2.2 _ (by decide) _) h3 h4 h5 ?_
  refine lv_astore_n (lv' := [(3, .ref qx), (0, .ref ((xa X 0))), (1, .int (iI (((k : Nat) : Int)))), (2, .ref ao)]) hx hb dL_placeOf_15 rfl hl (by decide) rfl (fun ls hl => ?_)
  refine lv_iconst (v := iI 2) hx hb dL_placeOf_16 rfl ?_
  exact pg_wiret hx hb hr hlk (fun _ _ h => nomatch h) ⟨h1, fun x hx _ => h2 x hx, fun z h => nomatch h⟩ rfl dL_placeOf_17
set_option maxRecDepth 100000 in
set_option maxHeartbeats 4000000 in
theorem c_L_stretch_ok (l : Launch) (X : pgX) (S : pgS) (hok : pgOk S) (a b : Nat) (ha : a < 12) (hb2 : b < 12) (sa : sS S a = 1) (sb : sS S b = 1) (cJ ao : Nat) (f : Nat → Int64) : pg_wr l yL_stretch wsL_stretch (rm 5 106) (xG X) (xTy X ++ [(cJ, .long)]) pT ((ao, .inl (cJ, 1, .inr (.inl f))) :: xC X S) ((ao, .inl (cJ, 1, .inr (.inl (vp_updL f 0 (lI ((((gN S a b : Nat) : Int)))))))) :: (xC X S)) 0 0 [.ref ((xa X 0)), .int (iI (((a : Nat) : Int))), .int (iI (((b : Nat) : Int))), .ref ao] (some (.int (iI 0))) := by
  refine pg_wrH_of (cc := cL_stretch) (maxL := 5) (ret := some .int) (hh := [(0, 10, 13, 13), (0, 10, 17, 21)]) (by decide) rfl (Nat.le_of_ble_eq_true rfl) ?_
  intro p e s m below meth c ls SC hr hlk hT hP hK hD hS hB hl
  obtain ⟨hx, hb, hml, hown, hts⟩ := id SC
  have hown : s.vm.findClass RL = some m.cls := hown
  have hl : lv_has ls 5 [(0, .ref ((xa X 0))), (1, .int (iI (((a : Nat) : Int)))), (2, .int (iI (((b : Nat) : Int)))), (3, .ref ao)] := hl
  have hK0 : va_K (xG X) vwCl (xTy X) s := va_K.sub hK [0, 1] rfl
  have hP0 : va_P (xG X) vwCl (xC X S) s.heap := pg_part (l1 := [(ao, .inl (cJ, 1, .inr (.inl f)))]) (l2 := []) hP
  refine lv_aload_n hx hb dL_stretch_0 rfl (lv_at hl 3 rfl) ?_
  refine lv_iconst (v := iI 0) hx hb dL_stretch_1 rfl ?_
  refine lv_aload_n hx hb dL_stretch_2 rfl (lv_at hl 0 rfl) ?_
  refine lv_iload_n hx hb dL_stretch_3 rfl (lv_at hl 1 rfl) ?_
  refine lv_iload_n hx hb dL_stretch_4 rfl (lv_at hl 2 rfl) ?_
  refine pg_callV (As := [.int (iI (((a : Nat) : Int))), .int (iI (((b : Nat) : Int)))]) (rest := [.int (iI 0), .ref ao]) SC (c_X0_stretch_ok l X S hok a b ha hb2 sa sb) xB_st (xB_h hP0 hK0) (cwV 2 hts gL_stretch_X0_stretch rfl rfl rfl (by decide +kernel) ⟨Nat.le_of_ble_eq_true rfl, Nat.le_of_ble_eq_true rfl⟩) (va_recv hK0 hP0 (ci := 0) (q0 := 0) rfl rfl) rfl hl.1 rfl (Nat.le_of_ble_eq_true rfl) dL_stretch_5 ⟨Nat.zero_le _, Nat.zero_le _⟩ ?_
  refine pg_i2l hx hb dL_stretch_8 (⟨by omega, by have := gN_lt hok a b; omega⟩) ?_
  refine pg_lst0 hx hb hK hP hD hS 0 2 rfl rfl dL_stretch_9 (fun H locs hP hD hS => ?_)
  refine lv_goto (tgt := 21) hx hb dL_stretch_10 (by decide) ?_
  refine lv_iconst (v := iI 0) hx hb dL_stretch_21 rfl ?_
  exact pg_wiret hx hb hr hlk hP hS rfl dL_stretch_22
set_option maxRecDepth 100000 in
set_option maxHeartbeats 4000000 in
theorem c_L_stretch_1 (l : Launch) (hfl : l.stackTraces = false) (N : Nat) (X : pgX) (S : pgS) (pp qq : Int) (hp : inI pp) (hq : inI qq) (h : pp < 0 ∨ 12 ≤ pp ∨ qq < 0 ∨ 12 ≤ qq) (ao : Nat) : pg_wr l yL_stretch wsL_stretch (rmx 9 146) (xG X) [] (xW N X S) [] [] 1 6 [.ref ((xa X 0)), .int (iI pp), .int (iI qq), .ref ao] (some (.int (iI 1))) := by
  refine pg_wrH_of (cc := cL_stretch) (maxL := 5) (ret := some .int) (hh := [(0, 10, 13, 13), (0, 10, 17, 21)]) (by decide) rfl (Nat.le_of_ble_eq_true rfl) ?_
  intro p e s m below meth c ls SC hr hlk hT hP hK hD hS hB hl
  obtain ⟨hx, hb, hml, hown, hts⟩ := id SC
  have hown : s.vm.findClass RL = some m.cls := hown
  have hl : lv_has ls 5 [(0, .ref ((xa X 0))), (1, .int (iI pp)), (2, .int (iI qq)), (3, .ref ao)] := hl
  obtain ⟨⟨⟨hP0, hK0⟩, hE⟩, hN⟩ := id hB
  refine lv_aload_n hx hb dL_stretch_0 rfl (lv_at hl 3 rfl) ?_
  refine lv_iconst (v := iI 0) hx hb dL_stretch_1 rfl ?_
  refine lv_aload_n hx hb dL_stretch_2 rfl (lv_at hl 0 rfl) ?_
  refine lv_iload_n hx hb dL_stretch_3 rfl (lv_at hl 1 rfl) ?_
  refine lv_iload_n hx hb dL_stretch_4 rfl (lv_at hl 2 rfl) ?_
  refine pg_thrV (As := [.int (iI pp), .int (iI qq)]) (rest := [.int (iI 0), .ref ao]) SC (c_X0_stretch_th1 l hfl N X S pp qq hp hq h) xE_st (pg_h_of xE_st ⟨⟨hP0, hK0⟩, hE⟩) (cwV 2 hts gL_stretch_X0_stretch rfl rfl rfl (by decide +kernel) ⟨Nat.le_of_ble_eq_true rfl, Nat.le_of_ble_eq_true rfl⟩) (va_recv hK0 hP0 (ci := 0) (q0 := 0) rfl rfl) rfl hl.1 rfl (Nat.le_of_ble_eq_true rfl) dL_stretch_5 ⟨Nat.le_of_ble_eq_true rfl, Nat.le_of_ble_eq_true rfl⟩ (fun H1 qx ce h1 h2 h3 h4 h5 => ?_)
  refine vx_catch (own := RL) (E := "java/lang/IndexOutOfBoundsException") (name := "java/lang/IndexOutOfBoundsException") hown [] ⟨0, 10, 13, 13⟩ [⟨0, 10, 17, 21⟩] (hT.trans rfl) pg_ps0 (by decide) (by decide) (hts (.classLink RL 13 "java/lang/IndexOutOfBoundsException") (by decide +kernel)) (hE.2.2.2 _ (by decide) _) h3 h4 h5 ?_
  refine lv_astore (lv' := [(4, .ref qx), (0, .ref ((xa X 0))), (1, .int (iI pp)), (2, .int (iI qq)), (3, .ref ao)]) hx hb dL_stretch_13 hl (by decide) rfl (fun ls hl => ?_)
  refine lv_iconst (v := iI 1) hx hb dL_stretch_15 rfl ?_
  exact pg_wiret hx hb hr hlk (fun _ _ h => nomatch h) ⟨h1, fun x hx _ => h2 x hx, fun z h => nomatch h⟩ rfl dL_stretch_16
set_option maxRecDepth 100000 in
set_option maxHeartbeats 4000000 in
theorem c_L_stretch_2 (l : Launch) (hfl : l.stackTraces = false) (N : Nat) (X : pgX) (S : pgS) (a b : Nat) (ha : a < 12) (hb2 : b < 12) (h : sS S a = 0 ∨ sS S b = 0) (h1 : sS S a ≤ 1) (h2 : sS S b ≤ 1) (ao : Nat) : pg_wr l yL_stretch wsL_stretch (rmx 9 147) (xG X) [] (xW N X S) [] [] 1 6 [.ref ((xa X 0)), .int (iI (((a : Nat) : Int))), .int (iI (((b : Nat) : Int))), .ref ao] (some (.int (iI 2))) := by
  refine pg_wrH_of (cc := cL_stretch) (maxL := 5) (ret := some .int) (hh := [(0, 10, 13, 13), (0, 10, 17, 21)]) (by decide) rfl (Nat.le_of_ble_eq_true rfl) ?_
  intro p e s m below meth c ls SC hr hlk hT hP hK hD hS hB hl
  obtain ⟨hx, hb, hml, hown, hts⟩ := id SC
  have hown : s.vm.findClass RL = some m.cls := hown
  have hl : lv_has ls 5 [(0, .ref ((xa X 0))), (1, .int (iI (((a : Nat) : Int)))), (2, .int (iI (((b : Nat) : Int)))), (3, .ref ao)] := hl
  obtain ⟨⟨⟨hP0, hK0⟩, hE⟩, hN⟩ := id hB
  refine lv_aload_n hx hb dL_stretch_0 rfl (lv_at hl 3 rfl) ?_
  refine lv_iconst (v := iI 0) hx hb dL_stretch_1 rfl ?_
  refine lv_aload_n hx hb dL_stretch_2 rfl (lv_at hl 0 rfl) ?_
  refine lv_iload_n hx hb dL_stretch_3 rfl (lv_at hl 1 rfl) ?_
  refine lv_iload_n hx hb dL_stretch_4 rfl (lv_at hl 2 rfl) ?_
  refine pg_thrV (As := [.int (iI (((a : Nat) : Int))), .int (iI (((b : Nat) : Int)))]) (rest := [.int (iI 0), .ref ao]) SC (c_X0_stretch_th2 l hfl N X S a b ha hb2 h h1 h2) xE_st (pg_h_of xE_st ⟨⟨hP0, hK0⟩, hE⟩) (cwV 2 hts gL_stretch_X0_stretch rfl rfl rfl (by decide +kernel) ⟨Nat.le_of_ble_eq_true rfl, Nat.le_of_ble_eq_true rfl⟩) (va_recv hK0 hP0 (ci := 0) (q0 := 0) rfl rfl) rfl hl.1 rfl (Nat.le_of_ble_eq_true rfl) dL_stretch_5 ⟨Nat.le_of_ble_eq_true rfl, Nat.le_of_ble_eq_true rfl⟩ (fun H1 qx ce h1 h2 h3 h4 h5 => ?_)
  refine vx_catch (own := RL) (E := "java/util/NoSuchElementException") (name := "java/util/NoSuchElementException") hown [⟨0, 10, 13, 13⟩] ⟨0, 10, 17, 21⟩ [] (hT.trans rfl) (pg_ps (Or.inr ⟨by decide, "java/lang/IndexOutOfBoundsException", hts (.classLink RL 13 "java/lang/IndexOutOfBoundsException") (by decide +kernel), hN ("java/util/NoSuchElementException", "java/lang/IndexOutOfBoundsException") (by decide)⟩) pg_ps0) (by decide) (by decide) (hts (.classLink RL 21 "java/util/NoSuchElementException") (by decide +kernel)) (hE.2.2.2 _ (by decide) _) h3 h4 h5 ?_
  refine lv_astore (lv' := [(4, .ref qx), (0, .ref ((xa X 0))), (1, .int (iI (((a : Nat) : Int)))), (2, .int (iI (((b : Nat) : Int)))), (3, .ref ao)]) hx hb dL_stretch_17 hl (by decide) rfl (fun ls hl => ?_)
  refine lv_iconst (v := iI 2) hx hb dL_stretch_19 rfl ?_
  exact pg_wiret hx hb hr hlk (fun _ _ h => nomatch h) ⟨h1, fun x hx _ => h2 x hx, fun z h => nomatch h⟩ rfl dL_stretch_20
set_option maxRecDepth 100000 in
set_option maxHeartbeats 4000000 in
theorem c_L_isSteady_ok (l : Launch) (X : pgX) (S : pgS) (hok : pgOk S) (a b : Nat) (ha : a < 12) (hb2 : b < 12) (sa : sS S a = 1) (sb : sS S b = 1) (cJ ao : Nat) (f : Nat → Int64) : pg_wr l yL_isSteady wsL_isSteady (rm 5 113) (xG X) (xTy X ++ [(cJ, .long)]) pT ((ao, .inl (cJ, 1, .inr (.inl f))) :: xC X S) ((ao, .inl (cJ, 1, .inr (.inl (vp_updL f 0 (lI 1))))) :: (xC X S)) 0 0 [.ref ((xa X 0)), .int (iI (((a : Nat) : Int))), .int (iI (((b : Nat) : Int))), .ref ao] (some (.int (iI 0))) := by
  refine pg_wrH_of (cc := cL_isSteady) (maxL := 5) (ret := some .int) (hh := [(0, 17, 20, 13), (0, 17, 24, 21)]) (by decide) rfl (Nat.le_of_ble_eq_true rfl) ?_
  intro p e s m below meth c ls SC hr hlk hT hP hK hD hS hB hl
  obtain ⟨hx, hb, hml, hown, hts⟩ := id SC
  have hown : s.vm.findClass RL = some m.cls := hown
  have hl : lv_has ls 5 [(0, .ref ((xa X 0))), (1, .int (iI (((a : Nat) : Int)))), (2, .int (iI (((b : Nat) : Int)))), (3, .ref ao)] := hl
  have hK0 : va_K (xG X) vwCl (xTy X) s := va_K.sub hK [0, 1] rfl
  have hP0 : va_P (xG X) vwCl (xC X S) s.heap := pg_part (l1 := [(ao, .inl (cJ, 1, .inr (.inl f)))]) (l2 := []) hP
  refine lv_aload_n hx hb dL_isSteady_0 rfl (lv_at hl 3 rfl) ?_
  refine lv_iconst (v := iI 0) hx hb dL_isSteady_1 rfl ?_
  refine lv_aload_n hx hb dL_isSteady_2 rfl (lv_at hl 0 rfl) ?_
  refine lv_iload_n hx hb dL_isSteady_3 rfl (lv_at hl 1 rfl) ?_
  refine lv_iload_n hx hb dL_isSteady_4 rfl (lv_at hl 2 rfl) ?_
  refine pg_callV (As := [.int (iI (((a : Nat) : Int))), .int (iI (((b : Nat) : Int)))]) (rest := [.int (iI 0), .ref ao]) SC (c_X0_isSteady_ok l X S hok a b ha hb2 sa sb) xB_st (xB_h hP0 hK0) (cwV 2 hts gL_isSteady_X0_isSteady rfl rfl rfl (by decide +kernel) ⟨Nat.le_of_ble_eq_true rfl, Nat.le_of_ble_eq_true rfl⟩) (va_recv hK0 hP0 (ci := 0) (q0 := 0) rfl rfl) rfl hl.1 rfl (Nat.le_of_ble_eq_true rfl) dL_isSteady_5 ⟨Nat.zero_le _, Nat.zero_le _⟩ ?_
  have hz : (1 : Int) = 0 ∨ (1 : Int) = 1 := by omega
  refine pg_if_eq (tgt := 15) hx hb dL_isSteady_8 (by decide) (⟨by omega, by omega⟩) (fun hc1 => ?_) (fun hc1 => ?_)
  · have hz0 : (1 : Int) = 0 := hc1
    refine lv_lconst (v := lI 0) hx hb dL_isSteady_15 rfl ?_
    refine pg_tl (y := lI 1) (congrArg lI hz0).symm ?_
    refine pg_lst0 hx hb hK hP hD hS 0 2 rfl rfl dL_isSteady_16 (fun H locs hP hD hS => ?_)
    refine lv_goto (tgt := 28) hx hb dL_isSteady_17 (by decide) ?_
    refine lv_iconst (v := iI 0) hx hb dL_isSteady_28 rfl ?_
    exact pg_wiret hx hb hr hlk hP hS rfl dL_isSteady_29
  · have hz1 : (1 : Int) = 1 := hz.resolve_left hc1
    refine lv_lconst (v := lI 1) hx hb dL_isSteady_11 rfl ?_
    refine lv_goto (tgt := 16) hx hb dL_isSteady_12 (by decide) ?_
    refine pg_tl (y := lI 1) (congrArg lI hz1).symm ?_
    refine pg_lst0 hx hb hK hP hD hS 0 2 rfl rfl dL_isSteady_16 (fun H locs hP hD hS => ?_)
    refine lv_goto (tgt := 28) hx hb dL_isSteady_17 (by decide) ?_
    refine lv_iconst (v := iI 0) hx hb dL_isSteady_28 rfl ?_
    exact pg_wiret hx hb hr hlk hP hS rfl dL_isSteady_29
set_option maxRecDepth 100000 in
set_option maxHeartbeats 4000000 in
theorem c_L_isSteady_1 (l : Launch) (hfl : l.stackTraces = false) (N : Nat) (X : pgX) (S : pgS) (pp qq : Int) (hp : inI pp) (hq : inI qq) (h : pp < 0 ∨ 12 ≤ pp ∨ qq < 0 ∨ 12 ≤ qq) (ao : Nat) : pg_wr l yL_isSteady wsL_isSteady (rmx 9 153) (xG X) [] (xW N X S) [] [] 1 6 [.ref ((xa X 0)), .int (iI pp), .int (iI qq), .ref ao] (some (.int (iI 1))) := by
  refine pg_wrH_of (cc := cL_isSteady) (maxL := 5) (ret := some .int) (hh := [(0, 17, 20, 13), (0, 17, 24, 21)]) (by decide) rfl (Nat.le_of_ble_eq_true rfl) ?_
  intro p e s m below meth c ls SC hr hlk hT hP hK hD hS hB hl
  obtain ⟨hx, hb, hml, hown, hts⟩ := id SC
  have hown : s.vm.findClass RL = some m.cls := hown
  have hl : lv_has ls 5 [(0, .ref ((xa X 0))), (1, .int (iI pp)), (2, .int (iI qq)), (3, .ref ao)] := hl
  obtain ⟨⟨⟨hP0, hK0⟩, hE⟩, hN⟩ := id hB
  refine lv_aload_n hx hb dL_isSteady_0 rfl (lv_at hl 3 rfl) ?_
  refine lv_iconst (v := iI 0) hx hb dL_isSteady_1 rfl ?_
  refine lv_aload_n hx hb dL_isSteady_2 rfl (lv_at hl 0 rfl) ?_
  refine lv_iload_n hx hb dL_isSteady_3 rfl (lv_at hl 1 rfl) ?_
  refine lv_iload_n hx hb dL_isSteady_4 rfl (lv_at hl 2 rfl) ?_
  refine pg_thrV (As := [.int (iI pp), .int (iI qq)]) (rest := [.int (iI 0), .ref ao]) SC (c_X0_isSteady_th1 l hfl N X S pp qq hp hq h) xE_st (pg_h_of xE_st ⟨⟨hP0, hK0⟩, hE⟩) (cwV 2 hts gL_isSteady_X0_isSteady rfl rfl rfl (by decide +kernel) ⟨Nat.le_of_ble_eq_true rfl, Nat.le_of_ble_eq_true rfl⟩) (va_recv hK0 hP0 (ci := 0) (q0 := 0) rfl rfl) rfl hl.1 rfl (Nat.le_of_ble_eq_true rfl) dL_isSteady_5 ⟨Nat.le_of_ble_eq_true rfl, Nat.le_of_ble_eq_true rfl⟩ (fun H1 qx ce h1 h2 h3 h4 h5 => ?_)
  refine vx_catch (own := RL) (E := "java/lang/IndexOutOfBoundsException") (name := "java/lang/IndexOutOfBoundsException") hown [] ⟨0, 17, 20, 13⟩ [⟨0, 17, 24, 21⟩] (hT.trans rfl) pg_ps0 (by decide) (by decide) (hts (.classLink RL 13 "java/lang/IndexOutOfBoundsException") (by decide +kernel)) (hE.2.2.2 _ (by decide) _) h3 h4 h5 ?_
  refine lv_astore (lv' := [(4, .ref qx), (0, .ref ((xa X 0))), (1, .int (iI pp)), (2, .int (iI qq)), (3, .ref ao)]) hx hb dL_isSteady_20 hl (by decide) rfl (fun ls hl => ?_)
  refine lv_iconst (v := iI 1) hx hb dL_isSteady_22 rfl ?_
  exact pg_wiret hx hb hr hlk (fun _ _ h => nomatch h) ⟨h1, fun x hx _ => h2 x hx, fun z h => nomatch h⟩ rfl dL_isSteady_23
set_option maxRecDepth 100000 in
set_option maxHeartbeats 4000000 in
theorem c_L_isSteady_2 (l : Launch) (hfl : l.stackTraces = false) (N : Nat) (X : pgX) (S : pgS) (a b : Nat) (ha : a < 12) (hb2 : b < 12) (h : sS S a = 0 ∨ sS S b = 0) (h1 : sS S a ≤ 1) (h2 : sS S b ≤ 1) (ao : Nat) : pg_wr l yL_isSteady wsL_isSteady (rmx 9 154) (xG X) [] (xW N X S) [] [] 1 6 [.ref ((xa X 0)), .int (iI (((a : Nat) : Int))), .int (iI (((b : Nat) : Int))), .ref ao] (some (.int (iI 2))) := by
  refine pg_wrH_of (cc := cL_isSteady) (maxL := 5) (ret := some .int) (hh := [(0, 17, 20, 13), (0, 17, 24, 21)]) (by decide) rfl (Nat.le_of_ble_eq_true rfl) ?_
  intro p e s m below meth c ls SC hr hlk hT hP hK hD hS hB hl
  obtain ⟨hx, hb, hml, hown, hts⟩ := id SC
  have hown : s.vm.findClass RL = some m.cls := hown
  have hl : lv_has ls 5 [(0, .ref ((xa X 0))), (1, .int (iI (((a : Nat) : Int)))), (2, .int (iI (((b : Nat) : Int)))), (3, .ref ao)] := hl
  obtain ⟨⟨⟨hP0, hK0⟩, hE⟩, hN⟩ := id hB
  refine lv_aload_n hx hb dL_isSteady_0 rfl (lv_at hl 3 rfl) ?_
  refine lv_iconst (v := iI 0) hx hb dL_isSteady_1 rfl ?_
  refine lv_aload_n hx hb dL_isSteady_2 rfl (lv_at hl 0 rfl) ?_
  refine lv_iload_n hx hb dL_isSteady_3 rfl (lv_at hl 1 rfl) ?_
  refine lv_iload_n hx hb dL_isSteady_4 rfl (lv_at hl 2 rfl) ?_
  refine pg_thrV (As := [.int (iI (((a : Nat) : Int))), .int (iI (((b : Nat) : Int)))]) (rest := [.int (iI 0), .ref ao]) SC (c_X0_isSteady_th2 l hfl N X S a b ha hb2 h h1 h2) xE_st (pg_h_of xE_st ⟨⟨hP0, hK0⟩, hE⟩) (cwV 2 hts gL_isSteady_X0_isSteady rfl rfl rfl (by decide +kernel) ⟨Nat.le_of_ble_eq_true rfl, Nat.le_of_ble_eq_true rfl⟩) (va_recv hK0 hP0 (ci := 0) (q0 := 0) rfl rfl) rfl hl.1 rfl (Nat.le_of_ble_eq_true rfl) dL_isSteady_5 ⟨Nat.le_of_ble_eq_true rfl, Nat.le_of_ble_eq_true rfl⟩ (fun H1 qx ce h1 h2 h3 h4 h5 => ?_)
  refine vx_catch (own := RL) (E := "java/util/NoSuchElementException") (name := "java/util/NoSuchElementException") hown [⟨0, 17, 20, 13⟩] ⟨0, 17, 24, 21⟩ [] (hT.trans rfl) (pg_ps (Or.inr ⟨by decide, "java/lang/IndexOutOfBoundsException", hts (.classLink RL 13 "java/lang/IndexOutOfBoundsException") (by decide +kernel), hN ("java/util/NoSuchElementException", "java/lang/IndexOutOfBoundsException") (by decide)⟩) pg_ps0) (by decide) (by decide) (hts (.classLink RL 21 "java/util/NoSuchElementException") (by decide +kernel)) (hE.2.2.2 _ (by decide) _) h3 h4 h5 ?_
  refine lv_astore (lv' := [(4, .ref qx), (0, .ref ((xa X 0))), (1, .int (iI (((a : Nat) : Int)))), (2, .int (iI (((b : Nat) : Int)))), (3, .ref ao)]) hx hb dL_isSteady_24 hl (by decide) rfl (fun ls hl => ?_)
  refine lv_iconst (v := iI 2) hx hb dL_isSteady_26 rfl ?_
  exact pg_wiret hx hb hr hlk (fun _ _ h => nomatch h) ⟨h1, fun x hx _ => h2 x hx, fun z h => nomatch h⟩ rfl dL_isSteady_27
set_option maxRecDepth 100000 in
set_option maxHeartbeats 4000000 in
theorem c_L_isDoubled_ok (l : Launch) (X : pgX) (S : pgS) (hok : pgOk S) (a b : Nat) (ha : a < 12) (hb2 : b < 12) (sa : sS S a = 1) (sb : sS S b = 1) (cJ ao : Nat) (f : Nat → Int64) : pg_wr l yL_isDoubled wsL_isDoubled (rm 5 108) (xG X) (xTy X ++ [(cJ, .long)]) pT ((ao, .inl (cJ, 1, .inr (.inl f))) :: xC X S) ((ao, .inl (cJ, 1, .inr (.inl (vp_updL f 0 (lI 1))))) :: (xC X S)) 0 0 [.ref ((xa X 0)), .int (iI (((a : Nat) : Int))), .int (iI (((b : Nat) : Int))), .ref ao] (some (.int (iI 0))) := by
  refine pg_wrH_of (cc := cL_isDoubled) (maxL := 5) (ret := some .int) (hh := [(0, 17, 20, 13), (0, 17, 24, 21)]) (by decide) rfl (Nat.le_of_ble_eq_true rfl) ?_
  intro p e s m below meth c ls SC hr hlk hT hP hK hD hS hB hl
  obtain ⟨hx, hb, hml, hown, hts⟩ := id SC
  have hown : s.vm.findClass RL = some m.cls := hown
  have hl : lv_has ls 5 [(0, .ref ((xa X 0))), (1, .int (iI (((a : Nat) : Int)))), (2, .int (iI (((b : Nat) : Int)))), (3, .ref ao)] := hl
  have hK0 : va_K (xG X) vwCl (xTy X) s := va_K.sub hK [0, 1] rfl
  have hP0 : va_P (xG X) vwCl (xC X S) s.heap := pg_part (l1 := [(ao, .inl (cJ, 1, .inr (.inl f)))]) (l2 := []) hP
  refine lv_aload_n hx hb dL_isDoubled_0 rfl (lv_at hl 3 rfl) ?_
  refine lv_iconst (v := iI 0) hx hb dL_isDoubled_1 rfl ?_
  refine lv_aload_n hx hb dL_isDoubled_2 rfl (lv_at hl 0 rfl) ?_
  refine lv_iload_n hx hb dL_isDoubled_3 rfl (lv_at hl 1 rfl) ?_
  refine lv_iload_n hx hb dL_isDoubled_4 rfl (lv_at hl 2 rfl) ?_
  refine pg_callV (As := [.int (iI (((a : Nat) : Int))), .int (iI (((b : Nat) : Int)))]) (rest := [.int (iI 0), .ref ao]) SC (c_X0_isDoubled_ok l X S hok a b ha hb2 sa sb) xB_st (xB_h hP0 hK0) (cwV 2 hts gL_isDoubled_X0_isDoubled rfl rfl rfl (by decide +kernel) ⟨Nat.le_of_ble_eq_true rfl, Nat.le_of_ble_eq_true rfl⟩) (va_recv hK0 hP0 (ci := 0) (q0 := 0) rfl rfl) rfl hl.1 rfl (Nat.le_of_ble_eq_true rfl) dL_isDoubled_5 ⟨Nat.zero_le _, Nat.zero_le _⟩ ?_
  have hz : (1 : Int) = 0 ∨ (1 : Int) = 1 := by omega
  refine pg_if_eq (tgt := 15) hx hb dL_isDoubled_8 (by decide) (⟨by omega, by omega⟩) (fun hc1 => ?_) (fun hc1 => ?_)
  · have hz0 : (1 : Int) = 0 := hc1
    refine lv_lconst (v := lI 0) hx hb dL_isDoubled_15 rfl ?_
    refine pg_tl (y := lI 1) (congrArg lI hz0).symm ?_
    refine pg_lst0 hx hb hK hP hD hS 0 2 rfl rfl dL_isDoubled_16 (fun H locs hP hD hS => ?_)
    refine lv_goto (tgt := 28) hx hb dL_isDoubled_17 (by decide) ?_
    refine lv_iconst (v := iI 0) hx hb dL_isDoubled_28 rfl ?_
    exact pg_wiret hx hb hr hlk hP hS rfl dL_isDoubled_29
  · have hz1 : (1 : Int) = 1 := hz.resolve_left hc1
    refine lv_lconst (v := lI 1) hx hb dL_isDoubled_11 rfl ?_
    refine lv_goto (tgt := 16) hx hb dL_isDoubled_12 (by decide) ?_
    refine pg_tl (y := lI 1) (congrArg lI hz1).symm ?_
    refine pg_lst0 hx hb hK hP hD hS 0 2 rfl rfl dL_isDoubled_16 (fun H locs hP hD hS => ?_)
    refine lv_goto (tgt := 28) hx hb dL_isDoubled_17 (by decide) ?_
    refine lv_iconst (v := iI 0) hx hb dL_isDoubled_28 rfl ?_
    exact pg_wiret hx hb hr hlk hP hS rfl dL_isDoubled_29
set_option maxRecDepth 100000 in
set_option maxHeartbeats 4000000 in
theorem c_L_isDoubled_1 (l : Launch) (hfl : l.stackTraces = false) (N : Nat) (X : pgX) (S : pgS) (pp qq : Int) (hp : inI pp) (hq : inI qq) (h : pp < 0 ∨ 12 ≤ pp ∨ qq < 0 ∨ 12 ≤ qq) (ao : Nat) : pg_wr l yL_isDoubled wsL_isDoubled (rmx 9 148) (xG X) [] (xW N X S) [] [] 1 6 [.ref ((xa X 0)), .int (iI pp), .int (iI qq), .ref ao] (some (.int (iI 1))) := by
  refine pg_wrH_of (cc := cL_isDoubled) (maxL := 5) (ret := some .int) (hh := [(0, 17, 20, 13), (0, 17, 24, 21)]) (by decide) rfl (Nat.le_of_ble_eq_true rfl) ?_
  intro p e s m below meth c ls SC hr hlk hT hP hK hD hS hB hl
  obtain ⟨hx, hb, hml, hown, hts⟩ := id SC
  have hown : s.vm.findClass RL = some m.cls := hown
  have hl : lv_has ls 5 [(0, .ref ((xa X 0))), (1, .int (iI pp)), (2, .int (iI qq)), (3, .ref ao)] := hl
  obtain ⟨⟨⟨hP0, hK0⟩, hE⟩, hN⟩ := id hB
  refine lv_aload_n hx hb dL_isDoubled_0 rfl (lv_at hl 3 rfl) ?_
  refine lv_iconst (v := iI 0) hx hb dL_isDoubled_1 rfl ?_
  refine lv_aload_n hx hb dL_isDoubled_2 rfl (lv_at hl 0 rfl) ?_
  refine lv_iload_n hx hb dL_isDoubled_3 rfl (lv_at hl 1 rfl) ?_
  refine lv_iload_n hx hb dL_isDoubled_4 rfl (lv_at hl 2 rfl) ?_
  refine pg_thrV (As := [.int (iI pp), .int (iI qq)]) (rest := [.int (iI 0), .ref ao]) SC (c_X0_isDoubled_th1 l hfl N X S pp qq hp hq h) xE_st (pg_h_of xE_st ⟨⟨hP0, hK0⟩, hE⟩) (cwV 2 hts gL_isDoubled_X0_isDoubled rfl rfl rfl (by decide +kernel) ⟨Nat.le_of_ble_eq_true rfl, Nat.le_of_ble_eq_true rfl⟩) (va_recv hK0 hP0 (ci := 0) (q0 := 0) rfl rfl) rfl hl.1 rfl (Nat.le_of_ble_eq_true rfl) dL_isDoubled_5 ⟨Nat.le_of_ble_eq_true rfl, Nat.le_of_ble_eq_true rfl⟩ (fun H1 qx ce h1 h2 h3 h4 h5 => ?_)
  refine vx_catch (own := RL) (E := "java/lang/IndexOutOfBoundsException") (name := "java/lang/IndexOutOfBoundsException") hown [] ⟨0, 17, 20, 13⟩ [⟨0, 17, 24, 21⟩] (hT.trans rfl) pg_ps0 (by decide) (by decide) (hts (.classLink RL 13 "java/lang/IndexOutOfBoundsException") (by decide +kernel)) (hE.2.2.2 _ (by decide) _) h3 h4 h5 ?_
  refine lv_astore (lv' := [(4, .ref qx), (0, .ref ((xa X 0))), (1, .int (iI pp)), (2, .int (iI qq)), (3, .ref ao)]) hx hb dL_isDoubled_20 hl (by decide) rfl (fun ls hl => ?_)
  refine lv_iconst (v := iI 1) hx hb dL_isDoubled_22 rfl ?_
  exact pg_wiret hx hb hr hlk (fun _ _ h => nomatch h) ⟨h1, fun x hx _ => h2 x hx, fun z h => nomatch h⟩ rfl dL_isDoubled_23
set_option maxRecDepth 100000 in
set_option maxHeartbeats 4000000 in
theorem c_L_isDoubled_2 (l : Launch) (hfl : l.stackTraces = false) (N : Nat) (X : pgX) (S : pgS) (a b : Nat) (ha : a < 12) (hb2 : b < 12) (h : sS S a = 0 ∨ sS S b = 0) (h1 : sS S a ≤ 1) (h2 : sS S b ≤ 1) (ao : Nat) : pg_wr l yL_isDoubled wsL_isDoubled (rmx 9 149) (xG X) [] (xW N X S) [] [] 1 6 [.ref ((xa X 0)), .int (iI (((a : Nat) : Int))), .int (iI (((b : Nat) : Int))), .ref ao] (some (.int (iI 2))) := by
  refine pg_wrH_of (cc := cL_isDoubled) (maxL := 5) (ret := some .int) (hh := [(0, 17, 20, 13), (0, 17, 24, 21)]) (by decide) rfl (Nat.le_of_ble_eq_true rfl) ?_
  intro p e s m below meth c ls SC hr hlk hT hP hK hD hS hB hl
  obtain ⟨hx, hb, hml, hown, hts⟩ := id SC
  have hown : s.vm.findClass RL = some m.cls := hown
  have hl : lv_has ls 5 [(0, .ref ((xa X 0))), (1, .int (iI (((a : Nat) : Int)))), (2, .int (iI (((b : Nat) : Int)))), (3, .ref ao)] := hl
  obtain ⟨⟨⟨hP0, hK0⟩, hE⟩, hN⟩ := id hB
  refine lv_aload_n hx hb dL_isDoubled_0 rfl (lv_at hl 3 rfl) ?_
  refine lv_iconst (v := iI 0) hx hb dL_isDoubled_1 rfl ?_
  refine lv_aload_n hx hb dL_isDoubled_2 rfl (lv_at hl 0 rfl) ?_
  refine lv_iload_n hx hb dL_isDoubled_3 rfl (lv_at hl 1 rfl) ?_
  refine lv_iload_n hx hb dL_isDoubled_4 rfl (lv_at hl 2 rfl) ?_
  refine pg_thrV (As := [.int (iI (((a : Nat) : Int))), .int (iI (((b : Nat) : Int)))]) (rest := [.int (iI 0), .ref ao]) SC (c_X0_isDoubled_th2 l hfl N X S a b ha hb2 h h1 h2) xE_st (pg_h_of xE_st ⟨⟨hP0, hK0⟩, hE⟩) (cwV 2 hts gL_isDoubled_X0_isDoubled rfl rfl rfl (by decide +kernel) ⟨Nat.le_of_ble_eq_true rfl, Nat.le_of_ble_eq_true rfl⟩) (va_recv hK0 hP0 (ci := 0) (q0 := 0) rfl rfl) rfl hl.1 rfl (Nat.le_of_ble_eq_true rfl) dL_isDoubled_5 ⟨Nat.le_of_ble_eq_true rfl, Nat.le_of_ble_eq_true rfl⟩ (fun H1 qx ce h1 h2 h3 h4 h5 => ?_)
  refine vx_catch (own := RL) (E := "java/util/NoSuchElementException") (name := "java/util/NoSuchElementException") hown [⟨0, 17, 20, 13⟩] ⟨0, 17, 24, 21⟩ [] (hT.trans rfl) (pg_ps (Or.inr ⟨by decide, "java/lang/IndexOutOfBoundsException", hts (.classLink RL 13 "java/lang/IndexOutOfBoundsException") (by decide +kernel), hN ("java/util/NoSuchElementException", "java/lang/IndexOutOfBoundsException") (by decide)⟩) pg_ps0) (by decide) (by decide) (hts (.classLink RL 21 "java/util/NoSuchElementException") (by decide +kernel)) (hE.2.2.2 _ (by decide) _) h3 h4 h5 ?_
  refine lv_astore (lv' := [(4, .ref qx), (0, .ref ((xa X 0))), (1, .int (iI (((a : Nat) : Int)))), (2, .int (iI (((b : Nat) : Int)))), (3, .ref ao)]) hx hb dL_isDoubled_24 hl (by decide) rfl (fun ls hl => ?_)
  refine lv_iconst (v := iI 2) hx hb dL_isDoubled_26 rfl ?_
  exact pg_wiret hx hb hr hlk (fun _ _ h => nomatch h) ⟨h1, fun x hx _ => h2 x hx, fun z h => nomatch h⟩ rfl dL_isDoubled_27
set_option maxRecDepth 100000 in
set_option maxHeartbeats 4000000 in
theorem c_L_isClose_ok (l : Launch) (X : pgX) (S : pgS) (hok : pgOk S) (a b : Nat) (ha : a < 12) (hb2 : b < 12) (sa : sS S a = 1) (sb : sS S b = 1) (cJ ao : Nat) (f : Nat → Int64) : pg_wr l yL_isClose wsL_isClose (rm 5 114) (xG X) (xTy X ++ [(cJ, .long)]) pT ((ao, .inl (cJ, 1, .inr (.inl f))) :: xC X S) ((ao, .inl (cJ, 1, .inr (.inl (vp_updL f 0 (lI 1))))) :: (xC X S)) 0 0 [.ref ((xa X 0)), .int (iI (((a : Nat) : Int))), .int (iI (((b : Nat) : Int))), .ref ao] (some (.int (iI 0))) := by
  refine pg_wrH_of (cc := cL_isClose) (maxL := 5) (ret := some .int) (hh := [(0, 17, 20, 13), (0, 17, 24, 21)]) (by decide) rfl (Nat.le_of_ble_eq_true rfl) ?_
  intro p e s m below meth c ls SC hr hlk hT hP hK hD hS hB hl
  obtain ⟨hx, hb, hml, hown, hts⟩ := id SC
  have hown : s.vm.findClass RL = some m.cls := hown
  have hl : lv_has ls 5 [(0, .ref ((xa X 0))), (1, .int (iI (((a : Nat) : Int)))), (2, .int (iI (((b : Nat) : Int)))), (3, .ref ao)] := hl
  have hK0 : va_K (xG X) vwCl (xTy X) s := va_K.sub hK [0, 1] rfl
  have hP0 : va_P (xG X) vwCl (xC X S) s.heap := pg_part (l1 := [(ao, .inl (cJ, 1, .inr (.inl f)))]) (l2 := []) hP
  refine lv_aload_n hx hb dL_isClose_0 rfl (lv_at hl 3 rfl) ?_
  refine lv_iconst (v := iI 0) hx hb dL_isClose_1 rfl ?_
  refine lv_aload_n hx hb dL_isClose_2 rfl (lv_at hl 0 rfl) ?_
  refine lv_iload_n hx hb dL_isClose_3 rfl (lv_at hl 1 rfl) ?_
  refine lv_iload_n hx hb dL_isClose_4 rfl (lv_at hl 2 rfl) ?_
  refine pg_callV (As := [.int (iI (((a : Nat) : Int))), .int (iI (((b : Nat) : Int)))]) (rest := [.int (iI 0), .ref ao]) SC (c_X0_isClose_ok l X S hok a b ha hb2 sa sb) xB_st (xB_h hP0 hK0) (cwV 2 hts gL_isClose_X0_isClose rfl rfl rfl (by decide +kernel) ⟨Nat.le_of_ble_eq_true rfl, Nat.le_of_ble_eq_true rfl⟩) (va_recv hK0 hP0 (ci := 0) (q0 := 0) rfl rfl) rfl hl.1 rfl (Nat.le_of_ble_eq_true rfl) dL_isClose_5 ⟨Nat.zero_le _, Nat.zero_le _⟩ ?_
  have hz : (1 : Int) = 0 ∨ (1 : Int) = 1 := by omega
  refine pg_if_eq (tgt := 15) hx hb dL_isClose_8 (by decide) (⟨by omega, by omega⟩) (fun hc1 => ?_) (fun hc1 => ?_)
  · have hz0 : (1 : Int) = 0 := hc1
    refine lv_lconst (v := lI 0) hx hb dL_isClose_15 rfl ?_
    refine pg_tl (y := lI 1) (congrArg lI hz0).symm ?_
    refine pg_lst0 hx hb hK hP hD hS 0 2 rfl rfl dL_isClose_16 (fun H locs hP hD hS => ?_)
    refine lv_goto (tgt := 28) hx hb dL_isClose_17 (by decide) ?_
    refine lv_iconst (v := iI 0) hx hb dL_isClose_28 rfl ?_
    exact pg_wiret hx hb hr hlk hP hS rfl dL_isClose_29
  · have hz1 : (1 : Int) = 1 := hz.resolve_left hc1
    refine lv_lconst (v := lI 1) hx hb dL_isClose_11 rfl ?_
    refine lv_goto (tgt := 16) hx hb dL_isClose_12 (by decide) ?_
    refine pg_tl (y := lI 1) (congrArg lI hz1).symm ?_
    refine pg_lst0 hx hb hK hP hD hS 0 2 rfl rfl dL_isClose_16 (fun H locs hP hD hS => ?_)
    refine lv_goto (tgt := 28) hx hb dL_isClose_17 (by decide) ?_
    refine lv_iconst (v := iI 0) hx hb dL_isClose_28 rfl ?_
    exact pg_wiret hx hb hr hlk hP hS rfl dL_isClose_29
set_option maxRecDepth 100000 in
set_option maxHeartbeats 4000000 in
theorem c_L_isClose_1 (l : Launch) (hfl : l.stackTraces = false) (N : Nat) (X : pgX) (S : pgS) (pp qq : Int) (hp : inI pp) (hq : inI qq) (h : pp < 0 ∨ 12 ≤ pp ∨ qq < 0 ∨ 12 ≤ qq) (ao : Nat) : pg_wr l yL_isClose wsL_isClose (rmx 9 154) (xG X) [] (xW N X S) [] [] 1 6 [.ref ((xa X 0)), .int (iI pp), .int (iI qq), .ref ao] (some (.int (iI 1))) := by
  refine pg_wrH_of (cc := cL_isClose) (maxL := 5) (ret := some .int) (hh := [(0, 17, 20, 13), (0, 17, 24, 21)]) (by decide) rfl (Nat.le_of_ble_eq_true rfl) ?_
  intro p e s m below meth c ls SC hr hlk hT hP hK hD hS hB hl
  obtain ⟨hx, hb, hml, hown, hts⟩ := id SC
  have hown : s.vm.findClass RL = some m.cls := hown
  have hl : lv_has ls 5 [(0, .ref ((xa X 0))), (1, .int (iI pp)), (2, .int (iI qq)), (3, .ref ao)] := hl
  obtain ⟨⟨⟨hP0, hK0⟩, hE⟩, hN⟩ := id hB
  refine lv_aload_n hx hb dL_isClose_0 rfl (lv_at hl 3 rfl) ?_
  refine lv_iconst (v := iI 0) hx hb dL_isClose_1 rfl ?_
  refine lv_aload_n hx hb dL_isClose_2 rfl (lv_at hl 0 rfl) ?_
  refine lv_iload_n hx hb dL_isClose_3 rfl (lv_at hl 1 rfl) ?_
  refine lv_iload_n hx hb dL_isClose_4 rfl (lv_at hl 2 rfl) ?_
  refine pg_thrV (As := [.int (iI pp), .int (iI qq)]) (rest := [.int (iI 0), .ref ao]) SC (c_X0_isClose_th1 l hfl N X S pp qq hp hq h) xE_st (pg_h_of xE_st ⟨⟨hP0, hK0⟩, hE⟩) (cwV 2 hts gL_isClose_X0_isClose rfl rfl rfl (by decide +kernel) ⟨Nat.le_of_ble_eq_true rfl, Nat.le_of_ble_eq_true rfl⟩) (va_recv hK0 hP0 (ci := 0) (q0 := 0) rfl rfl) rfl hl.1 rfl (Nat.le_of_ble_eq_true rfl) dL_isClose_5 ⟨Nat.le_of_ble_eq_true rfl, Nat.le_of_ble_eq_true rfl⟩ (fun H1 qx ce h1 h2 h3 h4 h5 => ?_)
  refine vx_catch (own := RL) (E := "java/lang/IndexOutOfBoundsException") (name := "java/lang/IndexOutOfBoundsException") hown [] ⟨0, 17, 20, 13⟩ [⟨0, 17, 24, 21⟩] (hT.trans rfl) pg_ps0 (by decide) (by decide) (hts (.classLink RL 13 "java/lang/IndexOutOfBoundsException") (by decide +kernel)) (hE.2.2.2 _ (by decide) _) h3 h4 h5 ?_
  refine lv_astore (lv' := [(4, .ref qx), (0, .ref ((xa X 0))), (1, .int (iI pp)), (2, .int (iI qq)), (3, .ref ao)]) hx hb dL_isClose_20 hl (by decide) rfl (fun ls hl => ?_)
  refine lv_iconst (v := iI 1) hx hb dL_isClose_22 rfl ?_
  exact pg_wiret hx hb hr hlk (fun _ _ h => nomatch h) ⟨h1, fun x hx _ => h2 x hx, fun z h => nomatch h⟩ rfl dL_isClose_23
set_option maxRecDepth 100000 in
set_option maxHeartbeats 4000000 in
theorem c_L_isClose_2 (l : Launch) (hfl : l.stackTraces = false) (N : Nat) (X : pgX) (S : pgS) (a b : Nat) (ha : a < 12) (hb2 : b < 12) (h : sS S a = 0 ∨ sS S b = 0) (h1 : sS S a ≤ 1) (h2 : sS S b ≤ 1) (ao : Nat) : pg_wr l yL_isClose wsL_isClose (rmx 9 155) (xG X) [] (xW N X S) [] [] 1 6 [.ref ((xa X 0)), .int (iI (((a : Nat) : Int))), .int (iI (((b : Nat) : Int))), .ref ao] (some (.int (iI 2))) := by
  refine pg_wrH_of (cc := cL_isClose) (maxL := 5) (ret := some .int) (hh := [(0, 17, 20, 13), (0, 17, 24, 21)]) (by decide) rfl (Nat.le_of_ble_eq_true rfl) ?_
  intro p e s m below meth c ls SC hr hlk hT hP hK hD hS hB hl
  obtain ⟨hx, hb, hml, hown, hts⟩ := id SC
  have hown : s.vm.findClass RL = some m.cls := hown
  have hl : lv_has ls 5 [(0, .ref ((xa X 0))), (1, .int (iI (((a : Nat) : Int)))), (2, .int (iI (((b : Nat) : Int)))), (3, .ref ao)] := hl
  obtain ⟨⟨⟨hP0, hK0⟩, hE⟩, hN⟩ := id hB
  refine lv_aload_n hx hb dL_isClose_0 rfl (lv_at hl 3 rfl) ?_
  refine lv_iconst (v := iI 0) hx hb dL_isClose_1 rfl ?_
  refine lv_aload_n hx hb dL_isClose_2 rfl (lv_at hl 0 rfl) ?_
  refine lv_iload_n hx hb dL_isClose_3 rfl (lv_at hl 1 rfl) ?_
  refine lv_iload_n hx hb dL_isClose_4 rfl (lv_at hl 2 rfl) ?_
  refine pg_thrV (As := [.int (iI (((a : Nat) : Int))), .int (iI (((b : Nat) : Int)))]) (rest := [.int (iI 0), .ref ao]) SC (c_X0_isClose_th2 l hfl N X S a b ha hb2 h h1 h2) xE_st (pg_h_of xE_st ⟨⟨hP0, hK0⟩, hE⟩) (cwV 2 hts gL_isClose_X0_isClose rfl rfl rfl (by decide +kernel) ⟨Nat.le_of_ble_eq_true rfl, Nat.le_of_ble_eq_true rfl⟩) (va_recv hK0 hP0 (ci := 0) (q0 := 0) rfl rfl) rfl hl.1 rfl (Nat.le_of_ble_eq_true rfl) dL_isClose_5 ⟨Nat.le_of_ble_eq_true rfl, Nat.le_of_ble_eq_true rfl⟩ (fun H1 qx ce h1 h2 h3 h4 h5 => ?_)
  refine vx_catch (own := RL) (E := "java/util/NoSuchElementException") (name := "java/util/NoSuchElementException") hown [⟨0, 17, 20, 13⟩] ⟨0, 17, 24, 21⟩ [] (hT.trans rfl) (pg_ps (Or.inr ⟨by decide, "java/lang/IndexOutOfBoundsException", hts (.classLink RL 13 "java/lang/IndexOutOfBoundsException") (by decide +kernel), hN ("java/util/NoSuchElementException", "java/lang/IndexOutOfBoundsException") (by decide)⟩) pg_ps0) (by decide) (by decide) (hts (.classLink RL 21 "java/util/NoSuchElementException") (by decide +kernel)) (hE.2.2.2 _ (by decide) _) h3 h4 h5 ?_
  refine lv_astore (lv' := [(4, .ref qx), (0, .ref ((xa X 0))), (1, .int (iI (((a : Nat) : Int)))), (2, .int (iI (((b : Nat) : Int)))), (3, .ref ao)]) hx hb dL_isClose_24 hl (by decide) rfl (fun ls hl => ?_)
  refine lv_iconst (v := iI 2) hx hb dL_isClose_26 rfl ?_
  exact pg_wiret hx hb hr hlk (fun _ _ h => nomatch h) ⟨h1, fun x hx _ => h2 x hx, fun z h => nomatch h⟩ rfl dL_isClose_27
set_option maxRecDepth 100000 in
set_option maxHeartbeats 4000000 in
theorem c_L_isStraight_ok (l : Launch) (X : pgX) (S : pgS) (hok : pgOk S) (a b c2 : Nat) (ha : a < 12) (hb2 : b < 12) (hc2 : c2 < 12) (sa : sS S a = 1) (sb : sS S b = 1) (sc : sS S c2 = 1) (cJ ao : Nat) (f : Nat → Int64) : pg_wr l yL_isStraight wsL_isStraight (rm 4 93) (xG X) (xTy X ++ [(cJ, .long)]) pT ((ao, .inl (cJ, 1, .inr (.inl f))) :: xC X S) ((ao, .inl (cJ, 1, .inr (.inl (vp_updL f 0 (lI 1))))) :: (xC X S)) 0 0 [.ref ((xa X 0)), .int (iI (((a : Nat) : Int))), .int (iI (((b : Nat) : Int))), .int (iI (((c2 : Nat) : Int))), .ref ao] (some (.int (iI 0))) := by
  refine pg_wrH_of (cc := cL_isStraight) (maxL := 6) (ret := some .int) (hh := [(0, 19, 22, 13), (0, 19, 26, 21)]) (by decide) rfl (Nat.le_of_ble_eq_true rfl) ?_
  intro p e s m below meth c ls SC hr hlk hT hP hK hD hS hB hl
  obtain ⟨hx, hb, hml, hown, hts⟩ := id SC
  have hown : s.vm.findClass RL = some m.cls := hown
  have hl : lv_has ls 6 [(0, .ref ((xa X 0))), (1, .int (iI (((a : Nat) : Int)))), (2, .int (iI (((b : Nat) : Int)))), (3, .int (iI (((c2 : Nat) : Int)))), (4, .ref ao)] := hl
  have hK0 : va_K (xG X) vwCl (xTy X) s := va_K.sub hK [0, 1] rfl
  have hP0 : va_P (xG X) vwCl (xC X S) s.heap := pg_part (l1 := [(ao, .inl (cJ, 1, .inr (.inl f)))]) (l2 := []) hP
  refine lv_aload hx hb dL_isStraight_0 (lv_at hl 4 rfl) ?_
  refine lv_iconst (v := iI 0) hx hb dL_isStraight_2 rfl ?_
  refine lv_aload_n hx hb dL_isStraight_3 rfl (lv_at hl 0 rfl) ?_
  refine lv_iload_n hx hb dL_isStraight_4 rfl (lv_at hl 1 rfl) ?_
  refine lv_iload_n hx hb dL_isStraight_5 rfl (lv_at hl 2 rfl) ?_
  refine lv_iload_n hx hb dL_isStraight_6 rfl (lv_at hl 3 rfl) ?_
  refine pg_callV (As := [.int (iI (((a : Nat) : Int))), .int (iI (((b : Nat) : Int))), .int (iI (((c2 : Nat) : Int)))]) (rest := [.int (iI 0), .ref ao]) SC (c_X0_isStraight_ok l X S hok a b c2 ha hb2 hc2 sa sb sc) xB_st (xB_h hP0 hK0) (cwV 3 hts gL_isStraight_X0_isStraight rfl rfl rfl (by decide +kernel) ⟨Nat.le_of_ble_eq_true rfl, Nat.le_of_ble_eq_true rfl⟩) (va_recv hK0 hP0 (ci := 0) (q0 := 0) rfl rfl) rfl hl.1 rfl (Nat.le_of_ble_eq_true rfl) dL_isStraight_7 ⟨Nat.zero_le _, Nat.zero_le _⟩ ?_
  have hz : (1 : Int) = 0 ∨ (1 : Int) = 1 := by omega
  refine pg_if_eq (tgt := 17) hx hb dL_isStraight_10 (by decide) (⟨by omega, by omega⟩) (fun hc1 => ?_) (fun hc1 => ?_)
  · have hz0 : (1 : Int) = 0 := hc1
    refine lv_lconst (v := lI 0) hx hb dL_isStraight_17 rfl ?_
    refine pg_tl (y := lI 1) (congrArg lI hz0).symm ?_
    refine pg_lst0 hx hb hK hP hD hS 0 2 rfl rfl dL_isStraight_18 (fun H locs hP hD hS => ?_)
    refine lv_goto (tgt := 30) hx hb dL_isStraight_19 (by decide) ?_
    refine lv_iconst (v := iI 0) hx hb dL_isStraight_30 rfl ?_
    exact pg_wiret hx hb hr hlk hP hS rfl dL_isStraight_31
  · have hz1 : (1 : Int) = 1 := hz.resolve_left hc1
    refine lv_lconst (v := lI 1) hx hb dL_isStraight_13 rfl ?_
    refine lv_goto (tgt := 18) hx hb dL_isStraight_14 (by decide) ?_
    refine pg_tl (y := lI 1) (congrArg lI hz1).symm ?_
    refine pg_lst0 hx hb hK hP hD hS 0 2 rfl rfl dL_isStraight_18 (fun H locs hP hD hS => ?_)
    refine lv_goto (tgt := 30) hx hb dL_isStraight_19 (by decide) ?_
    refine lv_iconst (v := iI 0) hx hb dL_isStraight_30 rfl ?_
    exact pg_wiret hx hb hr hlk hP hS rfl dL_isStraight_31
set_option maxRecDepth 100000 in
set_option maxHeartbeats 4000000 in
theorem c_L_isStraight_1 (l : Launch) (hfl : l.stackTraces = false) (N : Nat) (X : pgX) (S : pgS) (pp qq rr : Int) (hp : inI pp) (hq : inI qq) (hr9 : inI rr) (h : pp < 0 ∨ 12 ≤ pp ∨ qq < 0 ∨ 12 ≤ qq ∨ rr < 0 ∨ 12 ≤ rr) (ao : Nat) : pg_wr l yL_isStraight wsL_isStraight (rmx 8 125) (xG X) [] (xW N X S) [] [] 1 6 [.ref ((xa X 0)), .int (iI pp), .int (iI qq), .int (iI rr), .ref ao] (some (.int (iI 1))) := by
  refine pg_wrH_of (cc := cL_isStraight) (maxL := 6) (ret := some .int) (hh := [(0, 19, 22, 13), (0, 19, 26, 21)]) (by decide) rfl (Nat.le_of_ble_eq_true rfl) ?_
  intro p e s m below meth c ls SC hr hlk hT hP hK hD hS hB hl
  obtain ⟨hx, hb, hml, hown, hts⟩ := id SC
  have hown : s.vm.findClass RL = some m.cls := hown
  have hl : lv_has ls 6 [(0, .ref ((xa X 0))), (1, .int (iI pp)), (2, .int (iI qq)), (3, .int (iI rr)), (4, .ref ao)] := hl
  obtain ⟨⟨⟨hP0, hK0⟩, hE⟩, hN⟩ := id hB
  refine lv_aload hx hb dL_isStraight_0 (lv_at hl 4 rfl) ?_
  refine lv_iconst (v := iI 0) hx hb dL_isStraight_2 rfl ?_
  refine lv_aload_n hx hb dL_isStraight_3 rfl (lv_at hl 0 rfl) ?_
  refine lv_iload_n hx hb dL_isStraight_4 rfl (lv_at hl 1 rfl) ?_
  refine lv_iload_n hx hb dL_isStraight_5 rfl (lv_at hl 2 rfl) ?_
  refine lv_iload_n hx hb dL_isStraight_6 rfl (lv_at hl 3 rfl) ?_
  refine pg_thrV (As := [.int (iI pp), .int (iI qq), .int (iI rr)]) (rest := [.int (iI 0), .ref ao]) SC (c_X0_isStraight_th1 l hfl N X S pp qq rr hp hq hr9 h) xE_st (pg_h_of xE_st ⟨⟨hP0, hK0⟩, hE⟩) (cwV 3 hts gL_isStraight_X0_isStraight rfl rfl rfl (by decide +kernel) ⟨Nat.le_of_ble_eq_true rfl, Nat.le_of_ble_eq_true rfl⟩) (va_recv hK0 hP0 (ci := 0) (q0 := 0) rfl rfl) rfl hl.1 rfl (Nat.le_of_ble_eq_true rfl) dL_isStraight_7 ⟨Nat.le_of_ble_eq_true rfl, Nat.le_of_ble_eq_true rfl⟩ (fun H1 qx ce h1 h2 h3 h4 h5 => ?_)
  refine vx_catch (own := RL) (E := "java/lang/IndexOutOfBoundsException") (name := "java/lang/IndexOutOfBoundsException") hown [] ⟨0, 19, 22, 13⟩ [⟨0, 19, 26, 21⟩] (hT.trans rfl) pg_ps0 (by decide) (by decide) (hts (.classLink RL 13 "java/lang/IndexOutOfBoundsException") (by decide +kernel)) (hE.2.2.2 _ (by decide) _) h3 h4 h5 ?_
  refine lv_astore (lv' := [(5, .ref qx), (0, .ref ((xa X 0))), (1, .int (iI pp)), (2, .int (iI qq)), (3, .int (iI rr)), (4, .ref ao)]) hx hb dL_isStraight_22 hl (by decide) rfl (fun ls hl => ?_)
  refine lv_iconst (v := iI 1) hx hb dL_isStraight_24 rfl ?_
  exact pg_wiret hx hb hr hlk (fun _ _ h => nomatch h) ⟨h1, fun x hx _ => h2 x hx, fun z h => nomatch h⟩ rfl dL_isStraight_25
set_option maxRecDepth 100000 in
set_option maxHeartbeats 4000000 in
theorem c_L_isStraight_2 (l : Launch) (hfl : l.stackTraces = false) (N : Nat) (X : pgX) (S : pgS) (a b c2 : Nat) (ha : a < 12) (hb2 : b < 12) (hc2 : c2 < 12) (h : sS S a = 0 ∨ sS S b = 0 ∨ sS S c2 = 0) (h1 : sS S a ≤ 1) (h2 : sS S b ≤ 1) (h3 : sS S c2 ≤ 1) (ao : Nat) : pg_wr l yL_isStraight wsL_isStraight (rmx 8 126) (xG X) [] (xW N X S) [] [] 1 6 [.ref ((xa X 0)), .int (iI (((a : Nat) : Int))), .int (iI (((b : Nat) : Int))), .int (iI (((c2 : Nat) : Int))), .ref ao] (some (.int (iI 2))) := by
  refine pg_wrH_of (cc := cL_isStraight) (maxL := 6) (ret := some .int) (hh := [(0, 19, 22, 13), (0, 19, 26, 21)]) (by decide) rfl (Nat.le_of_ble_eq_true rfl) ?_
  intro p e s m below meth c ls SC hr hlk hT hP hK hD hS hB hl
  obtain ⟨hx, hb, hml, hown, hts⟩ := id SC
  have hown : s.vm.findClass RL = some m.cls := hown
  have hl : lv_has ls 6 [(0, .ref ((xa X 0))), (1, .int (iI (((a : Nat) : Int)))), (2, .int (iI (((b : Nat) : Int)))), (3, .int (iI (((c2 : Nat) : Int)))), (4, .ref ao)] := hl
  obtain ⟨⟨⟨hP0, hK0⟩, hE⟩, hN⟩ := id hB
  refine lv_aload hx hb dL_isStraight_0 (lv_at hl 4 rfl) ?_
  refine lv_iconst (v := iI 0) hx hb dL_isStraight_2 rfl ?_
  refine lv_aload_n hx hb dL_isStraight_3 rfl (lv_at hl 0 rfl) ?_
  refine lv_iload_n hx hb dL_isStraight_4 rfl (lv_at hl 1 rfl) ?_
  refine lv_iload_n hx hb dL_isStraight_5 rfl (lv_at hl 2 rfl) ?_
  refine lv_iload_n hx hb dL_isStraight_6 rfl (lv_at hl 3 rfl) ?_
  refine pg_thrV (As := [.int (iI (((a : Nat) : Int))), .int (iI (((b : Nat) : Int))), .int (iI (((c2 : Nat) : Int)))]) (rest := [.int (iI 0), .ref ao]) SC (c_X0_isStraight_th2 l hfl N X S a b c2 ha hb2 hc2 h h1 h2 h3) xE_st (pg_h_of xE_st ⟨⟨hP0, hK0⟩, hE⟩) (cwV 3 hts gL_isStraight_X0_isStraight rfl rfl rfl (by decide +kernel) ⟨Nat.le_of_ble_eq_true rfl, Nat.le_of_ble_eq_true rfl⟩) (va_recv hK0 hP0 (ci := 0) (q0 := 0) rfl rfl) rfl hl.1 rfl (Nat.le_of_ble_eq_true rfl) dL_isStraight_7 ⟨Nat.le_of_ble_eq_true rfl, Nat.le_of_ble_eq_true rfl⟩ (fun H1 qx ce h1 h2 h3 h4 h5 => ?_)
  refine vx_catch (own := RL) (E := "java/util/NoSuchElementException") (name := "java/util/NoSuchElementException") hown [⟨0, 19, 22, 13⟩] ⟨0, 19, 26, 21⟩ [] (hT.trans rfl) (pg_ps (Or.inr ⟨by decide, "java/lang/IndexOutOfBoundsException", hts (.classLink RL 13 "java/lang/IndexOutOfBoundsException") (by decide +kernel), hN ("java/util/NoSuchElementException", "java/lang/IndexOutOfBoundsException") (by decide)⟩) pg_ps0) (by decide) (by decide) (hts (.classLink RL 21 "java/util/NoSuchElementException") (by decide +kernel)) (hE.2.2.2 _ (by decide) _) h3 h4 h5 ?_
  refine lv_astore (lv' := [(5, .ref qx), (0, .ref ((xa X 0))), (1, .int (iI (((a : Nat) : Int)))), (2, .int (iI (((b : Nat) : Int)))), (3, .int (iI (((c2 : Nat) : Int)))), (4, .ref ao)]) hx hb dL_isStraight_26 hl (by decide) rfl (fun ls hl => ?_)
  refine lv_iconst (v := iI 2) hx hb dL_isStraight_28 rfl ?_
  exact pg_wiret hx hb hr hlk (fun _ _ h => nomatch h) ⟨h1, fun x hx _ => h2 x hx, fun z h => nomatch h⟩ rfl dL_isStraight_29
set_option maxRecDepth 100000 in
set_option maxHeartbeats 4000000 in
theorem c_L_nearest_ok (l : Launch) (X : pgX) (S : pgS) (hok : pgOk S) (k : Nat) (hk : k < 12) (h1 : sS S k = 1) (hn : nr S k 12 ≠ -1) (cJ ao : Nat) (f : Nat → Int64) : pg_wr l yL_nearest wsL_nearest (rm 5 117) (xG X) (xTy X ++ [(cJ, .long)]) pT ((ao, .inl (cJ, 1, .inr (.inl f))) :: xC X S) ((ao, .inl (cJ, 1, .inr (.inl (vp_updL f 0 (lI ((nr S k 12))))))) :: (xC X S)) 0 0 [.ref ((xa X 0)), .int (iI (((k : Nat) : Int))), .ref ao] (some (.int (iI 0))) := by
  refine pg_wrH_of (cc := cL_nearest) (maxL := 4) (ret := some .int) (hh := [(0, 9, 12, 13), (0, 9, 15, 21), (0, 9, 18, 23)]) (by decide) rfl (Nat.le_of_ble_eq_true rfl) ?_
  intro p e s m below meth c ls SC hr hlk hT hP hK hD hS hB hl
  obtain ⟨hx, hb, hml, hown, hts⟩ := id SC
  have hown : s.vm.findClass RL = some m.cls := hown
  have hl : lv_has ls 4 [(0, .ref ((xa X 0))), (1, .int (iI (((k : Nat) : Int)))), (2, .ref ao)] := hl
  have hK0 : va_K (xG X) vwCl (xTy X) s := va_K.sub hK [0, 1] rfl
  have hP0 : va_P (xG X) vwCl (xC X S) s.heap := pg_part (l1 := [(ao, .inl (cJ, 1, .inr (.inl f)))]) (l2 := []) hP
  refine lv_aload_n hx hb dL_nearest_0 rfl (lv_at hl 2 rfl) ?_
  refine lv_iconst (v := iI 0) hx hb dL_nearest_1 rfl ?_
  refine lv_aload_n hx hb dL_nearest_2 rfl (lv_at hl 0 rfl) ?_
  refine lv_iload_n hx hb dL_nearest_3 rfl (lv_at hl 1 rfl) ?_
  refine pg_callV (As := [.int (iI (((k : Nat) : Int)))]) (rest := [.int (iI 0), .ref ao]) SC (c_X0_nearest_ok l X S hok k hk h1 hn) xB_st (xB_h hP0 hK0) (cwV 1 hts gL_nearest_X0_nearest rfl rfl rfl (by decide +kernel) ⟨Nat.le_of_ble_eq_true rfl, Nat.le_of_ble_eq_true rfl⟩) (va_recv hK0 hP0 (ci := 0) (q0 := 0) rfl rfl) rfl hl.1 rfl (Nat.le_of_ble_eq_true rfl) dL_nearest_4 ⟨Nat.zero_le _, Nat.zero_le _⟩ ?_
  refine pg_i2l hx hb dL_nearest_7 (⟨by have := nr_b S k 12; omega, by have := nr_b S k 12; omega⟩) ?_
  refine pg_lst0 hx hb hK hP hD hS 0 2 rfl rfl dL_nearest_8 (fun H locs hP hD hS => ?_)
  refine lv_goto (tgt := 21) hx hb dL_nearest_9 (by decide) ?_
  refine lv_iconst (v := iI 0) hx hb dL_nearest_21 rfl ?_
  exact pg_wiret hx hb hr hlk hP hS rfl dL_nearest_22
set_option maxRecDepth 100000 in
set_option maxHeartbeats 4000000 in
theorem c_L_nearest_1 (l : Launch) (hfl : l.stackTraces = false) (N : Nat) (X : pgX) (S : pgS) (pp : Int) (hp : inI pp) (h : pp < 0 ∨ 12 ≤ pp)  (ao : Nat) : pg_wr l yL_nearest wsL_nearest (rmx 8 124) (xG X) [] (xW N X S) [] [] 1 6 [.ref ((xa X 0)), .int (iI pp), .ref ao] (some (.int (iI 1))) := by
  refine pg_wrH_of (cc := cL_nearest) (maxL := 4) (ret := some .int) (hh := [(0, 9, 12, 13), (0, 9, 15, 21), (0, 9, 18, 23)]) (by decide) rfl (Nat.le_of_ble_eq_true rfl) ?_
  intro p e s m below meth c ls SC hr hlk hT hP hK hD hS hB hl
  obtain ⟨hx, hb, hml, hown, hts⟩ := id SC
  have hown : s.vm.findClass RL = some m.cls := hown
  have hl : lv_has ls 4 [(0, .ref ((xa X 0))), (1, .int (iI pp)), (2, .ref ao)] := hl
  obtain ⟨⟨⟨hP0, hK0⟩, hE⟩, hN⟩ := id hB
  refine lv_aload_n hx hb dL_nearest_0 rfl (lv_at hl 2 rfl) ?_
  refine lv_iconst (v := iI 0) hx hb dL_nearest_1 rfl ?_
  refine lv_aload_n hx hb dL_nearest_2 rfl (lv_at hl 0 rfl) ?_
  refine lv_iload_n hx hb dL_nearest_3 rfl (lv_at hl 1 rfl) ?_
  refine pg_thrV (As := [.int (iI pp)]) (rest := [.int (iI 0), .ref ao]) SC (c_X0_nearest_th1 l hfl N X S pp hp h) xE_st (pg_h_of xE_st ⟨⟨hP0, hK0⟩, hE⟩) (cwV 1 hts gL_nearest_X0_nearest rfl rfl rfl (by decide +kernel) ⟨Nat.le_of_ble_eq_true rfl, Nat.le_of_ble_eq_true rfl⟩) (va_recv hK0 hP0 (ci := 0) (q0 := 0) rfl rfl) rfl hl.1 rfl (Nat.le_of_ble_eq_true rfl) dL_nearest_4 ⟨Nat.le_of_ble_eq_true rfl, Nat.le_of_ble_eq_true rfl⟩ (fun H1 qx ce h1 h2 h3 h4 h5 => ?_)
  refine vx_catch (own := RL) (E := "java/lang/IndexOutOfBoundsException") (name := "java/lang/IndexOutOfBoundsException") hown [] ⟨0, 9, 12, 13⟩ [⟨0, 9, 15, 21⟩, ⟨0, 9, 18, 23⟩] (hT.trans rfl) pg_ps0 (by decide) (by decide) (hts (.classLink RL 13 "java/lang/IndexOutOfBoundsException") (by decide +kernel)) (hE.2.2.2 _ (by decide) _) h3 h4 h5 ?_
  refine lv_astore_n (lv' := [(3, .ref qx), (0, .ref ((xa X 0))), (1, .int (iI pp)), (2, .ref ao)]) hx hb dL_nearest_12 rfl hl (by decide) rfl (fun ls hl => ?_)
  refine lv_iconst (v := iI 1) hx hb dL_nearest_13 rfl ?_
  exact pg_wiret hx hb hr hlk (fun _ _ h => nomatch h) ⟨h1, fun x hx _ => h2 x hx, fun z h => nomatch h⟩ rfl dL_nearest_14
set_option maxRecDepth 100000 in
set_option maxHeartbeats 4000000 in
theorem c_L_nearest_2 (l : Launch) (hfl : l.stackTraces = false) (N : Nat) (X : pgX) (S : pgS) (k : Nat) (hk : k < 12) (h1 : sS S k = 0)  (ao : Nat) : pg_wr l yL_nearest wsL_nearest (rmx 8 125) (xG X) [] (xW N X S) [] [] 1 6 [.ref ((xa X 0)), .int (iI (((k : Nat) : Int))), .ref ao] (some (.int (iI 2))) := by
  refine pg_wrH_of (cc := cL_nearest) (maxL := 4) (ret := some .int) (hh := [(0, 9, 12, 13), (0, 9, 15, 21), (0, 9, 18, 23)]) (by decide) rfl (Nat.le_of_ble_eq_true rfl) ?_
  intro p e s m below meth c ls SC hr hlk hT hP hK hD hS hB hl
  obtain ⟨hx, hb, hml, hown, hts⟩ := id SC
  have hown : s.vm.findClass RL = some m.cls := hown
  have hl : lv_has ls 4 [(0, .ref ((xa X 0))), (1, .int (iI (((k : Nat) : Int)))), (2, .ref ao)] := hl
  obtain ⟨⟨⟨hP0, hK0⟩, hE⟩, hN⟩ := id hB
  refine lv_aload_n hx hb dL_nearest_0 rfl (lv_at hl 2 rfl) ?_
  refine lv_iconst (v := iI 0) hx hb dL_nearest_1 rfl ?_
  refine lv_aload_n hx hb dL_nearest_2 rfl (lv_at hl 0 rfl) ?_
  refine lv_iload_n hx hb dL_nearest_3 rfl (lv_at hl 1 rfl) ?_
  refine pg_thrV (As := [.int (iI (((k : Nat) : Int)))]) (rest := [.int (iI 0), .ref ao]) SC (c_X0_nearest_th2 l hfl N X S k hk h1) xE_st (pg_h_of xE_st ⟨⟨hP0, hK0⟩, hE⟩) (cwV 1 hts gL_nearest_X0_nearest rfl rfl rfl (by decide +kernel) ⟨Nat.le_of_ble_eq_true rfl, Nat.le_of_ble_eq_true rfl⟩) (va_recv hK0 hP0 (ci := 0) (q0 := 0) rfl rfl) rfl hl.1 rfl (Nat.le_of_ble_eq_true rfl) dL_nearest_4 ⟨Nat.le_of_ble_eq_true rfl, Nat.le_of_ble_eq_true rfl⟩ (fun H1 qx ce h1 h2 h3 h4 h5 => ?_)
  refine vx_catch (own := RL) (E := "java/util/NoSuchElementException") (name := "java/util/NoSuchElementException") hown [⟨0, 9, 12, 13⟩] ⟨0, 9, 15, 21⟩ [⟨0, 9, 18, 23⟩] (hT.trans rfl) (pg_ps (Or.inr ⟨by decide, "java/lang/IndexOutOfBoundsException", hts (.classLink RL 13 "java/lang/IndexOutOfBoundsException") (by decide +kernel), hN ("java/util/NoSuchElementException", "java/lang/IndexOutOfBoundsException") (by decide)⟩) pg_ps0) (by decide) (by decide) (hts (.classLink RL 21 "java/util/NoSuchElementException") (by decide +kernel)) (hE.2.2.2 _ (by decide) _) h3 h4 h5 ?_
  refine lv_astore_n (lv' := [(3, .ref qx), (0, .ref ((xa X 0))), (1, .int (iI (((k : Nat) : Int)))), (2, .ref ao)]) hx hb dL_nearest_15 rfl hl (by decide) rfl (fun ls hl => ?_)
  refine lv_iconst (v := iI 2) hx hb dL_nearest_16 rfl ?_
  exact pg_wiret hx hb hr hlk (fun _ _ h => nomatch h) ⟨h1, fun x hx _ => h2 x hx, fun z h => nomatch h⟩ rfl dL_nearest_17
set_option maxRecDepth 100000 in
set_option maxHeartbeats 4000000 in
theorem c_L_nearest_3 (l : Launch) (hfl : l.stackTraces = false) (N : Nat) (X : pgX) (S : pgS) (hok : pgOk S) (k : Nat) (hk : k < 12) (h1 : sS S k = 1) (hn : nr S k 12 = -1) (ao : Nat) : pg_wr l yL_nearest wsL_nearest (rmx 7 117) (xG X) [] (xW N X S) [] [] 1 6 [.ref ((xa X 0)), .int (iI (((k : Nat) : Int))), .ref ao] (some (.int (iI 3))) := by
  refine pg_wrH_of (cc := cL_nearest) (maxL := 4) (ret := some .int) (hh := [(0, 9, 12, 13), (0, 9, 15, 21), (0, 9, 18, 23)]) (by decide) rfl (Nat.le_of_ble_eq_true rfl) ?_
  intro p e s m below meth c ls SC hr hlk hT hP hK hD hS hB hl
  obtain ⟨hx, hb, hml, hown, hts⟩ := id SC
  have hown : s.vm.findClass RL = some m.cls := hown
  have hl : lv_has ls 4 [(0, .ref ((xa X 0))), (1, .int (iI (((k : Nat) : Int)))), (2, .ref ao)] := hl
  obtain ⟨⟨⟨hP0, hK0⟩, hE⟩, hN⟩ := id hB
  refine lv_aload_n hx hb dL_nearest_0 rfl (lv_at hl 2 rfl) ?_
  refine lv_iconst (v := iI 0) hx hb dL_nearest_1 rfl ?_
  refine lv_aload_n hx hb dL_nearest_2 rfl (lv_at hl 0 rfl) ?_
  refine lv_iload_n hx hb dL_nearest_3 rfl (lv_at hl 1 rfl) ?_
  refine pg_thrV (As := [.int (iI (((k : Nat) : Int)))]) (rest := [.int (iI 0), .ref ao]) SC (c_X0_nearest_th3 l hfl N X S hok k hk h1 hn) xE_st (pg_h_of xE_st ⟨⟨hP0, hK0⟩, hE⟩) (cwV 1 hts gL_nearest_X0_nearest rfl rfl rfl (by decide +kernel) ⟨Nat.le_of_ble_eq_true rfl, Nat.le_of_ble_eq_true rfl⟩) (va_recv hK0 hP0 (ci := 0) (q0 := 0) rfl rfl) rfl hl.1 rfl (Nat.le_of_ble_eq_true rfl) dL_nearest_4 ⟨Nat.le_of_ble_eq_true rfl, Nat.le_of_ble_eq_true rfl⟩ (fun H1 qx ce h1 h2 h3 h4 h5 => ?_)
  refine vx_catch (own := RL) (E := "java/lang/IllegalStateException") (name := "java/lang/IllegalStateException") hown [⟨0, 9, 12, 13⟩, ⟨0, 9, 15, 21⟩] ⟨0, 9, 18, 23⟩ [] (hT.trans rfl) (pg_ps (Or.inr ⟨by decide, "java/lang/IndexOutOfBoundsException", hts (.classLink RL 13 "java/lang/IndexOutOfBoundsException") (by decide +kernel), hN ("java/lang/IllegalStateException", "java/lang/IndexOutOfBoundsException") (by decide)⟩) (pg_ps (Or.inr ⟨by decide, "java/util/NoSuchElementException", hts (.classLink RL 21 "java/util/NoSuchElementException") (by decide +kernel), hN ("java/lang/IllegalStateException", "java/util/NoSuchElementException") (by decide)⟩) pg_ps0)) (by decide) (by decide) (hts (.classLink RL 23 "java/lang/IllegalStateException") (by decide +kernel)) (hE.2.2.2 _ (by decide) _) h3 h4 h5 ?_
  refine lv_astore_n (lv' := [(3, .ref qx), (0, .ref ((xa X 0))), (1, .int (iI (((k : Nat) : Int)))), (2, .ref ao)]) hx hb dL_nearest_18 rfl hl (by decide) rfl (fun ls hl => ?_)
  refine lv_iconst (v := iI 3) hx hb dL_nearest_19 rfl ?_
  exact pg_wiret hx hb hr hlk (fun _ _ h => nomatch h) ⟨h1, fun x hx _ => h2 x hx, fun z h => nomatch h⟩ rfl dL_nearest_20
set_option maxRecDepth 100000 in
set_option maxHeartbeats 4000000 in
theorem c_L_rank_ok (l : Launch) (X : pgX) (S : pgS) (hok : pgOk S) (a b : Nat) (ha : a < 12) (hb2 : b < 12) (sa : sS S a = 1) (sb : sS S b = 1) (cJ ao : Nat) (f : Nat → Int64) : pg_wr l yL_rank wsL_rank (rm 5 110) (xG X) (xTy X ++ [(cJ, .long)]) pT ((ao, .inl (cJ, 1, .inr (.inl f))) :: xC X S) ((ao, .inl (cJ, 1, .inr (.inl (vp_updL f 0 (lI ((((rk S (gN S a b) 12 : Nat) : Int)))))))) :: (xC X S)) 0 0 [.ref ((xa X 0)), .int (iI (((a : Nat) : Int))), .int (iI (((b : Nat) : Int))), .ref ao] (some (.int (iI 0))) := by
  refine pg_wrH_of (cc := cL_rank) (maxL := 5) (ret := some .int) (hh := [(0, 10, 13, 13), (0, 10, 17, 21)]) (by decide) rfl (Nat.le_of_ble_eq_true rfl) ?_
  intro p e s m below meth c ls SC hr hlk hT hP hK hD hS hB hl
  obtain ⟨hx, hb, hml, hown, hts⟩ := id SC
  have hown : s.vm.findClass RL = some m.cls := hown
  have hl : lv_has ls 5 [(0, .ref ((xa X 0))), (1, .int (iI (((a : Nat) : Int)))), (2, .int (iI (((b : Nat) : Int)))), (3, .ref ao)] := hl
  have hK0 : va_K (xG X) vwCl (xTy X) s := va_K.sub hK [0, 1] rfl
  have hP0 : va_P (xG X) vwCl (xC X S) s.heap := pg_part (l1 := [(ao, .inl (cJ, 1, .inr (.inl f)))]) (l2 := []) hP
  refine lv_aload_n hx hb dL_rank_0 rfl (lv_at hl 3 rfl) ?_
  refine lv_iconst (v := iI 0) hx hb dL_rank_1 rfl ?_
  refine lv_aload_n hx hb dL_rank_2 rfl (lv_at hl 0 rfl) ?_
  refine lv_iload_n hx hb dL_rank_3 rfl (lv_at hl 1 rfl) ?_
  refine lv_iload_n hx hb dL_rank_4 rfl (lv_at hl 2 rfl) ?_
  refine pg_callV (As := [.int (iI (((a : Nat) : Int))), .int (iI (((b : Nat) : Int)))]) (rest := [.int (iI 0), .ref ao]) SC (c_X0_rank_ok l X S hok a b ha hb2 sa sb) xB_st (xB_h hP0 hK0) (cwV 2 hts gL_rank_X0_rank rfl rfl rfl (by decide +kernel) ⟨Nat.le_of_ble_eq_true rfl, Nat.le_of_ble_eq_true rfl⟩) (va_recv hK0 hP0 (ci := 0) (q0 := 0) rfl rfl) rfl hl.1 rfl (Nat.le_of_ble_eq_true rfl) dL_rank_5 ⟨Nat.zero_le _, Nat.zero_le _⟩ ?_
  refine pg_i2l hx hb dL_rank_8 (⟨by omega, by have := rk_lt S (gN S a b) 12; omega⟩) ?_
  refine pg_lst0 hx hb hK hP hD hS 0 2 rfl rfl dL_rank_9 (fun H locs hP hD hS => ?_)
  refine lv_goto (tgt := 21) hx hb dL_rank_10 (by decide) ?_
  refine lv_iconst (v := iI 0) hx hb dL_rank_21 rfl ?_
  exact pg_wiret hx hb hr hlk hP hS rfl dL_rank_22
set_option maxRecDepth 100000 in
set_option maxHeartbeats 4000000 in
theorem c_L_rank_1 (l : Launch) (hfl : l.stackTraces = false) (N : Nat) (X : pgX) (S : pgS) (pp qq : Int) (hp : inI pp) (hq : inI qq) (h : pp < 0 ∨ 12 ≤ pp ∨ qq < 0 ∨ 12 ≤ qq) (ao : Nat) : pg_wr l yL_rank wsL_rank (rmx 9 150) (xG X) [] (xW N X S) [] [] 1 6 [.ref ((xa X 0)), .int (iI pp), .int (iI qq), .ref ao] (some (.int (iI 1))) := by
  refine pg_wrH_of (cc := cL_rank) (maxL := 5) (ret := some .int) (hh := [(0, 10, 13, 13), (0, 10, 17, 21)]) (by decide) rfl (Nat.le_of_ble_eq_true rfl) ?_
  intro p e s m below meth c ls SC hr hlk hT hP hK hD hS hB hl
  obtain ⟨hx, hb, hml, hown, hts⟩ := id SC
  have hown : s.vm.findClass RL = some m.cls := hown
  have hl : lv_has ls 5 [(0, .ref ((xa X 0))), (1, .int (iI pp)), (2, .int (iI qq)), (3, .ref ao)] := hl
  obtain ⟨⟨⟨hP0, hK0⟩, hE⟩, hN⟩ := id hB
  refine lv_aload_n hx hb dL_rank_0 rfl (lv_at hl 3 rfl) ?_
  refine lv_iconst (v := iI 0) hx hb dL_rank_1 rfl ?_
  refine lv_aload_n hx hb dL_rank_2 rfl (lv_at hl 0 rfl) ?_
  refine lv_iload_n hx hb dL_rank_3 rfl (lv_at hl 1 rfl) ?_
  refine lv_iload_n hx hb dL_rank_4 rfl (lv_at hl 2 rfl) ?_
  refine pg_thrV (As := [.int (iI pp), .int (iI qq)]) (rest := [.int (iI 0), .ref ao]) SC (c_X0_rank_th1 l hfl N X S pp qq hp hq h) xE_st (pg_h_of xE_st ⟨⟨hP0, hK0⟩, hE⟩) (cwV 2 hts gL_rank_X0_rank rfl rfl rfl (by decide +kernel) ⟨Nat.le_of_ble_eq_true rfl, Nat.le_of_ble_eq_true rfl⟩) (va_recv hK0 hP0 (ci := 0) (q0 := 0) rfl rfl) rfl hl.1 rfl (Nat.le_of_ble_eq_true rfl) dL_rank_5 ⟨Nat.le_of_ble_eq_true rfl, Nat.le_of_ble_eq_true rfl⟩ (fun H1 qx ce h1 h2 h3 h4 h5 => ?_)
  refine vx_catch (own := RL) (E := "java/lang/IndexOutOfBoundsException") (name := "java/lang/IndexOutOfBoundsException") hown [] ⟨0, 10, 13, 13⟩ [⟨0, 10, 17, 21⟩] (hT.trans rfl) pg_ps0 (by decide) (by decide) (hts (.classLink RL 13 "java/lang/IndexOutOfBoundsException") (by decide +kernel)) (hE.2.2.2 _ (by decide) _) h3 h4 h5 ?_
  refine lv_astore (lv' := [(4, .ref qx), (0, .ref ((xa X 0))), (1, .int (iI pp)), (2, .int (iI qq)), (3, .ref ao)]) hx hb dL_rank_13 hl (by decide) rfl (fun ls hl => ?_)
  refine lv_iconst (v := iI 1) hx hb dL_rank_15 rfl ?_
  exact pg_wiret hx hb hr hlk (fun _ _ h => nomatch h) ⟨h1, fun x hx _ => h2 x hx, fun z h => nomatch h⟩ rfl dL_rank_16
set_option maxRecDepth 100000 in
set_option maxHeartbeats 4000000 in
theorem c_L_rank_2 (l : Launch) (hfl : l.stackTraces = false) (N : Nat) (X : pgX) (S : pgS) (a b : Nat) (ha : a < 12) (hb2 : b < 12) (h : sS S a = 0 ∨ sS S b = 0) (h1 : sS S a ≤ 1) (h2 : sS S b ≤ 1) (ao : Nat) : pg_wr l yL_rank wsL_rank (rmx 9 151) (xG X) [] (xW N X S) [] [] 1 6 [.ref ((xa X 0)), .int (iI (((a : Nat) : Int))), .int (iI (((b : Nat) : Int))), .ref ao] (some (.int (iI 2))) := by
  refine pg_wrH_of (cc := cL_rank) (maxL := 5) (ret := some .int) (hh := [(0, 10, 13, 13), (0, 10, 17, 21)]) (by decide) rfl (Nat.le_of_ble_eq_true rfl) ?_
  intro p e s m below meth c ls SC hr hlk hT hP hK hD hS hB hl
  obtain ⟨hx, hb, hml, hown, hts⟩ := id SC
  have hown : s.vm.findClass RL = some m.cls := hown
  have hl : lv_has ls 5 [(0, .ref ((xa X 0))), (1, .int (iI (((a : Nat) : Int)))), (2, .int (iI (((b : Nat) : Int)))), (3, .ref ao)] := hl
  obtain ⟨⟨⟨hP0, hK0⟩, hE⟩, hN⟩ := id hB
  refine lv_aload_n hx hb dL_rank_0 rfl (lv_at hl 3 rfl) ?_
  refine lv_iconst (v := iI 0) hx hb dL_rank_1 rfl ?_
  refine lv_aload_n hx hb dL_rank_2 rfl (lv_at hl 0 rfl) ?_
  refine lv_iload_n hx hb dL_rank_3 rfl (lv_at hl 1 rfl) ?_
  refine lv_iload_n hx hb dL_rank_4 rfl (lv_at hl 2 rfl) ?_
  refine pg_thrV (As := [.int (iI (((a : Nat) : Int))), .int (iI (((b : Nat) : Int)))]) (rest := [.int (iI 0), .ref ao]) SC (c_X0_rank_th2 l hfl N X S a b ha hb2 h h1 h2) xE_st (pg_h_of xE_st ⟨⟨hP0, hK0⟩, hE⟩) (cwV 2 hts gL_rank_X0_rank rfl rfl rfl (by decide +kernel) ⟨Nat.le_of_ble_eq_true rfl, Nat.le_of_ble_eq_true rfl⟩) (va_recv hK0 hP0 (ci := 0) (q0 := 0) rfl rfl) rfl hl.1 rfl (Nat.le_of_ble_eq_true rfl) dL_rank_5 ⟨Nat.le_of_ble_eq_true rfl, Nat.le_of_ble_eq_true rfl⟩ (fun H1 qx ce h1 h2 h3 h4 h5 => ?_)
  refine vx_catch (own := RL) (E := "java/util/NoSuchElementException") (name := "java/util/NoSuchElementException") hown [⟨0, 10, 13, 13⟩] ⟨0, 10, 17, 21⟩ [] (hT.trans rfl) (pg_ps (Or.inr ⟨by decide, "java/lang/IndexOutOfBoundsException", hts (.classLink RL 13 "java/lang/IndexOutOfBoundsException") (by decide +kernel), hN ("java/util/NoSuchElementException", "java/lang/IndexOutOfBoundsException") (by decide)⟩) pg_ps0) (by decide) (by decide) (hts (.classLink RL 21 "java/util/NoSuchElementException") (by decide +kernel)) (hE.2.2.2 _ (by decide) _) h3 h4 h5 ?_
  refine lv_astore (lv' := [(4, .ref qx), (0, .ref ((xa X 0))), (1, .int (iI (((a : Nat) : Int)))), (2, .int (iI (((b : Nat) : Int)))), (3, .ref ao)]) hx hb dL_rank_17 hl (by decide) rfl (fun ls hl => ?_)
  refine lv_iconst (v := iI 2) hx hb dL_rank_19 rfl ?_
  exact pg_wiret hx hb hr hlk (fun _ _ h => nomatch h) ⟨h1, fun x hx _ => h2 x hx, fun z h => nomatch h⟩ rfl dL_rank_20
set_option maxRecDepth 100000 in
set_option maxHeartbeats 4000000 in
theorem c_L_isIn_ok (l : Launch) (X : pgX) (S : pgS) (hok : pgOk S) (a b : Nat) (ha : a < 12) (hb2 : b < 12) (sa : sS S a = 1) (sb : sS S b = 1) (n : Nat) (q : Int) (M : Nat) (hn : n < 32768) (hqi : inI q) (hM : (q = 0 ∧ (M : Int) = 16 * n) ∨ (q = 1 ∧ (M : Int) = 4 * n)) (r : Int) (h : (gN S a b ≤ gr M ∧ r = 1) ∨ (gr M < gN S a b ∧ r = 0)) (cJ ao : Nat) (f : Nat → Int64) : pg_wr l yL_isIn wsL_isIn (rm 5 108) (xG X) (xTy X ++ [(cJ, .long)]) pT ((ao, .inl (cJ, 1, .inr (.inl f))) :: xC X S) ((ao, .inl (cJ, 1, .inr (.inl (vp_updL f 0 (lI r))))) :: (xC X S)) 0 0 [.ref ((xa X 0)), .int (iI (((a : Nat) : Int))), .int (iI (((b : Nat) : Int))), .int (iI (((n : Nat) : Int))), .int (iI q), .ref ao] (some (.int (iI 0))) := by
  refine pg_wrH_of (cc := cL_isIn) (maxL := 7) (ret := some .int) (hh := [(0, 21, 24, 13), (0, 21, 28, 21), (0, 21, 32, 15)]) (by decide) rfl (Nat.le_of_ble_eq_true rfl) ?_
  intro p e s m below meth c ls SC hr hlk hT hP hK hD hS hB hl
  obtain ⟨hx, hb, hml, hown, hts⟩ := id SC
  have hown : s.vm.findClass RL = some m.cls := hown
  have hl : lv_has ls 7 [(0, .ref ((xa X 0))), (1, .int (iI (((a : Nat) : Int)))), (2, .int (iI (((b : Nat) : Int)))), (3, .int (iI (((n : Nat) : Int)))), (4, .int (iI q)), (5, .ref ao)] := hl
  have hK0 : va_K (xG X) vwCl (xTy X) s := va_K.sub hK [0, 1] rfl
  have hP0 : va_P (xG X) vwCl (xC X S) s.heap := pg_part (l1 := [(ao, .inl (cJ, 1, .inr (.inl f)))]) (l2 := []) hP
  refine lv_aload hx hb dL_isIn_0 (lv_at hl 5 rfl) ?_
  refine lv_iconst (v := iI 0) hx hb dL_isIn_2 rfl ?_
  refine lv_aload_n hx hb dL_isIn_3 rfl (lv_at hl 0 rfl) ?_
  refine lv_iload_n hx hb dL_isIn_4 rfl (lv_at hl 1 rfl) ?_
  refine lv_iload_n hx hb dL_isIn_5 rfl (lv_at hl 2 rfl) ?_
  refine lv_iload_n hx hb dL_isIn_6 rfl (lv_at hl 3 rfl) ?_
  refine lv_iload hx hb dL_isIn_7 (lv_at hl 4 rfl) ?_
  refine pg_callV (As := [.int (iI (((a : Nat) : Int))), .int (iI (((b : Nat) : Int))), .int (iI (((n : Nat) : Int))), .int (iI q)]) (rest := [.int (iI 0), .ref ao]) SC (c_X0_isIn_ok l X S hok a b ha hb2 sa sb n q M hn hqi hM r h) xB_st (xB_h hP0 hK0) (cwV 4 hts gL_isIn_X0_isIn rfl rfl rfl (by decide +kernel) ⟨Nat.le_of_ble_eq_true rfl, Nat.le_of_ble_eq_true rfl⟩) (va_recv hK0 hP0 (ci := 0) (q0 := 0) rfl rfl) rfl hl.1 rfl (Nat.le_of_ble_eq_true rfl) dL_isIn_9 ⟨Nat.zero_le _, Nat.zero_le _⟩ ?_
  have hz : (r : Int) = 0 ∨ (r : Int) = 1 := by omega
  refine pg_if_eq (tgt := 19) hx hb dL_isIn_12 (by decide) (⟨by omega, by omega⟩) (fun hc1 => ?_) (fun hc1 => ?_)
  · have hz0 : (r : Int) = 0 := hc1
    refine lv_lconst (v := lI 0) hx hb dL_isIn_19 rfl ?_
    refine pg_tl (y := lI r) (congrArg lI hz0).symm ?_
    refine pg_lst0 hx hb hK hP hD hS 0 2 rfl rfl dL_isIn_20 (fun H locs hP hD hS => ?_)
    refine lv_goto (tgt := 36) hx hb dL_isIn_21 (by decide) ?_
    refine lv_iconst (v := iI 0) hx hb dL_isIn_36 rfl ?_
    exact pg_wiret hx hb hr hlk hP hS rfl dL_isIn_37
  · have hz1 : (r : Int) = 1 := hz.resolve_left hc1
    refine lv_lconst (v := lI 1) hx hb dL_isIn_15 rfl ?_
    refine lv_goto (tgt := 20) hx hb dL_isIn_16 (by decide) ?_
    refine pg_tl (y := lI r) (congrArg lI hz1).symm ?_
    refine pg_lst0 hx hb hK hP hD hS 0 2 rfl rfl dL_isIn_20 (fun H locs hP hD hS => ?_)
    refine lv_goto (tgt := 36) hx hb dL_isIn_21 (by decide) ?_
    refine lv_iconst (v := iI 0) hx hb dL_isIn_36 rfl ?_
    exact pg_wiret hx hb hr hlk hP hS rfl dL_isIn_37
set_option maxRecDepth 100000 in
set_option maxHeartbeats 4000000 in
theorem c_L_isIn_1 (l : Launch) (hfl : l.stackTraces = false) (N : Nat) (X : pgX) (S : pgS) (pp qq : Int) (hp : inI pp) (hq : inI qq) (h : pp < 0 ∨ 12 ≤ pp ∨ qq < 0 ∨ 12 ≤ qq) (n q : Int) (ao : Nat) : pg_wr l yL_isIn wsL_isIn (rmx 9 148) (xG X) [] (xW N X S) [] [] 1 6 [.ref ((xa X 0)), .int (iI pp), .int (iI qq), .int (iI n), .int (iI q), .ref ao] (some (.int (iI 1))) := by
  refine pg_wrH_of (cc := cL_isIn) (maxL := 7) (ret := some .int) (hh := [(0, 21, 24, 13), (0, 21, 28, 21), (0, 21, 32, 15)]) (by decide) rfl (Nat.le_of_ble_eq_true rfl) ?_
  intro p e s m below meth c ls SC hr hlk hT hP hK hD hS hB hl
  obtain ⟨hx, hb, hml, hown, hts⟩ := id SC
  have hown : s.vm.findClass RL = some m.cls := hown
  have hl : lv_has ls 7 [(0, .ref ((xa X 0))), (1, .int (iI pp)), (2, .int (iI qq)), (3, .int (iI n)), (4, .int (iI q)), (5, .ref ao)] := hl
  obtain ⟨⟨⟨hP0, hK0⟩, hE⟩, hN⟩ := id hB
  refine lv_aload hx hb dL_isIn_0 (lv_at hl 5 rfl) ?_
  refine lv_iconst (v := iI 0) hx hb dL_isIn_2 rfl ?_
  refine lv_aload_n hx hb dL_isIn_3 rfl (lv_at hl 0 rfl) ?_
  refine lv_iload_n hx hb dL_isIn_4 rfl (lv_at hl 1 rfl) ?_
  refine lv_iload_n hx hb dL_isIn_5 rfl (lv_at hl 2 rfl) ?_
  refine lv_iload_n hx hb dL_isIn_6 rfl (lv_at hl 3 rfl) ?_
  refine lv_iload hx hb dL_isIn_7 (lv_at hl 4 rfl) ?_
  refine pg_thrV (As := [.int (iI pp), .int (iI qq), .int (iI n), .int (iI q)]) (rest := [.int (iI 0), .ref ao]) SC (c_X0_isIn_th1 l hfl N X S pp qq hp hq h n q) xE_st (pg_h_of xE_st ⟨⟨hP0, hK0⟩, hE⟩) (cwV 4 hts gL_isIn_X0_isIn rfl rfl rfl (by decide +kernel) ⟨Nat.le_of_ble_eq_true rfl, Nat.le_of_ble_eq_true rfl⟩) (va_recv hK0 hP0 (ci := 0) (q0 := 0) rfl rfl) rfl hl.1 rfl (Nat.le_of_ble_eq_true rfl) dL_isIn_9 ⟨Nat.le_of_ble_eq_true rfl, Nat.le_of_ble_eq_true rfl⟩ (fun H1 qx ce h1 h2 h3 h4 h5 => ?_)
  refine vx_catch (own := RL) (E := "java/lang/IndexOutOfBoundsException") (name := "java/lang/IndexOutOfBoundsException") hown [] ⟨0, 21, 24, 13⟩ [⟨0, 21, 28, 21⟩, ⟨0, 21, 32, 15⟩] (hT.trans rfl) pg_ps0 (by decide) (by decide) (hts (.classLink RL 13 "java/lang/IndexOutOfBoundsException") (by decide +kernel)) (hE.2.2.2 _ (by decide) _) h3 h4 h5 ?_
  refine lv_astore (lv' := [(6, .ref qx), (0, .ref ((xa X 0))), (1, .int (iI pp)), (2, .int (iI qq)), (3, .int (iI n)), (4, .int (iI q)), (5, .ref ao)]) hx hb dL_isIn_24 hl (by decide) rfl (fun ls hl => ?_)
  refine lv_iconst (v := iI 1) hx hb dL_isIn_26 rfl ?_
  exact pg_wiret hx hb hr hlk (fun _ _ h => nomatch h) ⟨h1, fun x hx _ => h2 x hx, fun z h => nomatch h⟩ rfl dL_isIn_27
set_option maxRecDepth 100000 in
set_option maxHeartbeats 4000000 in
theorem c_L_isIn_2 (l : Launch) (hfl : l.stackTraces = false) (N : Nat) (X : pgX) (S : pgS) (a b : Nat) (ha : a < 12) (hb2 : b < 12) (h : sS S a = 0 ∨ sS S b = 0) (h1 : sS S a ≤ 1) (h2 : sS S b ≤ 1) (n q : Int) (ao : Nat) : pg_wr l yL_isIn wsL_isIn (rmx 9 149) (xG X) [] (xW N X S) [] [] 1 6 [.ref ((xa X 0)), .int (iI (((a : Nat) : Int))), .int (iI (((b : Nat) : Int))), .int (iI n), .int (iI q), .ref ao] (some (.int (iI 2))) := by
  refine pg_wrH_of (cc := cL_isIn) (maxL := 7) (ret := some .int) (hh := [(0, 21, 24, 13), (0, 21, 28, 21), (0, 21, 32, 15)]) (by decide) rfl (Nat.le_of_ble_eq_true rfl) ?_
  intro p e s m below meth c ls SC hr hlk hT hP hK hD hS hB hl
  obtain ⟨hx, hb, hml, hown, hts⟩ := id SC
  have hown : s.vm.findClass RL = some m.cls := hown
  have hl : lv_has ls 7 [(0, .ref ((xa X 0))), (1, .int (iI (((a : Nat) : Int)))), (2, .int (iI (((b : Nat) : Int)))), (3, .int (iI n)), (4, .int (iI q)), (5, .ref ao)] := hl
  obtain ⟨⟨⟨hP0, hK0⟩, hE⟩, hN⟩ := id hB
  refine lv_aload hx hb dL_isIn_0 (lv_at hl 5 rfl) ?_
  refine lv_iconst (v := iI 0) hx hb dL_isIn_2 rfl ?_
  refine lv_aload_n hx hb dL_isIn_3 rfl (lv_at hl 0 rfl) ?_
  refine lv_iload_n hx hb dL_isIn_4 rfl (lv_at hl 1 rfl) ?_
  refine lv_iload_n hx hb dL_isIn_5 rfl (lv_at hl 2 rfl) ?_
  refine lv_iload_n hx hb dL_isIn_6 rfl (lv_at hl 3 rfl) ?_
  refine lv_iload hx hb dL_isIn_7 (lv_at hl 4 rfl) ?_
  refine pg_thrV (As := [.int (iI (((a : Nat) : Int))), .int (iI (((b : Nat) : Int))), .int (iI n), .int (iI q)]) (rest := [.int (iI 0), .ref ao]) SC (c_X0_isIn_th2 l hfl N X S a b ha hb2 h h1 h2 n q) xE_st (pg_h_of xE_st ⟨⟨hP0, hK0⟩, hE⟩) (cwV 4 hts gL_isIn_X0_isIn rfl rfl rfl (by decide +kernel) ⟨Nat.le_of_ble_eq_true rfl, Nat.le_of_ble_eq_true rfl⟩) (va_recv hK0 hP0 (ci := 0) (q0 := 0) rfl rfl) rfl hl.1 rfl (Nat.le_of_ble_eq_true rfl) dL_isIn_9 ⟨Nat.le_of_ble_eq_true rfl, Nat.le_of_ble_eq_true rfl⟩ (fun H1 qx ce h1 h2 h3 h4 h5 => ?_)
  refine vx_catch (own := RL) (E := "java/util/NoSuchElementException") (name := "java/util/NoSuchElementException") hown [⟨0, 21, 24, 13⟩] ⟨0, 21, 28, 21⟩ [⟨0, 21, 32, 15⟩] (hT.trans rfl) (pg_ps (Or.inr ⟨by decide, "java/lang/IndexOutOfBoundsException", hts (.classLink RL 13 "java/lang/IndexOutOfBoundsException") (by decide +kernel), hN ("java/util/NoSuchElementException", "java/lang/IndexOutOfBoundsException") (by decide)⟩) pg_ps0) (by decide) (by decide) (hts (.classLink RL 21 "java/util/NoSuchElementException") (by decide +kernel)) (hE.2.2.2 _ (by decide) _) h3 h4 h5 ?_
  refine lv_astore (lv' := [(6, .ref qx), (0, .ref ((xa X 0))), (1, .int (iI (((a : Nat) : Int)))), (2, .int (iI (((b : Nat) : Int)))), (3, .int (iI n)), (4, .int (iI q)), (5, .ref ao)]) hx hb dL_isIn_28 hl (by decide) rfl (fun ls hl => ?_)
  refine lv_iconst (v := iI 2) hx hb dL_isIn_30 rfl ?_
  exact pg_wiret hx hb hr hlk (fun _ _ h => nomatch h) ⟨h1, fun x hx _ => h2 x hx, fun z h => nomatch h⟩ rfl dL_isIn_31
set_option maxRecDepth 100000 in
set_option maxHeartbeats 4000000 in
theorem c_L_isIn_3 (l : Launch) (hfl : l.stackTraces = false) (N : Nat) (X : pgX) (S : pgS) (a b : Nat) (ha : a < 12) (hb2 : b < 12) (sa : sS S a = 1) (sb : sS S b = 1) (n : Int) (hn : inI n) (h : n < 0 ∨ 32768 ≤ n) (q : Int) (ao : Nat) : pg_wr l yL_isIn wsL_isIn (rmx 8 126) (xG X) [] (xW N X S) [] [] 1 6 [.ref ((xa X 0)), .int (iI (((a : Nat) : Int))), .int (iI (((b : Nat) : Int))), .int (iI n), .int (iI q), .ref ao] (some (.int (iI 3))) := by
  refine pg_wrH_of (cc := cL_isIn) (maxL := 7) (ret := some .int) (hh := [(0, 21, 24, 13), (0, 21, 28, 21), (0, 21, 32, 15)]) (by decide) rfl (Nat.le_of_ble_eq_true rfl) ?_
  intro p e s m below meth c ls SC hr hlk hT hP hK hD hS hB hl
  obtain ⟨hx, hb, hml, hown, hts⟩ := id SC
  have hown : s.vm.findClass RL = some m.cls := hown
  have hl : lv_has ls 7 [(0, .ref ((xa X 0))), (1, .int (iI (((a : Nat) : Int)))), (2, .int (iI (((b : Nat) : Int)))), (3, .int (iI n)), (4, .int (iI q)), (5, .ref ao)] := hl
  obtain ⟨⟨⟨hP0, hK0⟩, hE⟩, hN⟩ := id hB
  refine lv_aload hx hb dL_isIn_0 (lv_at hl 5 rfl) ?_
  refine lv_iconst (v := iI 0) hx hb dL_isIn_2 rfl ?_
  refine lv_aload_n hx hb dL_isIn_3 rfl (lv_at hl 0 rfl) ?_
  refine lv_iload_n hx hb dL_isIn_4 rfl (lv_at hl 1 rfl) ?_
  refine lv_iload_n hx hb dL_isIn_5 rfl (lv_at hl 2 rfl) ?_
  refine lv_iload_n hx hb dL_isIn_6 rfl (lv_at hl 3 rfl) ?_
  refine lv_iload hx hb dL_isIn_7 (lv_at hl 4 rfl) ?_
  refine pg_thrV (As := [.int (iI (((a : Nat) : Int))), .int (iI (((b : Nat) : Int))), .int (iI n), .int (iI q)]) (rest := [.int (iI 0), .ref ao]) SC (c_X0_isIn_th3 l hfl N X S a b ha hb2 sa sb n hn h q) xE_st (pg_h_of xE_st ⟨⟨hP0, hK0⟩, hE⟩) (cwV 4 hts gL_isIn_X0_isIn rfl rfl rfl (by decide +kernel) ⟨Nat.le_of_ble_eq_true rfl, Nat.le_of_ble_eq_true rfl⟩) (va_recv hK0 hP0 (ci := 0) (q0 := 0) rfl rfl) rfl hl.1 rfl (Nat.le_of_ble_eq_true rfl) dL_isIn_9 ⟨Nat.le_of_ble_eq_true rfl, Nat.le_of_ble_eq_true rfl⟩ (fun H1 qx ce h1 h2 h3 h4 h5 => ?_)
  refine vx_catch (own := RL) (E := "java/lang/IllegalArgumentException") (name := "java/lang/IllegalArgumentException") hown [⟨0, 21, 24, 13⟩, ⟨0, 21, 28, 21⟩] ⟨0, 21, 32, 15⟩ [] (hT.trans rfl) (pg_ps (Or.inr ⟨by decide, "java/lang/IndexOutOfBoundsException", hts (.classLink RL 13 "java/lang/IndexOutOfBoundsException") (by decide +kernel), hN ("java/lang/IllegalArgumentException", "java/lang/IndexOutOfBoundsException") (by decide)⟩) (pg_ps (Or.inr ⟨by decide, "java/util/NoSuchElementException", hts (.classLink RL 21 "java/util/NoSuchElementException") (by decide +kernel), hN ("java/lang/IllegalArgumentException", "java/util/NoSuchElementException") (by decide)⟩) pg_ps0)) (by decide) (by decide) (hts (.classLink RL 15 "java/lang/IllegalArgumentException") (by decide +kernel)) (hE.2.2.2 _ (by decide) _) h3 h4 h5 ?_
  refine lv_astore (lv' := [(6, .ref qx), (0, .ref ((xa X 0))), (1, .int (iI (((a : Nat) : Int)))), (2, .int (iI (((b : Nat) : Int)))), (3, .int (iI n)), (4, .int (iI q)), (5, .ref ao)]) hx hb dL_isIn_32 hl (by decide) rfl (fun ls hl => ?_)
  refine lv_iconst (v := iI 3) hx hb dL_isIn_34 rfl ?_
  exact pg_wiret hx hb hr hlk (fun _ _ h => nomatch h) ⟨h1, fun x hx _ => h2 x hx, fun z h => nomatch h⟩ rfl dL_isIn_35
set_option maxRecDepth 100000 in
set_option maxHeartbeats 4000000 in
theorem c_L_root_ok (l : Launch) (X : pgX) (S : pgS) (n : Nat) (q : Int) (M : Nat) (hn : n < 32768) (hqi : inI q) (hM : (q = 0 ∧ (M : Int) = 16 * n) ∨ (q = 1 ∧ (M : Int) = 4 * n))  (cJ ao : Nat) (f : Nat → UInt64) : pg_wr l yL_root wsL_root (rm 3 75) (xG X) (xTy X ++ [(cJ, .double)]) pT (xC X S ++ [(ao, .inl (cJ, 1, .inr (.inr (.inr (.inl f)))))]) ((xC X S) ++ [(ao, .inl (cJ, 1, .inr (.inr (.inr (.inl (vf_upd f 0 (((dbl M)))))))))]) 0 0 [.ref ((xa X 0)), .int (iI (((n : Nat) : Int))), .int (iI q), .ref ao] (some (.int (iI 0))) := by
  refine pg_wrH_of (cc := cL_root) (maxL := 5) (ret := some .int) (hh := [(0, 9, 12, 15)]) (by decide) rfl (Nat.le_of_ble_eq_true rfl) ?_
  intro p e s m below meth c ls SC hr hlk hT hP hK hD hS hB hl
  obtain ⟨hx, hb, hml, hown, hts⟩ := id SC
  have hown : s.vm.findClass RL = some m.cls := hown
  have hl : lv_has ls 5 [(0, .ref ((xa X 0))), (1, .int (iI (((n : Nat) : Int)))), (2, .int (iI q)), (3, .ref ao)] := hl
  have hK0 : va_K (xG X) vwCl (xTy X) s := va_K.sub hK [0, 1] rfl
  have hP0 : va_P (xG X) vwCl (xC X S) s.heap := pg_part (l1 := []) (l2 := [(ao, .inl (cJ, 1, .inr (.inr (.inr (.inl f)))))]) hP
  refine lv_aload_n hx hb dL_root_0 rfl (lv_at hl 3 rfl) ?_
  refine lv_iconst (v := iI 0) hx hb dL_root_1 rfl ?_
  refine lv_aload_n hx hb dL_root_2 rfl (lv_at hl 0 rfl) ?_
  refine lv_iload_n hx hb dL_root_3 rfl (lv_at hl 1 rfl) ?_
  refine lv_iload_n hx hb dL_root_4 rfl (lv_at hl 2 rfl) ?_
  refine pg_callV (As := [.int (iI (((n : Nat) : Int))), .int (iI q)]) (rest := [.int (iI 0), .ref ao]) SC (c_X0_root_ok l X S n q M hn hqi hM) xB_st (xB_h hP0 hK0) (cwV 2 hts gL_root_X0_root rfl rfl rfl (by decide +kernel) ⟨Nat.le_of_ble_eq_true rfl, Nat.le_of_ble_eq_true rfl⟩) (va_recv hK0 hP0 (ci := 0) (q0 := 0) rfl rfl) rfl hl.1 rfl (Nat.le_of_ble_eq_true rfl) dL_root_5 ⟨Nat.zero_le _, Nat.zero_le _⟩ ?_
  refine pg_dst0 hx hb hK hP hD hS 5 2 rfl rfl dL_root_8 (fun H locs hP hD hS => ?_)
  refine lv_goto (tgt := 16) hx hb dL_root_9 (by decide) ?_
  refine lv_iconst (v := iI 0) hx hb dL_root_16 rfl ?_
  exact pg_wiret hx hb hr hlk hP hS rfl dL_root_17
set_option maxRecDepth 100000 in
set_option maxHeartbeats 4000000 in
theorem c_L_root_1 (l : Launch) (hfl : l.stackTraces = false) (N : Nat) (X : pgX) (S : pgS) (n : Int) (hn : inI n) (h : n < 0 ∨ 32768 ≤ n) (q : Int) (ao : Nat) : pg_wr l yL_root wsL_root (rmx 8 124) (xG X) [] (xW N X S) [] [] 1 6 [.ref ((xa X 0)), .int (iI n), .int (iI q), .ref ao] (some (.int (iI 1))) := by
  refine pg_wrH_of (cc := cL_root) (maxL := 5) (ret := some .int) (hh := [(0, 9, 12, 15)]) (by decide) rfl (Nat.le_of_ble_eq_true rfl) ?_
  intro p e s m below meth c ls SC hr hlk hT hP hK hD hS hB hl
  obtain ⟨hx, hb, hml, hown, hts⟩ := id SC
  have hown : s.vm.findClass RL = some m.cls := hown
  have hl : lv_has ls 5 [(0, .ref ((xa X 0))), (1, .int (iI n)), (2, .int (iI q)), (3, .ref ao)] := hl
  obtain ⟨⟨⟨hP0, hK0⟩, hE⟩, hN⟩ := id hB
  refine lv_aload_n hx hb dL_root_0 rfl (lv_at hl 3 rfl) ?_
  refine lv_iconst (v := iI 0) hx hb dL_root_1 rfl ?_
  refine lv_aload_n hx hb dL_root_2 rfl (lv_at hl 0 rfl) ?_
  refine lv_iload_n hx hb dL_root_3 rfl (lv_at hl 1 rfl) ?_
  refine lv_iload_n hx hb dL_root_4 rfl (lv_at hl 2 rfl) ?_
  refine pg_thrV (As := [.int (iI n), .int (iI q)]) (rest := [.int (iI 0), .ref ao]) SC (c_X0_root_th1 l hfl N X S n hn h q) xE_st (pg_h_of xE_st ⟨⟨hP0, hK0⟩, hE⟩) (cwV 2 hts gL_root_X0_root rfl rfl rfl (by decide +kernel) ⟨Nat.le_of_ble_eq_true rfl, Nat.le_of_ble_eq_true rfl⟩) (va_recv hK0 hP0 (ci := 0) (q0 := 0) rfl rfl) rfl hl.1 rfl (Nat.le_of_ble_eq_true rfl) dL_root_5 ⟨Nat.le_of_ble_eq_true rfl, Nat.le_of_ble_eq_true rfl⟩ (fun H1 qx ce h1 h2 h3 h4 h5 => ?_)
  refine vx_catch (own := RL) (E := "java/lang/IllegalArgumentException") (name := "java/lang/IllegalArgumentException") hown [] ⟨0, 9, 12, 15⟩ [] (hT.trans rfl) pg_ps0 (by decide) (by decide) (hts (.classLink RL 15 "java/lang/IllegalArgumentException") (by decide +kernel)) (hE.2.2.2 _ (by decide) _) h3 h4 h5 ?_
  refine lv_astore (lv' := [(4, .ref qx), (0, .ref ((xa X 0))), (1, .int (iI n)), (2, .int (iI q)), (3, .ref ao)]) hx hb dL_root_12 hl (by decide) rfl (fun ls hl => ?_)
  refine lv_iconst (v := iI 1) hx hb dL_root_14 rfl ?_
  exact pg_wiret hx hb hr hlk (fun _ _ h => nomatch h) ⟨h1, fun x hx _ => h2 x hx, fun z h => nomatch h⟩ rfl dL_root_15
set_option maxRecDepth 100000 in
set_option maxHeartbeats 4000000 in
theorem c_L_rootBits_ok (l : Launch) (X : pgX) (S : pgS) (n : Nat) (q : Int) (M : Nat) (hn : n < 32768) (hqi : inI q) (hM : (q = 0 ∧ (M : Int) = 16 * n) ∨ (q = 1 ∧ (M : Int) = 4 * n))  (cJ ao : Nat) (f : Nat → Int64) : pg_wr l yL_rootBits wsL_rootBits (rm 3 75) (xG X) (xTy X ++ [(cJ, .long)]) pT ((ao, .inl (cJ, 1, .inr (.inl f))) :: xC X S) ((ao, .inl (cJ, 1, .inr (.inl (vp_updL f 0 (lI ((((bx M : Nat) : Int)))))))) :: (xC X S)) 0 0 [.ref ((xa X 0)), .int (iI (((n : Nat) : Int))), .int (iI q), .ref ao] (some (.int (iI 0))) := by
  refine pg_wrH_of (cc := cL_rootBits) (maxL := 5) (ret := some .int) (hh := [(0, 9, 12, 15)]) (by decide) rfl (Nat.le_of_ble_eq_true rfl) ?_
  intro p e s m below meth c ls SC hr hlk hT hP hK hD hS hB hl
  obtain ⟨hx, hb, hml, hown, hts⟩ := id SC
  have hown : s.vm.findClass RL = some m.cls := hown
  have hl : lv_has ls 5 [(0, .ref ((xa X 0))), (1, .int (iI (((n : Nat) : Int)))), (2, .int (iI q)), (3, .ref ao)] := hl
  have hK0 : va_K (xG X) vwCl (xTy X) s := va_K.sub hK [0, 1] rfl
  have hP0 : va_P (xG X) vwCl (xC X S) s.heap := pg_part (l1 := [(ao, .inl (cJ, 1, .inr (.inl f)))]) (l2 := []) hP
  refine lv_aload_n hx hb dL_rootBits_0 rfl (lv_at hl 3 rfl) ?_
  refine lv_iconst (v := iI 0) hx hb dL_rootBits_1 rfl ?_
  refine lv_aload_n hx hb dL_rootBits_2 rfl (lv_at hl 0 rfl) ?_
  refine lv_iload_n hx hb dL_rootBits_3 rfl (lv_at hl 1 rfl) ?_
  refine lv_iload_n hx hb dL_rootBits_4 rfl (lv_at hl 2 rfl) ?_
  refine pg_callV (As := [.int (iI (((n : Nat) : Int))), .int (iI q)]) (rest := [.int (iI 0), .ref ao]) SC (c_X0_rootBits_ok l X S n q M hn hqi hM) xB_st (xB_h hP0 hK0) (cwV 2 hts gL_rootBits_X0_rootBits rfl rfl rfl (by decide +kernel) ⟨Nat.le_of_ble_eq_true rfl, Nat.le_of_ble_eq_true rfl⟩) (va_recv hK0 hP0 (ci := 0) (q0 := 0) rfl rfl) rfl hl.1 rfl (Nat.le_of_ble_eq_true rfl) dL_rootBits_5 ⟨Nat.zero_le _, Nat.zero_le _⟩ ?_
  refine pg_lst0 hx hb hK hP hD hS 0 2 rfl rfl dL_rootBits_8 (fun H locs hP hD hS => ?_)
  refine lv_goto (tgt := 16) hx hb dL_rootBits_9 (by decide) ?_
  refine lv_iconst (v := iI 0) hx hb dL_rootBits_16 rfl ?_
  exact pg_wiret hx hb hr hlk hP hS rfl dL_rootBits_17
set_option maxRecDepth 100000 in
set_option maxHeartbeats 4000000 in
theorem c_L_rootBits_1 (l : Launch) (hfl : l.stackTraces = false) (N : Nat) (X : pgX) (S : pgS) (n : Int) (hn : inI n) (h : n < 0 ∨ 32768 ≤ n) (q : Int) (ao : Nat) : pg_wr l yL_rootBits wsL_rootBits (rmx 8 124) (xG X) [] (xW N X S) [] [] 1 6 [.ref ((xa X 0)), .int (iI n), .int (iI q), .ref ao] (some (.int (iI 1))) := by
  refine pg_wrH_of (cc := cL_rootBits) (maxL := 5) (ret := some .int) (hh := [(0, 9, 12, 15)]) (by decide) rfl (Nat.le_of_ble_eq_true rfl) ?_
  intro p e s m below meth c ls SC hr hlk hT hP hK hD hS hB hl
  obtain ⟨hx, hb, hml, hown, hts⟩ := id SC
  have hown : s.vm.findClass RL = some m.cls := hown
  have hl : lv_has ls 5 [(0, .ref ((xa X 0))), (1, .int (iI n)), (2, .int (iI q)), (3, .ref ao)] := hl
  obtain ⟨⟨⟨hP0, hK0⟩, hE⟩, hN⟩ := id hB
  refine lv_aload_n hx hb dL_rootBits_0 rfl (lv_at hl 3 rfl) ?_
  refine lv_iconst (v := iI 0) hx hb dL_rootBits_1 rfl ?_
  refine lv_aload_n hx hb dL_rootBits_2 rfl (lv_at hl 0 rfl) ?_
  refine lv_iload_n hx hb dL_rootBits_3 rfl (lv_at hl 1 rfl) ?_
  refine lv_iload_n hx hb dL_rootBits_4 rfl (lv_at hl 2 rfl) ?_
  refine pg_thrV (As := [.int (iI n), .int (iI q)]) (rest := [.int (iI 0), .ref ao]) SC (c_X0_rootBits_th1 l hfl N X S n hn h q) xE_st (pg_h_of xE_st ⟨⟨hP0, hK0⟩, hE⟩) (cwV 2 hts gL_rootBits_X0_rootBits rfl rfl rfl (by decide +kernel) ⟨Nat.le_of_ble_eq_true rfl, Nat.le_of_ble_eq_true rfl⟩) (va_recv hK0 hP0 (ci := 0) (q0 := 0) rfl rfl) rfl hl.1 rfl (Nat.le_of_ble_eq_true rfl) dL_rootBits_5 ⟨Nat.le_of_ble_eq_true rfl, Nat.le_of_ble_eq_true rfl⟩ (fun H1 qx ce h1 h2 h3 h4 h5 => ?_)
  refine vx_catch (own := RL) (E := "java/lang/IllegalArgumentException") (name := "java/lang/IllegalArgumentException") hown [] ⟨0, 9, 12, 15⟩ [] (hT.trans rfl) pg_ps0 (by decide) (by decide) (hts (.classLink RL 15 "java/lang/IllegalArgumentException") (by decide +kernel)) (hE.2.2.2 _ (by decide) _) h3 h4 h5 ?_
  refine lv_astore (lv' := [(4, .ref qx), (0, .ref ((xa X 0))), (1, .int (iI n)), (2, .int (iI q)), (3, .ref ao)]) hx hb dL_rootBits_12 hl (by decide) rfl (fun ls hl => ?_)
  refine lv_iconst (v := iI 1) hx hb dL_rootBits_14 rfl ?_
  exact pg_wiret hx hb hr hlk (fun _ _ h => nomatch h) ⟨h1, fun x hx _ => h2 x hx, fun z h => nomatch h⟩ rfl dL_rootBits_15
set_option maxRecDepth 100000 in
set_option maxHeartbeats 4000000 in
theorem c_L_rootGrains_ok (l : Launch) (X : pgX) (S : pgS) (n : Nat) (q : Int) (M : Nat) (hn : n < 32768) (hqi : inI q) (hM : (q = 0 ∧ (M : Int) = 16 * n) ∨ (q = 1 ∧ (M : Int) = 4 * n))  (cJ ao : Nat) (f : Nat → Int64) : pg_wr l yL_rootGrains wsL_rootGrains (rm 3 70) (xG X) (xTy X ++ [(cJ, .long)]) pT ((ao, .inl (cJ, 1, .inr (.inl f))) :: xC X S) ((ao, .inl (cJ, 1, .inr (.inl (vp_updL f 0 (lI ((((gr M : Nat) : Int)))))))) :: (xC X S)) 0 0 [.ref ((xa X 0)), .int (iI (((n : Nat) : Int))), .int (iI q), .ref ao] (some (.int (iI 0))) := by
  refine pg_wrH_of (cc := cL_rootGrains) (maxL := 5) (ret := some .int) (hh := [(0, 10, 13, 15)]) (by decide) rfl (Nat.le_of_ble_eq_true rfl) ?_
  intro p e s m below meth c ls SC hr hlk hT hP hK hD hS hB hl
  obtain ⟨hx, hb, hml, hown, hts⟩ := id SC
  have hown : s.vm.findClass RL = some m.cls := hown
  have hl : lv_has ls 5 [(0, .ref ((xa X 0))), (1, .int (iI (((n : Nat) : Int)))), (2, .int (iI q)), (3, .ref ao)] := hl
  have hK0 : va_K (xG X) vwCl (xTy X) s := va_K.sub hK [0, 1] rfl
  have hP0 : va_P (xG X) vwCl (xC X S) s.heap := pg_part (l1 := [(ao, .inl (cJ, 1, .inr (.inl f)))]) (l2 := []) hP
  refine lv_aload_n hx hb dL_rootGrains_0 rfl (lv_at hl 3 rfl) ?_
  refine lv_iconst (v := iI 0) hx hb dL_rootGrains_1 rfl ?_
  refine lv_aload_n hx hb dL_rootGrains_2 rfl (lv_at hl 0 rfl) ?_
  refine lv_iload_n hx hb dL_rootGrains_3 rfl (lv_at hl 1 rfl) ?_
  refine lv_iload_n hx hb dL_rootGrains_4 rfl (lv_at hl 2 rfl) ?_
  refine pg_callV (As := [.int (iI (((n : Nat) : Int))), .int (iI q)]) (rest := [.int (iI 0), .ref ao]) SC (c_X0_rootGrains_ok l X S n q M hn hqi hM) xB_st (xB_h hP0 hK0) (cwV 2 hts gL_rootGrains_X0_rootGrains rfl rfl rfl (by decide +kernel) ⟨Nat.le_of_ble_eq_true rfl, Nat.le_of_ble_eq_true rfl⟩) (va_recv hK0 hP0 (ci := 0) (q0 := 0) rfl rfl) rfl hl.1 rfl (Nat.le_of_ble_eq_true rfl) dL_rootGrains_5 ⟨Nat.zero_le _, Nat.zero_le _⟩ ?_
  refine pg_i2l hx hb dL_rootGrains_8 (⟨by omega, by have := gr_lt (M := M) (by omega); omega⟩) ?_
  refine pg_lst0 hx hb hK hP hD hS 0 2 rfl rfl dL_rootGrains_9 (fun H locs hP hD hS => ?_)
  refine lv_goto (tgt := 17) hx hb dL_rootGrains_10 (by decide) ?_
  refine lv_iconst (v := iI 0) hx hb dL_rootGrains_17 rfl ?_
  exact pg_wiret hx hb hr hlk hP hS rfl dL_rootGrains_18
set_option maxRecDepth 100000 in
set_option maxHeartbeats 4000000 in
theorem c_L_rootGrains_1 (l : Launch) (hfl : l.stackTraces = false) (N : Nat) (X : pgX) (S : pgS) (n : Int) (hn : inI n) (h : n < 0 ∨ 32768 ≤ n) (q : Int) (ao : Nat) : pg_wr l yL_rootGrains wsL_rootGrains (rmx 8 124) (xG X) [] (xW N X S) [] [] 1 6 [.ref ((xa X 0)), .int (iI n), .int (iI q), .ref ao] (some (.int (iI 1))) := by
  refine pg_wrH_of (cc := cL_rootGrains) (maxL := 5) (ret := some .int) (hh := [(0, 10, 13, 15)]) (by decide) rfl (Nat.le_of_ble_eq_true rfl) ?_
  intro p e s m below meth c ls SC hr hlk hT hP hK hD hS hB hl
  obtain ⟨hx, hb, hml, hown, hts⟩ := id SC
  have hown : s.vm.findClass RL = some m.cls := hown
  have hl : lv_has ls 5 [(0, .ref ((xa X 0))), (1, .int (iI n)), (2, .int (iI q)), (3, .ref ao)] := hl
  obtain ⟨⟨⟨hP0, hK0⟩, hE⟩, hN⟩ := id hB
  refine lv_aload_n hx hb dL_rootGrains_0 rfl (lv_at hl 3 rfl) ?_
  refine lv_iconst (v := iI 0) hx hb dL_rootGrains_1 rfl ?_
  refine lv_aload_n hx hb dL_rootGrains_2 rfl (lv_at hl 0 rfl) ?_
  refine lv_iload_n hx hb dL_rootGrains_3 rfl (lv_at hl 1 rfl) ?_
  refine lv_iload_n hx hb dL_rootGrains_4 rfl (lv_at hl 2 rfl) ?_
  refine pg_thrV (As := [.int (iI n), .int (iI q)]) (rest := [.int (iI 0), .ref ao]) SC (c_X0_rootGrains_th1 l hfl N X S n hn h q) xE_st (pg_h_of xE_st ⟨⟨hP0, hK0⟩, hE⟩) (cwV 2 hts gL_rootGrains_X0_rootGrains rfl rfl rfl (by decide +kernel) ⟨Nat.le_of_ble_eq_true rfl, Nat.le_of_ble_eq_true rfl⟩) (va_recv hK0 hP0 (ci := 0) (q0 := 0) rfl rfl) rfl hl.1 rfl (Nat.le_of_ble_eq_true rfl) dL_rootGrains_5 ⟨Nat.le_of_ble_eq_true rfl, Nat.le_of_ble_eq_true rfl⟩ (fun H1 qx ce h1 h2 h3 h4 h5 => ?_)
  refine vx_catch (own := RL) (E := "java/lang/IllegalArgumentException") (name := "java/lang/IllegalArgumentException") hown [] ⟨0, 10, 13, 15⟩ [] (hT.trans rfl) pg_ps0 (by decide) (by decide) (hts (.classLink RL 15 "java/lang/IllegalArgumentException") (by decide +kernel)) (hE.2.2.2 _ (by decide) _) h3 h4 h5 ?_
  refine lv_astore (lv' := [(4, .ref qx), (0, .ref ((xa X 0))), (1, .int (iI n)), (2, .int (iI q)), (3, .ref ao)]) hx hb dL_rootGrains_13 hl (by decide) rfl (fun ls hl => ?_)
  refine lv_iconst (v := iI 1) hx hb dL_rootGrains_15 rfl ?_
  exact pg_wiret hx hb hr hlk (fun _ _ h => nomatch h) ⟨h1, fun x hx _ => h2 x hx, fun z h => nomatch h⟩ rfl dL_rootGrains_16
set_option maxRecDepth 100000 in
set_option maxHeartbeats 4000000 in
theorem c_L_wholeRoot_ok (l : Launch) (X : pgX) (S : pgS) (n : Nat) (hn : n < 32768) (cJ ao : Nat) (f : Nat → Int64) : pg_wr l yL_wholeRoot wsL_wholeRoot (rm 3 69) (xG X) (xTy X ++ [(cJ, .long)]) pT ((ao, .inl (cJ, 1, .inr (.inl f))) :: xC X S) ((ao, .inl (cJ, 1, .inr (.inl (vp_updL f 0 (lI ((((qs n : Nat) : Int)))))))) :: (xC X S)) 0 0 [.ref ((xa X 0)), .int (iI (((n : Nat) : Int))), .ref ao] (some (.int (iI 0))) := by
  refine pg_wrH_of (cc := cL_wholeRoot) (maxL := 4) (ret := some .int) (hh := [(0, 9, 12, 15)]) (by decide) rfl (Nat.le_of_ble_eq_true rfl) ?_
  intro p e s m below meth c ls SC hr hlk hT hP hK hD hS hB hl
  obtain ⟨hx, hb, hml, hown, hts⟩ := id SC
  have hown : s.vm.findClass RL = some m.cls := hown
  have hl : lv_has ls 4 [(0, .ref ((xa X 0))), (1, .int (iI (((n : Nat) : Int)))), (2, .ref ao)] := hl
  have hK0 : va_K (xG X) vwCl (xTy X) s := va_K.sub hK [0, 1] rfl
  have hP0 : va_P (xG X) vwCl (xC X S) s.heap := pg_part (l1 := [(ao, .inl (cJ, 1, .inr (.inl f)))]) (l2 := []) hP
  refine lv_aload_n hx hb dL_wholeRoot_0 rfl (lv_at hl 2 rfl) ?_
  refine lv_iconst (v := iI 0) hx hb dL_wholeRoot_1 rfl ?_
  refine lv_aload_n hx hb dL_wholeRoot_2 rfl (lv_at hl 0 rfl) ?_
  refine lv_iload_n hx hb dL_wholeRoot_3 rfl (lv_at hl 1 rfl) ?_
  refine pg_callV (As := [.int (iI (((n : Nat) : Int)))]) (rest := [.int (iI 0), .ref ao]) SC (c_X0_wholeRoot_ok l X S n hn) xB_st (xB_h hP0 hK0) (cwV 1 hts gL_wholeRoot_X0_wholeRoot rfl rfl rfl (by decide +kernel) ⟨Nat.le_of_ble_eq_true rfl, Nat.le_of_ble_eq_true rfl⟩) (va_recv hK0 hP0 (ci := 0) (q0 := 0) rfl rfl) rfl hl.1 rfl (Nat.le_of_ble_eq_true rfl) dL_wholeRoot_4 ⟨Nat.zero_le _, Nat.zero_le _⟩ ?_
  refine pg_i2l hx hb dL_wholeRoot_7 (⟨by omega, by have := qs_below (n := n) (b := 256) (by omega); omega⟩) ?_
  refine pg_lst0 hx hb hK hP hD hS 0 2 rfl rfl dL_wholeRoot_8 (fun H locs hP hD hS => ?_)
  refine lv_goto (tgt := 15) hx hb dL_wholeRoot_9 (by decide) ?_
  refine lv_iconst (v := iI 0) hx hb dL_wholeRoot_15 rfl ?_
  exact pg_wiret hx hb hr hlk hP hS rfl dL_wholeRoot_16
set_option maxRecDepth 100000 in
set_option maxHeartbeats 4000000 in
theorem c_L_wholeRoot_1 (l : Launch) (hfl : l.stackTraces = false) (N : Nat) (X : pgX) (S : pgS) (n : Int) (hn : inI n) (h : n < 0 ∨ 32768 ≤ n)  (ao : Nat) : pg_wr l yL_wholeRoot wsL_wholeRoot (rmx 8 123) (xG X) [] (xW N X S) [] [] 1 6 [.ref ((xa X 0)), .int (iI n), .ref ao] (some (.int (iI 1))) := by
  refine pg_wrH_of (cc := cL_wholeRoot) (maxL := 4) (ret := some .int) (hh := [(0, 9, 12, 15)]) (by decide) rfl (Nat.le_of_ble_eq_true rfl) ?_
  intro p e s m below meth c ls SC hr hlk hT hP hK hD hS hB hl
  obtain ⟨hx, hb, hml, hown, hts⟩ := id SC
  have hown : s.vm.findClass RL = some m.cls := hown
  have hl : lv_has ls 4 [(0, .ref ((xa X 0))), (1, .int (iI n)), (2, .ref ao)] := hl
  obtain ⟨⟨⟨hP0, hK0⟩, hE⟩, hN⟩ := id hB
  refine lv_aload_n hx hb dL_wholeRoot_0 rfl (lv_at hl 2 rfl) ?_
  refine lv_iconst (v := iI 0) hx hb dL_wholeRoot_1 rfl ?_
  refine lv_aload_n hx hb dL_wholeRoot_2 rfl (lv_at hl 0 rfl) ?_
  refine lv_iload_n hx hb dL_wholeRoot_3 rfl (lv_at hl 1 rfl) ?_
  refine pg_thrV (As := [.int (iI n)]) (rest := [.int (iI 0), .ref ao]) SC (c_X0_wholeRoot_th1 l hfl N X S n hn h) xE_st (pg_h_of xE_st ⟨⟨hP0, hK0⟩, hE⟩) (cwV 1 hts gL_wholeRoot_X0_wholeRoot rfl rfl rfl (by decide +kernel) ⟨Nat.le_of_ble_eq_true rfl, Nat.le_of_ble_eq_true rfl⟩) (va_recv hK0 hP0 (ci := 0) (q0 := 0) rfl rfl) rfl hl.1 rfl (Nat.le_of_ble_eq_true rfl) dL_wholeRoot_4 ⟨Nat.le_of_ble_eq_true rfl, Nat.le_of_ble_eq_true rfl⟩ (fun H1 qx ce h1 h2 h3 h4 h5 => ?_)
  refine vx_catch (own := RL) (E := "java/lang/IllegalArgumentException") (name := "java/lang/IllegalArgumentException") hown [] ⟨0, 9, 12, 15⟩ [] (hT.trans rfl) pg_ps0 (by decide) (by decide) (hts (.classLink RL 15 "java/lang/IllegalArgumentException") (by decide +kernel)) (hE.2.2.2 _ (by decide) _) h3 h4 h5 ?_
  refine lv_astore_n (lv' := [(3, .ref qx), (0, .ref ((xa X 0))), (1, .int (iI n)), (2, .ref ao)]) hx hb dL_wholeRoot_12 rfl hl (by decide) rfl (fun ls hl => ?_)
  refine lv_iconst (v := iI 1) hx hb dL_wholeRoot_13 rfl ?_
  exact pg_wiret hx hb hr hlk (fun _ _ h => nomatch h) ⟨h1, fun x hx _ => h2 x hx, fun z h => nomatch h⟩ rfl dL_wholeRoot_14
set_option maxRecDepth 100000 in
set_option maxHeartbeats 4000000 in
theorem c_L_isNearest_ok (l : Launch) (X : pgX) (S : pgS) (n : Nat) (q : Int) (M : Nat) (hn : n < 32768) (hqi : inI q) (hM : (q = 0 ∧ (M : Int) = 16 * n) ∨ (q = 1 ∧ (M : Int) = 4 * n))  (cJ ao : Nat) (f : Nat → Int64) : pg_wr l yL_isNearest wsL_isNearest (rm 3 81) (xG X) (xTy X ++ [(cJ, .long)]) pT ((ao, .inl (cJ, 1, .inr (.inl f))) :: xC X S) ((ao, .inl (cJ, 1, .inr (.inl (vp_updL f 0 (lI 1))))) :: (xC X S)) 0 0 [.ref ((xa X 0)), .int (iI (((n : Nat) : Int))), .int (iI q), .ref ao] (some (.int (iI 0))) := by
  refine pg_wrH_of (cc := cL_isNearest) (maxL := 5) (ret := some .int) (hh := [(0, 17, 20, 15)]) (by decide) rfl (Nat.le_of_ble_eq_true rfl) ?_
  intro p e s m below meth c ls SC hr hlk hT hP hK hD hS hB hl
  obtain ⟨hx, hb, hml, hown, hts⟩ := id SC
  have hown : s.vm.findClass RL = some m.cls := hown
  have hl : lv_has ls 5 [(0, .ref ((xa X 0))), (1, .int (iI (((n : Nat) : Int)))), (2, .int (iI q)), (3, .ref ao)] := hl
  have hK0 : va_K (xG X) vwCl (xTy X) s := va_K.sub hK [0, 1] rfl
  have hP0 : va_P (xG X) vwCl (xC X S) s.heap := pg_part (l1 := [(ao, .inl (cJ, 1, .inr (.inl f)))]) (l2 := []) hP
  refine lv_aload_n hx hb dL_isNearest_0 rfl (lv_at hl 3 rfl) ?_
  refine lv_iconst (v := iI 0) hx hb dL_isNearest_1 rfl ?_
  refine lv_aload_n hx hb dL_isNearest_2 rfl (lv_at hl 0 rfl) ?_
  refine lv_iload_n hx hb dL_isNearest_3 rfl (lv_at hl 1 rfl) ?_
  refine lv_iload_n hx hb dL_isNearest_4 rfl (lv_at hl 2 rfl) ?_
  refine pg_callV (As := [.int (iI (((n : Nat) : Int))), .int (iI q)]) (rest := [.int (iI 0), .ref ao]) SC (c_X0_isNearest_ok l X S n q M hn hqi hM) xB_st (xB_h hP0 hK0) (cwV 2 hts gL_isNearest_X0_isNearest rfl rfl rfl (by decide +kernel) ⟨Nat.le_of_ble_eq_true rfl, Nat.le_of_ble_eq_true rfl⟩) (va_recv hK0 hP0 (ci := 0) (q0 := 0) rfl rfl) rfl hl.1 rfl (Nat.le_of_ble_eq_true rfl) dL_isNearest_5 ⟨Nat.zero_le _, Nat.zero_le _⟩ ?_
  have hz : (1 : Int) = 0 ∨ (1 : Int) = 1 := by omega
  refine pg_if_eq (tgt := 15) hx hb dL_isNearest_8 (by decide) (⟨by omega, by omega⟩) (fun hc1 => ?_) (fun hc1 => ?_)
  · have hz0 : (1 : Int) = 0 := hc1
    refine lv_lconst (v := lI 0) hx hb dL_isNearest_15 rfl ?_
    refine pg_tl (y := lI 1) (congrArg lI hz0).symm ?_
    refine pg_lst0 hx hb hK hP hD hS 0 2 rfl rfl dL_isNearest_16 (fun H locs hP hD hS => ?_)
    refine lv_goto (tgt := 24) hx hb dL_isNearest_17 (by decide) ?_
    refine lv_iconst (v := iI 0) hx hb dL_isNearest_24 rfl ?_
    exact pg_wiret hx hb hr hlk hP hS rfl dL_isNearest_25
  · have hz1 : (1 : Int) = 1 := hz.resolve_left hc1
    refine lv_lconst (v := lI 1) hx hb dL_isNearest_11 rfl ?_
    refine lv_goto (tgt := 16) hx hb dL_isNearest_12 (by decide) ?_
    refine pg_tl (y := lI 1) (congrArg lI hz1).symm ?_
    refine pg_lst0 hx hb hK hP hD hS 0 2 rfl rfl dL_isNearest_16 (fun H locs hP hD hS => ?_)
    refine lv_goto (tgt := 24) hx hb dL_isNearest_17 (by decide) ?_
    refine lv_iconst (v := iI 0) hx hb dL_isNearest_24 rfl ?_
    exact pg_wiret hx hb hr hlk hP hS rfl dL_isNearest_25
set_option maxRecDepth 100000 in
set_option maxHeartbeats 4000000 in
theorem c_L_isNearest_1 (l : Launch) (hfl : l.stackTraces = false) (N : Nat) (X : pgX) (S : pgS) (n : Int) (hn : inI n) (h : n < 0 ∨ 32768 ≤ n) (q : Int) (ao : Nat) : pg_wr l yL_isNearest wsL_isNearest (rmx 8 130) (xG X) [] (xW N X S) [] [] 1 6 [.ref ((xa X 0)), .int (iI n), .int (iI q), .ref ao] (some (.int (iI 1))) := by
  refine pg_wrH_of (cc := cL_isNearest) (maxL := 5) (ret := some .int) (hh := [(0, 17, 20, 15)]) (by decide) rfl (Nat.le_of_ble_eq_true rfl) ?_
  intro p e s m below meth c ls SC hr hlk hT hP hK hD hS hB hl
  obtain ⟨hx, hb, hml, hown, hts⟩ := id SC
  have hown : s.vm.findClass RL = some m.cls := hown
  have hl : lv_has ls 5 [(0, .ref ((xa X 0))), (1, .int (iI n)), (2, .int (iI q)), (3, .ref ao)] := hl
  obtain ⟨⟨⟨hP0, hK0⟩, hE⟩, hN⟩ := id hB
  refine lv_aload_n hx hb dL_isNearest_0 rfl (lv_at hl 3 rfl) ?_
  refine lv_iconst (v := iI 0) hx hb dL_isNearest_1 rfl ?_
  refine lv_aload_n hx hb dL_isNearest_2 rfl (lv_at hl 0 rfl) ?_
  refine lv_iload_n hx hb dL_isNearest_3 rfl (lv_at hl 1 rfl) ?_
  refine lv_iload_n hx hb dL_isNearest_4 rfl (lv_at hl 2 rfl) ?_
  refine pg_thrV (As := [.int (iI n), .int (iI q)]) (rest := [.int (iI 0), .ref ao]) SC (c_X0_isNearest_th1 l hfl N X S n hn h q) xE_st (pg_h_of xE_st ⟨⟨hP0, hK0⟩, hE⟩) (cwV 2 hts gL_isNearest_X0_isNearest rfl rfl rfl (by decide +kernel) ⟨Nat.le_of_ble_eq_true rfl, Nat.le_of_ble_eq_true rfl⟩) (va_recv hK0 hP0 (ci := 0) (q0 := 0) rfl rfl) rfl hl.1 rfl (Nat.le_of_ble_eq_true rfl) dL_isNearest_5 ⟨Nat.le_of_ble_eq_true rfl, Nat.le_of_ble_eq_true rfl⟩ (fun H1 qx ce h1 h2 h3 h4 h5 => ?_)
  refine vx_catch (own := RL) (E := "java/lang/IllegalArgumentException") (name := "java/lang/IllegalArgumentException") hown [] ⟨0, 17, 20, 15⟩ [] (hT.trans rfl) pg_ps0 (by decide) (by decide) (hts (.classLink RL 15 "java/lang/IllegalArgumentException") (by decide +kernel)) (hE.2.2.2 _ (by decide) _) h3 h4 h5 ?_
  refine lv_astore (lv' := [(4, .ref qx), (0, .ref ((xa X 0))), (1, .int (iI n)), (2, .int (iI q)), (3, .ref ao)]) hx hb dL_isNearest_20 hl (by decide) rfl (fun ls hl => ?_)
  refine lv_iconst (v := iI 1) hx hb dL_isNearest_22 rfl ?_
  exact pg_wiret hx hb hr hlk (fun _ _ h => nomatch h) ⟨h1, fun x hx _ => h2 x hx, fun z h => nomatch h⟩ rfl dL_isNearest_23
set_option maxRecDepth 100000 in
set_option maxHeartbeats 4000000 in
theorem c_L_isHalved_ok (l : Launch) (X : pgX) (S : pgS) (n : Nat) (hn : n < 32768) (cJ ao : Nat) (f : Nat → Int64) : pg_wr l yL_isHalved wsL_isHalved (rm 3 74) (xG X) (xTy X ++ [(cJ, .long)]) pT ((ao, .inl (cJ, 1, .inr (.inl f))) :: xC X S) ((ao, .inl (cJ, 1, .inr (.inl (vp_updL f 0 (lI 1))))) :: (xC X S)) 0 0 [.ref ((xa X 0)), .int (iI (((n : Nat) : Int))), .ref ao] (some (.int (iI 0))) := by
  refine pg_wrH_of (cc := cL_isHalved) (maxL := 4) (ret := some .int) (hh := [(0, 16, 19, 15)]) (by decide) rfl (Nat.le_of_ble_eq_true rfl) ?_
  intro p e s m below meth c ls SC hr hlk hT hP hK hD hS hB hl
  obtain ⟨hx, hb, hml, hown, hts⟩ := id SC
  have hown : s.vm.findClass RL = some m.cls := hown
  have hl : lv_has ls 4 [(0, .ref ((xa X 0))), (1, .int (iI (((n : Nat) : Int)))), (2, .ref ao)] := hl
  have hK0 : va_K (xG X) vwCl (xTy X) s := va_K.sub hK [0, 1] rfl
  have hP0 : va_P (xG X) vwCl (xC X S) s.heap := pg_part (l1 := [(ao, .inl (cJ, 1, .inr (.inl f)))]) (l2 := []) hP
  refine lv_aload_n hx hb dL_isHalved_0 rfl (lv_at hl 2 rfl) ?_
  refine lv_iconst (v := iI 0) hx hb dL_isHalved_1 rfl ?_
  refine lv_aload_n hx hb dL_isHalved_2 rfl (lv_at hl 0 rfl) ?_
  refine lv_iload_n hx hb dL_isHalved_3 rfl (lv_at hl 1 rfl) ?_
  refine pg_callV (As := [.int (iI (((n : Nat) : Int)))]) (rest := [.int (iI 0), .ref ao]) SC (c_X0_isHalved_ok l X S n hn) xB_st (xB_h hP0 hK0) (cwV 1 hts gL_isHalved_X0_isHalved rfl rfl rfl (by decide +kernel) ⟨Nat.le_of_ble_eq_true rfl, Nat.le_of_ble_eq_true rfl⟩) (va_recv hK0 hP0 (ci := 0) (q0 := 0) rfl rfl) rfl hl.1 rfl (Nat.le_of_ble_eq_true rfl) dL_isHalved_4 ⟨Nat.zero_le _, Nat.zero_le _⟩ ?_
  have hz : (1 : Int) = 0 ∨ (1 : Int) = 1 := by omega
  refine pg_if_eq (tgt := 14) hx hb dL_isHalved_7 (by decide) (⟨by omega, by omega⟩) (fun hc1 => ?_) (fun hc1 => ?_)
  · have hz0 : (1 : Int) = 0 := hc1
    refine lv_lconst (v := lI 0) hx hb dL_isHalved_14 rfl ?_
    refine pg_tl (y := lI 1) (congrArg lI hz0).symm ?_
    refine pg_lst0 hx hb hK hP hD hS 0 2 rfl rfl dL_isHalved_15 (fun H locs hP hD hS => ?_)
    refine lv_goto (tgt := 22) hx hb dL_isHalved_16 (by decide) ?_
    refine lv_iconst (v := iI 0) hx hb dL_isHalved_22 rfl ?_
    exact pg_wiret hx hb hr hlk hP hS rfl dL_isHalved_23
  · have hz1 : (1 : Int) = 1 := hz.resolve_left hc1
    refine lv_lconst (v := lI 1) hx hb dL_isHalved_10 rfl ?_
    refine lv_goto (tgt := 15) hx hb dL_isHalved_11 (by decide) ?_
    refine pg_tl (y := lI 1) (congrArg lI hz1).symm ?_
    refine pg_lst0 hx hb hK hP hD hS 0 2 rfl rfl dL_isHalved_15 (fun H locs hP hD hS => ?_)
    refine lv_goto (tgt := 22) hx hb dL_isHalved_16 (by decide) ?_
    refine lv_iconst (v := iI 0) hx hb dL_isHalved_22 rfl ?_
    exact pg_wiret hx hb hr hlk hP hS rfl dL_isHalved_23
set_option maxRecDepth 100000 in
set_option maxHeartbeats 4000000 in
theorem c_L_isHalved_1 (l : Launch) (hfl : l.stackTraces = false) (N : Nat) (X : pgX) (S : pgS) (n : Int) (hn : inI n) (h : n < 0 ∨ 32768 ≤ n)  (ao : Nat) : pg_wr l yL_isHalved wsL_isHalved (rmx 8 123) (xG X) [] (xW N X S) [] [] 1 6 [.ref ((xa X 0)), .int (iI n), .ref ao] (some (.int (iI 1))) := by
  refine pg_wrH_of (cc := cL_isHalved) (maxL := 4) (ret := some .int) (hh := [(0, 16, 19, 15)]) (by decide) rfl (Nat.le_of_ble_eq_true rfl) ?_
  intro p e s m below meth c ls SC hr hlk hT hP hK hD hS hB hl
  obtain ⟨hx, hb, hml, hown, hts⟩ := id SC
  have hown : s.vm.findClass RL = some m.cls := hown
  have hl : lv_has ls 4 [(0, .ref ((xa X 0))), (1, .int (iI n)), (2, .ref ao)] := hl
  obtain ⟨⟨⟨hP0, hK0⟩, hE⟩, hN⟩ := id hB
  refine lv_aload_n hx hb dL_isHalved_0 rfl (lv_at hl 2 rfl) ?_
  refine lv_iconst (v := iI 0) hx hb dL_isHalved_1 rfl ?_
  refine lv_aload_n hx hb dL_isHalved_2 rfl (lv_at hl 0 rfl) ?_
  refine lv_iload_n hx hb dL_isHalved_3 rfl (lv_at hl 1 rfl) ?_
  refine pg_thrV (As := [.int (iI n)]) (rest := [.int (iI 0), .ref ao]) SC (c_X0_isHalved_th1 l hfl N X S n hn h) xE_st (pg_h_of xE_st ⟨⟨hP0, hK0⟩, hE⟩) (cwV 1 hts gL_isHalved_X0_isHalved rfl rfl rfl (by decide +kernel) ⟨Nat.le_of_ble_eq_true rfl, Nat.le_of_ble_eq_true rfl⟩) (va_recv hK0 hP0 (ci := 0) (q0 := 0) rfl rfl) rfl hl.1 rfl (Nat.le_of_ble_eq_true rfl) dL_isHalved_4 ⟨Nat.le_of_ble_eq_true rfl, Nat.le_of_ble_eq_true rfl⟩ (fun H1 qx ce h1 h2 h3 h4 h5 => ?_)
  refine vx_catch (own := RL) (E := "java/lang/IllegalArgumentException") (name := "java/lang/IllegalArgumentException") hown [] ⟨0, 16, 19, 15⟩ [] (hT.trans rfl) pg_ps0 (by decide) (by decide) (hts (.classLink RL 15 "java/lang/IllegalArgumentException") (by decide +kernel)) (hE.2.2.2 _ (by decide) _) h3 h4 h5 ?_
  refine lv_astore_n (lv' := [(3, .ref qx), (0, .ref ((xa X 0))), (1, .int (iI n)), (2, .ref ao)]) hx hb dL_isHalved_19 rfl hl (by decide) rfl (fun ls hl => ?_)
  refine lv_iconst (v := iI 1) hx hb dL_isHalved_20 rfl ?_
  exact pg_wiret hx hb hr hlk (fun _ _ h => nomatch h) ⟨h1, fun x hx _ => h2 x hx, fun z h => nomatch h⟩ rfl dL_isHalved_21
set_option maxRecDepth 100000 in
set_option maxHeartbeats 4000000 in
theorem c_L_between_ok (l : Launch) (X : pgX) (S : pgS) (lo hi : Nat) (q r : Int) (hlo : lo < 32768) (hhi : hi < 32768) (hqi : inI q) (h : (hi ≤ lo ∧ r = 0) ∨ (lo < hi ∧ q = 0 ∧ r = (qs hi : Int) - (qs lo : Int)) ∨ (lo < hi ∧ q ≠ 0 ∧ r = (qs (hi / 4) : Int) - (qs (lo / 4) : Int))) (cJ ao : Nat) (f : Nat → Int64) : pg_wr l yL_between wsL_between (rm 3 71) (xG X) (xTy X ++ [(cJ, .long)]) pT ((ao, .inl (cJ, 1, .inr (.inl f))) :: xC X S) ((ao, .inl (cJ, 1, .inr (.inl (vp_updL f 0 (lI r))))) :: (xC X S)) 0 0 [.ref ((xa X 0)), .int (iI (((lo : Nat) : Int))), .int (iI (((hi : Nat) : Int))), .int (iI q), .ref ao] (some (.int (iI 0))) := by
  refine pg_wrH_of (cc := cL_between) (maxL := 6) (ret := some .int) (hh := [(0, 12, 15, 15)]) (by decide) rfl (Nat.le_of_ble_eq_true rfl) ?_
  intro p e s m below meth c ls SC hr hlk hT hP hK hD hS hB hl
  obtain ⟨hx, hb, hml, hown, hts⟩ := id SC
  have hown : s.vm.findClass RL = some m.cls := hown
  have hl : lv_has ls 6 [(0, .ref ((xa X 0))), (1, .int (iI (((lo : Nat) : Int)))), (2, .int (iI (((hi : Nat) : Int)))), (3, .int (iI q)), (4, .ref ao)] := hl
  have hK0 : va_K (xG X) vwCl (xTy X) s := va_K.sub hK [0, 1] rfl
  have hP0 : va_P (xG X) vwCl (xC X S) s.heap := pg_part (l1 := [(ao, .inl (cJ, 1, .inr (.inl f)))]) (l2 := []) hP
  refine lv_aload hx hb dL_between_0 (lv_at hl 4 rfl) ?_
  refine lv_iconst (v := iI 0) hx hb dL_between_2 rfl ?_
  refine lv_aload_n hx hb dL_between_3 rfl (lv_at hl 0 rfl) ?_
  refine lv_iload_n hx hb dL_between_4 rfl (lv_at hl 1 rfl) ?_
  refine lv_iload_n hx hb dL_between_5 rfl (lv_at hl 2 rfl) ?_
  refine lv_iload_n hx hb dL_between_6 rfl (lv_at hl 3 rfl) ?_
  refine pg_callV (As := [.int (iI (((lo : Nat) : Int))), .int (iI (((hi : Nat) : Int))), .int (iI q)]) (rest := [.int (iI 0), .ref ao]) SC (c_X0_between_ok l X S lo hi q r hlo hhi hqi h) xB_st (xB_h hP0 hK0) (cwV 3 hts gL_between_X0_between rfl rfl rfl (by decide +kernel) ⟨Nat.le_of_ble_eq_true rfl, Nat.le_of_ble_eq_true rfl⟩) (va_recv hK0 hP0 (ci := 0) (q0 := 0) rfl rfl) rfl hl.1 rfl (Nat.le_of_ble_eq_true rfl) dL_between_7 ⟨Nat.zero_le _, Nat.zero_le _⟩ ?_
  refine pg_i2l hx hb dL_between_10 (⟨by have := qs_below (n := lo) (b := 256) (by omega); have := qs_below (n := hi) (b := 256) (by omega); have := qs_below (n := lo / 4) (b := 256) (by omega); have := qs_below (n := hi / 4) (b := 256) (by omega); omega, by have := qs_below (n := lo) (b := 256) (by omega); have := qs_below (n := hi) (b := 256) (by omega); have := qs_below (n := lo / 4) (b := 256) (by omega); have := qs_below (n := hi / 4) (b := 256) (by omega); omega⟩) ?_
  refine pg_lst0 hx hb hK hP hD hS 0 2 rfl rfl dL_between_11 (fun H locs hP hD hS => ?_)
  refine lv_goto (tgt := 19) hx hb dL_between_12 (by decide) ?_
  refine lv_iconst (v := iI 0) hx hb dL_between_19 rfl ?_
  exact pg_wiret hx hb hr hlk hP hS rfl dL_between_20
set_option maxRecDepth 100000 in
set_option maxHeartbeats 4000000 in
theorem c_L_between_1 (l : Launch) (hfl : l.stackTraces = false) (N : Nat) (X : pgX) (S : pgS) (n n2 q : Int) (hn : inI n) (hn2 : inI n2) (h : n < 0 ∨ 32768 ≤ n ∨ n2 < 0 ∨ 32768 ≤ n2) (ao : Nat) : pg_wr l yL_between wsL_between (rmx 8 125) (xG X) [] (xW N X S) [] [] 1 6 [.ref ((xa X 0)), .int (iI n), .int (iI n2), .int (iI q), .ref ao] (some (.int (iI 1))) := by
  refine pg_wrH_of (cc := cL_between) (maxL := 6) (ret := some .int) (hh := [(0, 12, 15, 15)]) (by decide) rfl (Nat.le_of_ble_eq_true rfl) ?_
  intro p e s m below meth c ls SC hr hlk hT hP hK hD hS hB hl
  obtain ⟨hx, hb, hml, hown, hts⟩ := id SC
  have hown : s.vm.findClass RL = some m.cls := hown
  have hl : lv_has ls 6 [(0, .ref ((xa X 0))), (1, .int (iI n)), (2, .int (iI n2)), (3, .int (iI q)), (4, .ref ao)] := hl
  obtain ⟨⟨⟨hP0, hK0⟩, hE⟩, hN⟩ := id hB
  refine lv_aload hx hb dL_between_0 (lv_at hl 4 rfl) ?_
  refine lv_iconst (v := iI 0) hx hb dL_between_2 rfl ?_
  refine lv_aload_n hx hb dL_between_3 rfl (lv_at hl 0 rfl) ?_
  refine lv_iload_n hx hb dL_between_4 rfl (lv_at hl 1 rfl) ?_
  refine lv_iload_n hx hb dL_between_5 rfl (lv_at hl 2 rfl) ?_
  refine lv_iload_n hx hb dL_between_6 rfl (lv_at hl 3 rfl) ?_
  refine pg_thrV (As := [.int (iI n), .int (iI n2), .int (iI q)]) (rest := [.int (iI 0), .ref ao]) SC (c_X0_between_th1 l hfl N X S n n2 q hn hn2 h) xE_st (pg_h_of xE_st ⟨⟨hP0, hK0⟩, hE⟩) (cwV 3 hts gL_between_X0_between rfl rfl rfl (by decide +kernel) ⟨Nat.le_of_ble_eq_true rfl, Nat.le_of_ble_eq_true rfl⟩) (va_recv hK0 hP0 (ci := 0) (q0 := 0) rfl rfl) rfl hl.1 rfl (Nat.le_of_ble_eq_true rfl) dL_between_7 ⟨Nat.le_of_ble_eq_true rfl, Nat.le_of_ble_eq_true rfl⟩ (fun H1 qx ce h1 h2 h3 h4 h5 => ?_)
  refine vx_catch (own := RL) (E := "java/lang/IllegalArgumentException") (name := "java/lang/IllegalArgumentException") hown [] ⟨0, 12, 15, 15⟩ [] (hT.trans rfl) pg_ps0 (by decide) (by decide) (hts (.classLink RL 15 "java/lang/IllegalArgumentException") (by decide +kernel)) (hE.2.2.2 _ (by decide) _) h3 h4 h5 ?_
  refine lv_astore (lv' := [(5, .ref qx), (0, .ref ((xa X 0))), (1, .int (iI n)), (2, .int (iI n2)), (3, .int (iI q)), (4, .ref ao)]) hx hb dL_between_15 hl (by decide) rfl (fun ls hl => ?_)
  refine lv_iconst (v := iI 1) hx hb dL_between_17 rfl ?_
  exact pg_wiret hx hb hr hlk (fun _ _ h => nomatch h) ⟨h1, fun x hx _ => h2 x hx, fun z h => nomatch h⟩ rfl dL_between_18
set_option maxRecDepth 100000 in
set_option maxHeartbeats 4000000 in
theorem c_L_join_ok (l : Launch) (X : pgX) (S : pgS) (k : Nat) (hk : k < 12) (h1 : sS S k = 1) (hn : sN S < 12) (cJ ao : Nat) (f : Nat → Int64) : pg_wr l yL_join wsL_join (rm 4 83) (xG X) (xTy X ++ [(cJ, .long)]) pT ((ao, .inl (cJ, 1, .inr (.inl f))) :: xC X S) ((ao, .inl (cJ, 1, .inr (.inl (vp_updL f 0 (lI ((((sN S + 1 : Nat) : Int)))))))) :: (xC X (sS S, sA S, sU S, upN (sR S) (sN S) k, sN S + 1, sW S))) 0 0 [.ref ((xa X 0)), .int (iI (((k : Nat) : Int))), .ref ao] (some (.int (iI 0))) := by
  refine pg_wrH_of (cc := cL_join) (maxL := 4) (ret := some .int) (hh := [(0, 9, 12, 13), (0, 9, 15, 21), (0, 9, 18, 23)]) (by decide) rfl (Nat.le_of_ble_eq_true rfl) ?_
  intro p e s m below meth c ls SC hr hlk hT hP hK hD hS hB hl
  obtain ⟨hx, hb, hml, hown, hts⟩ := id SC
  have hown : s.vm.findClass RL = some m.cls := hown
  have hl : lv_has ls 4 [(0, .ref ((xa X 0))), (1, .int (iI (((k : Nat) : Int)))), (2, .ref ao)] := hl
  have hK0 : va_K (xG X) vwCl (xTy X) s := va_K.sub hK [0, 1] rfl
  have hP0 : va_P (xG X) vwCl (xC X S) s.heap := pg_part (l1 := [(ao, .inl (cJ, 1, .inr (.inl f)))]) (l2 := []) hP
  refine lv_aload_n hx hb dL_join_0 rfl (lv_at hl 2 rfl) ?_
  refine lv_iconst (v := iI 0) hx hb dL_join_1 rfl ?_
  refine lv_aload_n hx hb dL_join_2 rfl (lv_at hl 0 rfl) ?_
  refine lv_iload_n hx hb dL_join_3 rfl (lv_at hl 1 rfl) ?_
  refine pg_wcallV (As := [.int (iI (((k : Nat) : Int)))]) (rest := [.int (iI 0), .ref ao]) (l1 := [(ao, .inl (cJ, 1, .inr (.inl f)))]) (l2 := []) (w := xC X S) (w' := (xC X (sS S, sA S, sU S, upN (sR S) (sN S) k, sN S + 1, sW S))) SC (c_X0_join_ok l X S k hk h1 hn) pT_st pT_h (cwV 1 hts gL_join_X0_join rfl rfl rfl (by decide +kernel) ⟨Nat.le_of_ble_eq_true rfl, Nat.le_of_ble_eq_true rfl⟩) (va_recv hK0 hP0 (ci := 0) (q0 := 0) rfl rfl) hK0 hP hD hS rfl rfl hl.1 rfl (Nat.le_of_ble_eq_true rfl) dL_join_4 ⟨Nat.zero_le _, Nat.zero_le _⟩ (fun H locs hP hD hS => ?_)
  have hP : va_P (xG X) vwCl (((ao, .inl (cJ, 1, .inr (.inl f))) :: (xC X (sS S, sA S, sU S, upN (sR S) (sN S) k, sN S + 1, sW S)))) H := hP
  have hD : va_D (pg_in ((ao, .inl (cJ, 1, .inr (.inl f))) :: xC X S)) (((ao, .inl (cJ, 1, .inr (.inl f))) :: (xC X (sS S, sA S, sU S, upN (sR S) (sN S) k, sN S + 1, sW S)))) := hD
  refine pg_i2l hx hb dL_join_7 (⟨by omega, by omega⟩) ?_
  refine pg_lst0 hx hb hK hP hD hS 0 2 rfl rfl dL_join_8 (fun H locs hP hD hS => ?_)
  refine lv_goto (tgt := 21) hx hb dL_join_9 (by decide) ?_
  refine lv_iconst (v := iI 0) hx hb dL_join_21 rfl ?_
  exact pg_wiret hx hb hr hlk hP hS rfl dL_join_22
set_option maxRecDepth 100000 in
set_option maxHeartbeats 4000000 in
theorem c_L_join_1 (l : Launch) (hfl : l.stackTraces = false) (N : Nat) (X : pgX) (S : pgS) (pp : Int) (hp : inI pp) (h : pp < 0 ∨ 12 ≤ pp)  (ao : Nat) : pg_wr l yL_join wsL_join (rmx 8 123) (xG X) [] (xW N X S) [] [] 1 6 [.ref ((xa X 0)), .int (iI pp), .ref ao] (some (.int (iI 1))) := by
  refine pg_wrH_of (cc := cL_join) (maxL := 4) (ret := some .int) (hh := [(0, 9, 12, 13), (0, 9, 15, 21), (0, 9, 18, 23)]) (by decide) rfl (Nat.le_of_ble_eq_true rfl) ?_
  intro p e s m below meth c ls SC hr hlk hT hP hK hD hS hB hl
  obtain ⟨hx, hb, hml, hown, hts⟩ := id SC
  have hown : s.vm.findClass RL = some m.cls := hown
  have hl : lv_has ls 4 [(0, .ref ((xa X 0))), (1, .int (iI pp)), (2, .ref ao)] := hl
  obtain ⟨⟨⟨hP0, hK0⟩, hE⟩, hN⟩ := id hB
  refine lv_aload_n hx hb dL_join_0 rfl (lv_at hl 2 rfl) ?_
  refine lv_iconst (v := iI 0) hx hb dL_join_1 rfl ?_
  refine lv_aload_n hx hb dL_join_2 rfl (lv_at hl 0 rfl) ?_
  refine lv_iload_n hx hb dL_join_3 rfl (lv_at hl 1 rfl) ?_
  refine pg_thrV (As := [.int (iI pp)]) (rest := [.int (iI 0), .ref ao]) SC (c_X0_join_th1 l hfl N X S pp hp h) xE_st (pg_h_of xE_st ⟨⟨hP0, hK0⟩, hE⟩) (cwV 1 hts gL_join_X0_join rfl rfl rfl (by decide +kernel) ⟨Nat.le_of_ble_eq_true rfl, Nat.le_of_ble_eq_true rfl⟩) (va_recv hK0 hP0 (ci := 0) (q0 := 0) rfl rfl) rfl hl.1 rfl (Nat.le_of_ble_eq_true rfl) dL_join_4 ⟨Nat.le_of_ble_eq_true rfl, Nat.le_of_ble_eq_true rfl⟩ (fun H1 qx ce h1 h2 h3 h4 h5 => ?_)
  refine vx_catch (own := RL) (E := "java/lang/IndexOutOfBoundsException") (name := "java/lang/IndexOutOfBoundsException") hown [] ⟨0, 9, 12, 13⟩ [⟨0, 9, 15, 21⟩, ⟨0, 9, 18, 23⟩] (hT.trans rfl) pg_ps0 (by decide) (by decide) (hts (.classLink RL 13 "java/lang/IndexOutOfBoundsException") (by decide +kernel)) (hE.2.2.2 _ (by decide) _) h3 h4 h5 ?_
  refine lv_astore_n (lv' := [(3, .ref qx), (0, .ref ((xa X 0))), (1, .int (iI pp)), (2, .ref ao)]) hx hb dL_join_12 rfl hl (by decide) rfl (fun ls hl => ?_)
  refine lv_iconst (v := iI 1) hx hb dL_join_13 rfl ?_
  exact pg_wiret hx hb hr hlk (fun _ _ h => nomatch h) ⟨h1, fun x hx _ => h2 x hx, fun z h => nomatch h⟩ rfl dL_join_14
set_option maxRecDepth 100000 in
set_option maxHeartbeats 4000000 in
theorem c_L_join_2 (l : Launch) (hfl : l.stackTraces = false) (N : Nat) (X : pgX) (S : pgS) (k : Nat) (hk : k < 12) (h1 : sS S k = 0)  (ao : Nat) : pg_wr l yL_join wsL_join (rmx 8 124) (xG X) [] (xW N X S) [] [] 1 6 [.ref ((xa X 0)), .int (iI (((k : Nat) : Int))), .ref ao] (some (.int (iI 2))) := by
  refine pg_wrH_of (cc := cL_join) (maxL := 4) (ret := some .int) (hh := [(0, 9, 12, 13), (0, 9, 15, 21), (0, 9, 18, 23)]) (by decide) rfl (Nat.le_of_ble_eq_true rfl) ?_
  intro p e s m below meth c ls SC hr hlk hT hP hK hD hS hB hl
  obtain ⟨hx, hb, hml, hown, hts⟩ := id SC
  have hown : s.vm.findClass RL = some m.cls := hown
  have hl : lv_has ls 4 [(0, .ref ((xa X 0))), (1, .int (iI (((k : Nat) : Int)))), (2, .ref ao)] := hl
  obtain ⟨⟨⟨hP0, hK0⟩, hE⟩, hN⟩ := id hB
  refine lv_aload_n hx hb dL_join_0 rfl (lv_at hl 2 rfl) ?_
  refine lv_iconst (v := iI 0) hx hb dL_join_1 rfl ?_
  refine lv_aload_n hx hb dL_join_2 rfl (lv_at hl 0 rfl) ?_
  refine lv_iload_n hx hb dL_join_3 rfl (lv_at hl 1 rfl) ?_
  refine pg_thrV (As := [.int (iI (((k : Nat) : Int)))]) (rest := [.int (iI 0), .ref ao]) SC (c_X0_join_th2 l hfl N X S k hk h1) xE_st (pg_h_of xE_st ⟨⟨hP0, hK0⟩, hE⟩) (cwV 1 hts gL_join_X0_join rfl rfl rfl (by decide +kernel) ⟨Nat.le_of_ble_eq_true rfl, Nat.le_of_ble_eq_true rfl⟩) (va_recv hK0 hP0 (ci := 0) (q0 := 0) rfl rfl) rfl hl.1 rfl (Nat.le_of_ble_eq_true rfl) dL_join_4 ⟨Nat.le_of_ble_eq_true rfl, Nat.le_of_ble_eq_true rfl⟩ (fun H1 qx ce h1 h2 h3 h4 h5 => ?_)
  refine vx_catch (own := RL) (E := "java/util/NoSuchElementException") (name := "java/util/NoSuchElementException") hown [⟨0, 9, 12, 13⟩] ⟨0, 9, 15, 21⟩ [⟨0, 9, 18, 23⟩] (hT.trans rfl) (pg_ps (Or.inr ⟨by decide, "java/lang/IndexOutOfBoundsException", hts (.classLink RL 13 "java/lang/IndexOutOfBoundsException") (by decide +kernel), hN ("java/util/NoSuchElementException", "java/lang/IndexOutOfBoundsException") (by decide)⟩) pg_ps0) (by decide) (by decide) (hts (.classLink RL 21 "java/util/NoSuchElementException") (by decide +kernel)) (hE.2.2.2 _ (by decide) _) h3 h4 h5 ?_
  refine lv_astore_n (lv' := [(3, .ref qx), (0, .ref ((xa X 0))), (1, .int (iI (((k : Nat) : Int)))), (2, .ref ao)]) hx hb dL_join_15 rfl hl (by decide) rfl (fun ls hl => ?_)
  refine lv_iconst (v := iI 2) hx hb dL_join_16 rfl ?_
  exact pg_wiret hx hb hr hlk (fun _ _ h => nomatch h) ⟨h1, fun x hx _ => h2 x hx, fun z h => nomatch h⟩ rfl dL_join_17
set_option maxRecDepth 100000 in
set_option maxHeartbeats 4000000 in
theorem c_L_join_3 (l : Launch) (hfl : l.stackTraces = false) (N : Nat) (X : pgX) (S : pgS) (k : Nat) (hk : k < 12) (h1 : sS S k = 1) (hn : sN S = 12) (ao : Nat) : pg_wr l yL_join wsL_join (rmx 7 103) (xG X) [] (xW N X S) [] [] 1 6 [.ref ((xa X 0)), .int (iI (((k : Nat) : Int))), .ref ao] (some (.int (iI 3))) := by
  refine pg_wrH_of (cc := cL_join) (maxL := 4) (ret := some .int) (hh := [(0, 9, 12, 13), (0, 9, 15, 21), (0, 9, 18, 23)]) (by decide) rfl (Nat.le_of_ble_eq_true rfl) ?_
  intro p e s m below meth c ls SC hr hlk hT hP hK hD hS hB hl
  obtain ⟨hx, hb, hml, hown, hts⟩ := id SC
  have hown : s.vm.findClass RL = some m.cls := hown
  have hl : lv_has ls 4 [(0, .ref ((xa X 0))), (1, .int (iI (((k : Nat) : Int)))), (2, .ref ao)] := hl
  obtain ⟨⟨⟨hP0, hK0⟩, hE⟩, hN⟩ := id hB
  refine lv_aload_n hx hb dL_join_0 rfl (lv_at hl 2 rfl) ?_
  refine lv_iconst (v := iI 0) hx hb dL_join_1 rfl ?_
  refine lv_aload_n hx hb dL_join_2 rfl (lv_at hl 0 rfl) ?_
  refine lv_iload_n hx hb dL_join_3 rfl (lv_at hl 1 rfl) ?_
  refine pg_thrV (As := [.int (iI (((k : Nat) : Int)))]) (rest := [.int (iI 0), .ref ao]) SC (c_X0_join_th3 l hfl N X S k hk h1 hn) xE_st (pg_h_of xE_st ⟨⟨hP0, hK0⟩, hE⟩) (cwV 1 hts gL_join_X0_join rfl rfl rfl (by decide +kernel) ⟨Nat.le_of_ble_eq_true rfl, Nat.le_of_ble_eq_true rfl⟩) (va_recv hK0 hP0 (ci := 0) (q0 := 0) rfl rfl) rfl hl.1 rfl (Nat.le_of_ble_eq_true rfl) dL_join_4 ⟨Nat.le_of_ble_eq_true rfl, Nat.le_of_ble_eq_true rfl⟩ (fun H1 qx ce h1 h2 h3 h4 h5 => ?_)
  refine vx_catch (own := RL) (E := "java/lang/IllegalStateException") (name := "java/lang/IllegalStateException") hown [⟨0, 9, 12, 13⟩, ⟨0, 9, 15, 21⟩] ⟨0, 9, 18, 23⟩ [] (hT.trans rfl) (pg_ps (Or.inr ⟨by decide, "java/lang/IndexOutOfBoundsException", hts (.classLink RL 13 "java/lang/IndexOutOfBoundsException") (by decide +kernel), hN ("java/lang/IllegalStateException", "java/lang/IndexOutOfBoundsException") (by decide)⟩) (pg_ps (Or.inr ⟨by decide, "java/util/NoSuchElementException", hts (.classLink RL 21 "java/util/NoSuchElementException") (by decide +kernel), hN ("java/lang/IllegalStateException", "java/util/NoSuchElementException") (by decide)⟩) pg_ps0)) (by decide) (by decide) (hts (.classLink RL 23 "java/lang/IllegalStateException") (by decide +kernel)) (hE.2.2.2 _ (by decide) _) h3 h4 h5 ?_
  refine lv_astore_n (lv' := [(3, .ref qx), (0, .ref ((xa X 0))), (1, .int (iI (((k : Nat) : Int)))), (2, .ref ao)]) hx hb dL_join_18 rfl hl (by decide) rfl (fun ls hl => ?_)
  refine lv_iconst (v := iI 3) hx hb dL_join_19 rfl ?_
  exact pg_wiret hx hb hr hlk (fun _ _ h => nomatch h) ⟨h1, fun x hx _ => h2 x hx, fun z h => nomatch h⟩ rfl dL_join_20
set_option maxRecDepth 100000 in
set_option maxHeartbeats 4000000 in
theorem c_L_unjoin_ok (l : Launch) (X : pgX) (S : pgS) (n2 : Nat) (hn : sN S = n2 + 1) (hn2 : n2 < 12) (hok : pgOk S) (cJ ao : Nat) (f : Nat → Int64) : pg_wr l yL_unjoin wsL_unjoin (rm 2 41) (xG X) (xTy X ++ [(cJ, .long)]) pT ((ao, .inl (cJ, 1, .inr (.inl f))) :: xC X S) ((ao, .inl (cJ, 1, .inr (.inl (vp_updL f 0 (lI ((((sR S n2 : Nat) : Int)))))))) :: (xC X (sS S, sA S, sU S, sR S, n2, sW S))) 0 0 [.ref ((xa X 0)), .ref ao] (some (.int (iI 0))) := by
  refine pg_wrH_of (cc := cL_unjoin) (maxL := 3) (ret := some .int) (hh := [(0, 8, 11, 23)]) (by decide) rfl (Nat.le_of_ble_eq_true rfl) ?_
  intro p e s m below meth c ls SC hr hlk hT hP hK hD hS hB hl
  obtain ⟨hx, hb, hml, hown, hts⟩ := id SC
  have hown : s.vm.findClass RL = some m.cls := hown
  have hl : lv_has ls 3 [(0, .ref ((xa X 0))), (1, .ref ao)] := hl
  have hK0 : va_K (xG X) vwCl (xTy X) s := va_K.sub hK [0, 1] rfl
  have hP0 : va_P (xG X) vwCl (xC X S) s.heap := pg_part (l1 := [(ao, .inl (cJ, 1, .inr (.inl f)))]) (l2 := []) hP
  refine lv_aload_n hx hb dL_unjoin_0 rfl (lv_at hl 1 rfl) ?_
  refine lv_iconst (v := iI 0) hx hb dL_unjoin_1 rfl ?_
  refine lv_aload_n hx hb dL_unjoin_2 rfl (lv_at hl 0 rfl) ?_
  refine pg_wcallV (As := []) (rest := [.int (iI 0), .ref ao]) (l1 := [(ao, .inl (cJ, 1, .inr (.inl f)))]) (l2 := []) (w := xC X S) (w' := (xC X (sS S, sA S, sU S, sR S, n2, sW S))) SC (c_X0_unjoin_ok l X S n2 hn hn2) pT_st pT_h (cwV 0 hts gL_unjoin_X0_unjoin rfl rfl rfl (by decide +kernel) ⟨Nat.le_of_ble_eq_true rfl, Nat.le_of_ble_eq_true rfl⟩) (va_recv hK0 hP0 (ci := 0) (q0 := 0) rfl rfl) hK0 hP hD hS rfl rfl hl.1 rfl (Nat.le_of_ble_eq_true rfl) dL_unjoin_3 ⟨Nat.zero_le _, Nat.zero_le _⟩ (fun H locs hP hD hS => ?_)
  have hP : va_P (xG X) vwCl (((ao, .inl (cJ, 1, .inr (.inl f))) :: (xC X (sS S, sA S, sU S, sR S, n2, sW S)))) H := hP
  have hD : va_D (pg_in ((ao, .inl (cJ, 1, .inr (.inl f))) :: xC X S)) (((ao, .inl (cJ, 1, .inr (.inl f))) :: (xC X (sS S, sA S, sU S, sR S, n2, sW S)))) := hD
  refine pg_i2l hx hb dL_unjoin_6 (⟨by omega, by have := hok.2.2.2.1 n2; omega⟩) ?_
  refine pg_lst0 hx hb hK hP hD hS 0 2 rfl rfl dL_unjoin_7 (fun H locs hP hD hS => ?_)
  refine lv_goto (tgt := 14) hx hb dL_unjoin_8 (by decide) ?_
  refine lv_iconst (v := iI 0) hx hb dL_unjoin_14 rfl ?_
  exact pg_wiret hx hb hr hlk hP hS rfl dL_unjoin_15
set_option maxRecDepth 100000 in
set_option maxHeartbeats 4000000 in
theorem c_L_unjoin_1 (l : Launch) (hfl : l.stackTraces = false) (N : Nat) (X : pgX) (S : pgS) (hn : sN S = 0) (ao : Nat) : pg_wr l yL_unjoin wsL_unjoin (rmx 7 102) (xG X) [] (xW N X S) [] [] 1 6 [.ref ((xa X 0)), .ref ao] (some (.int (iI 1))) := by
  refine pg_wrH_of (cc := cL_unjoin) (maxL := 3) (ret := some .int) (hh := [(0, 8, 11, 23)]) (by decide) rfl (Nat.le_of_ble_eq_true rfl) ?_
  intro p e s m below meth c ls SC hr hlk hT hP hK hD hS hB hl
  obtain ⟨hx, hb, hml, hown, hts⟩ := id SC
  have hown : s.vm.findClass RL = some m.cls := hown
  have hl : lv_has ls 3 [(0, .ref ((xa X 0))), (1, .ref ao)] := hl
  obtain ⟨⟨⟨hP0, hK0⟩, hE⟩, hN⟩ := id hB
  refine lv_aload_n hx hb dL_unjoin_0 rfl (lv_at hl 1 rfl) ?_
  refine lv_iconst (v := iI 0) hx hb dL_unjoin_1 rfl ?_
  refine lv_aload_n hx hb dL_unjoin_2 rfl (lv_at hl 0 rfl) ?_
  refine pg_thrV (As := []) (rest := [.int (iI 0), .ref ao]) SC (c_X0_unjoin_th1 l hfl N X S hn) xE_st (pg_h_of xE_st ⟨⟨hP0, hK0⟩, hE⟩) (cwV 0 hts gL_unjoin_X0_unjoin rfl rfl rfl (by decide +kernel) ⟨Nat.le_of_ble_eq_true rfl, Nat.le_of_ble_eq_true rfl⟩) (va_recv hK0 hP0 (ci := 0) (q0 := 0) rfl rfl) rfl hl.1 rfl (Nat.le_of_ble_eq_true rfl) dL_unjoin_3 ⟨Nat.le_of_ble_eq_true rfl, Nat.le_of_ble_eq_true rfl⟩ (fun H1 qx ce h1 h2 h3 h4 h5 => ?_)
  refine vx_catch (own := RL) (E := "java/lang/IllegalStateException") (name := "java/lang/IllegalStateException") hown [] ⟨0, 8, 11, 23⟩ [] (hT.trans rfl) pg_ps0 (by decide) (by decide) (hts (.classLink RL 23 "java/lang/IllegalStateException") (by decide +kernel)) (hE.2.2.2 _ (by decide) _) h3 h4 h5 ?_
  refine lv_astore_n (lv' := [(2, .ref qx), (0, .ref ((xa X 0))), (1, .ref ao)]) hx hb dL_unjoin_11 rfl hl (by decide) rfl (fun ls hl => ?_)
  refine lv_iconst (v := iI 1) hx hb dL_unjoin_12 rfl ?_
  exact pg_wiret hx hb hr hlk (fun _ _ h => nomatch h) ⟨h1, fun x hx _ => h2 x hx, fun z h => nomatch h⟩ rfl dL_unjoin_13
set_option maxRecDepth 100000 in
set_option maxHeartbeats 4000000 in
theorem c_L_ringAt_ok (l : Launch) (X : pgX) (S : pgS) (k : Nat) (hk : k < 12) (hn : k < sN S) (hn2 : sN S ≤ 12) (hok : pgOk S) (cJ ao : Nat) (f : Nat → Int64) : pg_wr l yL_ringAt wsL_ringAt (rm 2 42) (xG X) (xTy X ++ [(cJ, .long)]) pT ((ao, .inl (cJ, 1, .inr (.inl f))) :: xC X S) ((ao, .inl (cJ, 1, .inr (.inl (vp_updL f 0 (lI ((((sR S k : Nat) : Int)))))))) :: (xC X S)) 0 0 [.ref ((xa X 0)), .int (iI (((k : Nat) : Int))), .ref ao] (some (.int (iI 0))) := by
  refine pg_wrH_of (cc := cL_ringAt) (maxL := 4) (ret := some .int) (hh := [(0, 9, 12, 13)]) (by decide) rfl (Nat.le_of_ble_eq_true rfl) ?_
  intro p e s m below meth c ls SC hr hlk hT hP hK hD hS hB hl
  obtain ⟨hx, hb, hml, hown, hts⟩ := id SC
  have hown : s.vm.findClass RL = some m.cls := hown
  have hl : lv_has ls 4 [(0, .ref ((xa X 0))), (1, .int (iI (((k : Nat) : Int)))), (2, .ref ao)] := hl
  have hK0 : va_K (xG X) vwCl (xTy X) s := va_K.sub hK [0, 1] rfl
  have hP0 : va_P (xG X) vwCl (xC X S) s.heap := pg_part (l1 := [(ao, .inl (cJ, 1, .inr (.inl f)))]) (l2 := []) hP
  refine lv_aload_n hx hb dL_ringAt_0 rfl (lv_at hl 2 rfl) ?_
  refine lv_iconst (v := iI 0) hx hb dL_ringAt_1 rfl ?_
  refine lv_aload_n hx hb dL_ringAt_2 rfl (lv_at hl 0 rfl) ?_
  refine lv_iload_n hx hb dL_ringAt_3 rfl (lv_at hl 1 rfl) ?_
  refine pg_callV (As := [.int (iI (((k : Nat) : Int)))]) (rest := [.int (iI 0), .ref ao]) SC (c_X0_ringAt_ok l X S k hk hn hn2) xB_st (xB_h hP0 hK0) (cwV 1 hts gL_ringAt_X0_ringAt rfl rfl rfl (by decide +kernel) ⟨Nat.le_of_ble_eq_true rfl, Nat.le_of_ble_eq_true rfl⟩) (va_recv hK0 hP0 (ci := 0) (q0 := 0) rfl rfl) rfl hl.1 rfl (Nat.le_of_ble_eq_true rfl) dL_ringAt_4 ⟨Nat.zero_le _, Nat.zero_le _⟩ ?_
  refine pg_i2l hx hb dL_ringAt_7 (⟨by omega, by have := hok.2.2.2.1 k; omega⟩) ?_
  refine pg_lst0 hx hb hK hP hD hS 0 2 rfl rfl dL_ringAt_8 (fun H locs hP hD hS => ?_)
  refine lv_goto (tgt := 15) hx hb dL_ringAt_9 (by decide) ?_
  refine lv_iconst (v := iI 0) hx hb dL_ringAt_15 rfl ?_
  exact pg_wiret hx hb hr hlk hP hS rfl dL_ringAt_16
set_option maxRecDepth 100000 in
set_option maxHeartbeats 4000000 in
theorem c_L_ringAt_1 (l : Launch) (hfl : l.stackTraces = false) (N : Nat) (X : pgX) (S : pgS) (pp : Int) (hp : inI pp) (hn : sN S ≤ 12) (h : pp < 0 ∨ (sN S : Int) ≤ pp) (ao : Nat) : pg_wr l yL_ringAt wsL_ringAt (rmx 7 103) (xG X) [] (xW N X S) [] [] 1 6 [.ref ((xa X 0)), .int (iI pp), .ref ao] (some (.int (iI 1))) := by
  refine pg_wrH_of (cc := cL_ringAt) (maxL := 4) (ret := some .int) (hh := [(0, 9, 12, 13)]) (by decide) rfl (Nat.le_of_ble_eq_true rfl) ?_
  intro p e s m below meth c ls SC hr hlk hT hP hK hD hS hB hl
  obtain ⟨hx, hb, hml, hown, hts⟩ := id SC
  have hown : s.vm.findClass RL = some m.cls := hown
  have hl : lv_has ls 4 [(0, .ref ((xa X 0))), (1, .int (iI pp)), (2, .ref ao)] := hl
  obtain ⟨⟨⟨hP0, hK0⟩, hE⟩, hN⟩ := id hB
  refine lv_aload_n hx hb dL_ringAt_0 rfl (lv_at hl 2 rfl) ?_
  refine lv_iconst (v := iI 0) hx hb dL_ringAt_1 rfl ?_
  refine lv_aload_n hx hb dL_ringAt_2 rfl (lv_at hl 0 rfl) ?_
  refine lv_iload_n hx hb dL_ringAt_3 rfl (lv_at hl 1 rfl) ?_
  refine pg_thrV (As := [.int (iI pp)]) (rest := [.int (iI 0), .ref ao]) SC (c_X0_ringAt_th1 l hfl N X S pp hp hn h) xE_st (pg_h_of xE_st ⟨⟨hP0, hK0⟩, hE⟩) (cwV 1 hts gL_ringAt_X0_ringAt rfl rfl rfl (by decide +kernel) ⟨Nat.le_of_ble_eq_true rfl, Nat.le_of_ble_eq_true rfl⟩) (va_recv hK0 hP0 (ci := 0) (q0 := 0) rfl rfl) rfl hl.1 rfl (Nat.le_of_ble_eq_true rfl) dL_ringAt_4 ⟨Nat.le_of_ble_eq_true rfl, Nat.le_of_ble_eq_true rfl⟩ (fun H1 qx ce h1 h2 h3 h4 h5 => ?_)
  refine vx_catch (own := RL) (E := "java/lang/IndexOutOfBoundsException") (name := "java/lang/IndexOutOfBoundsException") hown [] ⟨0, 9, 12, 13⟩ [] (hT.trans rfl) pg_ps0 (by decide) (by decide) (hts (.classLink RL 13 "java/lang/IndexOutOfBoundsException") (by decide +kernel)) (hE.2.2.2 _ (by decide) _) h3 h4 h5 ?_
  refine lv_astore_n (lv' := [(3, .ref qx), (0, .ref ((xa X 0))), (1, .int (iI pp)), (2, .ref ao)]) hx hb dL_ringAt_12 rfl hl (by decide) rfl (fun ls hl => ?_)
  refine lv_iconst (v := iI 1) hx hb dL_ringAt_13 rfl ?_
  exact pg_wiret hx hb hr hlk (fun _ _ h => nomatch h) ⟨h1, fun x hx _ => h2 x hx, fun z h => nomatch h⟩ rfl dL_ringAt_14
set_option maxRecDepth 100000 in
set_option maxHeartbeats 4000000 in
theorem c_L_sideBits_ok (l : Launch) (X : pgX) (S : pgS) (hok : pgOk S) (hA : (da S (sN S)).natAbs < 32768) (cJ ao : Nat) (f : Nat → Int64) : pg_wr l yL_sideBits wsL_sideBits (rm 4 86) (xG X) (xTy X ++ [(cJ, .long)]) pT ((ao, .inl (cJ, 1, .inr (.inl f))) :: xC X S) ((ao, .inl (cJ, 1, .inr (.inl (vp_updL f 0 (lI ((((bx (16 * (da S (sN S)).natAbs) : Nat) : Int)))))))) :: (xC X S)) 0 0 [.ref ((xa X 0)), .ref ao] (some (.int (iI 0))) := by
  refine pg_wrH_of (cc := cL_sideBits) (maxL := 3) (ret := some .int) (hh := [(0, 7, 10, 23)]) (by decide) rfl (Nat.le_of_ble_eq_true rfl) ?_
  intro p e s m below meth c ls SC hr hlk hT hP hK hD hS hB hl
  obtain ⟨hx, hb, hml, hown, hts⟩ := id SC
  have hown : s.vm.findClass RL = some m.cls := hown
  have hl : lv_has ls 3 [(0, .ref ((xa X 0))), (1, .ref ao)] := hl
  have hK0 : va_K (xG X) vwCl (xTy X) s := va_K.sub hK [0, 1] rfl
  have hP0 : va_P (xG X) vwCl (xC X S) s.heap := pg_part (l1 := [(ao, .inl (cJ, 1, .inr (.inl f)))]) (l2 := []) hP
  refine lv_aload_n hx hb dL_sideBits_0 rfl (lv_at hl 1 rfl) ?_
  refine lv_iconst (v := iI 0) hx hb dL_sideBits_1 rfl ?_
  refine lv_aload_n hx hb dL_sideBits_2 rfl (lv_at hl 0 rfl) ?_
  refine pg_callV (As := []) (rest := [.int (iI 0), .ref ao]) SC (c_X0_sideBits_ok l X S hok hA) xB_st (xB_h hP0 hK0) (cwV 0 hts gL_sideBits_X0_sideBits rfl rfl rfl (by decide +kernel) ⟨Nat.le_of_ble_eq_true rfl, Nat.le_of_ble_eq_true rfl⟩) (va_recv hK0 hP0 (ci := 0) (q0 := 0) rfl rfl) rfl hl.1 rfl (Nat.le_of_ble_eq_true rfl) dL_sideBits_3 ⟨Nat.zero_le _, Nat.zero_le _⟩ ?_
  refine pg_lst0 hx hb hK hP hD hS 0 2 rfl rfl dL_sideBits_6 (fun H locs hP hD hS => ?_)
  refine lv_goto (tgt := 13) hx hb dL_sideBits_7 (by decide) ?_
  refine lv_iconst (v := iI 0) hx hb dL_sideBits_13 rfl ?_
  exact pg_wiret hx hb hr hlk hP hS rfl dL_sideBits_14
set_option maxRecDepth 100000 in
set_option maxHeartbeats 4000000 in
theorem c_L_sideBits_1 (l : Launch) (hfl : l.stackTraces = false) (N : Nat) (X : pgX) (S : pgS) (hok : pgOk S) (hA : 32768 ≤ (da S (sN S)).natAbs) (ao : Nat) : pg_wr l yL_sideBits wsL_sideBits (rmx 7 103) (xG X) [] (xW N X S) [] [] 1 6 [.ref ((xa X 0)), .ref ao] (some (.int (iI 1))) := by
  refine pg_wrH_of (cc := cL_sideBits) (maxL := 3) (ret := some .int) (hh := [(0, 7, 10, 23)]) (by decide) rfl (Nat.le_of_ble_eq_true rfl) ?_
  intro p e s m below meth c ls SC hr hlk hT hP hK hD hS hB hl
  obtain ⟨hx, hb, hml, hown, hts⟩ := id SC
  have hown : s.vm.findClass RL = some m.cls := hown
  have hl : lv_has ls 3 [(0, .ref ((xa X 0))), (1, .ref ao)] := hl
  obtain ⟨⟨⟨hP0, hK0⟩, hE⟩, hN⟩ := id hB
  refine lv_aload_n hx hb dL_sideBits_0 rfl (lv_at hl 1 rfl) ?_
  refine lv_iconst (v := iI 0) hx hb dL_sideBits_1 rfl ?_
  refine lv_aload_n hx hb dL_sideBits_2 rfl (lv_at hl 0 rfl) ?_
  refine pg_thrV (As := []) (rest := [.int (iI 0), .ref ao]) SC (c_X0_sideBits_th1 l hfl N X S hok hA) xE_st (pg_h_of xE_st ⟨⟨hP0, hK0⟩, hE⟩) (cwV 0 hts gL_sideBits_X0_sideBits rfl rfl rfl (by decide +kernel) ⟨Nat.le_of_ble_eq_true rfl, Nat.le_of_ble_eq_true rfl⟩) (va_recv hK0 hP0 (ci := 0) (q0 := 0) rfl rfl) rfl hl.1 rfl (Nat.le_of_ble_eq_true rfl) dL_sideBits_3 ⟨Nat.le_of_ble_eq_true rfl, Nat.le_of_ble_eq_true rfl⟩ (fun H1 qx ce h1 h2 h3 h4 h5 => ?_)
  refine vx_catch (own := RL) (E := "java/lang/IllegalStateException") (name := "java/lang/IllegalStateException") hown [] ⟨0, 7, 10, 23⟩ [] (hT.trans rfl) pg_ps0 (by decide) (by decide) (hts (.classLink RL 23 "java/lang/IllegalStateException") (by decide +kernel)) (hE.2.2.2 _ (by decide) _) h3 h4 h5 ?_
  refine lv_astore_n (lv' := [(2, .ref qx), (0, .ref ((xa X 0))), (1, .ref ao)]) hx hb dL_sideBits_10 rfl hl (by decide) rfl (fun ls hl => ?_)
  refine lv_iconst (v := iI 1) hx hb dL_sideBits_11 rfl ?_
  exact pg_wiret hx hb hr hlk (fun _ _ h => nomatch h) ⟨h1, fun x hx _ => h2 x hx, fun z h => nomatch h⟩ rfl dL_sideBits_12
