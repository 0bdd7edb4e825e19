/-! ===== the loop ===== -/
theorem lw_and31 (x : Int32) : ∃ n : Nat, n < 32 ∧ x &&& iI 31 = iI (n : Int) := by
  refine ⟨(x.toBitVec &&& 31#32).toNat, ?_, ?_⟩
  · rw [BitVec.toNat_and]
    exact Nat.lt_of_le_of_lt Nat.and_le_right (by decide)
  · apply Int32.toBitVec_inj.mp
    have e : ∀ n : Nat, (iI (n : Int)).toBitVec = BitVec.ofNat 32 n := fun n => by show (Int32.ofInt n).toBitVec = _; simp
    rw [Int32.toBitVec_and, e]
    rw [BitVec.ofNat_toNat, BitVec.setWidth_eq]
    rfl
set_option maxRecDepth 100000 in
set_option maxHeartbeats 4000000 in
theorem lw_loop {p : Program} {l : Launch} {e : Env} {s : State} {m : MethodId} {below : List Frame} {meth : Method} {c : Code} {Q : State → Prop} {b L : Nat} {xs : Nat → Int32} {X Y : pgX} {cJ cD aJ aD : Nat} (hC : lwK l p s m c #[.ref b] b L xs X Y cJ cD)
    (hend : ∀ (H : Heap) (locs : List Loc) (cells slots : Nat) (ls : Array Slot), va_S (fun q => s.heap.size ≤ q) s.heap H locs → cells ≤ 1047 → slots ≤ 8369 → W p l e room_1 s m #[.ref b] below meth c H locs cells slots Q (F0 m 2008 ls [])) :
    ∀ (fu j : Nat), L + 5 - 5 * j < fu → ∀ (S : pgS) (t : Int) (f : Nat → Int64) (g : Nat → UInt64) (H : Heap) (locs : List Loc) (cells slots : Nat) (ls : Array Slot), 5 * j ≤ L + 4 → cells ≤ 12 + j → slots ≤ 111 + 6 * j → lwG s X Y cJ aJ cD aD S t f g H locs → lv_has ls 9 (lwB b X Y aJ aD (5 * j)) → W p l e room_1 s m #[.ref b] below meth c H locs cells slots Q (F0 m 28 ls []) := by
  obtain ⟨SC, hfl, hX, hbl, hL, hYX, hKJ, hKD, hKY, hE, hN⟩ := id hC
  obtain ⟨hx, hb, hml, hown, hts⟩ := id SC
  have hbA : ¬ s.heap.size ≤ b := by omega
  intro fu
  induction fu with
  | zero => intros; omega
  | succ fu ih =>
    intro j hfu S t f g H locs cells slots ls hj hc1 hs1 hG hl
    obtain ⟨hP, hD, hS, hok⟩ := id hG
    have hl0 : lv_has ls 9 [(0, .ref b), (1, .ref (xa X 0)), (2, .ref (xa Y 0)), (3, .ref aJ), (4, .ref aD), (5, .int (iI ((5 * j : Nat) : Int)))] := hl
    refine lv_iload hx hb dL_law_28 (lv_at hl0 5 rfl) ?_
    refine lv_aload_n hx hb dL_law_30 rfl (lv_at hl0 0 rfl) ?_
    refine va_slen hx hb hX hbl hbA hS dL_law_31 (pg_ti (y := iI (L : Int)) (iI_n L).symm ?_)
    refine lv_iconst (v := iI 5) hx hb dL_law_32 rfl ?_
    refine pg_isub (z := (L : Int) - 5) hx hb dL_law_33 rfl ?_
    refine pg_icmp_gt (tgt := 2008) hx hb dL_law_34 (by decide) ⟨by omega, by omega⟩ ⟨by omega, by omega⟩ (fun hgt => ?_) (fun hle => ?_)
    · exact hend H locs cells slots ls hS (by omega) (by omega)
    · have hi : 5 * j + 5 ≤ L := by omega
      have hce : cells + 1 ≤ 1047 ∧ slots + 6 ≤ 8369 := by omega
      have K : ∀ (S1 : pgS) (t1 : Int) (f1 : Nat → Int64) (g1 : Nat → UInt64) (H1 : Heap) (locs1 : List Loc) (ls1 : Array Slot), lwG s X Y cJ aJ cD aD S1 t1 f1 g1 H1 locs1 → lv_has ls1 9 (lwB b X Y aJ aD (5 * j)) → W p l e room_1 s m #[.ref b] below meth c H1 locs1 (cells + 1) (slots + 6) Q (F0 m 2002 ls1 []) := by
        intro S1 t1 f1 g1 H1 locs1 ls1 hG1 hl1
        have hl2 : lv_has ls1 9 [(0, .ref b), (1, .ref (xa X 0)), (2, .ref (xa Y 0)), (3, .ref aJ), (4, .ref aD), (5, .int (iI ((5 * j : Nat) : Int)))] := hl1
        refine lv_iinc (v := iI ((5 * (j + 1) : Nat) : Int)) (lv' := [(5, .int (iI ((5 * (j + 1) : Nat) : Int))), (0, .ref b), (1, .ref (xa X 0)), (2, .ref (xa Y 0)), (3, .ref aJ), (4, .ref aD)]) hx hb dL_law_2002 hl2 (k := 5) rfl (iI_addp (by omega)) (by decide) rfl (fun ls3 hl3 => ?_)
        refine lv_goto (tgt := 28) hx hb dL_law_2005 (by decide) ?_
        exact ih (j + 1) (by omega) S1 t1 f1 g1 H1 locs1 (cells + 1) (slots + 6) ls3 (by omega) (by omega) (by omega) hG1 (lv_sub hl3 [1, 2, 3, 4, 5, 0] rfl)
      refine lv_aload_n hx hb dL_law_37 rfl (lv_at hl0 0 rfl) ?_
      refine lv_iload hx hb dL_law_38 (lv_at hl0 5 rfl) ?_
      refine va_sld hx hb hX hbl hbA hS (i := iI ((5 * j : Nat) : Int)) (iI_in (by omega) (by omega)) dL_law_40 ?_
      generalize xs (iI ((5 * j : Nat) : Int)).toNatClampNeg = x0
      refine lv_bipush (v := iI 31) hx hb dL_law_41 (by decide +kernel) ?_
      obtain ⟨n, hn, hx0⟩ := lw_and31 x0
      refine lv_iand hx hb dL_law_43 (pg_ti hx0 ?_)
      by_cases h30 : n < 30
      · have hc : n = 0 ∨ n = 1 ∨ n = 2 ∨ n = 3 ∨ n = 4 ∨ n = 5 ∨ n = 6 ∨ n = 7 ∨ n = 8 ∨ n = 9 ∨ n = 10 ∨ n = 11 ∨ n = 12 ∨ n = 13 ∨ n = 14 ∨ n = 15 ∨ n = 16 ∨ n = 17 ∨ n = 18 ∨ n = 19 ∨ n = 20 ∨ n = 21 ∨ n = 22 ∨ n = 23 ∨ n = 24 ∨ n = 25 ∨ n = 26 ∨ n = 27 ∨ n = 28 ∨ n = 29 := by omega
        rcases hc with rfl | rfl | rfl | rfl | rfl | rfl | rfl | rfl | rfl | rfl | rfl | rfl | rfl | rfl | rfl | rfl | rfl | rfl | rfl | rfl | rfl | rfl | rfl | rfl | rfl | rfl | rfl | rfl | rfl | rfl
        · exact lv_tableIn (off := 136) (tgt := 180) hx hb dL_law_44 (by decide +kernel) (by decide +kernel) (by decide +kernel) (by decide) (lw_op0 hC hi hG hce hl K)
        · exact lv_tableIn (off := 223) (tgt := 267) hx hb dL_law_44 (by decide +kernel) (by decide +kernel) (by decide +kernel) (by decide) (lw_op1 hC hi hG hce hl K)
        · exact lv_tableIn (off := 259) (tgt := 303) hx hb dL_law_44 (by decide +kernel) (by decide +kernel) (by decide +kernel) (by decide) (lw_op2 hC hi hG hce hl K)
        · exact lv_tableIn (off := 336) (tgt := 380) hx hb dL_law_44 (by decide +kernel) (by decide +kernel) (by decide +kernel) (by decide) (lw_op3 hC hi hG hce hl K)
        · exact lv_tableIn (off := 399) (tgt := 443) hx hb dL_law_44 (by decide +kernel) (by decide +kernel) (by decide +kernel) (by decide) (lw_op4 hC hi hG hce hl K)
        · exact lv_tableIn (off := 455) (tgt := 499) hx hb dL_law_44 (by decide +kernel) (by decide +kernel) (by decide +kernel) (by decide) (lw_op5 hC hi hG hce hl K)
        · exact lv_tableIn (off := 468) (tgt := 512) hx hb dL_law_44 (by decide +kernel) (by decide +kernel) (by decide +kernel) (by decide) (lw_op6 hC hi hG hce hl K)
        · exact lv_tableIn (off := 509) (tgt := 553) hx hb dL_law_44 (by decide +kernel) (by decide +kernel) (by decide +kernel) (by decide) (lw_op7 hC hi hG hce hl K)
        · exact lv_tableIn (off := 577) (tgt := 621) hx hb dL_law_44 (by decide +kernel) (by decide +kernel) (by decide +kernel) (by decide) (lw_op8 hC hi hG hce hl K)
        · exact lv_tableIn (off := 652) (tgt := 696) hx hb dL_law_44 (by decide +kernel) (by decide +kernel) (by decide +kernel) (by decide) (lw_op9 hC hi hG hce hl K)
        · exact lv_tableIn (off := 727) (tgt := 771) hx hb dL_law_44 (by decide +kernel) (by decide +kernel) (by decide +kernel) (by decide) (lw_op10 hC hi hG hce hl K)
        · exact lv_tableIn (off := 802) (tgt := 846) hx hb dL_law_44 (by decide +kernel) (by decide +kernel) (by decide +kernel) (by decide) (lw_op11 hC hi hG hce hl K)
        · exact lv_tableIn (off := 889) (tgt := 933) hx hb dL_law_44 (by decide +kernel) (by decide +kernel) (by decide +kernel) (by decide) (lw_op12 hC hi hG hce hl K)
        · exact lv_tableIn (off := 945) (tgt := 989) hx hb dL_law_44 (by decide +kernel) (by decide +kernel) (by decide +kernel) (by decide) (lw_op13 hC hi hG hce hl K)
        · exact lv_tableIn (off := 1013) (tgt := 1057) hx hb dL_law_44 (by decide +kernel) (by decide +kernel) (by decide +kernel) (by decide) (lw_op14 hC hi hG hce hl K)
        · exact lv_tableIn (off := 1128) (tgt := 1172) hx hb dL_law_44 (by decide +kernel) (by decide +kernel) (by decide +kernel) (by decide) (lw_op15 hC hi hG hce hl K)
        · exact lv_tableIn (off := 1233) (tgt := 1277) hx hb dL_law_44 (by decide +kernel) (by decide +kernel) (by decide +kernel) (by decide) (lw_op16 hC hi hG hce hl K)
        · exact lv_tableIn (off := 1316) (tgt := 1360) hx hb dL_law_44 (by decide +kernel) (by decide +kernel) (by decide +kernel) (by decide) (lw_op17 hC hi hG hce hl K)
        · exact lv_tableIn (off := 1400) (tgt := 1444) hx hb dL_law_44 (by decide +kernel) (by decide +kernel) (by decide +kernel) (by decide) (lw_op18 hC hi hG hce hl K)
        · exact lv_tableIn (off := 1456) (tgt := 1500) hx hb dL_law_44 (by decide +kernel) (by decide +kernel) (by decide +kernel) (by decide) (lw_op19 hC hi hG hce hl K)
        · exact lv_tableIn (off := 1547) (tgt := 1591) hx hb dL_law_44 (by decide +kernel) (by decide +kernel) (by decide +kernel) (by decide) (lw_op20 hC hi hG hce hl K)
        · exact lv_tableIn (off := 1610) (tgt := 1654) hx hb dL_law_44 (by decide +kernel) (by decide +kernel) (by decide +kernel) (by decide) (lw_op21 hC hi hG hce hl K)
        · exact lv_tableIn (off := 1706) (tgt := 1750) hx hb dL_law_44 (by decide +kernel) (by decide +kernel) (by decide +kernel) (by decide) (lw_op22 hC hi hG hce hl K)
        · exact lv_tableIn (off := 1762) (tgt := 1806) hx hb dL_law_44 (by decide +kernel) (by decide +kernel) (by decide +kernel) (by decide) (lw_op23 hC hi hG hce hl K)
        · exact lv_tableIn (off := 1806) (tgt := 1850) hx hb dL_law_44 (by decide +kernel) (by decide +kernel) (by decide +kernel) (by decide) (lw_op24 hC hi hG hce hl K)
        · exact lv_tableIn (off := 1862) (tgt := 1906) hx hb dL_law_44 (by decide +kernel) (by decide +kernel) (by decide +kernel) (by decide) (lw_op25 hC hi hG hce hl K)
        · exact lv_tableIn (off := 1875) (tgt := 1919) hx hb dL_law_44 (by decide +kernel) (by decide +kernel) (by decide +kernel) (by decide) (lw_op26 hC hi hG hce hl K)
        · exact lv_tableIn (off := 1888) (tgt := 1932) hx hb dL_law_44 (by decide +kernel) (by decide +kernel) (by decide +kernel) (by decide) (lw_op27 hC hi hG hce hl K)
        · exact lv_tableIn (off := 1931) (tgt := 1975) hx hb dL_law_44 (by decide +kernel) (by decide +kernel) (by decide +kernel) (by decide) (lw_op28 hC hi hG hce hl K)
        · exact lv_tableIn (off := 1945) (tgt := 1989) hx hb dL_law_44 (by decide +kernel) (by decide +kernel) (by decide +kernel) (by decide) (lw_op29 hC hi hG hce hl K)
      · refine lv_tableOut (tgt := 2002) hx hb dL_law_44 (Or.inr (by rw [iI_toInt ⟨by omega, by omega⟩]; omega)) (by decide) ?_
        exact pg_widen (Nat.le_succ _) (Nat.le_add_right _ 6) (K S t f g H locs ls hG hl)
