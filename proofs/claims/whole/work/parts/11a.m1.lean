set_option maxRecDepth 100000 in
set_option maxHeartbeats 4000000 in
theorem c_X1_lies (l : Launch) (v lo hi r : Int) (hv : inI v) (hlo : inI lo) (hhi : inI hi) (h : (lo ≤ v ∧ v ≤ hi ∧ r = 1) ∨ ((v < lo ∨ hi < v) ∧ r = 0)) : pg_ro l yX1_lies wsX1_lies (rm 0 0) pT [.int (iI v), .int (iI lo), .int (iI hi)] (some (.int (iI r))) := by
  refine pg_ro_of (cc := cX1_lies) (maxL := 3) (ret := (some .boolean)) (by decide) rfl (Nat.le_of_ble_eq_true rfl) ?_
  intro p e s m below meth c ls SC hr hlk hB hl
  obtain ⟨hx, hb, hml, hown, hts⟩ := id SC
  have hown : s.vm.findClass RX1 = some m.cls := hown
  have hl : lv_has ls 3 [(0, .int (iI v)), (1, .int (iI lo)), (2, .int (iI hi))] := hl
  refine lv_iload_n hx hb dX1_lies_0 rfl (lv_at hl 1 rfl) ?_
  refine lv_iload_n hx hb dX1_lies_1 rfl (lv_at hl 0 rfl) ?_
  refine pg_icmp_gt (tgt := 14) hx hb dX1_lies_2 (by decide) (⟨by omega, by omega⟩) (⟨by omega, by omega⟩) (fun hc1 => ?_) (fun hc1 => ?_)
  · refine lv_iconst (v := iI 0) hx hb dX1_lies_14 rfl ?_
    exact pg_zret hx hb hr hlk  (iI_bool (by omega)) (congrArg (fun z : Int => some (Value.int (iI z))) (show r = 0 by omega)) dX1_lies_15
  · refine lv_iload_n hx hb dX1_lies_5 rfl (lv_at hl 0 rfl) ?_
    refine lv_iload_n hx hb dX1_lies_6 rfl (lv_at hl 2 rfl) ?_
    refine pg_icmp_gt (tgt := 14) hx hb dX1_lies_7 (by decide) (⟨by omega, by omega⟩) (⟨by omega, by omega⟩) (fun hc2 => ?_) (fun hc2 => ?_)
    · refine lv_iconst (v := iI 0) hx hb dX1_lies_14 rfl ?_
      exact pg_zret hx hb hr hlk  (iI_bool (by omega)) (congrArg (fun z : Int => some (Value.int (iI z))) (show r = 0 by omega)) dX1_lies_15
    · refine lv_iconst (v := iI 1) hx hb dX1_lies_10 rfl ?_
      refine lv_goto (tgt := 15) hx hb dX1_lies_11 (by decide) ?_
      exact pg_zret hx hb hr hlk  (iI_bool (by omega)) (congrArg (fun z : Int => some (Value.int (iI z))) (show r = 1 by omega)) dX1_lies_15
set_option maxRecDepth 100000 in
set_option maxHeartbeats 4000000 in
theorem c_X1_rooted (l : Launch) (N P : Nat) (hN : N < 2 ^ 16) (hP : P ≤ 53) (hNP : N * 4 ^ P < 2 ^ 110) : pg_ro l yX1_rooted wsX1_rooted (rm 0 0) pT [.int (iI (((N : Nat) : Int))), .int (iI (((P : Nat) : Int)))] (some (.long (lI (((qs (N * 4 ^ P) : Nat) : Int))))) := by
  refine pg_ro_of (cc := cX1_rooted) (maxL := 10) (ret := (some .long)) (by decide) rfl (Nat.le_of_ble_eq_true rfl) ?_
  intro p e s m below meth c ls SC hr hlk hB hl
  obtain ⟨hx, hb, hml, hown, hts⟩ := id SC
  have hown : s.vm.findClass RX1 = some m.cls := hown
  have hl : lv_has ls 10 [(0, .int (iI (((N : Nat) : Int)))), (1, .int (iI (((P : Nat) : Int))))] := hl
  refine lv_lconst (v := lI 0) hx hb dX1_rooted_0 rfl ?_
  refine lv_lstore_n (lv' := [(2, .long (lI 0)), (0, .int (iI (((N : Nat) : Int)))), (1, .int (iI (((P : Nat) : Int))))]) hx hb dX1_rooted_1 rfl hl (by decide) rfl (fun ls hl => ?_)
  refine lv_lconst (v := lI 0) hx hb dX1_rooted_2 rfl ?_
  refine lv_lstore (lv' := [(4, .long (lI 0)), (2, .long (lI 0)), (0, .int (iI (((N : Nat) : Int)))), (1, .int (iI (((P : Nat) : Int))))]) hx hb dX1_rooted_3 hl (by decide) rfl (fun ls hl => ?_)
  refine lv_bipush (v := iI 7) hx hb dX1_rooted_5 (by decide +kernel) ?_
  refine lv_istore (lv' := [(6, .int (iI 7)), (4, .long (lI 0)), (2, .long (lI 0)), (0, .int (iI (((N : Nat) : Int)))), (1, .int (iI (((P : Nat) : Int))))]) hx hb dX1_rooted_7 hl (by decide) rfl (fun ls hl => ?_)
  have loop1 : ∀ (fu : Nat) (i : Nat) (d : Nat) (r : Nat), (i ≤ 8 + P) → (d = qs (N * 4 ^ i / 4 ^ 8)) → (r = N * 4 ^ i / 4 ^ 8 - qs (N * 4 ^ i / 4 ^ 8) * qs (N * 4 ^ i / 4 ^ 8)) → 8 + P - i < fu → ∀ ls : Array Slot, lv_has ls 10 [(0, .int (iI (((N : Nat) : Int)))), (1, .int (iI (((P : Nat) : Int)))), (2, .long (lI (((d : Nat) : Int)))), (4, .long (lI (((r : Nat) : Int)))), (6, .int (iI (7 - (i : Int))))] → W p l e (rm 0 0) s m ([.int (iI (((N : Nat) : Int))), .int (iI (((P : Nat) : Int)))] : List Value).toArray below meth c s.heap [] 0 0 (MQ below (pg_Q (some (.long (lI (((qs (N * 4 ^ P) : Nat) : Int)))))) ([.int (iI (((N : Nat) : Int))), .int (iI (((P : Nat) : Int)))] : List Value).toArray s 0 0 (fun _ => False)) (F0 m 9 ls []) := by
    intro fu
    induction fu with
    | zero => intros; omega
    | succ fu ih1 =>
      intro i d r hi hd hrr hm1 ls hl
      obtain ⟨hd55, hr2⟩ := rd_b (rd_V hNP hi) hd hrr
      obtain ⟨dg, hdg⟩ : ∃ dg, dg = N * 4 ^ (i + 1) / 4 ^ 8 % 4 := ⟨_, rfl⟩
      have hdg4 : dg < 4 := by omega
      have hnx := rd_next hd hrr hdg
      refine lv_iload hx hb dX1_rooted_9 (lv_at hl 4 rfl) ?_
      refine lv_iload_n hx hb dX1_rooted_11 rfl (lv_at hl 1 rfl) ?_
      refine pg_ineg (z := -(P : Int)) hx hb dX1_rooted_12 (by omega) ?_
      refine pg_icmp_lt (tgt := 87) hx hb dX1_rooted_13 (by decide) (⟨by omega, by omega⟩) (⟨by omega, by omega⟩) (fun hc2 => ?_) (fun hc2 => ?_)
      · refine lv_lload_n hx hb dX1_rooted_87 rfl (lv_at hl 2 rfl) ?_
        exact pg_lret hx hb hr hlk  (congrArg (fun z : Int => some (Value.long (lI z))) (show ((qs (N * 4 ^ P) : Nat) : Int) = ((d : Nat) : Int) by exact congrArg (fun n : Nat => (n : Int)) (rd_end hi (by omega) hd))) dX1_rooted_88
      · refine lv_iload hx hb dX1_rooted_16 (lv_at hl 4 rfl) ?_
        refine pg_if_lt (tgt := 32) hx hb dX1_rooted_18 (by decide) (⟨by omega, by omega⟩) (fun hc3 => ?_) (fun hc3 => ?_)
        · refine lv_iconst (v := iI 0) hx hb dX1_rooted_32 rfl ?_
          refine lv_istore (lv' := [(7, .int (iI 0)), (0, .int (iI (((N : Nat) : Int)))), (1, .int (iI (((P : Nat) : Int)))), (2, .long (lI (((d : Nat) : Int)))), (4, .long (lI (((r : Nat) : Int)))), (6, .int (iI (7 - (i : Int))))]) hx hb dX1_rooted_33 hl (by decide) rfl (fun ls hl => ?_)
          refine lv_ldc2 hx hb hown (hts (.constantLong RX1 39 4) (by decide +kernel)) dX1_rooted_35 (pg_tl (y := lI 4) (by decide +kernel) ?_)
          refine lv_lload hx hb dX1_rooted_38 (lv_at hl 4 rfl) ?_
          refine pg_lmul (z := ((4 * r : Nat) : Int)) hx hb dX1_rooted_40 (by omega) ?_
          refine lv_iload hx hb dX1_rooted_41 (lv_at hl 0 rfl) ?_
          refine pg_i2l hx hb dX1_rooted_43 (⟨by omega, by omega⟩) ?_
          refine pg_ladd (z := ((4 * r + dg : Nat) : Int)) hx hb dX1_rooted_44 (by have h9 := vd_out4 (N := N) (c := 8) (i := i) (by omega); omega) ?_
          refine lv_lstore (lv' := [(4, .long (lI (((4 * r + dg : Nat) : Int)))), (7, .int (iI 0)), (0, .int (iI (((N : Nat) : Int)))), (1, .int (iI (((P : Nat) : Int)))), (2, .long (lI (((d : Nat) : Int)))), (6, .int (iI (7 - (i : Int))))]) hx hb dX1_rooted_45 hl (by decide) rfl (fun ls hl => ?_)
          refine lv_ldc2 hx hb hown (hts (.constantLong RX1 39 4) (by decide +kernel)) dX1_rooted_47 (pg_tl (y := lI 4) (by decide +kernel) ?_)
          refine lv_lload_n hx hb dX1_rooted_50 rfl (lv_at hl 4 rfl) ?_
          refine pg_lmul (z := ((4 * d : Nat) : Int)) hx hb dX1_rooted_51 (by omega) ?_
          refine lv_lconst (v := lI 1) hx hb dX1_rooted_52 rfl ?_
          refine pg_ladd (z := ((4 * d + 1 : Nat) : Int)) hx hb dX1_rooted_53 (by omega) ?_
          refine lv_lstore (lv' := [(8, .long (lI (((4 * d + 1 : Nat) : Int)))), (4, .long (lI (((4 * r + dg : Nat) : Int)))), (7, .int (iI 0)), (0, .int (iI (((N : Nat) : Int)))), (1, .int (iI (((P : Nat) : Int)))), (2, .long (lI (((d : Nat) : Int)))), (6, .int (iI (7 - (i : Int))))]) hx hb dX1_rooted_54 hl (by decide) rfl (fun ls hl => ?_)
          refine lv_ldc2 hx hb hown (hts (.constantLong RX1 41 2) (by decide +kernel)) dX1_rooted_56 (pg_tl (y := lI 2) (by decide +kernel) ?_)
          refine lv_lload_n hx hb dX1_rooted_59 rfl (lv_at hl 5 rfl) ?_
          refine pg_lmul (z := ((2 * d : Nat) : Int)) hx hb dX1_rooted_60 (by omega) ?_
          refine lv_lstore_n (lv' := [(2, .long (lI (((2 * d : Nat) : Int)))), (8, .long (lI (((4 * d + 1 : Nat) : Int)))), (4, .long (lI (((4 * r + dg : Nat) : Int)))), (7, .int (iI 0)), (0, .int (iI (((N : Nat) : Int)))), (1, .int (iI (((P : Nat) : Int)))), (6, .int (iI (7 - (i : Int))))]) hx hb dX1_rooted_61 rfl hl (by decide) rfl (fun ls hl => ?_)
          refine lv_lload hx hb dX1_rooted_62 (lv_at hl 2 rfl) ?_
          refine lv_lload hx hb dX1_rooted_64 (lv_at hl 1 rfl) ?_
          refine pg_lcmp hx hb dX1_rooted_66 (⟨by omega, by omega⟩) (⟨by omega, by omega⟩) (fun z4 hz4 => ?_)
          refine pg_if_lt (tgt := 81) hx hb dX1_rooted_67 (by decide) (⟨by omega, by omega⟩) (fun hc5 => ?_) (fun hc5 => ?_)
          · refine lv_iinc (v := iI (7 - ((i + 1 : Nat) : Int))) (lv' := [(6, .int (iI (7 - ((i + 1 : Nat) : Int)))), (2, .long (lI (((2 * d : Nat) : Int)))), (8, .long (lI (((4 * d + 1 : Nat) : Int)))), (4, .long (lI (((4 * r + dg : Nat) : Int)))), (7, .int (iI 0)), (0, .int (iI (((N : Nat) : Int)))), (1, .int (iI (((P : Nat) : Int))))]) hx hb dX1_rooted_81 hl (k := 6) rfl (iI_addp (by omega)) (by decide) rfl (fun ls hl => ?_)
            refine lv_goto (tgt := 9) hx hb dX1_rooted_84 (by decide) ?_
            exact ih1 (i + 1) (2 * d) (4 * r + dg) (by omega) ((hnx.2 (by omega)).1) ((hnx.2 (by omega)).2) (by omega) ls (lv_sub hl [5, 6, 1, 3, 0] rfl)
          · refine lv_lload hx hb dX1_rooted_70 (lv_at hl 2 rfl) ?_
            refine lv_lload hx hb dX1_rooted_72 (lv_at hl 1 rfl) ?_
            refine pg_lsub (z := ((4 * r + dg - (4 * d + 1) : Nat) : Int)) hx hb dX1_rooted_74 (by omega) ?_
            refine lv_lstore (lv' := [(4, .long (lI (((4 * r + dg - (4 * d + 1) : Nat) : Int)))), (2, .long (lI (((2 * d : Nat) : Int)))), (8, .long (lI (((4 * d + 1 : Nat) : Int)))), (7, .int (iI 0)), (0, .int (iI (((N : Nat) : Int)))), (1, .int (iI (((P : Nat) : Int)))), (6, .int (iI (7 - (i : Int))))]) hx hb dX1_rooted_75 hl (by decide) rfl (fun ls hl => ?_)
            refine lv_lload_n hx hb dX1_rooted_77 rfl (lv_at hl 1 rfl) ?_
            refine lv_lconst (v := lI 1) hx hb dX1_rooted_78 rfl ?_
            refine pg_ladd (z := ((2 * d + 1 : Nat) : Int)) hx hb dX1_rooted_79 (by omega) ?_
            refine lv_lstore_n (lv' := [(2, .long (lI (((2 * d + 1 : Nat) : Int)))), (4, .long (lI (((4 * r + dg - (4 * d + 1) : Nat) : Int)))), (8, .long (lI (((4 * d + 1 : Nat) : Int)))), (7, .int (iI 0)), (0, .int (iI (((N : Nat) : Int)))), (1, .int (iI (((P : Nat) : Int)))), (6, .int (iI (7 - (i : Int))))]) hx hb dX1_rooted_80 rfl hl (by decide) rfl (fun ls hl => ?_)
            refine lv_iinc (v := iI (7 - ((i + 1 : Nat) : Int))) (lv' := [(6, .int (iI (7 - ((i + 1 : Nat) : Int)))), (2, .long (lI (((2 * d + 1 : Nat) : Int)))), (4, .long (lI (((4 * r + dg - (4 * d + 1) : Nat) : Int)))), (8, .long (lI (((4 * d + 1 : Nat) : Int)))), (7, .int (iI 0)), (0, .int (iI (((N : Nat) : Int)))), (1, .int (iI (((P : Nat) : Int))))]) hx hb dX1_rooted_81 hl (k := 6) rfl (iI_addp (by omega)) (by decide) rfl (fun ls hl => ?_)
            refine lv_goto (tgt := 9) hx hb dX1_rooted_84 (by decide) ?_
            exact ih1 (i + 1) (2 * d + 1) (4 * r + dg - (4 * d + 1)) (by omega) ((hnx.1 (by omega)).1) ((hnx.1 (by omega)).2) (by omega) ls (lv_sub hl [5, 6, 1, 2, 0] rfl)
        · have hq1 : N / 2 ^ (2 * (8 - 1 - i)) ≤ N := Nat.div_le_self _ _
          have hq2 : N / 2 ^ (2 * (8 - 1 - i)) % 4 = dg := by rw [hdg]; exact rd_dig (by omega)
          obtain ⟨q, hqe⟩ : ∃ q, q = N / 2 ^ (2 * (8 - 1 - i)) := ⟨_, rfl⟩
          rw [← hqe] at hq1 hq2
          refine lv_iload_n hx hb dX1_rooted_21 rfl (lv_at hl 0 rfl) ?_
          refine lv_iconst (v := iI 2) hx hb dX1_rooted_22 rfl ?_
          refine lv_iload hx hb dX1_rooted_23 (lv_at hl 4 rfl) ?_
          refine pg_imul (z := 2 * (7 - (i : Int))) hx hb dX1_rooted_25 (rfl) ?_
          refine pg_ishr (z := q) (n := N) (j := 2 * (8 - 1 - i)) hx hb dX1_rooted_26 (rfl) (by omega) (by omega) (by omega) (hqe.symm) ?_
          refine lv_iconst (v := iI 3) hx hb dX1_rooted_27 rfl ?_
          refine pg_iand (z := dg) (a := q) (b := 3) hx hb dX1_rooted_28 (rfl) (rfl) (by omega) (by decide) (by rw [and3]; exact hq2) ?_
          refine lv_goto (tgt := 33) hx hb dX1_rooted_29 (by decide) ?_
          refine lv_istore (lv' := [(7, .int (iI (((dg : Nat) : Int)))), (0, .int (iI (((N : Nat) : Int)))), (1, .int (iI (((P : Nat) : Int)))), (2, .long (lI (((d : Nat) : Int)))), (4, .long (lI (((r : Nat) : Int)))), (6, .int (iI (7 - (i : Int))))]) hx hb dX1_rooted_33 hl (by decide) rfl (fun ls hl => ?_)
          refine lv_ldc2 hx hb hown (hts (.constantLong RX1 39 4) (by decide +kernel)) dX1_rooted_35 (pg_tl (y := lI 4) (by decide +kernel) ?_)
          refine lv_lload hx hb dX1_rooted_38 (lv_at hl 4 rfl) ?_
          refine pg_lmul (z := ((4 * r : Nat) : Int)) hx hb dX1_rooted_40 (by omega) ?_
          refine lv_iload hx hb dX1_rooted_41 (lv_at hl 0 rfl) ?_
          refine pg_i2l hx hb dX1_rooted_43 (⟨by omega, by omega⟩) ?_
          refine pg_ladd (z := ((4 * r + dg : Nat) : Int)) hx hb dX1_rooted_44 (by omega) ?_
          refine lv_lstore (lv' := [(4, .long (lI (((4 * r + dg : Nat) : Int)))), (7, .int (iI (((dg : Nat) : Int)))), (0, .int (iI (((N : Nat) : Int)))), (1, .int (iI (((P : Nat) : Int)))), (2, .long (lI (((d : Nat) : Int)))), (6, .int (iI (7 - (i : Int))))]) hx hb dX1_rooted_45 hl (by decide) rfl (fun ls hl => ?_)
          refine lv_ldc2 hx hb hown (hts (.constantLong RX1 39 4) (by decide +kernel)) dX1_rooted_47 (pg_tl (y := lI 4) (by decide +kernel) ?_)
          refine lv_lload_n hx hb dX1_rooted_50 rfl (lv_at hl 4 rfl) ?_
          refine pg_lmul (z := ((4 * d : Nat) : Int)) hx hb dX1_rooted_51 (by omega) ?_
          refine lv_lconst (v := lI 1) hx hb dX1_rooted_52 rfl ?_
          refine pg_ladd (z := ((4 * d + 1 : Nat) : Int)) hx hb dX1_rooted_53 (by omega) ?_
          refine lv_lstore (lv' := [(8, .long (lI (((4 * d + 1 : Nat) : Int)))), (4, .long (lI (((4 * r + dg : Nat) : Int)))), (7, .int (iI (((dg : Nat) : Int)))), (0, .int (iI (((N : Nat) : Int)))), (1, .int (iI (((P : Nat) : Int)))), (2, .long (lI (((d : Nat) : Int)))), (6, .int (iI (7 - (i : Int))))]) hx hb dX1_rooted_54 hl (by decide) rfl (fun ls hl => ?_)
          refine lv_ldc2 hx hb hown (hts (.constantLong RX1 41 2) (by decide +kernel)) dX1_rooted_56 (pg_tl (y := lI 2) (by decide +kernel) ?_)
          refine lv_lload_n hx hb dX1_rooted_59 rfl (lv_at hl 5 rfl) ?_
          refine pg_lmul (z := ((2 * d : Nat) : Int)) hx hb dX1_rooted_60 (by omega) ?_
          refine lv_lstore_n (lv' := [(2, .long (lI (((2 * d : Nat) : Int)))), (8, .long (lI (((4 * d + 1 : Nat) : Int)))), (4, .long (lI (((4 * r + dg : Nat) : Int)))), (7, .int (iI (((dg : Nat) : Int)))), (0, .int (iI (((N : Nat) : Int)))), (1, .int (iI (((P : Nat) : Int)))), (6, .int (iI (7 - (i : Int))))]) hx hb dX1_rooted_61 rfl hl (by decide) rfl (fun ls hl => ?_)
          refine lv_lload hx hb dX1_rooted_62 (lv_at hl 2 rfl) ?_
          refine lv_lload hx hb dX1_rooted_64 (lv_at hl 1 rfl) ?_
          refine pg_lcmp hx hb dX1_rooted_66 (⟨by omega, by omega⟩) (⟨by omega, by omega⟩) (fun z6 hz6 => ?_)
          refine pg_if_lt (tgt := 81) hx hb dX1_rooted_67 (by decide) (⟨by omega, by omega⟩) (fun hc7 => ?_) (fun hc7 => ?_)
          · refine lv_iinc (v := iI (7 - ((i + 1 : Nat) : Int))) (lv' := [(6, .int (iI (7 - ((i + 1 : Nat) : Int)))), (2, .long (lI (((2 * d : Nat) : Int)))), (8, .long (lI (((4 * d + 1 : Nat) : Int)))), (4, .long (lI (((4 * r + dg : Nat) : Int)))), (7, .int (iI (((dg : Nat) : Int)))), (0, .int (iI (((N : Nat) : Int)))), (1, .int (iI (((P : Nat) : Int))))]) hx hb dX1_rooted_81 hl (k := 6) rfl (iI_addp (by omega)) (by decide) rfl (fun ls hl => ?_)
            refine lv_goto (tgt := 9) hx hb dX1_rooted_84 (by decide) ?_
            exact ih1 (i + 1) (2 * d) (4 * r + dg) (by omega) ((hnx.2 (by omega)).1) ((hnx.2 (by omega)).2) (by omega) ls (lv_sub hl [5, 6, 1, 3, 0] rfl)
          · refine lv_lload hx hb dX1_rooted_70 (lv_at hl 2 rfl) ?_
            refine lv_lload hx hb dX1_rooted_72 (lv_at hl 1 rfl) ?_
            refine pg_lsub (z := ((4 * r + dg - (4 * d + 1) : Nat) : Int)) hx hb dX1_rooted_74 (by omega) ?_
            refine lv_lstore (lv' := [(4, .long (lI (((4 * r + dg - (4 * d + 1) : Nat) : Int)))), (2, .long (lI (((2 * d : Nat) : Int)))), (8, .long (lI (((4 * d + 1 : Nat) : Int)))), (7, .int (iI (((dg : Nat) : Int)))), (0, .int (iI (((N : Nat) : Int)))), (1, .int (iI (((P : Nat) : Int)))), (6, .int (iI (7 - (i : Int))))]) hx hb dX1_rooted_75 hl (by decide) rfl (fun ls hl => ?_)
            refine lv_lload_n hx hb dX1_rooted_77 rfl (lv_at hl 1 rfl) ?_
            refine lv_lconst (v := lI 1) hx hb dX1_rooted_78 rfl ?_
            refine pg_ladd (z := ((2 * d + 1 : Nat) : Int)) hx hb dX1_rooted_79 (by omega) ?_
            refine lv_lstore_n (lv' := [(2, .long (lI (((2 * d + 1 : Nat) : Int)))), (4, .long (lI (((4 * r + dg - (4 * d + 1) : Nat) : Int)))), (8, .long (lI (((4 * d + 1 : Nat) : Int)))), (7, .int (iI (((dg : Nat) : Int)))), (0, .int (iI (((N : Nat) : Int)))), (1, .int (iI (((P : Nat) : Int)))), (6, .int (iI (7 - (i : Int))))]) hx hb dX1_rooted_80 rfl hl (by decide) rfl (fun ls hl => ?_)
            refine lv_iinc (v := iI (7 - ((i + 1 : Nat) : Int))) (lv' := [(6, .int (iI (7 - ((i + 1 : Nat) : Int)))), (2, .long (lI (((2 * d + 1 : Nat) : Int)))), (4, .long (lI (((4 * r + dg - (4 * d + 1) : Nat) : Int)))), (8, .long (lI (((4 * d + 1 : Nat) : Int)))), (7, .int (iI (((dg : Nat) : Int)))), (0, .int (iI (((N : Nat) : Int)))), (1, .int (iI (((P : Nat) : Int))))]) hx hb dX1_rooted_81 hl (k := 6) rfl (iI_addp (by omega)) (by decide) rfl (fun ls hl => ?_)
            refine lv_goto (tgt := 9) hx hb dX1_rooted_84 (by decide) ?_
            exact ih1 (i + 1) (2 * d + 1) (4 * r + dg - (4 * d + 1)) (by omega) ((hnx.1 (by omega)).1) ((hnx.1 (by omega)).2) (by omega) ls (lv_sub hl [5, 6, 1, 2, 0] rfl)
  refine loop1 (8 + P + 1) 0 0 0 (Nat.zero_le _) (by rw [vd_0 (by omega)]; rfl) (by rw [vd_0 (by omega)]; rfl) (by omega) ls (lv_sub hl [3, 4, 2, 1, 0] rfl)
set_option maxRecDepth 100000 in
set_option maxHeartbeats 4000000 in
theorem c_X1_near (l : Launch) (N P : Nat) (hN : N < 2 ^ 16) (hP : P ≤ 52) (hNP : N * 4 ^ (P + 1) < 2 ^ 110) : pg_ro l yX1_near wsX1_near (rm 1 29) pT [.int (iI (((N : Nat) : Int))), .int (iI (((P : Nat) : Int)))] (some (.long (lI ((((qs (N * 4 ^ (P + 1)) + 1) / 2 : Nat) : Int))))) := by
  refine pg_ro_of (cc := cX1_near) (maxL := 2) (ret := (some .long)) (by decide) rfl (Nat.le_of_ble_eq_true rfl) ?_
  intro p e s m below meth c ls SC hr hlk hB hl
  obtain ⟨hx, hb, hml, hown, hts⟩ := id SC
  have hown : s.vm.findClass RX1 = some m.cls := hown
  have hl : lv_has ls 2 [(0, .int (iI (((N : Nat) : Int)))), (1, .int (iI (((P : Nat) : Int))))] := hl
  refine lv_iload_n hx hb dX1_near_0 rfl (lv_at hl 0 rfl) ?_
  refine lv_iload_n hx hb dX1_near_1 rfl (lv_at hl 1 rfl) ?_
  refine lv_iconst (v := iI 1) hx hb dX1_near_2 rfl ?_
  refine pg_iadd (z := ((P + 1 : Nat) : Int)) hx hb dX1_near_3 (by omega) ?_
  refine pg_callS (As := [.int (iI (((N : Nat) : Int))), .int (iI (((P + 1 : Nat) : Int)))]) (rest := []) SC (c_X1_rooted l N (P + 1) hN (by omega) hNP) pT_st pT_h (va_cwS 2 hts gX1_near_X1_rooted rfl rfl rfl (by decide +kernel) ⟨Nat.le_of_ble_eq_true rfl, Nat.le_of_ble_eq_true rfl⟩) rfl hl.1 rfl (Nat.le_of_ble_eq_true rfl) dX1_near_4 ⟨Nat.zero_le _, Nat.zero_le _⟩ ?_
  have hq := qs_below (n := N * 4 ^ (P + 1)) (b := 2 ^ 55) (by omega)
  refine lv_lconst (v := lI 1) hx hb dX1_near_7 rfl ?_
  refine pg_ladd (z := ((qs (N * 4 ^ (P + 1)) + 1 : Nat) : Int)) hx hb dX1_near_8 (by omega) ?_
  refine lv_ldc2 hx hb hown (hts (.constantLong RX1 41 2) (by decide +kernel)) dX1_near_9 (pg_tl (y := lI 2) (by decide +kernel) ?_)
  refine pg_ldiv (z := (qs (N * 4 ^ (P + 1)) + 1) / 2) (a := qs (N * 4 ^ (P + 1)) + 1) (b := 2) hx hb dX1_near_12 (rfl) (rfl) (by omega) (by decide) (by decide) (rfl) ?_
  exact pg_lret hx hb hr hlk  (congrArg (fun z : Int => some (Value.long (lI z))) (show (((qs (N * 4 ^ (P + 1)) + 1) / 2 : Nat) : Int) = (((qs (N * 4 ^ (P + 1)) + 1) / 2 : Nat) : Int) by rfl)) dX1_near_13
theorem c_X1_rooted0 (l : Launch) (N : Nat) (hN : N < 2 ^ 16) : pg_ro l yX1_rooted wsX1_rooted (rm 0 0) pT [.int (iI ((N : Nat) : Int)), .int (iI 0)] (some (.long (lI ((qs N : Nat) : Int)))) := by
  have h := c_X1_rooted l N 0 hN (by decide) (by omega)
  rwa [Nat.pow_zero, Nat.mul_one] at h
set_option maxRecDepth 100000 in
set_option maxHeartbeats 4000000 in
theorem c_X1_powerOf (l : Launch) (N : Nat) (hN : N < 2 ^ 16) (hN0 : N ≠ 0) : pg_ro l yX1_powerOf wsX1_powerOf (rm 1 29) pT [.int (iI (((N : Nat) : Int)))] (some (.int (iI (((pw N : Nat) : Int))))) := by
  refine pg_ro_of (cc := cX1_powerOf) (maxL := 4) (ret := (some .int)) (by decide) rfl (Nat.le_of_ble_eq_true rfl) ?_
  intro p e s m below meth c ls SC hr hlk hB hl
  obtain ⟨hx, hb, hml, hown, hts⟩ := id SC
  have hown : s.vm.findClass RX1 = some m.cls := hown
  have hl : lv_has ls 4 [(0, .int (iI (((N : Nat) : Int))))] := hl
  have hw1 := qs_below (n := N) (b := 2 ^ 8) (by omega)
  have hw2 : 2 ^ 0 ≤ qs N := qs_above (by omega)
  refine lv_iload_n hx hb dX1_powerOf_0 rfl (lv_at hl 0 rfl) ?_
  refine lv_iconst (v := iI 0) hx hb dX1_powerOf_1 rfl ?_
  refine pg_callS (As := [.int (iI (((N : Nat) : Int))), .int (iI 0)]) (rest := []) SC (c_X1_rooted0 l N (by omega)) pT_st pT_h (va_cwS 2 hts gX1_powerOf_X1_rooted rfl rfl rfl (by decide +kernel) ⟨Nat.le_of_ble_eq_true rfl, Nat.le_of_ble_eq_true rfl⟩) rfl hl.1 rfl (Nat.le_of_ble_eq_true rfl) dX1_powerOf_2 ⟨Nat.zero_le _, Nat.zero_le _⟩ ?_
  refine lv_lstore_n (lv' := [(1, .long (lI (((qs N : Nat) : Int)))), (0, .int (iI (((N : Nat) : Int))))]) hx hb dX1_powerOf_5 rfl hl (by decide) rfl (fun ls hl => ?_)
  refine lv_iconst (v := iI 0) hx hb dX1_powerOf_6 rfl ?_
  refine lv_istore_n (lv' := [(3, .int (iI 0)), (1, .long (lI (((qs N : Nat) : Int)))), (0, .int (iI (((N : Nat) : Int))))]) hx hb dX1_powerOf_7 rfl hl (by decide) rfl (fun ls hl => ?_)
  have loop1 : ∀ (fu : Nat) (k : Nat), (k ≤ 7) → (2 ^ k ≤ qs N) → 8 - k < fu → ∀ ls : Array Slot, lv_has ls 4 [(0, .int (iI (((N : Nat) : Int)))), (1, .long (lI (((qs N : Nat) : Int)))), (3, .int (iI (((k : Nat) : Int))))] → W p l e (rm 1 29) s m ([.int (iI (((N : Nat) : Int)))] : List Value).toArray below meth c s.heap [] 0 0 (MQ below (pg_Q (some (.int (iI (((pw N : Nat) : Int)))))) ([.int (iI (((N : Nat) : Int)))] : List Value).toArray s 0 0 (fun _ => False)) (F0 m 8 ls []) := by
    intro fu
    induction fu with
    | zero => intros; omega
    | succ fu ih1 =>
      intro k hk hk2 hm1 ls hl
      obtain ⟨q, hqe⟩ : ∃ q, q = qs N / 2 ^ (k + 1) := ⟨_, rfl⟩
      have hq1 : q ≤ qs N := by rw [hqe]; exact Nat.div_le_self _ _
      refine lv_lload_n hx hb dX1_powerOf_8 rfl (lv_at hl 1 rfl) ?_
      refine lv_iload_n hx hb dX1_powerOf_9 rfl (lv_at hl 2 rfl) ?_
      refine lv_iconst (v := iI 1) hx hb dX1_powerOf_10 rfl ?_
      refine pg_iadd (z := ((k + 1 : Nat) : Int)) hx hb dX1_powerOf_11 (by omega) ?_
      refine pg_lshr (z := q) (n := qs N) (j := k + 1) hx hb dX1_powerOf_12 (rfl) (rfl) (by omega) (by omega) (hqe.symm) ?_
      refine lv_lconst (v := lI 0) hx hb dX1_powerOf_13 rfl ?_
      refine pg_lcmp hx hb dX1_powerOf_14 (⟨by omega, by omega⟩) (⟨by omega, by omega⟩) (fun z2 hz2 => ?_)
      refine pg_if_le (tgt := 24) hx hb dX1_powerOf_15 (by decide) (⟨by omega, by omega⟩) (fun hc3 => ?_) (fun hc3 => ?_)
      · refine lv_iload_n hx hb dX1_powerOf_24 rfl (lv_at hl 2 rfl) ?_
        exact pg_iret hx hb hr hlk  (congrArg (fun z : Int => some (Value.int (iI z))) (show ((pw N : Nat) : Int) = ((k : Nat) : Int) by exact congrArg (fun n : Nat => (n : Int)) (pq hk2 ((Nat.div_eq_zero_iff_lt (Nat.pow_pos (by decide))).mp (by rw [← hqe]; omega))))) dX1_powerOf_25
      · have hlt : 2 ^ (k + 1) ≤ qs N := Nat.le_of_not_lt (fun h9 => absurd (Nat.div_eq_of_lt h9) (by rw [← hqe]; omega))
        have hk7 : k + 1 ≤ 7 := by have h9 : 2 ^ (k + 1) < 2 ^ 8 := Nat.lt_of_le_of_lt hlt hw1; have h8 := (Nat.pow_lt_pow_iff_right (by decide : 1 < 2)).mp h9; omega
        refine lv_iinc (v := iI (((k + 1 : Nat) : Int))) (lv' := [(3, .int (iI (((k + 1 : Nat) : Int)))), (0, .int (iI (((N : Nat) : Int)))), (1, .long (lI (((qs N : Nat) : Int))))]) hx hb dX1_powerOf_18 hl (k := 2) rfl (iI_addp (by omega)) (by decide) rfl (fun ls hl => ?_)
        refine lv_goto (tgt := 8) hx hb dX1_powerOf_21 (by decide) ?_
        exact ih1 (k + 1) (hk7) (hlt) (by omega) ls (lv_sub hl [1, 2, 0] rfl)
  refine loop1 (8 + 1) 0 (by omega) (hw2) (by omega) ls (lv_sub hl [2, 1, 0] rfl)
set_option maxRecDepth 100000 in
set_option maxHeartbeats 4000000 in
theorem c_X1_bitsOf (l : Launch) (n : Nat) (q : Int) (M : Nat) (hn : n < 32768) (hqi : inI q) (hM : (q = 0 ∧ M = 16 * n) ∨ (q = 1 ∧ M = 4 * n)) : pg_ro l yX1_bitsOf wsX1_bitsOf (rm 2 52) pT [.int (iI (((n : Nat) : Int))), .int (iI q)] (some (.long (lI (((bx M : Nat) : Int))))) := by
  refine pg_ro_of (cc := cX1_bitsOf) (maxL := 5) (ret := (some .long)) (by decide) rfl (Nat.le_of_ble_eq_true rfl) ?_
  intro p e s m below meth c ls SC hr hlk hB hl
  obtain ⟨hx, hb, hml, hown, hts⟩ := id SC
  have hown : s.vm.findClass RX1 = some m.cls := hown
  have hl : lv_has ls 5 [(0, .int (iI (((n : Nat) : Int)))), (1, .int (iI q))] := hl
  refine lv_iload_n hx hb dX1_bitsOf_0 rfl (lv_at hl 0 rfl) ?_
  refine pg_if_ne (tgt := 6) hx hb dX1_bitsOf_1 (by decide) (⟨by omega, by omega⟩) (fun hc1 => ?_) (fun hc1 => ?_)
  · have hn0 : n ≠ 0 := by omega
    have hpw : pw n ≤ 7 := pw_small (by omega)
    obtain ⟨u1, u2, -, -⟩ := un_spec (M := 16 * n) (by omega) (by omega)
    rw [un_16 hn0 (by omega)] at u1 u2
    obtain ⟨u, hue⟩ : ∃ u, u = (qs (n * 4 ^ (53 - pw n)) + 1) / 2 := ⟨_, rfl⟩
    rw [← hue] at u1 u2
    have hb16 := bits_16 hn0 hn
    have hb4 := bits_4 hn0 hn
    rw [← hue] at hb16 hb4
    have hok9 := rd_ok (M := n) (by omega)
    refine lv_iload_n hx hb dX1_bitsOf_6 rfl (lv_at hl 0 rfl) ?_
    refine pg_callS (As := [.int (iI (((n : Nat) : Int)))]) (rest := []) SC (c_X1_powerOf l n (by omega) hn0) pT_st pT_h (va_cwS 1 hts gX1_bitsOf_X1_powerOf rfl rfl rfl (by decide +kernel) ⟨Nat.le_of_ble_eq_true rfl, Nat.le_of_ble_eq_true rfl⟩) rfl hl.1 rfl (Nat.le_of_ble_eq_true rfl) dX1_bitsOf_7 ⟨Nat.zero_le _, Nat.zero_le _⟩ ?_
    refine lv_istore_n (lv' := [(2, .int (iI (((pw n : Nat) : Int)))), (0, .int (iI (((n : Nat) : Int)))), (1, .int (iI q))]) hx hb dX1_bitsOf_10 rfl hl (by decide) rfl (fun ls hl => ?_)
    refine lv_iload_n hx hb dX1_bitsOf_11 rfl (lv_at hl 0 rfl) ?_
    refine pg_i2l hx hb dX1_bitsOf_12 (⟨by omega, by omega⟩) ?_
    refine lv_iload_n hx hb dX1_bitsOf_13 rfl (lv_at hl 2 rfl) ?_
    refine pg_if_eq (tgt := 23) hx hb dX1_bitsOf_14 (by decide) (⟨by omega, by omega⟩) (fun hc2 => ?_) (fun hc2 => ?_)
    · refine lv_ldc2 hx hb hown (hts (.constantLong RX1 53 1023) (by decide +kernel)) dX1_bitsOf_23 (pg_tl (y := lI 1023) (by decide +kernel) ?_)
      refine pg_ladd (z := ((1023 + pw n : Nat) : Int)) hx hb dX1_bitsOf_26 (by omega) ?_
      refine lv_lstore_n (lv' := [(3, .long (lI (((1023 + pw n : Nat) : Int)))), (2, .int (iI (((pw n : Nat) : Int)))), (0, .int (iI (((n : Nat) : Int)))), (1, .int (iI q))]) hx hb dX1_bitsOf_27 rfl hl (by decide) rfl (fun ls hl => ?_)
      have hf9 : 52 - pw n + 1 = 53 - pw n := by omega
      refine lv_lload_n hx hb dX1_bitsOf_28 rfl (lv_at hl 0 rfl) ?_
      refine lv_bipush (v := iI 52) hx hb dX1_bitsOf_29 (by decide +kernel) ?_
      refine pg_lshl (z := (1023 + pw n) * 2 ^ 52) (n := 1023 + pw n) (j := 52) hx hb dX1_bitsOf_31 (rfl) (rfl) (by decide) (rfl) ?_
      refine lv_iload_n hx hb dX1_bitsOf_32 rfl (lv_at hl 2 rfl) ?_
      refine lv_bipush (v := iI 52) hx hb dX1_bitsOf_33 (by decide +kernel) ?_
      refine lv_iload_n hx hb dX1_bitsOf_35 rfl (lv_at hl 1 rfl) ?_
      refine pg_isub (z := ((52 - pw n : Nat) : Int)) hx hb dX1_bitsOf_36 (by omega) ?_
      refine pg_callS (As := [.int (iI (((n : Nat) : Int))), .int (iI (((52 - pw n : Nat) : Int)))]) (rest := [.long (lI ((((1023 + pw n) * 2 ^ 52 : Nat) : Int)))]) SC (c_X1_near l n (52 - pw n) (by omega) (by omega) (by rw [hf9]; exact hok9)) pT_st pT_h (va_cwS 2 hts gX1_bitsOf_X1_near rfl rfl rfl (by decide +kernel) ⟨Nat.le_of_ble_eq_true rfl, Nat.le_of_ble_eq_true rfl⟩) rfl hl.1 rfl (Nat.le_of_ble_eq_true rfl) dX1_bitsOf_37 ⟨Nat.zero_le _, Nat.zero_le _⟩ ?_
      rw [hf9, ← hue]
      refine pg_ladd (z := (((1023 + pw n) * 2 ^ 52 + u : Nat) : Int)) hx hb dX1_bitsOf_40 (by omega) ?_
      refine lv_ldc2 hx hb hown (hts (.constantLong RX1 58 4503599627370496) (by decide +kernel)) dX1_bitsOf_41 (pg_tl (y := lI 4503599627370496) (by decide +kernel) ?_)
      refine pg_lsub (z := (((1023 + pw n) * 2 ^ 52 + (u - 2 ^ 52) : Nat) : Int)) hx hb dX1_bitsOf_44 (by omega) ?_
      exact pg_lret hx hb hr hlk  (congrArg (fun z : Int => some (Value.long (lI z))) (show ((bx M : Nat) : Int) = (((1023 + pw n) * 2 ^ 52 + (u - 2 ^ 52) : Nat) : Int) by rw [show M = 16 * n by omega, hb16])) dX1_bitsOf_45
    · refine lv_ldc2 hx hb hown (hts (.constantLong RX1 51 1022) (by decide +kernel)) dX1_bitsOf_17 (pg_tl (y := lI 1022) (by decide +kernel) ?_)
      refine lv_goto (tgt := 26) hx hb dX1_bitsOf_20 (by decide) ?_
      refine pg_ladd (z := ((1022 + pw n : Nat) : Int)) hx hb dX1_bitsOf_26 (by omega) ?_
      refine lv_lstore_n (lv' := [(3, .long (lI (((1022 + pw n : Nat) : Int)))), (2, .int (iI (((pw n : Nat) : Int)))), (0, .int (iI (((n : Nat) : Int)))), (1, .int (iI q))]) hx hb dX1_bitsOf_27 rfl hl (by decide) rfl (fun ls hl => ?_)
      have hf9 : 52 - pw n + 1 = 53 - pw n := by omega
      refine lv_lload_n hx hb dX1_bitsOf_28 rfl (lv_at hl 0 rfl) ?_
      refine lv_bipush (v := iI 52) hx hb dX1_bitsOf_29 (by decide +kernel) ?_
      refine pg_lshl (z := (1022 + pw n) * 2 ^ 52) (n := 1022 + pw n) (j := 52) hx hb dX1_bitsOf_31 (rfl) (rfl) (by decide) (rfl) ?_
      refine lv_iload_n hx hb dX1_bitsOf_32 rfl (lv_at hl 2 rfl) ?_
      refine lv_bipush (v := iI 52) hx hb dX1_bitsOf_33 (by decide +kernel) ?_
      refine lv_iload_n hx hb dX1_bitsOf_35 rfl (lv_at hl 1 rfl) ?_
      refine pg_isub (z := ((52 - pw n : Nat) : Int)) hx hb dX1_bitsOf_36 (by omega) ?_
      refine pg_callS (As := [.int (iI (((n : Nat) : Int))), .int (iI (((52 - pw n : Nat) : Int)))]) (rest := [.long (lI ((((1022 + pw n) * 2 ^ 52 : Nat) : Int)))]) SC (c_X1_near l n (52 - pw n) (by omega) (by omega) (by rw [hf9]; exact hok9)) pT_st pT_h (va_cwS 2 hts gX1_bitsOf_X1_near rfl rfl rfl (by decide +kernel) ⟨Nat.le_of_ble_eq_true rfl, Nat.le_of_ble_eq_true rfl⟩) rfl hl.1 rfl (Nat.le_of_ble_eq_true rfl) dX1_bitsOf_37 ⟨Nat.zero_le _, Nat.zero_le _⟩ ?_
      rw [hf9, ← hue]
      refine pg_ladd (z := (((1022 + pw n) * 2 ^ 52 + u : Nat) : Int)) hx hb dX1_bitsOf_40 (by omega) ?_
      refine lv_ldc2 hx hb hown (hts (.constantLong RX1 58 4503599627370496) (by decide +kernel)) dX1_bitsOf_41 (pg_tl (y := lI 4503599627370496) (by decide +kernel) ?_)
      refine pg_lsub (z := (((1022 + pw n) * 2 ^ 52 + (u - 2 ^ 52) : Nat) : Int)) hx hb dX1_bitsOf_44 (by omega) ?_
      exact pg_lret hx hb hr hlk  (congrArg (fun z : Int => some (Value.long (lI z))) (show ((bx M : Nat) : Int) = (((1022 + pw n) * 2 ^ 52 + (u - 2 ^ 52) : Nat) : Int) by rw [show M = 4 * n by omega, hb4])) dX1_bitsOf_45
  · refine lv_lconst (v := lI 0) hx hb dX1_bitsOf_4 rfl ?_
    exact pg_lret hx hb hr hlk  (congrArg (fun z : Int => some (Value.long (lI z))) (show ((bx M : Nat) : Int) = 0 by rw [show M = 0 by omega]; rfl)) dX1_bitsOf_5
set_option maxRecDepth 100000 in
set_option maxHeartbeats 4000000 in
theorem c_X1_rootGrainsOf (l : Launch) (n : Nat) (q : Int) (M : Nat) (hn : n < 32768) (hqi : inI q) (hM : (q = 0 ∧ M = 16 * n) ∨ (q = 1 ∧ M = 4 * n)) : pg_ro l yX1_rootGrainsOf wsX1_rootGrainsOf (rm 2 50) pT [.int (iI (((n : Nat) : Int))), .int (iI q)] (some (.int (iI (((gr M : Nat) : Int))))) := by
  refine pg_ro_of (cc := cX1_rootGrainsOf) (maxL := 2) (ret := (some .int)) (by decide) rfl (Nat.le_of_ble_eq_true rfl) ?_
  intro p e s m below meth c ls SC hr hlk hB hl
  obtain ⟨hx, hb, hml, hown, hts⟩ := id SC
  have hown : s.vm.findClass RX1 = some m.cls := hown
  have hl : lv_has ls 2 [(0, .int (iI (((n : Nat) : Int)))), (1, .int (iI q))] := hl
  refine lv_iload_n hx hb dX1_rootGrainsOf_0 rfl (lv_at hl 0 rfl) ?_
  refine lv_iload_n hx hb dX1_rootGrainsOf_1 rfl (lv_at hl 1 rfl) ?_
  refine pg_if_eq (tgt := 10) hx hb dX1_rootGrainsOf_2 (by decide) (⟨by omega, by omega⟩) (fun hc1 => ?_) (fun hc1 => ?_)
  · refine lv_bipush (v := iI 16) hx hb dX1_rootGrainsOf_10 (by decide +kernel) ?_
    refine pg_callS (As := [.int (iI (((n : Nat) : Int))), .int (iI 16)]) (rest := []) SC (c_X1_near l n 16 (by omega) (by decide) (by omega)) pT_st pT_h (va_cwS 2 hts gX1_rootGrainsOf_X1_near rfl rfl rfl (by decide +kernel) ⟨Nat.le_of_ble_eq_true rfl, Nat.le_of_ble_eq_true rfl⟩) rfl hl.1 rfl (Nat.le_of_ble_eq_true rfl) dX1_rootGrainsOf_12 ⟨Nat.zero_le _, Nat.zero_le _⟩ ?_
    refine pg_l2i hx hb dX1_rootGrainsOf_15 ?_
    exact pg_iret hx hb hr hlk  (congrArg (fun z : Int => some (Value.int (iI z))) (show ((gr M : Nat) : Int) = (((qs (n * 4 ^ 17) + 1) / 2 : Nat) : Int) by rw [show M = 16 * n by omega, gr_16])) dX1_rootGrainsOf_16
  · refine lv_bipush (v := iI 15) hx hb dX1_rootGrainsOf_5 (by decide +kernel) ?_
    refine lv_goto (tgt := 12) hx hb dX1_rootGrainsOf_7 (by decide) ?_
    refine pg_callS (As := [.int (iI (((n : Nat) : Int))), .int (iI 15)]) (rest := []) SC (c_X1_near l n 15 (by omega) (by decide) (by omega)) pT_st pT_h (va_cwS 2 hts gX1_rootGrainsOf_X1_near rfl rfl rfl (by decide +kernel) ⟨Nat.le_of_ble_eq_true rfl, Nat.le_of_ble_eq_true rfl⟩) rfl hl.1 rfl (Nat.le_of_ble_eq_true rfl) dX1_rootGrainsOf_12 ⟨Nat.zero_le _, Nat.zero_le _⟩ ?_
    refine pg_l2i hx hb dX1_rootGrainsOf_15 ?_
    exact pg_iret hx hb hr hlk  (congrArg (fun z : Int => some (Value.int (iI z))) (show ((gr M : Nat) : Int) = (((qs (n * 4 ^ 16) + 1) / 2 : Nat) : Int) by rw [show M = 4 * n by omega, gr_4])) dX1_rootGrainsOf_16
set_option maxRecDepth 100000 in
set_option maxHeartbeats 4000000 in
theorem c_X1_wholeOf (l : Launch) (n : Nat) (q : Int) (hn : n < 32768) (hqi : inI q) (r : Int) (h : (q = 0 ∧ r = (qs n : Int)) ∨ (q ≠ 0 ∧ r = (qs (n / 4) : Int))) : pg_ro l yX1_wholeOf wsX1_wholeOf (rm 1 29) pT [.int (iI (((n : Nat) : Int))), .int (iI q)] (some (.int (iI r))) := by
  refine pg_ro_of (cc := cX1_wholeOf) (maxL := 2) (ret := (some .int)) (by decide) rfl (Nat.le_of_ble_eq_true rfl) ?_
  intro p e s m below meth c ls SC hr hlk hB hl
  obtain ⟨hx, hb, hml, hown, hts⟩ := id SC
  have hown : s.vm.findClass RX1 = some m.cls := hown
  have hl : lv_has ls 2 [(0, .int (iI (((n : Nat) : Int)))), (1, .int (iI q))] := hl
  refine lv_iload_n hx hb dX1_wholeOf_0 rfl (lv_at hl 1 rfl) ?_
  refine pg_if_eq (tgt := 10) hx hb dX1_wholeOf_1 (by decide) (⟨by omega, by omega⟩) (fun hc1 => ?_) (fun hc1 => ?_)
  · refine lv_iload_n hx hb dX1_wholeOf_10 rfl (lv_at hl 0 rfl) ?_
    refine lv_iconst (v := iI 0) hx hb dX1_wholeOf_11 rfl ?_
    refine pg_callS (As := [.int (iI (((n : Nat) : Int))), .int (iI 0)]) (rest := []) SC (c_X1_rooted0 l n (by omega)) pT_st pT_h (va_cwS 2 hts gX1_wholeOf_X1_rooted rfl rfl rfl (by decide +kernel) ⟨Nat.le_of_ble_eq_true rfl, Nat.le_of_ble_eq_true rfl⟩) rfl hl.1 rfl (Nat.le_of_ble_eq_true rfl) dX1_wholeOf_12 ⟨Nat.zero_le _, Nat.zero_le _⟩ ?_
    refine pg_l2i hx hb dX1_wholeOf_15 ?_
    exact pg_iret hx hb hr hlk  (congrArg (fun z : Int => some (Value.int (iI z))) (show r = ((qs n : Nat) : Int) by omega)) dX1_wholeOf_16
  · refine lv_iload_n hx hb dX1_wholeOf_4 rfl (lv_at hl 0 rfl) ?_
    refine lv_iconst (v := iI 4) hx hb dX1_wholeOf_5 rfl ?_
    refine pg_idiv (z := n / 4) (a := n) (b := 4) hx hb dX1_wholeOf_6 (rfl) (rfl) (by omega) (by decide) (by decide) (rfl) ?_
    refine lv_goto (tgt := 11) hx hb dX1_wholeOf_7 (by decide) ?_
    refine lv_iconst (v := iI 0) hx hb dX1_wholeOf_11 rfl ?_
    refine pg_callS (As := [.int (iI (((n / 4 : Nat) : Int))), .int (iI 0)]) (rest := []) SC (c_X1_rooted0 l (n / 4) (by omega)) pT_st pT_h (va_cwS 2 hts gX1_wholeOf_X1_rooted rfl rfl rfl (by decide +kernel) ⟨Nat.le_of_ble_eq_true rfl, Nat.le_of_ble_eq_true rfl⟩) rfl hl.1 rfl (Nat.le_of_ble_eq_true rfl) dX1_wholeOf_12 ⟨Nat.zero_le _, Nat.zero_le _⟩ ?_
    refine pg_l2i hx hb dX1_wholeOf_15 ?_
    exact pg_iret hx hb hr hlk  (congrArg (fun z : Int => some (Value.int (iI z))) (show r = ((qs (n / 4) : Nat) : Int) by omega)) dX1_wholeOf_16
set_option maxRecDepth 100000 in
set_option maxHeartbeats 4000000 in
theorem c_X1_thrown (l : Launch) (X : pgX) (S : pgS) (t : Int)  : pg_ro l yX1_thrown wsX1_thrown (rm 0 0) (mB X S t) [.ref ((xa X 0))] (some (.int (iI t))) := by
  refine pg_ro_of (cc := cX1_thrown) (maxL := 1) (ret := (some .int)) (by decide) rfl (Nat.le_of_ble_eq_true rfl) ?_
  intro p e s m below meth c ls SC hr hlk hB hl
  obtain ⟨hx, hb, hml, hown, hts⟩ := id SC
  have hown : s.vm.findClass RX1 = some m.cls := hown
  obtain ⟨hP, hK⟩ := id hB
  have hl : lv_has ls 1 [(0, .ref ((xa X 0)))] := hl
  have hin : ∀ w ∈ u_ws RX1 TX1 7, w ∈ wsX1_thrown := by decide +kernel
  refine lv_aload_n hx hb dX1_thrown_0 rfl (lv_at hl 0 rfl) ?_
  refine va_get (D := xG X) (ci := 1) (v := .int (iI t)) (C := RX1) (T := TX1) (N := 7) hx hb hts hin hown hK hP 0 rfl rfl 0 (by decide) (hts (.fieldLink RX1 23 "PegfieldModel" "thrown" "I") (by decide +kernel)) (fun _ h9 => h9) rfl dX1_thrown_1 ?_
  exact pg_iret hx hb hr hlk  (congrArg (fun z : Int => some (Value.int (iI z))) (show t = t by rfl)) dX1_thrown_4
set_option maxRecDepth 100000 in
set_option maxHeartbeats 4000000 in
theorem c_X1_placed (l : Launch) (X : pgX) (S : pgS) (t : Int) (k : Nat) (hk : k < 12)  : pg_ro l yX1_placed wsX1_placed (rm 0 0) (mB X S t) [.ref ((xa X 0)), .int (iI (((k : Nat) : Int)))] (some (.int (iI (((sU S k * 91 + sA S k : Nat) : Int))))) := by
  refine pg_ro_of (cc := cX1_placed) (maxL := 2) (ret := (some .int)) (by decide) rfl (Nat.le_of_ble_eq_true rfl) ?_
  intro p e s m below meth c ls SC hr hlk hB hl
  obtain ⟨hx, hb, hml, hown, hts⟩ := id SC
  have hown : s.vm.findClass RX1 = some m.cls := hown
  obtain ⟨hP, hK⟩ := id hB
  have hl : lv_has ls 2 [(0, .ref ((xa X 0))), (1, .int (iI (((k : Nat) : Int))))] := hl
  have hin : ∀ w ∈ u_ws RX1 TX1 7, w ∈ wsX1_placed := by decide +kernel
  refine lv_bipush (v := iI 91) hx hb dX1_placed_0 (by decide +kernel) ?_
  refine lv_aload_n hx hb dX1_placed_2 rfl (lv_at hl 0 rfl) ?_
  refine va_get (D := xG X) (ci := 1) (v := .ref ((xa X 3))) (C := RX1) (T := TX1) (N := 7) hx hb hts hin hown hK hP 0 rfl rfl 3 (by decide) (hts (.fieldLink RX1 17 "PegfieldModel" "up" "[I") (by decide +kernel)) (fun _ h9 => h9) rfl dX1_placed_3 ?_
  refine lv_iload_n hx hb dX1_placed_6 rfl (lv_at hl 1 rfl) ?_
  refine pg_iald hx hb hK hP 3 1 (f := (sU S)) rfl rfl k (rfl) (by omega) (by decide) dX1_placed_7 ?_
  refine pg_imul (z := ((sU S k * 91 : Nat) : Int)) hx hb dX1_placed_8 (by omega) ?_
  refine lv_aload_n hx hb dX1_placed_9 rfl (lv_at hl 0 rfl) ?_
  refine va_get (D := xG X) (ci := 1) (v := .ref ((xa X 2))) (C := RX1) (T := TX1) (N := 7) hx hb hts hin hown hK hP 0 rfl rfl 2 (by decide) (hts (.fieldLink RX1 13 "PegfieldModel" "across" "[I") (by decide +kernel)) (fun _ h9 => h9) rfl dX1_placed_10 ?_
  refine lv_iload_n hx hb dX1_placed_13 rfl (lv_at hl 1 rfl) ?_
  refine pg_iald hx hb hK hP 2 1 (f := (sA S)) rfl rfl k (rfl) (by omega) (by decide) dX1_placed_14 ?_
  refine pg_iadd (z := (((sU S k * 91 : Nat) : Int)) + ((((sA S) k : Nat) : Int))) hx hb dX1_placed_15 (rfl) ?_
  exact pg_iret hx hb hr hlk  (congrArg (fun z : Int => some (Value.int (iI z))) (show ((sU S k * 91 + sA S k : Nat) : Int) = (((sU S k * 91 : Nat) : Int)) + ((((sA S) k : Nat) : Int)) by omega)) dX1_placed_16
set_option maxRecDepth 100000 in
set_option maxHeartbeats 4000000 in
theorem c_X1_count (l : Launch) (X : pgX) (S : pgS) (t : Int) (hok : pgOk S)  : pg_ro l yX1_count wsX1_count (rm 0 0) (mB X S t) [.ref ((xa X 0))] (some (.int (iI (((cnt S 12 : Nat) : Int))))) := by
  refine pg_ro_of (cc := cX1_count) (maxL := 3) (ret := (some .int)) (by decide) rfl (Nat.le_of_ble_eq_true rfl) ?_
  intro p e s m below meth c ls SC hr hlk hB hl
  obtain ⟨hx, hb, hml, hown, hts⟩ := id SC
  have hown : s.vm.findClass RX1 = some m.cls := hown
  obtain ⟨hP, hK⟩ := id hB
  have hl : lv_has ls 3 [(0, .ref ((xa X 0)))] := hl
  have hin : ∀ w ∈ u_ws RX1 TX1 7, w ∈ wsX1_count := by decide +kernel
  refine lv_iconst (v := iI 0) hx hb dX1_count_0 rfl ?_
  refine lv_istore_n (lv' := [(1, .int (iI 0)), (0, .ref ((xa X 0)))]) hx hb dX1_count_1 rfl hl (by decide) rfl (fun ls hl => ?_)
  refine lv_iconst (v := iI 0) hx hb dX1_count_2 rfl ?_
  refine lv_istore_n (lv' := [(2, .int (iI 0)), (1, .int (iI 0)), (0, .ref ((xa X 0)))]) hx hb dX1_count_3 rfl hl (by decide) rfl (fun ls hl => ?_)
  have loop1 : ∀ (fu : Nat) (i : Nat) (n : Nat), (i ≤ 12) → (n = cnt S i) → 12 - i < fu → ∀ ls : Array Slot, lv_has ls 3 [(0, .ref ((xa X 0))), (1, .int (iI (((n : Nat) : Int)))), (2, .int (iI (((i : Nat) : Int))))] → W p l e (rm 0 0) s m ([.ref ((xa X 0))] : List Value).toArray below meth c s.heap [] 0 0 (MQ below (pg_Q (some (.int (iI (((cnt S 12 : Nat) : Int)))))) ([.ref ((xa X 0))] : List Value).toArray s 0 0 (fun _ => False)) (F0 m 4 ls []) := by
    intro fu
    induction fu with
    | zero => intros; omega
    | succ fu ih1 =>
      intro i n hi hn hm1 ls hl
      refine lv_iload_n hx hb dX1_count_4 rfl (lv_at hl 2 rfl) ?_
      refine lv_bipush (v := iI 12) hx hb dX1_count_5 (by decide +kernel) ?_
      refine pg_icmp_ge (tgt := 33) hx hb dX1_count_7 (by decide) (⟨by omega, by omega⟩) (⟨by omega, by omega⟩) (fun hc2 => ?_) (fun hc2 => ?_)
      · refine lv_iload_n hx hb dX1_count_33 rfl (lv_at hl 1 rfl) ?_
        exact pg_iret hx hb hr hlk  (congrArg (fun z : Int => some (Value.int (iI z))) (show ((cnt S 12 : Nat) : Int) = ((n : Nat) : Int) by rw [hn, show i = 12 by omega])) dX1_count_34
      · have h1 := hok.1 i
        refine lv_iload_n hx hb dX1_count_10 rfl (lv_at hl 1 rfl) ?_
        refine lv_aload_n hx hb dX1_count_11 rfl (lv_at hl 0 rfl) ?_
        refine va_get (D := xG X) (ci := 1) (v := .ref ((xa X 1))) (C := RX1) (T := TX1) (N := 7) hx hb hts hin hown hK hP 0 rfl rfl 1 (by decide) (hts (.fieldLink RX1 7 "PegfieldModel" "stands" "[Z") (by decide +kernel)) (fun _ h9 => h9) rfl dX1_count_12 ?_
        refine lv_iload_n hx hb dX1_count_15 rfl (lv_at hl 2 rfl) ?_
        refine pg_zald hx hb hK hP 1 0 (f := (sS S)) rfl rfl i (rfl) (by omega) (by decide) dX1_count_16 ?_
        refine pg_if_eq (tgt := 24) hx hb dX1_count_17 (by decide) (⟨by omega, by omega⟩) (fun hc3 => ?_) (fun hc3 => ?_)
        · refine lv_iconst (v := iI 0) hx hb dX1_count_24 rfl ?_
          refine pg_iadd (z := ((n + sS S i : Nat) : Int)) hx hb dX1_count_25 (by omega) ?_
          refine lv_istore_n (lv' := [(1, .int (iI (((n + sS S i : Nat) : Int)))), (0, .ref ((xa X 0))), (2, .int (iI (((i : Nat) : Int))))]) hx hb dX1_count_26 rfl hl (by decide) rfl (fun ls hl => ?_)
          refine lv_iinc (v := iI (((i + 1 : Nat) : Int))) (lv' := [(2, .int (iI (((i + 1 : Nat) : Int)))), (1, .int (iI (((n + sS S i : Nat) : Int)))), (0, .ref ((xa X 0)))]) hx hb dX1_count_27 hl (k := 2) rfl (iI_addp (by omega)) (by decide) rfl (fun ls hl => ?_)
          refine lv_goto (tgt := 4) hx hb dX1_count_30 (by decide) ?_
          exact ih1 (i + 1) (n + sS S i) (by omega) (by rw [cnt_s, hn]) (by omega) ls (lv_sub hl [2, 1, 0] rfl)
        · refine lv_iconst (v := iI 1) hx hb dX1_count_20 rfl ?_
          refine lv_goto (tgt := 25) hx hb dX1_count_21 (by decide) ?_
          refine pg_iadd (z := ((n + sS S i : Nat) : Int)) hx hb dX1_count_25 (by omega) ?_
          refine lv_istore_n (lv' := [(1, .int (iI (((n + sS S i : Nat) : Int)))), (0, .ref ((xa X 0))), (2, .int (iI (((i : Nat) : Int))))]) hx hb dX1_count_26 rfl hl (by decide) rfl (fun ls hl => ?_)
          refine lv_iinc (v := iI (((i + 1 : Nat) : Int))) (lv' := [(2, .int (iI (((i + 1 : Nat) : Int)))), (1, .int (iI (((n + sS S i : Nat) : Int)))), (0, .ref ((xa X 0)))]) hx hb dX1_count_27 hl (k := 2) rfl (iI_addp (by omega)) (by decide) rfl (fun ls hl => ?_)
          refine lv_goto (tgt := 4) hx hb dX1_count_30 (by decide) ?_
          exact ih1 (i + 1) (n + sS S i) (by omega) (by rw [cnt_s, hn]) (by omega) ls (lv_sub hl [2, 1, 0] rfl)
  refine loop1 (12 + 1) 0 0 (by omega) (rfl) (by omega) ls (lv_sub hl [2, 1, 0] rfl)
set_option maxRecDepth 100000 in
set_option maxHeartbeats 4000000 in
theorem c_X1_isInRing (l : Launch) (X : pgX) (S : pgS) (t : Int) (hok : pgOk S) (k : Nat) (hk : k < 12) (r : Int) (h : ((∃ j, j < sN S ∧ sR S j = k) ∧ r = 1) ∨ ((∀ j, j < sN S → sR S j ≠ k) ∧ r = 0)) : pg_ro l yX1_isInRing wsX1_isInRing (rm 0 0) (mB X S t) [.ref ((xa X 0)), .int (iI (((k : Nat) : Int)))] (some (.int (iI r))) := by
  refine pg_ro_of (cc := cX1_isInRing) (maxL := 4) (ret := (some .boolean)) (by decide) rfl (Nat.le_of_ble_eq_true rfl) ?_
  intro p e s m below meth c ls SC hr hlk hB hl
  obtain ⟨hx, hb, hml, hown, hts⟩ := id SC
  have hown : s.vm.findClass RX1 = some m.cls := hown
  obtain ⟨hP, hK⟩ := id hB
  have hl : lv_has ls 4 [(0, .ref ((xa X 0))), (1, .int (iI (((k : Nat) : Int))))] := hl
  have hin : ∀ w ∈ u_ws RX1 TX1 7, w ∈ wsX1_isInRing := by decide +kernel
  have hN : sN S ≤ 12 := hok.2.2.2.2.1
  refine lv_iconst (v := iI 0) hx hb dX1_isInRing_0 rfl ?_
  refine lv_istore_n (lv' := [(2, .int (iI 0)), (0, .ref ((xa X 0))), (1, .int (iI (((k : Nat) : Int))))]) hx hb dX1_isInRing_1 rfl hl (by decide) rfl (fun ls hl => ?_)
  refine lv_iconst (v := iI 0) hx hb dX1_isInRing_2 rfl ?_
  refine lv_istore_n (lv' := [(3, .int (iI 0)), (2, .int (iI 0)), (0, .ref ((xa X 0))), (1, .int (iI (((k : Nat) : Int))))]) hx hb dX1_isInRing_3 rfl hl (by decide) rfl (fun ls hl => ?_)
  have loop1 : ∀ (fu : Nat) (i : Nat) (f : Int), (i ≤ sN S) → ((f = 0 ∧ ∀ j, j < i → sR S j ≠ k) ∨ (f = 1 ∧ ∃ j, j < i ∧ sR S j = k)) → sN S - i < fu → ∀ ls : Array Slot, lv_has ls 4 [(0, .ref ((xa X 0))), (1, .int (iI (((k : Nat) : Int)))), (2, .int (iI f)), (3, .int (iI (((i : Nat) : Int))))] → W p l e (rm 0 0) s m ([.ref ((xa X 0)), .int (iI (((k : Nat) : Int)))] : List Value).toArray below meth c s.heap [] 0 0 (MQ below (pg_Q (some (.int (iI r)))) ([.ref ((xa X 0)), .int (iI (((k : Nat) : Int)))] : List Value).toArray s 0 0 (fun _ => False)) (F0 m 4 ls []) := by
    intro fu
    induction fu with
    | zero => intros; omega
    | succ fu ih1 =>
      intro i f hi hf hm1 ls hl
      have hf01 : f = 0 ∨ f = 1 := by rcases hf with ⟨q, -⟩ | ⟨q, -⟩; exact Or.inl q; exact Or.inr q
      refine lv_iload_n hx hb dX1_isInRing_4 rfl (lv_at hl 3 rfl) ?_
      refine lv_aload_n hx hb dX1_isInRing_5 rfl (lv_at hl 0 rfl) ?_
      refine va_get (D := xG X) (ci := 1) (v := .int (iI (((sN S : Nat) : Int)))) (C := RX1) (T := TX1) (N := 7) hx hb hts hin hown hK hP 0 rfl rfl 5 (by decide) (hts (.fieldLink RX1 60 "PegfieldModel" "size" "I") (by decide +kernel)) (fun _ h9 => h9) rfl dX1_isInRing_6 ?_
      refine pg_icmp_ge (tgt := 38) hx hb dX1_isInRing_9 (by decide) (⟨by omega, by omega⟩) (⟨by omega, by omega⟩) (fun hc2 => ?_) (fun hc2 => ?_)
      · refine lv_iload_n hx hb dX1_isInRing_38 rfl (lv_at hl 2 rfl) ?_
        exact pg_zret hx hb hr hlk  (iI_bool (by omega)) (congrArg (fun z : Int => some (Value.int (iI z))) (show r = f by rcases hf with ⟨hf1, hf2⟩ | ⟨hf1, j, hj, hj2⟩ <;> rcases h with ⟨⟨j2, hj3, hj4⟩, h⟩ | ⟨h2, h⟩ <;> first | omega | exact absurd hj4 (hf2 j2 (by omega)) | exact absurd hj2 (h2 j (by omega)))) dX1_isInRing_39
      · refine lv_iload_n hx hb dX1_isInRing_12 rfl (lv_at hl 2 rfl) ?_
        refine pg_if_ne (tgt := 26) hx hb dX1_isInRing_13 (by decide) (⟨by omega, by omega⟩) (fun hc3 => ?_) (fun hc3 => ?_)
        · have hfx : (f = 1 ∨ sR S i = k) := by omega
          refine lv_iconst (v := iI 1) hx hb dX1_isInRing_26 rfl ?_
          refine lv_goto (tgt := 31) hx hb dX1_isInRing_27 (by decide) ?_
          refine lv_istore_n (lv' := [(2, .int (iI 1)), (0, .ref ((xa X 0))), (1, .int (iI (((k : Nat) : Int)))), (3, .int (iI (((i : Nat) : Int))))]) hx hb dX1_isInRing_31 rfl hl (by decide) rfl (fun ls hl => ?_)
          refine lv_iinc (v := iI (((i + 1 : Nat) : Int))) (lv' := [(3, .int (iI (((i + 1 : Nat) : Int)))), (2, .int (iI 1)), (0, .ref ((xa X 0))), (1, .int (iI (((k : Nat) : Int))))]) hx hb dX1_isInRing_32 hl (k := 3) rfl (iI_addp (by omega)) (by decide) rfl (fun ls hl => ?_)
          refine lv_goto (tgt := 4) hx hb dX1_isInRing_35 (by decide) ?_
          exact ih1 (i + 1) 1 (by omega) (Or.inr ⟨rfl, by rcases hf with ⟨hf1, hf2⟩ | ⟨hf1, j, hj, hj2⟩; exact ⟨i, by omega, by omega⟩; exact ⟨j, by omega, hj2⟩⟩) (by omega) ls (lv_sub hl [2, 3, 1, 0] rfl)
        · have h1 := hok.2.2.2.1 i
          refine lv_aload_n hx hb dX1_isInRing_16 rfl (lv_at hl 0 rfl) ?_
          refine va_get (D := xG X) (ci := 1) (v := .ref ((xa X 4))) (C := RX1) (T := TX1) (N := 7) hx hb hts hin hown hK hP 0 rfl rfl 4 (by decide) (hts (.fieldLink RX1 20 "PegfieldModel" "ring" "[I") (by decide +kernel)) (fun _ h9 => h9) rfl dX1_isInRing_17 ?_
          refine lv_iload_n hx hb dX1_isInRing_20 rfl (lv_at hl 3 rfl) ?_
          refine pg_iald hx hb hK hP 4 1 (f := (sR S)) rfl rfl i (rfl) (by omega) (by decide) dX1_isInRing_21 ?_
          refine lv_iload_n hx hb dX1_isInRing_22 rfl (lv_at hl 1 rfl) ?_
          refine pg_icmp_ne (tgt := 30) hx hb dX1_isInRing_23 (by decide) (⟨by omega, by omega⟩) (⟨by omega, by omega⟩) (fun hc4 => ?_) (fun hc4 => ?_)
          · refine lv_iconst (v := iI 0) hx hb dX1_isInRing_30 rfl ?_
            refine lv_istore_n (lv' := [(2, .int (iI 0)), (0, .ref ((xa X 0))), (1, .int (iI (((k : Nat) : Int)))), (3, .int (iI (((i : Nat) : Int))))]) hx hb dX1_isInRing_31 rfl hl (by decide) rfl (fun ls hl => ?_)
            refine lv_iinc (v := iI (((i + 1 : Nat) : Int))) (lv' := [(3, .int (iI (((i + 1 : Nat) : Int)))), (2, .int (iI 0)), (0, .ref ((xa X 0))), (1, .int (iI (((k : Nat) : Int))))]) hx hb dX1_isInRing_32 hl (k := 3) rfl (iI_addp (by omega)) (by decide) rfl (fun ls hl => ?_)
            refine lv_goto (tgt := 4) hx hb dX1_isInRing_35 (by decide) ?_
            exact ih1 (i + 1) 0 (by omega) (Or.inl ⟨rfl, by rcases hf with ⟨hf1, hf2⟩ | ⟨hf1, j, hj, hj2⟩; exact (fun j hj => by rcases (show j < i ∨ j = i by omega) with q | q <;> first | exact hf2 j q | (rw [q]; omega)); exact absurd hf1 (by omega)⟩) (by omega) ls (lv_sub hl [2, 3, 1, 0] rfl)
          · have hfx : (f = 1 ∨ sR S i = k) := by omega
            refine lv_iconst (v := iI 1) hx hb dX1_isInRing_26 rfl ?_
            refine lv_goto (tgt := 31) hx hb dX1_isInRing_27 (by decide) ?_
            refine lv_istore_n (lv' := [(2, .int (iI 1)), (0, .ref ((xa X 0))), (1, .int (iI (((k : Nat) : Int)))), (3, .int (iI (((i : Nat) : Int))))]) hx hb dX1_isInRing_31 rfl hl (by decide) rfl (fun ls hl => ?_)
            refine lv_iinc (v := iI (((i + 1 : Nat) : Int))) (lv' := [(3, .int (iI (((i + 1 : Nat) : Int)))), (2, .int (iI 1)), (0, .ref ((xa X 0))), (1, .int (iI (((k : Nat) : Int))))]) hx hb dX1_isInRing_32 hl (k := 3) rfl (iI_addp (by omega)) (by decide) rfl (fun ls hl => ?_)
            refine lv_goto (tgt := 4) hx hb dX1_isInRing_35 (by decide) ?_
            exact ih1 (i + 1) 1 (by omega) (Or.inr ⟨rfl, by rcases hf with ⟨hf1, hf2⟩ | ⟨hf1, j, hj, hj2⟩; exact ⟨i, by omega, by omega⟩; exact ⟨j, by omega, hj2⟩⟩) (by omega) ls (lv_sub hl [2, 3, 1, 0] rfl)
  refine loop1 (sN S + 1) 0 0 (by omega) (Or.inl ⟨rfl, fun j hj => absurd hj (Nat.not_lt_zero j)⟩) (by omega) ls (lv_sub hl [2, 3, 1, 0] rfl)
set_option maxRecDepth 100000 in
set_option maxHeartbeats 4000000 in
theorem c_X1_grainsOf (l : Launch) (X : pgX) (S : pgS) (t : Int) (hok : pgOk S) (a b : Nat) (ha : a < 12) (hb2 : b < 12)  : pg_ro l yX1_grainsOf wsX1_grainsOf (rm 2 50) (mB X S t) [.ref ((xa X 0)), .int (iI (((a : Nat) : Int))), .int (iI (((b : Nat) : Int)))] (some (.int (iI (((gN S a b : Nat) : Int))))) := by
  refine pg_ro_of (cc := cX1_grainsOf) (maxL := 5) (ret := (some .int)) (by decide) rfl (Nat.le_of_ble_eq_true rfl) ?_
  intro p e s m below meth c ls SC hr hlk hB hl
  obtain ⟨hx, hb, hml, hown, hts⟩ := id SC
  have hown : s.vm.findClass RX1 = some m.cls := hown
  obtain ⟨hP, hK⟩ := id hB
  have hl : lv_has ls 5 [(0, .ref ((xa X 0))), (1, .int (iI (((a : Nat) : Int)))), (2, .int (iI (((b : Nat) : Int))))] := hl
  have hin : ∀ w ∈ u_ws RX1 TX1 7, w ∈ wsX1_grainsOf := by decide +kernel
  have h2 := s2_int hok a b
  have h2l := s2_lt hok a b
  have hW : sW S ≤ 1 := hok.2.2.2.2.2
  refine lv_aload_n hx hb dX1_grainsOf_0 rfl (lv_at hl 0 rfl) ?_
  refine va_get (D := xG X) (ci := 1) (v := .ref ((xa X 2))) (C := RX1) (T := TX1) (N := 7) hx hb hts hin hown hK hP 0 rfl rfl 2 (by decide) (hts (.fieldLink RX1 13 "PegfieldModel" "across" "[I") (by decide +kernel)) (fun _ h9 => h9) rfl dX1_grainsOf_1 ?_
  refine lv_iload_n hx hb dX1_grainsOf_4 rfl (lv_at hl 2 rfl) ?_
  refine pg_iald hx hb hK hP 2 1 (f := (sA S)) rfl rfl b (rfl) (by omega) (by decide) dX1_grainsOf_5 ?_
  refine lv_aload_n hx hb dX1_grainsOf_6 rfl (lv_at hl 0 rfl) ?_
  refine va_get (D := xG X) (ci := 1) (v := .ref ((xa X 2))) (C := RX1) (T := TX1) (N := 7) hx hb hts hin hown hK hP 0 rfl rfl 2 (by decide) (hts (.fieldLink RX1 13 "PegfieldModel" "across" "[I") (by decide +kernel)) (fun _ h9 => h9) rfl dX1_grainsOf_7 ?_
  refine lv_iload_n hx hb dX1_grainsOf_10 rfl (lv_at hl 1 rfl) ?_
  refine pg_iald hx hb hK hP 2 1 (f := (sA S)) rfl rfl a (rfl) (by omega) (by decide) dX1_grainsOf_11 ?_
  refine pg_isub (z := dA S a b) hx hb dX1_grainsOf_12 (rfl) ?_
  refine lv_istore_n (lv' := [(3, .int (iI (dA S a b))), (0, .ref ((xa X 0))), (1, .int (iI (((a : Nat) : Int)))), (2, .int (iI (((b : Nat) : Int))))]) hx hb dX1_grainsOf_13 rfl hl (by decide) rfl (fun ls hl => ?_)
  refine lv_aload_n hx hb dX1_grainsOf_14 rfl (lv_at hl 1 rfl) ?_
  refine va_get (D := xG X) (ci := 1) (v := .ref ((xa X 3))) (C := RX1) (T := TX1) (N := 7) hx hb hts hin hown hK hP 0 rfl rfl 3 (by decide) (hts (.fieldLink RX1 17 "PegfieldModel" "up" "[I") (by decide +kernel)) (fun _ h9 => h9) rfl dX1_grainsOf_15 ?_
  refine lv_iload_n hx hb dX1_grainsOf_18 rfl (lv_at hl 3 rfl) ?_
  refine pg_iald hx hb hK hP 3 1 (f := (sU S)) rfl rfl b (rfl) (by omega) (by decide) dX1_grainsOf_19 ?_
  refine lv_aload_n hx hb dX1_grainsOf_20 rfl (lv_at hl 1 rfl) ?_
  refine va_get (D := xG X) (ci := 1) (v := .ref ((xa X 3))) (C := RX1) (T := TX1) (N := 7) hx hb hts hin hown hK hP 0 rfl rfl 3 (by decide) (hts (.fieldLink RX1 17 "PegfieldModel" "up" "[I") (by decide +kernel)) (fun _ h9 => h9) rfl dX1_grainsOf_21 ?_
  refine lv_iload_n hx hb dX1_grainsOf_24 rfl (lv_at hl 2 rfl) ?_
  refine pg_iald hx hb hK hP 3 1 (f := (sU S)) rfl rfl a (rfl) (by omega) (by decide) dX1_grainsOf_25 ?_
  refine pg_isub (z := dU S a b) hx hb dX1_grainsOf_26 (rfl) ?_
  refine lv_istore (lv' := [(4, .int (iI (dU S a b))), (3, .int (iI (dA S a b))), (0, .ref ((xa X 0))), (1, .int (iI (((a : Nat) : Int)))), (2, .int (iI (((b : Nat) : Int))))]) hx hb dX1_grainsOf_27 hl (by decide) rfl (fun ls hl => ?_)
  refine lv_iload_n hx hb dX1_grainsOf_29 rfl (lv_at hl 1 rfl) ?_
  refine lv_iload_n hx hb dX1_grainsOf_30 rfl (lv_at hl 1 rfl) ?_
  refine pg_imul (z := (dA S a b) * (dA S a b)) hx hb dX1_grainsOf_31 (rfl) ?_
  refine lv_iload hx hb dX1_grainsOf_32 (lv_at hl 0 rfl) ?_
  refine lv_iload hx hb dX1_grainsOf_34 (lv_at hl 0 rfl) ?_
  refine pg_imul (z := (dU S a b) * (dU S a b)) hx hb dX1_grainsOf_36 (rfl) ?_
  refine pg_iadd (z := ((s2 S a b : Nat) : Int)) hx hb dX1_grainsOf_37 (h2.symm) ?_
  refine lv_aload_n hx hb dX1_grainsOf_38 rfl (lv_at hl 2 rfl) ?_
  refine va_get (D := xG X) (ci := 1) (v := .int (iI (((sW S : Nat) : Int)))) (C := RX1) (T := TX1) (N := 7) hx hb hts hin hown hK hP 0 rfl rfl 6 (by decide) (hts (.fieldLink RX1 72 "PegfieldModel" "isWide" "Z") (by decide +kernel)) (fun _ h9 => h9) rfl dX1_grainsOf_39 ?_
  refine pg_if_eq (tgt := 50) hx hb dX1_grainsOf_42 (by decide) (⟨by omega, by omega⟩) (fun hc1 => ?_) (fun hc1 => ?_)
  · refine lv_bipush (v := iI 14) hx hb dX1_grainsOf_50 (by decide +kernel) ?_
    refine pg_callS (As := [.int (iI (((s2 S a b : Nat) : Int))), .int (iI 14)]) (rest := []) SC (c_X1_near l (s2 S a b) 14 (by omega) (by decide) (by omega)) pT_st pT_h (va_cwS 2 hts gX1_grainsOf_X1_near rfl rfl rfl (by decide +kernel) ⟨Nat.le_of_ble_eq_true rfl, Nat.le_of_ble_eq_true rfl⟩) rfl hl.1 rfl (Nat.le_of_ble_eq_true rfl) dX1_grainsOf_52 ⟨Nat.zero_le _, Nat.zero_le _⟩ ?_
    refine pg_l2i hx hb dX1_grainsOf_55 ?_
    exact pg_iret hx hb hr hlk  (congrArg (fun z : Int => some (Value.int (iI z))) (show ((gN S a b : Nat) : Int) = (((qs (s2 S a b * 4 ^ 15) + 1) / 2 : Nat) : Int) by rw [gN_0 (by omega)])) dX1_grainsOf_56
  · refine lv_bipush (v := iI 15) hx hb dX1_grainsOf_45 (by decide +kernel) ?_
    refine lv_goto (tgt := 52) hx hb dX1_grainsOf_47 (by decide) ?_
    refine pg_callS (As := [.int (iI (((s2 S a b : Nat) : Int))), .int (iI 15)]) (rest := []) SC (c_X1_near l (s2 S a b) 15 (by omega) (by decide) (by omega)) pT_st pT_h (va_cwS 2 hts gX1_grainsOf_X1_near rfl rfl rfl (by decide +kernel) ⟨Nat.le_of_ble_eq_true rfl, Nat.le_of_ble_eq_true rfl⟩) rfl hl.1 rfl (Nat.le_of_ble_eq_true rfl) dX1_grainsOf_52 ⟨Nat.zero_le _, Nat.zero_le _⟩ ?_
    refine pg_l2i hx hb dX1_grainsOf_55 ?_
    exact pg_iret hx hb hr hlk  (congrArg (fun z : Int => some (Value.int (iI z))) (show ((gN S a b : Nat) : Int) = (((qs (s2 S a b * 4 ^ 16) + 1) / 2 : Nat) : Int) by rw [gN_1 (by omega)])) dX1_grainsOf_56
set_option maxRecDepth 100000 in
set_option maxHeartbeats 4000000 in
theorem c_X1_isNoLonger (l : Launch) (X : pgX) (S : pgS) (t : Int) (hok : pgOk S) (a b c2 : Nat) (ha : a < 12) (hb2 : b < 12) (hc2 : c2 < 12)  : pg_ro l yX1_isNoLonger wsX1_isNoLonger (rm 3 74) (mB X S t) [.ref ((xa X 0)), .int (iI (((a : Nat) : Int))), .int (iI (((b : Nat) : Int))), .int (iI (((c2 : Nat) : Int)))] (some (.int (iI 1))) := by
  refine pg_ro_of (cc := cX1_isNoLonger) (maxL := 4) (ret := (some .boolean)) (by decide) rfl (Nat.le_of_ble_eq_true rfl) ?_
  intro p e s m below meth c ls SC hr hlk hB hl
  obtain ⟨hx, hb, hml, hown, hts⟩ := id SC
  have hown : s.vm.findClass RX1 = some m.cls := hown
  obtain ⟨hP, hK⟩ := id hB
  have hl : lv_has ls 4 [(0, .ref ((xa X 0))), (1, .int (iI (((a : Nat) : Int)))), (2, .int (iI (((b : Nat) : Int)))), (3, .int (iI (((c2 : Nat) : Int))))] := hl
  have t1 := gN_lt hok a c2
  have t2 := gN_lt hok a b
  have t3 := gN_lt hok b c2
  have t4 := gN_tri S a b c2
  refine lv_aload_n hx hb dX1_isNoLonger_0 rfl (lv_at hl 0 rfl) ?_
  refine lv_iload_n hx hb dX1_isNoLonger_1 rfl (lv_at hl 1 rfl) ?_
  refine lv_iload_n hx hb dX1_isNoLonger_2 rfl (lv_at hl 3 rfl) ?_
  refine pg_callV (As := [.int (iI (((a : Nat) : Int))), .int (iI (((c2 : Nat) : Int)))]) (rest := []) SC (c_X1_grainsOf l X S t hok a c2 (by omega) (by omega)) mB_st (mB_h hP hK) (cwV 2 hts gX1_isNoLonger_X1_grainsOf rfl rfl rfl (by decide +kernel) ⟨Nat.le_of_ble_eq_true rfl, Nat.le_of_ble_eq_true rfl⟩) (va_recv hK hP (ci := 1) (q0 := 0) rfl rfl) rfl hl.1 rfl (Nat.le_of_ble_eq_true rfl) dX1_isNoLonger_3 ⟨Nat.zero_le _, Nat.zero_le _⟩ ?_
  refine lv_aload_n hx hb dX1_isNoLonger_6 rfl (lv_at hl 0 rfl) ?_
  refine lv_iload_n hx hb dX1_isNoLonger_7 rfl (lv_at hl 1 rfl) ?_
  refine lv_iload_n hx hb dX1_isNoLonger_8 rfl (lv_at hl 2 rfl) ?_
  refine pg_callV (As := [.int (iI (((a : Nat) : Int))), .int (iI (((b : Nat) : Int)))]) (rest := [.int (iI (((gN S a c2 : Nat) : Int)))]) SC (c_X1_grainsOf l X S t hok a b (by omega) (by omega)) mB_st (mB_h hP hK) (cwV 2 hts gX1_isNoLonger_X1_grainsOf rfl rfl rfl (by decide +kernel) ⟨Nat.le_of_ble_eq_true rfl, Nat.le_of_ble_eq_true rfl⟩) (va_recv hK hP (ci := 1) (q0 := 0) rfl rfl) rfl hl.1 rfl (Nat.le_of_ble_eq_true rfl) dX1_isNoLonger_9 ⟨Nat.zero_le _, Nat.zero_le _⟩ ?_
  refine lv_aload_n hx hb dX1_isNoLonger_12 rfl (lv_at hl 0 rfl) ?_
  refine lv_iload_n hx hb dX1_isNoLonger_13 rfl (lv_at hl 2 rfl) ?_
  refine lv_iload_n hx hb dX1_isNoLonger_14 rfl (lv_at hl 3 rfl) ?_
  refine pg_callV (As := [.int (iI (((b : Nat) : Int))), .int (iI (((c2 : Nat) : Int)))]) (rest := [.int (iI (((gN S a b : Nat) : Int))), .int (iI (((gN S a c2 : Nat) : Int)))]) SC (c_X1_grainsOf l X S t hok b c2 (by omega) (by omega)) mB_st (mB_h hP hK) (cwV 2 hts gX1_isNoLonger_X1_grainsOf rfl rfl rfl (by decide +kernel) ⟨Nat.le_of_ble_eq_true rfl, Nat.le_of_ble_eq_true rfl⟩) (va_recv hK hP (ci := 1) (q0 := 0) rfl rfl) rfl hl.1 rfl (Nat.le_of_ble_eq_true rfl) dX1_isNoLonger_15 ⟨Nat.zero_le _, Nat.zero_le _⟩ ?_
  refine pg_iadd (z := (((gN S a b : Nat) : Int)) + (((gN S b c2 : Nat) : Int))) hx hb dX1_isNoLonger_18 (rfl) ?_
  refine lv_iconst (v := iI 1) hx hb dX1_isNoLonger_19 rfl ?_
  refine pg_iadd (z := ((((gN S a b : Nat) : Int)) + (((gN S b c2 : Nat) : Int))) + 1) hx hb dX1_isNoLonger_20 (rfl) ?_
  refine pg_icmp_gt (tgt := 28) hx hb dX1_isNoLonger_21 (by decide) (⟨by omega, by omega⟩) (⟨by omega, by omega⟩) (fun hc1 => absurd hc1 (by omega)) (fun hc1 => ?_)
  refine lv_iconst (v := iI 1) hx hb dX1_isNoLonger_24 rfl ?_
  refine lv_goto (tgt := 29) hx hb dX1_isNoLonger_25 (by decide) ?_
  exact pg_zret hx hb hr hlk  (iI_bool (by omega)) (congrArg (fun z : Int => some (Value.int (iI z))) (show 1 = 1 by omega)) dX1_isNoLonger_29
set_option maxRecDepth 100000 in
set_option maxHeartbeats 4000000 in
theorem c_X1_nearestTo (l : Launch) (X : pgX) (S : pgS) (t : Int) (hok : pgOk S) (k : Nat) (hk : k < 12)  : pg_ro l yX1_nearestTo wsX1_nearestTo (rm 3 74) (mB X S t) [.ref ((xa X 0)), .int (iI (((k : Nat) : Int)))] (some (.int (iI (nr S k 12)))) := by
  refine pg_ro_of (cc := cX1_nearestTo) (maxL := 4) (ret := (some .int)) (by decide) rfl (Nat.le_of_ble_eq_true rfl) ?_
  intro p e s m below meth c ls SC hr hlk hB hl
  obtain ⟨hx, hb, hml, hown, hts⟩ := id SC
  have hown : s.vm.findClass RX1 = some m.cls := hown
  obtain ⟨hP, hK⟩ := id hB
  have hl : lv_has ls 4 [(0, .ref ((xa X 0))), (1, .int (iI (((k : Nat) : Int))))] := hl
  have hin : ∀ w ∈ u_ws RX1 TX1 7, w ∈ wsX1_nearestTo := by decide +kernel
  refine lv_iconst (v := iI (-1)) hx hb dX1_nearestTo_0 rfl ?_
  refine lv_istore_n (lv' := [(2, .int (iI ((-1)))), (0, .ref ((xa X 0))), (1, .int (iI (((k : Nat) : Int))))]) hx hb dX1_nearestTo_1 rfl hl (by decide) rfl (fun ls hl => ?_)
  refine lv_iconst (v := iI 0) hx hb dX1_nearestTo_2 rfl ?_
  refine lv_istore_n (lv' := [(3, .int (iI 0)), (2, .int (iI ((-1)))), (0, .ref ((xa X 0))), (1, .int (iI (((k : Nat) : Int))))]) hx hb dX1_nearestTo_3 rfl hl (by decide) rfl (fun ls hl => ?_)
  have loop1 : ∀ (fu : Nat) (i : Nat) (b : Int), (i ≤ 12) → (b = nr S k i) → 12 - i < fu → ∀ ls : Array Slot, lv_has ls 4 [(0, .ref ((xa X 0))), (1, .int (iI (((k : Nat) : Int)))), (2, .int (iI b)), (3, .int (iI (((i : Nat) : Int))))] → W p l e (rm 3 74) s m ([.ref ((xa X 0)), .int (iI (((k : Nat) : Int)))] : List Value).toArray below meth c s.heap [] 0 0 (MQ below (pg_Q (some (.int (iI (nr S k 12))))) ([.ref ((xa X 0)), .int (iI (((k : Nat) : Int)))] : List Value).toArray s 0 0 (fun _ => False)) (F0 m 4 ls []) := by
    intro fu
    induction fu with
    | zero => intros; omega
    | succ fu ih1 =>
      intro i b hi hbb hm1 ls hl
      have hnb := nr_b S k i
      rw [← hbb] at hnb
      refine lv_iload_n hx hb dX1_nearestTo_4 rfl (lv_at hl 3 rfl) ?_
      refine lv_bipush (v := iI 12) hx hb dX1_nearestTo_5 (by decide +kernel) ?_
      refine pg_icmp_ge (tgt := 52) hx hb dX1_nearestTo_7 (by decide) (⟨by omega, by omega⟩) (⟨by omega, by omega⟩) (fun hc2 => ?_) (fun hc2 => ?_)
      · refine lv_iload_n hx hb dX1_nearestTo_52 rfl (lv_at hl 2 rfl) ?_
        exact pg_iret hx hb hr hlk  (congrArg (fun z : Int => some (Value.int (iI z))) (show nr S k 12 = b by rw [hbb, show i = 12 by omega])) dX1_nearestTo_53
      · refine lv_iload_n hx hb dX1_nearestTo_10 rfl (lv_at hl 3 rfl) ?_
        refine lv_iload_n hx hb dX1_nearestTo_11 rfl (lv_at hl 1 rfl) ?_
        refine pg_icmp_eq (tgt := 46) hx hb dX1_nearestTo_12 (by decide) (⟨by omega, by omega⟩) (⟨by omega, by omega⟩) (fun hc3 => ?_) (fun hc3 => ?_)
        · refine lv_iinc (v := iI (((i + 1 : Nat) : Int))) (lv' := [(3, .int (iI (((i + 1 : Nat) : Int)))), (0, .ref ((xa X 0))), (1, .int (iI (((k : Nat) : Int)))), (2, .int (iI b))]) hx hb dX1_nearestTo_46 hl (k := 3) rfl (iI_addp (by omega)) (by decide) rfl (fun ls hl => ?_)
          refine lv_goto (tgt := 4) hx hb dX1_nearestTo_49 (by decide) ?_
          exact ih1 (i + 1) b (by omega) (by rw [nr_s, ← hbb]; exact (if_neg (fun q => by obtain ⟨q1, q2, q3⟩ := q; first | omega | (rcases q3 with q3 | q3 <;> omega))).symm) (by omega) ls (lv_sub hl [1, 2, 3, 0] rfl)
        · have h1 := hok.1 i
          refine lv_aload_n hx hb dX1_nearestTo_15 rfl (lv_at hl 0 rfl) ?_
          refine va_get (D := xG X) (ci := 1) (v := .ref ((xa X 1))) (C := RX1) (T := TX1) (N := 7) hx hb hts hin hown hK hP 0 rfl rfl 1 (by decide) (hts (.fieldLink RX1 7 "PegfieldModel" "stands" "[Z") (by decide +kernel)) (fun _ h9 => h9) rfl dX1_nearestTo_16 ?_
          refine lv_iload_n hx hb dX1_nearestTo_19 rfl (lv_at hl 3 rfl) ?_
          refine pg_zald hx hb hK hP 1 0 (f := (sS S)) rfl rfl i (rfl) (by omega) (by decide) dX1_nearestTo_20 ?_
          refine pg_if_eq (tgt := 46) hx hb dX1_nearestTo_21 (by decide) (⟨by omega, by omega⟩) (fun hc4 => ?_) (fun hc4 => ?_)
          · refine lv_iinc (v := iI (((i + 1 : Nat) : Int))) (lv' := [(3, .int (iI (((i + 1 : Nat) : Int)))), (0, .ref ((xa X 0))), (1, .int (iI (((k : Nat) : Int)))), (2, .int (iI b))]) hx hb dX1_nearestTo_46 hl (k := 3) rfl (iI_addp (by omega)) (by decide) rfl (fun ls hl => ?_)
            refine lv_goto (tgt := 4) hx hb dX1_nearestTo_49 (by decide) ?_
            exact ih1 (i + 1) b (by omega) (by rw [nr_s, ← hbb]; exact (if_neg (fun q => by obtain ⟨q1, q2, q3⟩ := q; first | omega | (rcases q3 with q3 | q3 <;> omega))).symm) (by omega) ls (lv_sub hl [1, 2, 3, 0] rfl)
          · refine lv_iload_n hx hb dX1_nearestTo_24 rfl (lv_at hl 2 rfl) ?_
            refine lv_iconst (v := iI (-1)) hx hb dX1_nearestTo_25 rfl ?_
            refine pg_icmp_eq (tgt := 44) hx hb dX1_nearestTo_26 (by decide) (⟨by omega, by omega⟩) (⟨by omega, by omega⟩) (fun hc5 => ?_) (fun hc5 => ?_)
            · refine lv_iload_n hx hb dX1_nearestTo_44 rfl (lv_at hl 3 rfl) ?_
              refine lv_istore_n (lv' := [(2, .int (iI (((i : Nat) : Int)))), (0, .ref ((xa X 0))), (1, .int (iI (((k : Nat) : Int)))), (3, .int (iI (((i : Nat) : Int))))]) hx hb dX1_nearestTo_45 rfl hl (by decide) rfl (fun ls hl => ?_)
              refine lv_iinc (v := iI (((i + 1 : Nat) : Int))) (lv' := [(3, .int (iI (((i + 1 : Nat) : Int)))), (2, .int (iI (((i : Nat) : Int)))), (0, .ref ((xa X 0))), (1, .int (iI (((k : Nat) : Int))))]) hx hb dX1_nearestTo_46 hl (k := 3) rfl (iI_addp (by omega)) (by decide) rfl (fun ls hl => ?_)
              refine lv_goto (tgt := 4) hx hb dX1_nearestTo_49 (by decide) ?_
              exact ih1 (i + 1) (((i : Nat) : Int)) (by omega) (by rw [nr_s, ← hbb]; exact (if_pos ⟨by omega, by omega, by first | exact Or.inl (by omega) | exact Or.inr (by omega)⟩).symm) (by omega) ls (lv_sub hl [2, 3, 1, 0] rfl)
            · have hgl := gN_lt hok k i
              have hgl2 := gN_lt hok k b.toNat
              refine lv_aload_n hx hb dX1_nearestTo_29 rfl (lv_at hl 0 rfl) ?_
              refine lv_iload_n hx hb dX1_nearestTo_30 rfl (lv_at hl 1 rfl) ?_
              refine lv_iload_n hx hb dX1_nearestTo_31 rfl (lv_at hl 3 rfl) ?_
              refine pg_callV (As := [.int (iI (((k : Nat) : Int))), .int (iI (((i : Nat) : Int)))]) (rest := []) SC (c_X1_grainsOf l X S t hok k i (by omega) (by omega)) mB_st (mB_h hP hK) (cwV 2 hts gX1_nearestTo_X1_grainsOf rfl rfl rfl (by decide +kernel) ⟨Nat.le_of_ble_eq_true rfl, Nat.le_of_ble_eq_true rfl⟩) (va_recv hK hP (ci := 1) (q0 := 0) rfl rfl) rfl hl.1 rfl (Nat.le_of_ble_eq_true rfl) dX1_nearestTo_32 ⟨Nat.zero_le _, Nat.zero_le _⟩ ?_
              refine lv_aload_n hx hb dX1_nearestTo_35 rfl (lv_at hl 0 rfl) ?_
              refine lv_iload_n hx hb dX1_nearestTo_36 rfl (lv_at hl 1 rfl) ?_
              refine lv_iload_n hx hb dX1_nearestTo_37 rfl (lv_at hl 2 rfl) ?_
              refine pg_ti (y := iI ((b.toNat : Nat) : Int)) (by rw [show ((b.toNat : Nat) : Int) = b by omega]) ?_
              refine pg_callV (As := [.int (iI (((k : Nat) : Int))), .int (iI (((b.toNat : Nat) : Int)))]) (rest := [.int (iI (((gN S k i : Nat) : Int)))]) SC (c_X1_grainsOf l X S t hok k b.toNat (by omega) (by omega)) mB_st (mB_h hP hK) (cwV 2 hts gX1_nearestTo_X1_grainsOf rfl rfl rfl (by decide +kernel) ⟨Nat.le_of_ble_eq_true rfl, Nat.le_of_ble_eq_true rfl⟩) (va_recv hK hP (ci := 1) (q0 := 0) rfl rfl) rfl hl.1 rfl (Nat.le_of_ble_eq_true rfl) dX1_nearestTo_38 ⟨Nat.zero_le _, Nat.zero_le _⟩ ?_
              refine pg_icmp_ge (tgt := 46) hx hb dX1_nearestTo_41 (by decide) (⟨by omega, by omega⟩) (⟨by omega, by omega⟩) (fun hc6 => ?_) (fun hc6 => ?_)
              · refine lv_iinc (v := iI (((i + 1 : Nat) : Int))) (lv' := [(3, .int (iI (((i + 1 : Nat) : Int)))), (0, .ref ((xa X 0))), (1, .int (iI (((k : Nat) : Int)))), (2, .int (iI b))]) hx hb dX1_nearestTo_46 hl (k := 3) rfl (iI_addp (by omega)) (by decide) rfl (fun ls hl => ?_)
                refine lv_goto (tgt := 4) hx hb dX1_nearestTo_49 (by decide) ?_
                exact ih1 (i + 1) b (by omega) (by rw [nr_s, ← hbb]; exact (if_neg (fun q => by obtain ⟨q1, q2, q3⟩ := q; first | omega | (rcases q3 with q3 | q3 <;> omega))).symm) (by omega) ls (lv_sub hl [1, 2, 3, 0] rfl)
              · refine lv_iload_n hx hb dX1_nearestTo_44 rfl (lv_at hl 3 rfl) ?_
                refine lv_istore_n (lv' := [(2, .int (iI (((i : Nat) : Int)))), (0, .ref ((xa X 0))), (1, .int (iI (((k : Nat) : Int)))), (3, .int (iI (((i : Nat) : Int))))]) hx hb dX1_nearestTo_45 rfl hl (by decide) rfl (fun ls hl => ?_)
                refine lv_iinc (v := iI (((i + 1 : Nat) : Int))) (lv' := [(3, .int (iI (((i + 1 : Nat) : Int)))), (2, .int (iI (((i : Nat) : Int)))), (0, .ref ((xa X 0))), (1, .int (iI (((k : Nat) : Int))))]) hx hb dX1_nearestTo_46 hl (k := 3) rfl (iI_addp (by omega)) (by decide) rfl (fun ls hl => ?_)
                refine lv_goto (tgt := 4) hx hb dX1_nearestTo_49 (by decide) ?_
                exact ih1 (i + 1) (((i : Nat) : Int)) (by omega) (by rw [nr_s, ← hbb]; exact (if_pos ⟨by omega, by omega, by first | exact Or.inl (by omega) | exact Or.inr (by omega)⟩).symm) (by omega) ls (lv_sub hl [2, 3, 1, 0] rfl)
  refine loop1 (12 + 1) 0 (-1) (by omega) (rfl) (by omega) ls (lv_sub hl [2, 3, 1, 0] rfl)
set_option maxRecDepth 100000 in
set_option maxHeartbeats 4000000 in
theorem c_X1_behind (l : Launch) (X : pgX) (S : pgS) (t : Int) (hok : pgOk S) (k : Nat) (hk : k < sN S) : pg_ro l yX1_behind wsX1_behind (rm 0 0) (mB X S t) [.ref ((xa X 0)), .int (iI (((k : Nat) : Int)))] (some (.int (iI (((sR S (nx S k) : Nat) : Int))))) := by
  refine pg_ro_of (cc := cX1_behind) (maxL := 2) (ret := (some .int)) (by decide) rfl (Nat.le_of_ble_eq_true rfl) ?_
  intro p e s m below meth c ls SC hr hlk hB hl
  obtain ⟨hx, hb, hml, hown, hts⟩ := id SC
  have hown : s.vm.findClass RX1 = some m.cls := hown
  obtain ⟨hP, hK⟩ := id hB
  have hl : lv_has ls 2 [(0, .ref ((xa X 0))), (1, .int (iI (((k : Nat) : Int))))] := hl
  have hin : ∀ w ∈ u_ws RX1 TX1 7, w ∈ wsX1_behind := by decide +kernel
  have hN : sN S ≤ 12 := hok.2.2.2.2.1
  refine lv_aload_n hx hb dX1_behind_0 rfl (lv_at hl 0 rfl) ?_
  refine va_get (D := xG X) (ci := 1) (v := .ref ((xa X 4))) (C := RX1) (T := TX1) (N := 7) hx hb hts hin hown hK hP 0 rfl rfl 4 (by decide) (hts (.fieldLink RX1 20 "PegfieldModel" "ring" "[I") (by decide +kernel)) (fun _ h9 => h9) rfl dX1_behind_1 ?_
  refine lv_iload_n hx hb dX1_behind_4 rfl (lv_at hl 1 rfl) ?_
  refine lv_iconst (v := iI 1) hx hb dX1_behind_5 rfl ?_
  refine pg_iadd (z := ((k + 1 : Nat) : Int)) hx hb dX1_behind_6 (by omega) ?_
  refine lv_aload_n hx hb dX1_behind_7 rfl (lv_at hl 0 rfl) ?_
  refine va_get (D := xG X) (ci := 1) (v := .int (iI (((sN S : Nat) : Int)))) (C := RX1) (T := TX1) (N := 7) hx hb hts hin hown hK hP 0 rfl rfl 5 (by decide) (hts (.fieldLink RX1 60 "PegfieldModel" "size" "I") (by decide +kernel)) (fun _ h9 => h9) rfl dX1_behind_8 ?_
  refine pg_icmp_ne (tgt := 18) hx hb dX1_behind_11 (by decide) (⟨by omega, by omega⟩) (⟨by omega, by omega⟩) (fun hc1 => ?_) (fun hc1 => ?_)
  · have hnx : nx S k = k + 1 := by unfold nx; rw [if_pos (by omega)]
    refine lv_iload_n hx hb dX1_behind_18 rfl (lv_at hl 1 rfl) ?_
    refine lv_iconst (v := iI 1) hx hb dX1_behind_19 rfl ?_
    refine pg_iadd (z := ((k + 1 : Nat) : Int)) hx hb dX1_behind_20 (by omega) ?_
    refine pg_iald hx hb hK hP 4 1 (f := (sR S)) rfl rfl ((k + 1)) (rfl) (by omega) (by decide) dX1_behind_21 ?_
    exact pg_iret hx hb hr hlk  (congrArg (fun z : Int => some (Value.int (iI z))) (show ((sR S (nx S k) : Nat) : Int) = (((sR S) ((k + 1)) : Nat) : Int) by rw [hnx])) dX1_behind_22
  · have hnx : nx S k = 0 := by unfold nx; rw [if_neg (by omega)]
    refine lv_iconst (v := iI 0) hx hb dX1_behind_14 rfl ?_
    refine lv_goto (tgt := 21) hx hb dX1_behind_15 (by decide) ?_
    refine pg_iald hx hb hK hP 4 1 (f := (sR S)) rfl rfl 0 (rfl) (by omega) (by decide) dX1_behind_21 ?_
    exact pg_iret hx hb hr hlk  (congrArg (fun z : Int => some (Value.int (iI z))) (show ((sR S (nx S k) : Nat) : Int) = (((sR S) 0 : Nat) : Int) by rw [hnx])) dX1_behind_22
set_option maxRecDepth 100000 in
set_option maxHeartbeats 4000000 in
theorem c_X1_around (l : Launch) (X : pgX) (S : pgS) (t : Int) (hok : pgOk S)  : pg_ro l yX1_around wsX1_around (rm 3 74) (mB X S t) [.ref ((xa X 0))] (some (.int (iI (((ar S (sN S) : Nat) : Int))))) := by
  refine pg_ro_of (cc := cX1_around) (maxL := 3) (ret := (some .int)) (by decide) rfl (Nat.le_of_ble_eq_true rfl) ?_
  intro p e s m below meth c ls SC hr hlk hB hl
  obtain ⟨hx, hb, hml, hown, hts⟩ := id SC
  have hown : s.vm.findClass RX1 = some m.cls := hown
  obtain ⟨hP, hK⟩ := id hB
  have hl : lv_has ls 3 [(0, .ref ((xa X 0)))] := hl
  have hin : ∀ w ∈ u_ws RX1 TX1 7, w ∈ wsX1_around := by decide +kernel
  have hN : sN S ≤ 12 := hok.2.2.2.2.1
  refine lv_iconst (v := iI 0) hx hb dX1_around_0 rfl ?_
  refine lv_istore_n (lv' := [(1, .int (iI 0)), (0, .ref ((xa X 0)))]) hx hb dX1_around_1 rfl hl (by decide) rfl (fun ls hl => ?_)
  refine lv_iconst (v := iI 0) hx hb dX1_around_2 rfl ?_
  refine lv_istore_n (lv' := [(2, .int (iI 0)), (1, .int (iI 0)), (0, .ref ((xa X 0)))]) hx hb dX1_around_3 rfl hl (by decide) rfl (fun ls hl => ?_)
  have loop1 : ∀ (fu : Nat) (i : Nat) (n : Nat), (i ≤ sN S) → (n = ar S i) → sN S - i < fu → ∀ ls : Array Slot, lv_has ls 3 [(0, .ref ((xa X 0))), (1, .int (iI (((n : Nat) : Int)))), (2, .int (iI (((i : Nat) : Int))))] → W p l e (rm 3 74) s m ([.ref ((xa X 0))] : List Value).toArray below meth c s.heap [] 0 0 (MQ below (pg_Q (some (.int (iI (((ar S (sN S) : Nat) : Int)))))) ([.ref ((xa X 0))] : List Value).toArray s 0 0 (fun _ => False)) (F0 m 4 ls []) := by
    intro fu
    induction fu with
    | zero => intros; omega
    | succ fu ih1 =>
      intro i n hi hn hm1 ls hl
      refine lv_iload_n hx hb dX1_around_4 rfl (lv_at hl 2 rfl) ?_
      refine lv_aload_n hx hb dX1_around_5 rfl (lv_at hl 0 rfl) ?_
      refine va_get (D := xG X) (ci := 1) (v := .int (iI (((sN S : Nat) : Int)))) (C := RX1) (T := TX1) (N := 7) hx hb hts hin hown hK hP 0 rfl rfl 5 (by decide) (hts (.fieldLink RX1 60 "PegfieldModel" "size" "I") (by decide +kernel)) (fun _ h9 => h9) rfl dX1_around_6 ?_
      refine pg_icmp_ge (tgt := 36) hx hb dX1_around_9 (by decide) (⟨by omega, by omega⟩) (⟨by omega, by omega⟩) (fun hc2 => ?_) (fun hc2 => ?_)
      · refine lv_iload_n hx hb dX1_around_36 rfl (lv_at hl 1 rfl) ?_
        exact pg_iret hx hb hr hlk  (congrArg (fun z : Int => some (Value.int (iI z))) (show ((ar S (sN S) : Nat) : Int) = ((n : Nat) : Int) by rw [hn, show i = sN S by omega])) dX1_around_37
      · have r1 := hok.2.2.2.1 i
        have r2 := hok.2.2.2.1 (nx S i)
        refine lv_iload_n hx hb dX1_around_12 rfl (lv_at hl 1 rfl) ?_
        refine lv_aload_n hx hb dX1_around_13 rfl (lv_at hl 0 rfl) ?_
        refine lv_aload_n hx hb dX1_around_14 rfl (lv_at hl 0 rfl) ?_
        refine va_get (D := xG X) (ci := 1) (v := .ref ((xa X 4))) (C := RX1) (T := TX1) (N := 7) hx hb hts hin hown hK hP 0 rfl rfl 4 (by decide) (hts (.fieldLink RX1 20 "PegfieldModel" "ring" "[I") (by decide +kernel)) (fun _ h9 => h9) rfl dX1_around_15 ?_
        refine lv_iload_n hx hb dX1_around_18 rfl (lv_at hl 2 rfl) ?_
        refine pg_iald hx hb hK hP 4 1 (f := (sR S)) rfl rfl i (rfl) (by omega) (by decide) dX1_around_19 ?_
        refine lv_aload_n hx hb dX1_around_20 rfl (lv_at hl 0 rfl) ?_
        refine lv_iload_n hx hb dX1_around_21 rfl (lv_at hl 2 rfl) ?_
        refine pg_callV (As := [.int (iI (((i : Nat) : Int)))]) (rest := [.int (iI ((((sR S) i : Nat) : Int))), .ref ((xa X 0)), .int (iI (((n : Nat) : Int)))]) SC (c_X1_behind l X S t hok i (by omega)) mB_st (mB_h hP hK) (cwV 1 hts gX1_around_X1_behind rfl rfl rfl (by decide +kernel) ⟨Nat.le_of_ble_eq_true rfl, Nat.le_of_ble_eq_true rfl⟩) (va_recv hK hP (ci := 1) (q0 := 0) rfl rfl) rfl hl.1 rfl (Nat.le_of_ble_eq_true rfl) dX1_around_22 ⟨Nat.zero_le _, Nat.zero_le _⟩ ?_
        refine pg_callV (As := [.int (iI ((((sR S) i : Nat) : Int))), .int (iI (((sR S (nx S i) : Nat) : Int)))]) (rest := [.int (iI (((n : Nat) : Int)))]) SC (c_X1_grainsOf l X S t hok (sR S i) (sR S (nx S i)) (by omega) (by omega)) mB_st (mB_h hP hK) (cwV 2 hts gX1_around_X1_grainsOf rfl rfl rfl (by decide +kernel) ⟨Nat.le_of_ble_eq_true rfl, Nat.le_of_ble_eq_true rfl⟩) (va_recv hK hP (ci := 1) (q0 := 0) rfl rfl) rfl hl.1 rfl (Nat.le_of_ble_eq_true rfl) dX1_around_25 ⟨Nat.zero_le _, Nat.zero_le _⟩ ?_
        refine pg_iadd (z := ((n + gN S (sR S i) (sR S (nx S i)) : Nat) : Int)) hx hb dX1_around_28 (by omega) ?_
        refine lv_istore_n (lv' := [(1, .int (iI (((n + gN S (sR S i) (sR S (nx S i)) : Nat) : Int)))), (0, .ref ((xa X 0))), (2, .int (iI (((i : Nat) : Int))))]) hx hb dX1_around_29 rfl hl (by decide) rfl (fun ls hl => ?_)
        refine lv_iinc (v := iI (((i + 1 : Nat) : Int))) (lv' := [(2, .int (iI (((i + 1 : Nat) : Int)))), (1, .int (iI (((n + gN S (sR S i) (sR S (nx S i)) : Nat) : Int)))), (0, .ref ((xa X 0)))]) hx hb dX1_around_30 hl (k := 2) rfl (iI_addp (by omega)) (by decide) rfl (fun ls hl => ?_)
        refine lv_goto (tgt := 4) hx hb dX1_around_33 (by decide) ?_
        exact ih1 (i + 1) (n + gN S (sR S i) (sR S (nx S i))) (by omega) (by rw [ar_s, hn]) (by omega) ls (lv_sub hl [2, 1, 0] rfl)
  refine loop1 (sN S + 1) 0 0 (by omega) (rfl) (by omega) ls (lv_sub hl [2, 1, 0] rfl)
set_option maxRecDepth 100000 in
set_option maxHeartbeats 4000000 in
theorem c_X1_doubleArea (l : Launch) (X : pgX) (S : pgS) (t : Int) (hok : pgOk S)  : pg_ro l yX1_doubleArea wsX1_doubleArea (rm 1 21) (mB X S t) [.ref ((xa X 0))] (some (.int (iI (da S (sN S))))) := by
  refine pg_ro_of (cc := cX1_doubleArea) (maxL := 3) (ret := (some .int)) (by decide) rfl (Nat.le_of_ble_eq_true rfl) ?_
  intro p e s m below meth c ls SC hr hlk hB hl
  obtain ⟨hx, hb, hml, hown, hts⟩ := id SC
  have hown : s.vm.findClass RX1 = some m.cls := hown
  obtain ⟨hP, hK⟩ := id hB
  have hl : lv_has ls 3 [(0, .ref ((xa X 0)))] := hl
  have hin : ∀ w ∈ u_ws RX1 TX1 7, w ∈ wsX1_doubleArea := by decide +kernel
  have hN : sN S ≤ 12 := hok.2.2.2.2.1
  refine lv_iconst (v := iI 0) hx hb dX1_doubleArea_0 rfl ?_
  refine lv_istore_n (lv' := [(1, .int (iI 0)), (0, .ref ((xa X 0)))]) hx hb dX1_doubleArea_1 rfl hl (by decide) rfl (fun ls hl => ?_)
  refine lv_iconst (v := iI 0) hx hb dX1_doubleArea_2 rfl ?_
  refine lv_istore_n (lv' := [(2, .int (iI 0)), (1, .int (iI 0)), (0, .ref ((xa X 0)))]) hx hb dX1_doubleArea_3 rfl hl (by decide) rfl (fun ls hl => ?_)
  have loop1 : ∀ (fu : Nat) (i : Nat) (z : Int), (i ≤ sN S) → (z = da S i) → sN S - i < fu → ∀ ls : Array Slot, lv_has ls 3 [(0, .ref ((xa X 0))), (1, .int (iI z)), (2, .int (iI (((i : Nat) : Int))))] → W p l e (rm 1 21) s m ([.ref ((xa X 0))] : List Value).toArray below meth c s.heap [] 0 0 (MQ below (pg_Q (some (.int (iI (da S (sN S)))))) ([.ref ((xa X 0))] : List Value).toArray s 0 0 (fun _ => False)) (F0 m 4 ls []) := by
    intro fu
    induction fu with
    | zero => intros; omega
    | succ fu ih1 =>
      intro i z hi hz hm1 ls hl
      refine lv_iload_n hx hb dX1_doubleArea_4 rfl (lv_at hl 2 rfl) ?_
      refine lv_aload_n hx hb dX1_doubleArea_5 rfl (lv_at hl 0 rfl) ?_
      refine va_get (D := xG X) (ci := 1) (v := .int (iI (((sN S : Nat) : Int)))) (C := RX1) (T := TX1) (N := 7) hx hb hts hin hown hK hP 0 rfl rfl 5 (by decide) (hts (.fieldLink RX1 60 "PegfieldModel" "size" "I") (by decide +kernel)) (fun _ h9 => h9) rfl dX1_doubleArea_6 ?_
      refine pg_icmp_ge (tgt := 66) hx hb dX1_doubleArea_9 (by decide) (⟨by omega, by omega⟩) (⟨by omega, by omega⟩) (fun hc2 => ?_) (fun hc2 => ?_)
      · refine lv_iload_n hx hb dX1_doubleArea_66 rfl (lv_at hl 1 rfl) ?_
        exact pg_iret hx hb hr hlk  (congrArg (fun z : Int => some (Value.int (iI z))) (show da S (sN S) = z by rw [hz, show i = sN S by omega])) dX1_doubleArea_67
      · have r1 := hok.2.2.2.1 i
        have r2 := hok.2.2.2.1 (nx S i)
        refine lv_iload_n hx hb dX1_doubleArea_12 rfl (lv_at hl 1 rfl) ?_
        refine lv_aload_n hx hb dX1_doubleArea_13 rfl (lv_at hl 0 rfl) ?_
        refine va_get (D := xG X) (ci := 1) (v := .ref ((xa X 2))) (C := RX1) (T := TX1) (N := 7) hx hb hts hin hown hK hP 0 rfl rfl 2 (by decide) (hts (.fieldLink RX1 13 "PegfieldModel" "across" "[I") (by decide +kernel)) (fun _ h9 => h9) rfl dX1_doubleArea_14 ?_
        refine lv_aload_n hx hb dX1_doubleArea_17 rfl (lv_at hl 0 rfl) ?_
        refine va_get (D := xG X) (ci := 1) (v := .ref ((xa X 4))) (C := RX1) (T := TX1) (N := 7) hx hb hts hin hown hK hP 0 rfl rfl 4 (by decide) (hts (.fieldLink RX1 20 "PegfieldModel" "ring" "[I") (by decide +kernel)) (fun _ h9 => h9) rfl dX1_doubleArea_18 ?_
        refine lv_iload_n hx hb dX1_doubleArea_21 rfl (lv_at hl 2 rfl) ?_
        refine pg_iald hx hb hK hP 4 1 (f := (sR S)) rfl rfl i (rfl) (by omega) (by decide) dX1_doubleArea_22 ?_
        refine pg_iald hx hb hK hP 2 1 (f := (sA S)) rfl rfl ((sR S i)) (rfl) (by omega) (by decide) dX1_doubleArea_23 ?_
        refine lv_aload_n hx hb dX1_doubleArea_24 rfl (lv_at hl 0 rfl) ?_
        refine va_get (D := xG X) (ci := 1) (v := .ref ((xa X 3))) (C := RX1) (T := TX1) (N := 7) hx hb hts hin hown hK hP 0 rfl rfl 3 (by decide) (hts (.fieldLink RX1 17 "PegfieldModel" "up" "[I") (by decide +kernel)) (fun _ h9 => h9) rfl dX1_doubleArea_25 ?_
        refine lv_aload_n hx hb dX1_doubleArea_28 rfl (lv_at hl 0 rfl) ?_
        refine lv_iload_n hx hb dX1_doubleArea_29 rfl (lv_at hl 2 rfl) ?_
        refine pg_callV (As := [.int (iI (((i : Nat) : Int)))]) (rest := [.ref ((xa X 3)), .int (iI ((((sA S) ((sR S i)) : Nat) : Int))), .int (iI z)]) SC (c_X1_behind l X S t hok i (by omega)) mB_st (mB_h hP hK) (cwV 1 hts gX1_doubleArea_X1_behind rfl rfl rfl (by decide +kernel) ⟨Nat.le_of_ble_eq_true rfl, Nat.le_of_ble_eq_true rfl⟩) (va_recv hK hP (ci := 1) (q0 := 0) rfl rfl) rfl hl.1 rfl (Nat.le_of_ble_eq_true rfl) dX1_doubleArea_30 ⟨Nat.zero_le _, Nat.zero_le _⟩ ?_
        refine pg_iald hx hb hK hP 3 1 (f := (sU S)) rfl rfl ((sR S (nx S i))) (rfl) (by omega) (by decide) dX1_doubleArea_33 ?_
        refine pg_imul (z := ((((sA S) ((sR S i)) : Nat) : Int)) * ((((sU S) ((sR S (nx S i))) : Nat) : Int))) hx hb dX1_doubleArea_34 (rfl) ?_
        refine lv_aload_n hx hb dX1_doubleArea_35 rfl (lv_at hl 0 rfl) ?_
        refine va_get (D := xG X) (ci := 1) (v := .ref ((xa X 2))) (C := RX1) (T := TX1) (N := 7) hx hb hts hin hown hK hP 0 rfl rfl 2 (by decide) (hts (.fieldLink RX1 13 "PegfieldModel" "across" "[I") (by decide +kernel)) (fun _ h9 => h9) rfl dX1_doubleArea_36 ?_
        refine lv_aload_n hx hb dX1_doubleArea_39 rfl (lv_at hl 0 rfl) ?_
        refine lv_iload_n hx hb dX1_doubleArea_40 rfl (lv_at hl 2 rfl) ?_
        refine pg_callV (As := [.int (iI (((i : Nat) : Int)))]) (rest := [.ref ((xa X 2)), .int (iI (((((sA S) ((sR S i)) : Nat) : Int)) * ((((sU S) ((sR S (nx S i))) : Nat) : Int)))), .int (iI z)]) SC (c_X1_behind l X S t hok i (by omega)) mB_st (mB_h hP hK) (cwV 1 hts gX1_doubleArea_X1_behind rfl rfl rfl (by decide +kernel) ⟨Nat.le_of_ble_eq_true rfl, Nat.le_of_ble_eq_true rfl⟩) (va_recv hK hP (ci := 1) (q0 := 0) rfl rfl) rfl hl.1 rfl (Nat.le_of_ble_eq_true rfl) dX1_doubleArea_41 ⟨Nat.zero_le _, Nat.zero_le _⟩ ?_
        refine pg_iald hx hb hK hP 2 1 (f := (sA S)) rfl rfl ((sR S (nx S i))) (rfl) (by omega) (by decide) dX1_doubleArea_44 ?_
        refine lv_aload_n hx hb dX1_doubleArea_45 rfl (lv_at hl 0 rfl) ?_
        refine va_get (D := xG X) (ci := 1) (v := .ref ((xa X 3))) (C := RX1) (T := TX1) (N := 7) hx hb hts hin hown hK hP 0 rfl rfl 3 (by decide) (hts (.fieldLink RX1 17 "PegfieldModel" "up" "[I") (by decide +kernel)) (fun _ h9 => h9) rfl dX1_doubleArea_46 ?_
        refine lv_aload_n hx hb dX1_doubleArea_49 rfl (lv_at hl 0 rfl) ?_
        refine va_get (D := xG X) (ci := 1) (v := .ref ((xa X 4))) (C := RX1) (T := TX1) (N := 7) hx hb hts hin hown hK hP 0 rfl rfl 4 (by decide) (hts (.fieldLink RX1 20 "PegfieldModel" "ring" "[I") (by decide +kernel)) (fun _ h9 => h9) rfl dX1_doubleArea_50 ?_
        refine lv_iload_n hx hb dX1_doubleArea_53 rfl (lv_at hl 2 rfl) ?_
        refine pg_iald hx hb hK hP 4 1 (f := (sR S)) rfl rfl i (rfl) (by omega) (by decide) dX1_doubleArea_54 ?_
        refine pg_iald hx hb hK hP 3 1 (f := (sU S)) rfl rfl ((sR S i)) (rfl) (by omega) (by decide) dX1_doubleArea_55 ?_
        refine pg_imul (z := ((((sA S) ((sR S (nx S i))) : Nat) : Int)) * ((((sU S) ((sR S i)) : Nat) : Int))) hx hb dX1_doubleArea_56 (rfl) ?_
        refine pg_isub (z := daT S i) hx hb dX1_doubleArea_57 (rfl) ?_
        refine pg_iadd (z := z + (daT S i)) hx hb dX1_doubleArea_58 (rfl) ?_
        refine lv_istore_n (lv' := [(1, .int (iI (z + (daT S i)))), (0, .ref ((xa X 0))), (2, .int (iI (((i : Nat) : Int))))]) hx hb dX1_doubleArea_59 rfl hl (by decide) rfl (fun ls hl => ?_)
        refine lv_iinc (v := iI (((i + 1 : Nat) : Int))) (lv' := [(2, .int (iI (((i + 1 : Nat) : Int)))), (1, .int (iI (z + (daT S i)))), (0, .ref ((xa X 0)))]) hx hb dX1_doubleArea_60 hl (k := 2) rfl (iI_addp (by omega)) (by decide) rfl (fun ls hl => ?_)
        refine lv_goto (tgt := 4) hx hb dX1_doubleArea_63 (by decide) ?_
        exact ih1 (i + 1) (z + daT S i) (by omega) (by rw [da_s, hz]) (by omega) ls (lv_sub hl [2, 1, 0] rfl)
  refine loop1 (sN S + 1) 0 0 (by omega) (rfl) (by omega) ls (lv_sub hl [2, 1, 0] rfl)
set_option maxRecDepth 100000 in
set_option maxHeartbeats 4000000 in
theorem c_X1_checksum (l : Launch) (X : pgX) (S : pgS) (t : Int) (hok : pgOk S)  : pg_ro l yX1_checksum wsX1_checksum (rm 4 97) (mB X S t) [.ref ((xa X 0))] (some (.long (lI (csum S)))) := by
  refine pg_ro_of (cc := cX1_checksum) (maxL := 4) (ret := (some .long)) (by decide) rfl (Nat.le_of_ble_eq_true rfl) ?_
  intro p e s m below meth c ls SC hr hlk hB hl
  obtain ⟨hx, hb, hml, hown, hts⟩ := id SC
  have hown : s.vm.findClass RX1 = some m.cls := hown
  obtain ⟨hP, hK⟩ := id hB
  have hl : lv_has ls 4 [(0, .ref ((xa X 0)))] := hl
  have hin : ∀ w ∈ u_ws RX1 TX1 7, w ∈ wsX1_checksum := by decide +kernel
  have hN : sN S ≤ 12 := hok.2.2.2.2.1
  have hW : sW S ≤ 1 := hok.2.2.2.2.2
  have har := ar_le hok (sN S)
  refine lv_ldc2 hx hb hown (hts (.constantLong RX1 116 7) (by decide +kernel)) dX1_checksum_0 (pg_tl (y := lI 7) (by decide +kernel) ?_)
  refine lv_lstore_n (lv' := [(1, .long (lI 7)), (0, .ref ((xa X 0)))]) hx hb dX1_checksum_3 rfl hl (by decide) rfl (fun ls hl => ?_)
  refine lv_iconst (v := iI 0) hx hb dX1_checksum_4 rfl ?_
  refine lv_istore_n (lv' := [(3, .int (iI 0)), (1, .long (lI 7)), (0, .ref ((xa X 0)))]) hx hb dX1_checksum_5 rfl hl (by decide) rfl (fun ls hl => ?_)
  have loop1 : ∀ (fu : Nat) (i : Nat) (z : Int), (i ≤ 12) → (z = cs1 S i) → 12 - i < fu → ∀ ls : Array Slot, lv_has ls 4 [(0, .ref ((xa X 0))), (1, .long (lI z)), (3, .int (iI (((i : Nat) : Int))))] → W p l e (rm 4 97) s m ([.ref ((xa X 0))] : List Value).toArray below meth c s.heap [] 0 0 (MQ below (pg_Q (some (.long (lI (csum S))))) ([.ref ((xa X 0))] : List Value).toArray s 0 0 (fun _ => False)) (F0 m 6 ls []) := by
    intro fu
    induction fu with
    | zero => intros; omega
    | succ fu ih1 =>
      intro i z hi hz hm1 ls hl
      refine lv_iload_n hx hb dX1_checksum_6 rfl (lv_at hl 2 rfl) ?_
      refine lv_bipush (v := iI 12) hx hb dX1_checksum_7 (by decide +kernel) ?_
      refine pg_icmp_ge (tgt := 64) hx hb dX1_checksum_9 (by decide) (⟨by omega, by omega⟩) (⟨by omega, by omega⟩) (fun hc2 => ?_) (fun hc2 => ?_)
      · refine lv_iconst (v := iI 0) hx hb dX1_checksum_64 rfl ?_
        refine lv_istore_n (lv' := [(3, .int (iI 0)), (0, .ref ((xa X 0))), (1, .long (lI z))]) hx hb dX1_checksum_65 rfl hl (by decide) rfl (fun ls hl => ?_)
        have loop3 : ∀ (fu : Nat) (j : Nat) (z2 : Int), (j ≤ sN S) → (z2 = cs2 S j) → sN S - j < fu → ∀ ls : Array Slot, lv_has ls 4 [(0, .ref ((xa X 0))), (1, .long (lI z2)), (3, .int (iI (((j : Nat) : Int))))] → W p l e (rm 4 97) s m ([.ref ((xa X 0))] : List Value).toArray below meth c s.heap [] 0 0 (MQ below (pg_Q (some (.long (lI (csum S))))) ([.ref ((xa X 0))] : List Value).toArray s 0 0 (fun _ => False)) (F0 m 66 ls []) := by
          intro fu
          induction fu with
          | zero => intros; omega
          | succ fu ih3 =>
            intro j z2 hj hz2 hm3 ls hl
            refine lv_iload_n hx hb dX1_checksum_66 rfl (lv_at hl 2 rfl) ?_
            refine lv_aload_n hx hb dX1_checksum_67 rfl (lv_at hl 0 rfl) ?_
            refine va_get (D := xG X) (ci := 1) (v := .int (iI (((sN S : Nat) : Int)))) (C := RX1) (T := TX1) (N := 7) hx hb hts hin hown hK hP 0 rfl rfl 5 (by decide) (hts (.fieldLink RX1 60 "PegfieldModel" "size" "I") (by decide +kernel)) (fun _ h9 => h9) rfl dX1_checksum_68 ?_
            refine pg_icmp_ge (tgt := 94) hx hb dX1_checksum_71 (by decide) (⟨by omega, by omega⟩) (⟨by omega, by omega⟩) (fun hc4 => ?_) (fun hc4 => ?_)
            · refine lv_ldc2 hx hb hown (hts (.constantLong RX1 118 31) (by decide +kernel)) dX1_checksum_94 (pg_tl (y := lI 31) (by decide +kernel) ?_)
              refine lv_lload_n hx hb dX1_checksum_97 rfl (lv_at hl 1 rfl) ?_
              refine pg_lmul (z := 31 * z2) hx hb dX1_checksum_98 (rfl) ?_
              refine lv_aload_n hx hb dX1_checksum_99 rfl (lv_at hl 0 rfl) ?_
              refine pg_callV (As := []) (rest := [.long (lI (31 * z2))]) SC (c_X1_around l X S t hok) mB_st (mB_h hP hK) (cwV 0 hts gX1_checksum_X1_around rfl rfl rfl (by decide +kernel) ⟨Nat.le_of_ble_eq_true rfl, Nat.le_of_ble_eq_true rfl⟩) (va_recv hK hP (ci := 1) (q0 := 0) rfl rfl) rfl hl.1 rfl (Nat.le_of_ble_eq_true rfl) dX1_checksum_100 ⟨Nat.zero_le _, Nat.zero_le _⟩ ?_
              refine pg_i2l hx hb dX1_checksum_103 (⟨by omega, by omega⟩) ?_
              refine pg_ladd (z := (31 * z2) + (((ar S (sN S) : Nat) : Int))) hx hb dX1_checksum_104 (rfl) ?_
              refine lv_lstore_n (lv' := [(1, .long (lI ((31 * z2) + (((ar S (sN S) : Nat) : Int))))), (0, .ref ((xa X 0))), (3, .int (iI (((j : Nat) : Int))))]) hx hb dX1_checksum_105 rfl hl (by decide) rfl (fun ls hl => ?_)
              refine lv_ldc2 hx hb hown (hts (.constantLong RX1 118 31) (by decide +kernel)) dX1_checksum_106 (pg_tl (y := lI 31) (by decide +kernel) ?_)
              refine lv_lload_n hx hb dX1_checksum_109 rfl (lv_at hl 0 rfl) ?_
              refine pg_lmul (z := 31 * ((31 * z2) + (((ar S (sN S) : Nat) : Int)))) hx hb dX1_checksum_110 (rfl) ?_
              refine lv_aload_n hx hb dX1_checksum_111 rfl (lv_at hl 1 rfl) ?_
              refine va_get (D := xG X) (ci := 1) (v := .int (iI (((sW S : Nat) : Int)))) (C := RX1) (T := TX1) (N := 7) hx hb hts hin hown hK hP 0 rfl rfl 6 (by decide) (hts (.fieldLink RX1 72 "PegfieldModel" "isWide" "Z") (by decide +kernel)) (fun _ h9 => h9) rfl dX1_checksum_112 ?_
              refine pg_if_eq (tgt := 122) hx hb dX1_checksum_115 (by decide) (⟨by omega, by omega⟩) (fun hc5 => ?_) (fun hc5 => ?_)
              · refine lv_iconst (v := iI 0) hx hb dX1_checksum_122 rfl ?_
                refine pg_i2l hx hb dX1_checksum_123 (⟨by omega, by omega⟩) ?_
                refine pg_ladd (z := (31 * ((31 * z2) + (((ar S (sN S) : Nat) : Int)))) + 0) hx hb dX1_checksum_124 (rfl) ?_
                exact pg_lret hx hb hr hlk  (congrArg (fun z : Int => some (Value.long (lI z))) (show csum S = (31 * ((31 * z2) + (((ar S (sN S) : Nat) : Int)))) + 0 by unfold csum; rw [hz2, show j = sN S by omega]; omega)) dX1_checksum_125
              · refine lv_iconst (v := iI 1) hx hb dX1_checksum_118 rfl ?_
                refine lv_goto (tgt := 123) hx hb dX1_checksum_119 (by decide) ?_
                refine pg_i2l hx hb dX1_checksum_123 (⟨by omega, by omega⟩) ?_
                refine pg_ladd (z := (31 * ((31 * z2) + (((ar S (sN S) : Nat) : Int)))) + 1) hx hb dX1_checksum_124 (rfl) ?_
                exact pg_lret hx hb hr hlk  (congrArg (fun z : Int => some (Value.long (lI z))) (show csum S = (31 * ((31 * z2) + (((ar S (sN S) : Nat) : Int)))) + 1 by unfold csum; rw [hz2, show j = sN S by omega]; omega)) dX1_checksum_125
            · refine lv_ldc2 hx hb hown (hts (.constantLong RX1 118 31) (by decide +kernel)) dX1_checksum_74 (pg_tl (y := lI 31) (by decide +kernel) ?_)
              refine lv_lload_n hx hb dX1_checksum_77 rfl (lv_at hl 1 rfl) ?_
              refine pg_lmul (z := 31 * z2) hx hb dX1_checksum_78 (rfl) ?_
              have r1 := hok.2.2.2.1 j
              refine lv_aload_n hx hb dX1_checksum_79 rfl (lv_at hl 0 rfl) ?_
              refine va_get (D := xG X) (ci := 1) (v := .ref ((xa X 4))) (C := RX1) (T := TX1) (N := 7) hx hb hts hin hown hK hP 0 rfl rfl 4 (by decide) (hts (.fieldLink RX1 20 "PegfieldModel" "ring" "[I") (by decide +kernel)) (fun _ h9 => h9) rfl dX1_checksum_80 ?_
              refine lv_iload_n hx hb dX1_checksum_83 rfl (lv_at hl 2 rfl) ?_
              refine pg_iald hx hb hK hP 4 1 (f := (sR S)) rfl rfl j (rfl) (by omega) (by decide) dX1_checksum_84 ?_
              refine pg_i2l hx hb dX1_checksum_85 (⟨by omega, by omega⟩) ?_
              refine pg_ladd (z := (31 * z2) + ((((sR S) j : Nat) : Int))) hx hb dX1_checksum_86 (rfl) ?_
              refine lv_lstore_n (lv' := [(1, .long (lI ((31 * z2) + ((((sR S) j : Nat) : Int))))), (0, .ref ((xa X 0))), (3, .int (iI (((j : Nat) : Int))))]) hx hb dX1_checksum_87 rfl hl (by decide) rfl (fun ls hl => ?_)
              refine lv_iinc (v := iI (((j + 1 : Nat) : Int))) (lv' := [(3, .int (iI (((j + 1 : Nat) : Int)))), (1, .long (lI ((31 * z2) + ((((sR S) j : Nat) : Int))))), (0, .ref ((xa X 0)))]) hx hb dX1_checksum_88 hl (k := 2) rfl (iI_addp (by omega)) (by decide) rfl (fun ls hl => ?_)
              refine lv_goto (tgt := 66) hx hb dX1_checksum_91 (by decide) ?_
              exact ih3 (j + 1) ((31 * z2) + ((((sR S) j : Nat) : Int))) (by omega) (by rw [cs2_s, ← hz2]) (by omega) ls (lv_sub hl [2, 1, 0] rfl)
        refine loop3 (sN S + 1) 0 z (by omega) (by rw [hz, show i = 12 by omega]; rfl) (by omega) ls (lv_sub hl [1, 2, 0] rfl)
      · have h1 := hok.1 i
        have h2 := hok.2.1 i
        have h3 := hok.2.2.1 i
        have h4 := nr_b S i 12
        refine lv_aload_n hx hb dX1_checksum_12 rfl (lv_at hl 0 rfl) ?_
        refine va_get (D := xG X) (ci := 1) (v := .ref ((xa X 1))) (C := RX1) (T := TX1) (N := 7) hx hb hts hin hown hK hP 0 rfl rfl 1 (by decide) (hts (.fieldLink RX1 7 "PegfieldModel" "stands" "[Z") (by decide +kernel)) (fun _ h9 => h9) rfl dX1_checksum_13 ?_
        refine lv_iload_n hx hb dX1_checksum_16 rfl (lv_at hl 2 rfl) ?_
        refine pg_zald hx hb hK hP 1 0 (f := (sS S)) rfl rfl i (rfl) (by omega) (by decide) dX1_checksum_17 ?_
        refine pg_if_eq (tgt := 58) hx hb dX1_checksum_18 (by decide) (⟨by omega, by omega⟩) (fun hc6 => ?_) (fun hc6 => ?_)
        · refine lv_iinc (v := iI (((i + 1 : Nat) : Int))) (lv' := [(3, .int (iI (((i + 1 : Nat) : Int)))), (0, .ref ((xa X 0))), (1, .long (lI z))]) hx hb dX1_checksum_58 hl (k := 2) rfl (iI_addp (by omega)) (by decide) rfl (fun ls hl => ?_)
          refine lv_goto (tgt := 6) hx hb dX1_checksum_61 (by decide) ?_
          exact ih1 (i + 1) z (by omega) (by rw [cs1_n (by omega), hz]) (by omega) ls (lv_sub hl [1, 2, 0] rfl)
        · refine lv_ldc2 hx hb hown (hts (.constantLong RX1 118 31) (by decide +kernel)) dX1_checksum_21 (pg_tl (y := lI 31) (by decide +kernel) ?_)
          refine lv_lload_n hx hb dX1_checksum_24 rfl (lv_at hl 1 rfl) ?_
          refine pg_lmul (z := 31 * z) hx hb dX1_checksum_25 (rfl) ?_
          refine lv_iload_n hx hb dX1_checksum_26 rfl (lv_at hl 2 rfl) ?_
          refine pg_i2l hx hb dX1_checksum_27 (⟨by omega, by omega⟩) ?_
          refine pg_ladd (z := (31 * z) + (((i : Nat) : Int))) hx hb dX1_checksum_28 (rfl) ?_
          refine lv_lconst (v := lI 1) hx hb dX1_checksum_29 rfl ?_
          refine pg_ladd (z := ((31 * z) + (((i : Nat) : Int))) + 1) hx hb dX1_checksum_30 (rfl) ?_
          refine lv_lstore_n (lv' := [(1, .long (lI (((31 * z) + (((i : Nat) : Int))) + 1))), (0, .ref ((xa X 0))), (3, .int (iI (((i : Nat) : Int))))]) hx hb dX1_checksum_31 rfl hl (by decide) rfl (fun ls hl => ?_)
          refine lv_ldc2 hx hb hown (hts (.constantLong RX1 118 31) (by decide +kernel)) dX1_checksum_32 (pg_tl (y := lI 31) (by decide +kernel) ?_)
          refine lv_lload_n hx hb dX1_checksum_35 rfl (lv_at hl 0 rfl) ?_
          refine pg_lmul (z := 31 * (((31 * z) + (((i : Nat) : Int))) + 1)) hx hb dX1_checksum_36 (rfl) ?_
          refine lv_aload_n hx hb dX1_checksum_37 rfl (lv_at hl 1 rfl) ?_
          refine lv_iload_n hx hb dX1_checksum_38 rfl (lv_at hl 2 rfl) ?_
          refine pg_callV (As := [.int (iI (((i : Nat) : Int)))]) (rest := [.long (lI (31 * (((31 * z) + (((i : Nat) : Int))) + 1)))]) SC (c_X1_placed l X S t i (by omega)) mB_st (mB_h hP hK) (cwV 1 hts gX1_checksum_X1_placed rfl rfl rfl (by decide +kernel) ⟨Nat.le_of_ble_eq_true rfl, Nat.le_of_ble_eq_true rfl⟩) (va_recv hK hP (ci := 1) (q0 := 0) rfl rfl) rfl hl.1 rfl (Nat.le_of_ble_eq_true rfl) dX1_checksum_39 ⟨Nat.zero_le _, Nat.zero_le _⟩ ?_
          refine pg_i2l hx hb dX1_checksum_42 (⟨by omega, by omega⟩) ?_
          refine pg_ladd (z := (31 * (((31 * z) + (((i : Nat) : Int))) + 1)) + (((sU S i * 91 + sA S i : Nat) : Int))) hx hb dX1_checksum_43 (rfl) ?_
          refine lv_lstore_n (lv' := [(1, .long (lI ((31 * (((31 * z) + (((i : Nat) : Int))) + 1)) + (((sU S i * 91 + sA S i : Nat) : Int))))), (0, .ref ((xa X 0))), (3, .int (iI (((i : Nat) : Int))))]) hx hb dX1_checksum_44 rfl hl (by decide) rfl (fun ls hl => ?_)
          refine lv_ldc2 hx hb hown (hts (.constantLong RX1 118 31) (by decide +kernel)) dX1_checksum_45 (pg_tl (y := lI 31) (by decide +kernel) ?_)
          refine lv_lload_n hx hb dX1_checksum_48 rfl (lv_at hl 0 rfl) ?_
          refine pg_lmul (z := 31 * ((31 * (((31 * z) + (((i : Nat) : Int))) + 1)) + (((sU S i * 91 + sA S i : Nat) : Int)))) hx hb dX1_checksum_49 (rfl) ?_
          refine lv_aload_n hx hb dX1_checksum_50 rfl (lv_at hl 1 rfl) ?_
          refine lv_iload_n hx hb dX1_checksum_51 rfl (lv_at hl 2 rfl) ?_
          refine pg_callV (As := [.int (iI (((i : Nat) : Int)))]) (rest := [.long (lI (31 * ((31 * (((31 * z) + (((i : Nat) : Int))) + 1)) + (((sU S i * 91 + sA S i : Nat) : Int)))))]) SC (c_X1_nearestTo l X S t hok i (by omega)) mB_st (mB_h hP hK) (cwV 1 hts gX1_checksum_X1_nearestTo rfl rfl rfl (by decide +kernel) ⟨Nat.le_of_ble_eq_true rfl, Nat.le_of_ble_eq_true rfl⟩) (va_recv hK hP (ci := 1) (q0 := 0) rfl rfl) rfl hl.1 rfl (Nat.le_of_ble_eq_true rfl) dX1_checksum_52 ⟨Nat.zero_le _, Nat.zero_le _⟩ ?_
          refine pg_i2l hx hb dX1_checksum_55 (⟨by omega, by omega⟩) ?_
          refine pg_ladd (z := (31 * ((31 * (((31 * z) + (((i : Nat) : Int))) + 1)) + (((sU S i * 91 + sA S i : Nat) : Int)))) + (nr S i 12)) hx hb dX1_checksum_56 (rfl) ?_
          refine lv_lstore_n (lv' := [(1, .long (lI ((31 * ((31 * (((31 * z) + (((i : Nat) : Int))) + 1)) + (((sU S i * 91 + sA S i : Nat) : Int)))) + (nr S i 12)))), (0, .ref ((xa X 0))), (3, .int (iI (((i : Nat) : Int))))]) hx hb dX1_checksum_57 rfl hl (by decide) rfl (fun ls hl => ?_)
          refine lv_iinc (v := iI (((i + 1 : Nat) : Int))) (lv' := [(3, .int (iI (((i + 1 : Nat) : Int)))), (1, .long (lI ((31 * ((31 * (((31 * z) + (((i : Nat) : Int))) + 1)) + (((sU S i * 91 + sA S i : Nat) : Int)))) + (nr S i 12)))), (0, .ref ((xa X 0)))]) hx hb dX1_checksum_58 hl (k := 2) rfl (iI_addp (by omega)) (by decide) rfl (fun ls hl => ?_)
          refine lv_goto (tgt := 6) hx hb dX1_checksum_61 (by decide) ?_
          exact ih1 (i + 1) ((31 * ((31 * (((31 * z) + (((i : Nat) : Int))) + 1)) + (((sU S i * 91 + sA S i : Nat) : Int)))) + (nr S i 12)) (by omega) (by rw [cs1_y (by omega)]; omega) (by omega) ls (lv_sub hl [2, 1, 0] rfl)
  refine loop1 (12 + 1) 0 7 (by omega) (rfl) (by omega) ls (lv_sub hl [2, 1, 0] rfl)
set_option maxRecDepth 100000 in
set_option maxHeartbeats 4000000 in
theorem c_X1_isSound (l : Launch) (X : pgX) (S : pgS) (t : Int) (hok : pgOk S)  : pg_ro l yX1_isSound wsX1_isSound (rm 4 97) (mB X S t) [.ref ((xa X 0))] (some (.int (iI 1))) := by
  refine pg_ro_of (cc := cX1_isSound) (maxL := 5) (ret := (some .boolean)) (by decide) rfl (Nat.le_of_ble_eq_true rfl) ?_
  intro p e s m below meth c ls SC hr hlk hB hl
  obtain ⟨hx, hb, hml, hown, hts⟩ := id SC
  have hown : s.vm.findClass RX1 = some m.cls := hown
  obtain ⟨hP, hK⟩ := id hB
  have hl : lv_has ls 5 [(0, .ref ((xa X 0)))] := hl
  have hin : ∀ w ∈ u_ws RX1 TX1 7, w ∈ wsX1_isSound := by decide +kernel
  refine lv_iconst (v := iI 1) hx hb dX1_isSound_0 rfl ?_
  refine lv_istore_n (lv' := [(1, .int (iI 1)), (0, .ref ((xa X 0)))]) hx hb dX1_isSound_1 rfl hl (by decide) rfl (fun ls hl => ?_)
  refine lv_iconst (v := iI 0) hx hb dX1_isSound_2 rfl ?_
  refine lv_istore_n (lv' := [(2, .int (iI 0)), (1, .int (iI 1)), (0, .ref ((xa X 0)))]) hx hb dX1_isSound_3 rfl hl (by decide) rfl (fun ls hl => ?_)
  have loop1 : ∀ (fu : Nat) (i : Nat), (i ≤ 12) → 12 - i < fu → ∀ ls : Array Slot, lv_has ls 5 [(0, .ref ((xa X 0))), (1, .int (iI 1)), (2, .int (iI (((i : Nat) : Int))))] → W p l e (rm 4 97) s m ([.ref ((xa X 0))] : List Value).toArray below meth c s.heap [] 0 0 (MQ below (pg_Q (some (.int (iI 1)))) ([.ref ((xa X 0))] : List Value).toArray s 0 0 (fun _ => False)) (F0 m 4 ls []) := by
    intro fu
    induction fu with
    | zero => intros; omega
    | succ fu ih1 =>
      intro i hi hm1 ls hl
      refine lv_iload_n hx hb dX1_isSound_4 rfl (lv_at hl 2 rfl) ?_
      refine lv_bipush (v := iI 12) hx hb dX1_isSound_5 (by decide +kernel) ?_
      refine pg_icmp_ge (tgt := 95) hx hb dX1_isSound_7 (by decide) (⟨by omega, by omega⟩) (⟨by omega, by omega⟩) (fun hc2 => ?_) (fun hc2 => ?_)
      · refine lv_iload_n hx hb dX1_isSound_95 rfl (lv_at hl 1 rfl) ?_
        exact pg_zret hx hb hr hlk  (iI_bool (by omega)) (congrArg (fun z : Int => some (Value.int (iI z))) (show 1 = 1 by omega)) dX1_isSound_96
      · refine lv_iconst (v := iI 0) hx hb dX1_isSound_10 rfl ?_
        refine lv_istore_n (lv' := [(3, .int (iI 0)), (0, .ref ((xa X 0))), (1, .int (iI 1)), (2, .int (iI (((i : Nat) : Int))))]) hx hb dX1_isSound_11 rfl hl (by decide) rfl (fun ls hl => ?_)
        have loop3 : ∀ (fu : Nat) (j : Nat), (j ≤ 12) → 12 - j < fu → ∀ ls : Array Slot, lv_has ls 5 [(0, .ref ((xa X 0))), (1, .int (iI 1)), (2, .int (iI (((i : Nat) : Int)))), (3, .int (iI (((j : Nat) : Int))))] → W p l e (rm 4 97) s m ([.ref ((xa X 0))] : List Value).toArray below meth c s.heap [] 0 0 (MQ below (pg_Q (some (.int (iI 1)))) ([.ref ((xa X 0))] : List Value).toArray s 0 0 (fun _ => False)) (F0 m 12 ls []) := by
          intro fu
          induction fu with
          | zero => intros; omega
          | succ fu ih3 =>
            intro j hj hm3 ls hl
            refine lv_iload_n hx hb dX1_isSound_12 rfl (lv_at hl 3 rfl) ?_
            refine lv_bipush (v := iI 12) hx hb dX1_isSound_13 (by decide +kernel) ?_
            refine pg_icmp_ge (tgt := 89) hx hb dX1_isSound_15 (by decide) (⟨by omega, by omega⟩) (⟨by omega, by omega⟩) (fun hc4 => ?_) (fun hc4 => ?_)
            · refine lv_iinc (v := iI (((i + 1 : Nat) : Int))) (lv' := [(2, .int (iI (((i + 1 : Nat) : Int)))), (0, .ref ((xa X 0))), (1, .int (iI 1)), (3, .int (iI (((j : Nat) : Int))))]) hx hb dX1_isSound_89 hl (k := 2) rfl (iI_addp (by omega)) (by decide) rfl (fun ls hl => ?_)
              refine lv_goto (tgt := 4) hx hb dX1_isSound_92 (by decide) ?_
              exact ih1 (i + 1) (by omega) (by omega) ls (lv_sub hl [1, 2, 0] rfl)
            · refine lv_iconst (v := iI 0) hx hb dX1_isSound_18 rfl ?_
              refine lv_istore (lv' := [(4, .int (iI 0)), (0, .ref ((xa X 0))), (1, .int (iI 1)), (2, .int (iI (((i : Nat) : Int)))), (3, .int (iI (((j : Nat) : Int))))]) hx hb dX1_isSound_19 hl (by decide) rfl (fun ls hl => ?_)
              have loop5 : ∀ (fu : Nat) (k : Nat), (k ≤ 12) → 12 - k < fu → ∀ ls : Array Slot, lv_has ls 5 [(0, .ref ((xa X 0))), (1, .int (iI 1)), (2, .int (iI (((i : Nat) : Int)))), (3, .int (iI (((j : Nat) : Int)))), (4, .int (iI (((k : Nat) : Int))))] → W p l e (rm 4 97) s m ([.ref ((xa X 0))] : List Value).toArray below meth c s.heap [] 0 0 (MQ below (pg_Q (some (.int (iI 1)))) ([.ref ((xa X 0))] : List Value).toArray s 0 0 (fun _ => False)) (F0 m 21 ls []) := by
                intro fu
                induction fu with
                | zero => intros; omega
                | succ fu ih5 =>
                  intro k hk hm5 ls hl
                  refine lv_iload hx hb dX1_isSound_21 (lv_at hl 4 rfl) ?_
                  refine lv_bipush (v := iI 12) hx hb dX1_isSound_23 (by decide +kernel) ?_
                  refine pg_icmp_ge (tgt := 83) hx hb dX1_isSound_25 (by decide) (⟨by omega, by omega⟩) (⟨by omega, by omega⟩) (fun hc6 => ?_) (fun hc6 => ?_)
                  · refine lv_iinc (v := iI (((j + 1 : Nat) : Int))) (lv' := [(3, .int (iI (((j + 1 : Nat) : Int)))), (0, .ref ((xa X 0))), (1, .int (iI 1)), (2, .int (iI (((i : Nat) : Int)))), (4, .int (iI (((k : Nat) : Int))))]) hx hb dX1_isSound_83 hl (k := 3) rfl (iI_addp (by omega)) (by decide) rfl (fun ls hl => ?_)
                    refine lv_goto (tgt := 12) hx hb dX1_isSound_86 (by decide) ?_
                    exact ih3 (j + 1) (by omega) (by omega) ls (lv_sub hl [1, 2, 3, 0] rfl)
                  · refine lv_iload_n hx hb dX1_isSound_28 rfl (lv_at hl 1 rfl) ?_
                    refine pg_if_eq (tgt := 75) hx hb dX1_isSound_29 (by decide) (⟨by omega, by omega⟩) (fun hc7 => absurd hc7 (by omega)) (fun hc7 => ?_)
                    have h1 := hok.1 i
                    have h2 := hok.1 j
                    have h3 := hok.1 k
                    refine lv_aload_n hx hb dX1_isSound_32 rfl (lv_at hl 0 rfl) ?_
                    refine va_get (D := xG X) (ci := 1) (v := .ref ((xa X 1))) (C := RX1) (T := TX1) (N := 7) hx hb hts hin hown hK hP 0 rfl rfl 1 (by decide) (hts (.fieldLink RX1 7 "PegfieldModel" "stands" "[Z") (by decide +kernel)) (fun _ h9 => h9) rfl dX1_isSound_33 ?_
                    refine lv_iload_n hx hb dX1_isSound_36 rfl (lv_at hl 2 rfl) ?_
                    refine pg_zald hx hb hK hP 1 0 (f := (sS S)) rfl rfl i (rfl) (by omega) (by decide) dX1_isSound_37 ?_
                    refine pg_if_eq (tgt := 71) hx hb dX1_isSound_38 (by decide) (⟨by omega, by omega⟩) (fun hc8 => ?_) (fun hc8 => ?_)
                    · refine lv_iconst (v := iI 1) hx hb dX1_isSound_71 rfl ?_
                      refine lv_goto (tgt := 76) hx hb dX1_isSound_72 (by decide) ?_
                      refine lv_istore_n (lv' := [(1, .int (iI 1)), (0, .ref ((xa X 0))), (2, .int (iI (((i : Nat) : Int)))), (3, .int (iI (((j : Nat) : Int)))), (4, .int (iI (((k : Nat) : Int))))]) hx hb dX1_isSound_76 rfl hl (by decide) rfl (fun ls hl => ?_)
                      refine lv_iinc (v := iI (((k + 1 : Nat) : Int))) (lv' := [(4, .int (iI (((k + 1 : Nat) : Int)))), (1, .int (iI 1)), (0, .ref ((xa X 0))), (2, .int (iI (((i : Nat) : Int)))), (3, .int (iI (((j : Nat) : Int))))]) hx hb dX1_isSound_77 hl (k := 4) rfl (iI_addp (by omega)) (by decide) rfl (fun ls hl => ?_)
                      refine lv_goto (tgt := 21) hx hb dX1_isSound_80 (by decide) ?_
                      exact ih5 (k + 1) (by omega) (by omega) ls (lv_sub hl [2, 1, 3, 4, 0] rfl)
                    · refine lv_aload_n hx hb dX1_isSound_41 rfl (lv_at hl 0 rfl) ?_
                      refine va_get (D := xG X) (ci := 1) (v := .ref ((xa X 1))) (C := RX1) (T := TX1) (N := 7) hx hb hts hin hown hK hP 0 rfl rfl 1 (by decide) (hts (.fieldLink RX1 7 "PegfieldModel" "stands" "[Z") (by decide +kernel)) (fun _ h9 => h9) rfl dX1_isSound_42 ?_
                      refine lv_iload_n hx hb dX1_isSound_45 rfl (lv_at hl 3 rfl) ?_
                      refine pg_zald hx hb hK hP 1 0 (f := (sS S)) rfl rfl j (rfl) (by omega) (by decide) dX1_isSound_46 ?_
                      refine pg_if_eq (tgt := 71) hx hb dX1_isSound_47 (by decide) (⟨by omega, by omega⟩) (fun hc9 => ?_) (fun hc9 => ?_)
                      · refine lv_iconst (v := iI 1) hx hb dX1_isSound_71 rfl ?_
                        refine lv_goto (tgt := 76) hx hb dX1_isSound_72 (by decide) ?_
                        refine lv_istore_n (lv' := [(1, .int (iI 1)), (0, .ref ((xa X 0))), (2, .int (iI (((i : Nat) : Int)))), (3, .int (iI (((j : Nat) : Int)))), (4, .int (iI (((k : Nat) : Int))))]) hx hb dX1_isSound_76 rfl hl (by decide) rfl (fun ls hl => ?_)
                        refine lv_iinc (v := iI (((k + 1 : Nat) : Int))) (lv' := [(4, .int (iI (((k + 1 : Nat) : Int)))), (1, .int (iI 1)), (0, .ref ((xa X 0))), (2, .int (iI (((i : Nat) : Int)))), (3, .int (iI (((j : Nat) : Int))))]) hx hb dX1_isSound_77 hl (k := 4) rfl (iI_addp (by omega)) (by decide) rfl (fun ls hl => ?_)
                        refine lv_goto (tgt := 21) hx hb dX1_isSound_80 (by decide) ?_
                        exact ih5 (k + 1) (by omega) (by omega) ls (lv_sub hl [2, 1, 3, 4, 0] rfl)
                      · refine lv_aload_n hx hb dX1_isSound_50 rfl (lv_at hl 0 rfl) ?_
                        refine va_get (D := xG X) (ci := 1) (v := .ref ((xa X 1))) (C := RX1) (T := TX1) (N := 7) hx hb hts hin hown hK hP 0 rfl rfl 1 (by decide) (hts (.fieldLink RX1 7 "PegfieldModel" "stands" "[Z") (by decide +kernel)) (fun _ h9 => h9) rfl dX1_isSound_51 ?_
                        refine lv_iload hx hb dX1_isSound_54 (lv_at hl 4 rfl) ?_
                        refine pg_zald hx hb hK hP 1 0 (f := (sS S)) rfl rfl k (rfl) (by omega) (by decide) dX1_isSound_56 ?_
                        refine pg_if_eq (tgt := 71) hx hb dX1_isSound_57 (by decide) (⟨by omega, by omega⟩) (fun hc10 => ?_) (fun hc10 => ?_)
                        · refine lv_iconst (v := iI 1) hx hb dX1_isSound_71 rfl ?_
                          refine lv_goto (tgt := 76) hx hb dX1_isSound_72 (by decide) ?_
                          refine lv_istore_n (lv' := [(1, .int (iI 1)), (0, .ref ((xa X 0))), (2, .int (iI (((i : Nat) : Int)))), (3, .int (iI (((j : Nat) : Int)))), (4, .int (iI (((k : Nat) : Int))))]) hx hb dX1_isSound_76 rfl hl (by decide) rfl (fun ls hl => ?_)
                          refine lv_iinc (v := iI (((k + 1 : Nat) : Int))) (lv' := [(4, .int (iI (((k + 1 : Nat) : Int)))), (1, .int (iI 1)), (0, .ref ((xa X 0))), (2, .int (iI (((i : Nat) : Int)))), (3, .int (iI (((j : Nat) : Int))))]) hx hb dX1_isSound_77 hl (k := 4) rfl (iI_addp (by omega)) (by decide) rfl (fun ls hl => ?_)
                          refine lv_goto (tgt := 21) hx hb dX1_isSound_80 (by decide) ?_
                          exact ih5 (k + 1) (by omega) (by omega) ls (lv_sub hl [2, 1, 3, 4, 0] rfl)
                        · refine lv_aload_n hx hb dX1_isSound_60 rfl (lv_at hl 0 rfl) ?_
                          refine lv_iload_n hx hb dX1_isSound_61 rfl (lv_at hl 2 rfl) ?_
                          refine lv_iload_n hx hb dX1_isSound_62 rfl (lv_at hl 3 rfl) ?_
                          refine lv_iload hx hb dX1_isSound_63 (lv_at hl 4 rfl) ?_
                          refine pg_callV (As := [.int (iI (((i : Nat) : Int))), .int (iI (((j : Nat) : Int))), .int (iI (((k : Nat) : Int)))]) (rest := []) SC (c_X1_isNoLonger l X S t hok i j k (by omega) (by omega) (by omega)) mB_st (mB_h hP hK) (cwV 3 hts gX1_isSound_X1_isNoLonger rfl rfl rfl (by decide +kernel) ⟨Nat.le_of_ble_eq_true rfl, Nat.le_of_ble_eq_true rfl⟩) (va_recv hK hP (ci := 1) (q0 := 0) rfl rfl) rfl hl.1 rfl (Nat.le_of_ble_eq_true rfl) dX1_isSound_65 ⟨Nat.zero_le _, Nat.zero_le _⟩ ?_
                          refine pg_if_eq (tgt := 75) hx hb dX1_isSound_68 (by decide) (⟨by omega, by omega⟩) (fun hc11 => absurd hc11 (by omega)) (fun hc11 => ?_)
                          refine lv_iconst (v := iI 1) hx hb dX1_isSound_71 rfl ?_
                          refine lv_goto (tgt := 76) hx hb dX1_isSound_72 (by decide) ?_
                          refine lv_istore_n (lv' := [(1, .int (iI 1)), (0, .ref ((xa X 0))), (2, .int (iI (((i : Nat) : Int)))), (3, .int (iI (((j : Nat) : Int)))), (4, .int (iI (((k : Nat) : Int))))]) hx hb dX1_isSound_76 rfl hl (by decide) rfl (fun ls hl => ?_)
                          refine lv_iinc (v := iI (((k + 1 : Nat) : Int))) (lv' := [(4, .int (iI (((k + 1 : Nat) : Int)))), (1, .int (iI 1)), (0, .ref ((xa X 0))), (2, .int (iI (((i : Nat) : Int)))), (3, .int (iI (((j : Nat) : Int))))]) hx hb dX1_isSound_77 hl (k := 4) rfl (iI_addp (by omega)) (by decide) rfl (fun ls hl => ?_)
                          refine lv_goto (tgt := 21) hx hb dX1_isSound_80 (by decide) ?_
                          exact ih5 (k + 1) (by omega) (by omega) ls (lv_sub hl [2, 1, 3, 4, 0] rfl)
              refine loop5 (12 + 1) 0 (by omega) (by omega) ls (lv_sub hl [1, 2, 3, 4, 0] rfl)
        refine loop3 (12 + 1) 0 (by omega) (by omega) ls (lv_sub hl [1, 2, 3, 0] rfl)
  refine loop1 (12 + 1) 0 (by omega) (by omega) ls (lv_sub hl [2, 1, 0] rfl)
