def pgS0 : pgS := (fun _ => 0, fun _ => 0, fun _ => 0, fun _ => 0, 0, 0)
theorem pgS0_ok : pgOk pgS0 := ⟨fun _ => Nat.zero_le _, fun _ => Nat.zero_le _, fun _ => Nat.zero_le _, fun _ => Nat.zero_le _, Nat.zero_le _, Nat.zero_le _⟩
set_option maxRecDepth 100000 in
set_option maxHeartbeats 4000000 in
theorem c_X0_init (l : Launch) (G : va_G) (h0 sz : Nat) : Met l yX0_init wsX0_init ({ frames := 1, cells := 4, slots := 48, locals := 13 } : Room) (va_Pc [.ref h0] (fun U => U.heap.size = sz ∧ va_P G vwCl [(h0, .inr (0, [.null, .null, .null, .null, .int (iI 0), .int (iI 0)]))] U.heap ∧ va_K G vwCl [] U ∧ va_D (fun _ => True) [(h0, .inr (0, [.null, .null, .null, .null, .int (iI 0), .int (iI 0)]))])) (va_Qv (fun X : pgX => xG X = G ∧ xa X 0 = h0) (fun X t => va_P G vwCl (xC X pgS0) t.heap ∧ va_K G vwCl (xTy X) t ∧ va_D (va_A [(h0, .inr (0, [.null, .null, .null, .null, .int (iI 0), .int (iI 0)]))] sz) (xC X pgS0)) (va_A [(h0, .inr (0, [.null, .null, .null, .null, .int (iI 0), .int (iI 0)]))] sz)) 4 48 (va_A [(h0, .inr (0, [.null, .null, .null, .null, .int (iI 0), .int (iI 0)]))] sz) := by
  refine Met.ofW (cc := cX0_init) (maxL := 1) (ret := none) (by decide) rfl ?_
  intro p e s m args below meth c s₁ B hml hv
  obtain ⟨rfl, hsz, hP, hK, hD0⟩ := hv
  have hx := B.exec
  have hb := B.bytes
  have hr := B.returns
  have hts := atoms_spec (ws := wsX0_init) B.pre
  have hown : s.vm.findClass RX0 = some m.cls := findClass_of_methodNamed B.named
  have hlk := B.notSynchronized
  have hinit : meth.name = "<init>" := (name_of_methodNamed B.named B.method).1
  have hin : ∀ w ∈ u_ws RX0 TX0 6, w ∈ wsX0_init := by decide +kernel
  subst hsz
  have hD := hD0.self (sz := s.heap.size)
  generalize hAe : va_A [(h0, .inr (0, [.null, .null, .null, .null, .int (iI 0), .int (iI 0)]))] s.heap.size = A at hD ⊢
  have hA : ∀ q : Nat, s.heap.size ≤ q → A q := fun q h => by rw [← hAe]; exact Or.inr h
  have hS : va_S A s.heap s.heap [] := va_S.rf
  have hl := lv_entry ([.ref h0]) (n := 1) (Nat.le_of_ble_eq_true rfl)
  rw [lg_entry_eq]
  generalize (lg_sl ([.ref h0]) ++ List.replicate (1 - (lg_sl ([.ref h0])).length) Slot.unset).toArray = ls at hl ⊢
  have hl : lv_has ls 1 [(0, .ref h0)] := hl
  refine lv_aload_n hx hb dX0_init_0 rfl (lv_at hl 0 rfl) ?_
  refine W.objInit hx hb hown (hts (.methodLink RX0 3 objectInit) (by decide +kernel)) (hts (.instanceMethod objectInit) (by decide +kernel)) (hts _ (List.mem_cons_of_mem _ (List.mem_append_left _ (List.mem_of_getElem? (i := 2) rfl)))) rfl (by rw [hml]; exact hl.1) rfl dX0_init_1 (Nat.le_of_ble_eq_true rfl) (Nat.le_of_ble_eq_true rfl) ?_
  refine W.eq (g2 := F0 m 4 ls []) rfl ?_
  refine lv_aload_n hx hb dX0_init_4 rfl (lv_at hl 0 rfl) ?_
  refine lv_bipush (v := 12) hx hb dX0_init_5 (by decide +kernel) ?_
  refine va_newa (atype := .boolean) (ty := .boolean) (a0 := (12, .inl (fI (fun _ => 0)))) hx hb (hts (.arrayClass .boolean) (by decide +kernel)) rfl hK hP hD hS hA (fun cA => rfl) (by decide) (by decide) (by decide) (Nat.le_of_ble_eq_true rfl) (Nat.le_of_ble_eq_true rfl) dX0_init_7 (fun q1 cA1 H hK hP hD hS => ?_)
  have hP : va_P G vwCl [(h0, .inr (0, [.null, .null, .null, .null, .int (iI 0), .int (iI 0)])), (q1, .inl (cA1, 12, .inl (fI (fun _ => 0))))] H := hP
  have hD : va_D A [(h0, .inr (0, [.null, .null, .null, .null, .int (iI 0), .int (iI 0)])), (q1, .inl (cA1, 12, .inl (fI (fun _ => 0))))] := hD
  refine va_putF (D := G) (ci := 0) (v := .ref q1) (ty := .array .boolean) (C := RX0) (T := TX0) (N := 6) hx hb hts hin tyX0 tyX0_ok nmX0 hown hK hP hD hS 0 rfl rfl 0 (by decide) (hts (.fieldLink RX0 9 "Pegfield" "standing" "[Z") (by decide +kernel)) (fun _ h9 => h9) rfl hinit rfl (by decide +kernel) rfl rfl (Nat.le_of_ble_eq_true rfl) dX0_init_9 (fun H locs hP hD hS => ?_)
  have hP : va_P G vwCl [(h0, .inr (0, [.ref q1, .null, .null, .null, .int (iI 0), .int (iI 0)])), (q1, .inl (cA1, 12, .inl (fI (fun _ => 0))))] H := hP
  have hD : va_D A [(h0, .inr (0, [.ref q1, .null, .null, .null, .int (iI 0), .int (iI 0)])), (q1, .inl (cA1, 12, .inl (fI (fun _ => 0))))] := hD
  refine lv_aload_n hx hb dX0_init_12 rfl (lv_at hl 0 rfl) ?_
  refine lv_bipush (v := 12) hx hb dX0_init_13 (by decide +kernel) ?_
  refine va_newa (atype := .int) (ty := .int) (a0 := (12, .inl (fI (fun _ => 0)))) hx hb (hts (.arrayClass .int) (by decide +kernel)) rfl hK hP hD hS hA (fun cA => rfl) (by decide) (by decide) (by decide) (Nat.le_of_ble_eq_true rfl) (Nat.le_of_ble_eq_true rfl) dX0_init_15 (fun q2 cA2 H hK hP hD hS => ?_)
  have hP : va_P G vwCl [(h0, .inr (0, [.ref q1, .null, .null, .null, .int (iI 0), .int (iI 0)])), (q1, .inl (cA1, 12, .inl (fI (fun _ => 0)))), (q2, .inl (cA2, 12, .inl (fI (fun _ => 0))))] H := hP
  have hD : va_D A [(h0, .inr (0, [.ref q1, .null, .null, .null, .int (iI 0), .int (iI 0)])), (q1, .inl (cA1, 12, .inl (fI (fun _ => 0)))), (q2, .inl (cA2, 12, .inl (fI (fun _ => 0))))] := hD
  refine va_putF (D := G) (ci := 0) (v := .ref q2) (ty := .array .int) (C := RX0) (T := TX0) (N := 6) hx hb hts hin tyX0 tyX0_ok nmX0 hown hK hP hD hS 0 rfl rfl 1 (by decide) (hts (.fieldLink RX0 13 "Pegfield" "acrossOf" "[I") (by decide +kernel)) (fun _ h9 => h9) rfl hinit rfl (by decide +kernel) rfl rfl (Nat.le_of_ble_eq_true rfl) dX0_init_17 (fun H locs hP hD hS => ?_)
  have hP : va_P G vwCl [(h0, .inr (0, [.ref q1, .ref q2, .null, .null, .int (iI 0), .int (iI 0)])), (q1, .inl (cA1, 12, .inl (fI (fun _ => 0)))), (q2, .inl (cA2, 12, .inl (fI (fun _ => 0))))] H := hP
  have hD : va_D A [(h0, .inr (0, [.ref q1, .ref q2, .null, .null, .int (iI 0), .int (iI 0)])), (q1, .inl (cA1, 12, .inl (fI (fun _ => 0)))), (q2, .inl (cA2, 12, .inl (fI (fun _ => 0))))] := hD
  refine lv_aload_n hx hb dX0_init_20 rfl (lv_at hl 0 rfl) ?_
  refine lv_bipush (v := 12) hx hb dX0_init_21 (by decide +kernel) ?_
  refine va_newa (atype := .int) (ty := .int) (a0 := (12, .inl (fI (fun _ => 0)))) hx hb (hts (.arrayClass .int) (by decide +kernel)) rfl hK hP hD hS hA (fun cA => rfl) (by decide) (by decide) (by decide) (Nat.le_of_ble_eq_true rfl) (Nat.le_of_ble_eq_true rfl) dX0_init_23 (fun q3 cA3 H hK hP hD hS => ?_)
  have hP : va_P G vwCl [(h0, .inr (0, [.ref q1, .ref q2, .null, .null, .int (iI 0), .int (iI 0)])), (q1, .inl (cA1, 12, .inl (fI (fun _ => 0)))), (q2, .inl (cA2, 12, .inl (fI (fun _ => 0)))), (q3, .inl (cA3, 12, .inl (fI (fun _ => 0))))] H := hP
  have hD : va_D A [(h0, .inr (0, [.ref q1, .ref q2, .null, .null, .int (iI 0), .int (iI 0)])), (q1, .inl (cA1, 12, .inl (fI (fun _ => 0)))), (q2, .inl (cA2, 12, .inl (fI (fun _ => 0)))), (q3, .inl (cA3, 12, .inl (fI (fun _ => 0))))] := hD
  refine va_putF (D := G) (ci := 0) (v := .ref q3) (ty := .array .int) (C := RX0) (T := TX0) (N := 6) hx hb hts hin tyX0 tyX0_ok nmX0 hown hK hP hD hS 0 rfl rfl 2 (by decide) (hts (.fieldLink RX0 17 "Pegfield" "upOf" "[I") (by decide +kernel)) (fun _ h9 => h9) rfl hinit rfl (by decide +kernel) rfl rfl (Nat.le_of_ble_eq_true rfl) dX0_init_25 (fun H locs hP hD hS => ?_)
  have hP : va_P G vwCl [(h0, .inr (0, [.ref q1, .ref q2, .ref q3, .null, .int (iI 0), .int (iI 0)])), (q1, .inl (cA1, 12, .inl (fI (fun _ => 0)))), (q2, .inl (cA2, 12, .inl (fI (fun _ => 0)))), (q3, .inl (cA3, 12, .inl (fI (fun _ => 0))))] H := hP
  have hD : va_D A [(h0, .inr (0, [.ref q1, .ref q2, .ref q3, .null, .int (iI 0), .int (iI 0)])), (q1, .inl (cA1, 12, .inl (fI (fun _ => 0)))), (q2, .inl (cA2, 12, .inl (fI (fun _ => 0)))), (q3, .inl (cA3, 12, .inl (fI (fun _ => 0))))] := hD
  refine lv_aload_n hx hb dX0_init_28 rfl (lv_at hl 0 rfl) ?_
  refine lv_bipush (v := 12) hx hb dX0_init_29 (by decide +kernel) ?_
  refine va_newa (atype := .int) (ty := .int) (a0 := (12, .inl (fI (fun _ => 0)))) hx hb (hts (.arrayClass .int) (by decide +kernel)) rfl hK hP hD hS hA (fun cA => rfl) (by decide) (by decide) (by decide) (Nat.le_of_ble_eq_true rfl) (Nat.le_of_ble_eq_true rfl) dX0_init_31 (fun q4 cA4 H hK hP hD hS => ?_)
  have hP : va_P G vwCl [(h0, .inr (0, [.ref q1, .ref q2, .ref q3, .null, .int (iI 0), .int (iI 0)])), (q1, .inl (cA1, 12, .inl (fI (fun _ => 0)))), (q2, .inl (cA2, 12, .inl (fI (fun _ => 0)))), (q3, .inl (cA3, 12, .inl (fI (fun _ => 0)))), (q4, .inl (cA4, 12, .inl (fI (fun _ => 0))))] H := hP
  have hD : va_D A [(h0, .inr (0, [.ref q1, .ref q2, .ref q3, .null, .int (iI 0), .int (iI 0)])), (q1, .inl (cA1, 12, .inl (fI (fun _ => 0)))), (q2, .inl (cA2, 12, .inl (fI (fun _ => 0)))), (q3, .inl (cA3, 12, .inl (fI (fun _ => 0)))), (q4, .inl (cA4, 12, .inl (fI (fun _ => 0))))] := hD
  refine va_putF (D := G) (ci := 0) (v := .ref q4) (ty := .array .int) (C := RX0) (T := TX0) (N := 6) hx hb hts hin tyX0 tyX0_ok nmX0 hown hK hP hD hS 0 rfl rfl 3 (by decide) (hts (.fieldLink RX0 20 "Pegfield" "ring" "[I") (by decide +kernel)) (fun _ h9 => h9) rfl hinit rfl (by decide +kernel) rfl rfl (Nat.le_of_ble_eq_true rfl) dX0_init_33 (fun H locs hP hD hS => ?_)
  have hP : va_P G vwCl [(h0, .inr (0, [.ref q1, .ref q2, .ref q3, .ref q4, .int (iI 0), .int (iI 0)])), (q1, .inl (cA1, 12, .inl (fI (fun _ => 0)))), (q2, .inl (cA2, 12, .inl (fI (fun _ => 0)))), (q3, .inl (cA3, 12, .inl (fI (fun _ => 0)))), (q4, .inl (cA4, 12, .inl (fI (fun _ => 0))))] H := hP
  have hD : va_D A [(h0, .inr (0, [.ref q1, .ref q2, .ref q3, .ref q4, .int (iI 0), .int (iI 0)])), (q1, .inl (cA1, 12, .inl (fI (fun _ => 0)))), (q2, .inl (cA2, 12, .inl (fI (fun _ => 0)))), (q3, .inl (cA3, 12, .inl (fI (fun _ => 0)))), (q4, .inl (cA4, 12, .inl (fI (fun _ => 0))))] := hD
  refine lv_aload_n hx hb dX0_init_36 rfl (lv_at hl 0 rfl) ?_
  refine lv_iconst (v := iI 0) hx hb dX0_init_37 rfl ?_
  refine va_put (D := G) (ci := 0) (v := .int (iI 0)) (ty := .int) (C := RX0) (T := TX0) (N := 6) hx hb hts hin tyX0 tyX0_ok nmX0 hown hK hP hD hS 0 rfl rfl 4 (by decide) (hts (.fieldLink RX0 23 "Pegfield" "ringSize" "I") (by decide +kernel)) (fun _ h9 => h9) rfl (by decide +kernel) rfl rfl (Nat.le_of_ble_eq_true rfl) dX0_init_38 (fun H locs hP hD hS => ?_)
  have hP : va_P G vwCl [(h0, .inr (0, [.ref q1, .ref q2, .ref q3, .ref q4, .int (iI 0), .int (iI 0)])), (q1, .inl (cA1, 12, .inl (fI (fun _ => 0)))), (q2, .inl (cA2, 12, .inl (fI (fun _ => 0)))), (q3, .inl (cA3, 12, .inl (fI (fun _ => 0)))), (q4, .inl (cA4, 12, .inl (fI (fun _ => 0))))] H := hP
  have hD : va_D A [(h0, .inr (0, [.ref q1, .ref q2, .ref q3, .ref q4, .int (iI 0), .int (iI 0)])), (q1, .inl (cA1, 12, .inl (fI (fun _ => 0)))), (q2, .inl (cA2, 12, .inl (fI (fun _ => 0)))), (q3, .inl (cA3, 12, .inl (fI (fun _ => 0)))), (q4, .inl (cA4, 12, .inl (fI (fun _ => 0))))] := hD
  refine lv_aload_n hx hb dX0_init_41 rfl (lv_at hl 0 rfl) ?_
  refine lv_iconst (v := iI 0) hx hb dX0_init_42 rfl ?_
  refine va_put (D := G) (ci := 0) (v := .int (iI 0)) (ty := .boolean) (C := RX0) (T := TX0) (N := 6) hx hb hts hin tyX0 tyX0_ok nmX0 hown hK hP hD hS 0 rfl rfl 5 (by decide) (hts (.fieldLink RX0 27 "Pegfield" "wide" "Z") (by decide +kernel)) (fun _ h9 => h9) rfl (by decide +kernel) (iI_bool (Or.inl rfl)) (fits_bool (Or.inl rfl)) (Nat.le_of_ble_eq_true rfl) dX0_init_43 (fun H locs hP hD hS => ?_)
  have hP : va_P G vwCl [(h0, .inr (0, [.ref q1, .ref q2, .ref q3, .ref q4, .int (iI 0), .int (iI 0)])), (q1, .inl (cA1, 12, .inl (fI (fun _ => 0)))), (q2, .inl (cA2, 12, .inl (fI (fun _ => 0)))), (q3, .inl (cA3, 12, .inl (fI (fun _ => 0)))), (q4, .inl (cA4, 12, .inl (fI (fun _ => 0))))] H := hP
  have hD : va_D A [(h0, .inr (0, [.ref q1, .ref q2, .ref q3, .ref q4, .int (iI 0), .int (iI 0)])), (q1, .inl (cA1, 12, .inl (fI (fun _ => 0)))), (q2, .inl (cA2, 12, .inl (fI (fun _ => 0)))), (q3, .inl (cA3, 12, .inl (fI (fun _ => 0)))), (q4, .inl (cA4, 12, .inl (fI (fun _ => 0))))] := hD
  have e3 : cA3 = cA2 := Option.some.inj ((hK.2 2 _ rfl).2.symm.trans (hK.2 1 _ rfl).2)
  have e4 : cA4 = cA2 := Option.some.inj ((hK.2 3 _ rfl).2.symm.trans (hK.2 1 _ rfl).2)
  subst e3
  subst e4
  obtain ⟨X, hXe⟩ : ∃ X : pgX, X = (G, cA1, cA4, fun i => match i with | 0 => h0 | 1 => q1 | 2 => q2 | 3 => q3 | _ => q4) := ⟨_, rfl⟩
  have hP9 : va_P G vwCl (xC X pgS0) H := by rw [hXe]; exact hP
  have hD9 : va_D A (xC X pgS0) := by rw [hXe]; exact hD
  have hK9 : va_K G vwCl (xTy X) s := by rw [hXe]; exact hK.sub [0, 1] rfl
  exact W.vret hx hb hr (fun t ht hW => ⟨⟨X, rfl, ⟨by rw [hXe], by rw [hXe]; rfl⟩, by rw [ht]; exact hP9, va_K.moved hW.alike hK9, hD9⟩, hS.F ht⟩) hS.2.2 dX0_init_46 hlk
set_option maxRecDepth 100000 in
set_option maxHeartbeats 4000000 in
theorem c_X1_init (l : Launch) (G : va_G) (h0 sz : Nat) : Met l yX1_init wsX1_init ({ frames := 1, cells := 4, slots := 48, locals := 13 } : Room) (va_Pc [.ref h0] (fun U => U.heap.size = sz ∧ va_P G vwCl [(h0, .inr (1, [.int (iI 0), .null, .null, .null, .null, .int (iI 0), .int (iI 0)]))] U.heap ∧ va_K G vwCl [] U ∧ va_D (fun _ => True) [(h0, .inr (1, [.int (iI 0), .null, .null, .null, .null, .int (iI 0), .int (iI 0)]))])) (va_Qv (fun X : pgX => xG X = G ∧ xa X 0 = h0) (fun X t => va_P G vwCl (mC X pgS0 0) t.heap ∧ va_K G vwCl (xTy X) t ∧ va_D (va_A [(h0, .inr (1, [.int (iI 0), .null, .null, .null, .null, .int (iI 0), .int (iI 0)]))] sz) (mC X pgS0 0)) (va_A [(h0, .inr (1, [.int (iI 0), .null, .null, .null, .null, .int (iI 0), .int (iI 0)]))] sz)) 4 48 (va_A [(h0, .inr (1, [.int (iI 0), .null, .null, .null, .null, .int (iI 0), .int (iI 0)]))] sz) := by
  refine Met.ofW (cc := cX1_init) (maxL := 1) (ret := none) (by decide) rfl ?_
  intro p e s m args below meth c s₁ B hml hv
  obtain ⟨rfl, hsz, hP, hK, hD0⟩ := hv
  have hx := B.exec
  have hb := B.bytes
  have hr := B.returns
  have hts := atoms_spec (ws := wsX1_init) B.pre
  have hown : s.vm.findClass RX1 = some m.cls := findClass_of_methodNamed B.named
  have hlk := B.notSynchronized
  have hinit : meth.name = "<init>" := (name_of_methodNamed B.named B.method).1
  have hin : ∀ w ∈ u_ws RX1 TX1 7, w ∈ wsX1_init := by decide +kernel
  subst hsz
  have hD := hD0.self (sz := s.heap.size)
  generalize hAe : va_A [(h0, .inr (1, [.int (iI 0), .null, .null, .null, .null, .int (iI 0), .int (iI 0)]))] s.heap.size = A at hD ⊢
  have hA : ∀ q : Nat, s.heap.size ≤ q → A q := fun q h => by rw [← hAe]; exact Or.inr h
  have hS : va_S A s.heap s.heap [] := va_S.rf
  have hl := lv_entry ([.ref h0]) (n := 1) (Nat.le_of_ble_eq_true rfl)
  rw [lg_entry_eq]
  generalize (lg_sl ([.ref h0]) ++ List.replicate (1 - (lg_sl ([.ref h0])).length) Slot.unset).toArray = ls at hl ⊢
  have hl : lv_has ls 1 [(0, .ref h0)] := hl
  refine lv_aload_n hx hb dX1_init_0 rfl (lv_at hl 0 rfl) ?_
  refine W.objInit hx hb hown (hts (.methodLink RX1 1 objectInit) (by decide +kernel)) (hts (.instanceMethod objectInit) (by decide +kernel)) (hts _ (List.mem_cons_of_mem _ (List.mem_append_left _ (List.mem_of_getElem? (i := 2) rfl)))) rfl (by rw [hml]; exact hl.1) rfl dX1_init_1 (Nat.le_of_ble_eq_true rfl) (Nat.le_of_ble_eq_true rfl) ?_
  refine W.eq (g2 := F0 m 4 ls []) rfl ?_
  refine lv_aload_n hx hb dX1_init_4 rfl (lv_at hl 0 rfl) ?_
  refine lv_bipush (v := 12) hx hb dX1_init_5 (by decide +kernel) ?_
  refine va_newa (atype := .boolean) (ty := .boolean) (a0 := (12, .inl (fI (fun _ => 0)))) hx hb (hts (.arrayClass .boolean) (by decide +kernel)) rfl hK hP hD hS hA (fun cA => rfl) (by decide) (by decide) (by decide) (Nat.le_of_ble_eq_true rfl) (Nat.le_of_ble_eq_true rfl) dX1_init_7 (fun q1 cA1 H hK hP hD hS => ?_)
  have hP : va_P G vwCl [(h0, .inr (1, [.int (iI 0), .null, .null, .null, .null, .int (iI 0), .int (iI 0)])), (q1, .inl (cA1, 12, .inl (fI (fun _ => 0))))] H := hP
  have hD : va_D A [(h0, .inr (1, [.int (iI 0), .null, .null, .null, .null, .int (iI 0), .int (iI 0)])), (q1, .inl (cA1, 12, .inl (fI (fun _ => 0))))] := hD
  refine va_putF (D := G) (ci := 1) (v := .ref q1) (ty := .array .boolean) (C := RX1) (T := TX1) (N := 7) hx hb hts hin tyX1 tyX1_ok nmX1 hown hK hP hD hS 0 rfl rfl 1 (by decide) (hts (.fieldLink RX1 7 "PegfieldModel" "stands" "[Z") (by decide +kernel)) (fun _ h9 => h9) rfl hinit rfl (by decide +kernel) rfl rfl (Nat.le_of_ble_eq_true rfl) dX1_init_9 (fun H locs hP hD hS => ?_)
  have hP : va_P G vwCl [(h0, .inr (1, [.int (iI 0), .ref q1, .null, .null, .null, .int (iI 0), .int (iI 0)])), (q1, .inl (cA1, 12, .inl (fI (fun _ => 0))))] H := hP
  have hD : va_D A [(h0, .inr (1, [.int (iI 0), .ref q1, .null, .null, .null, .int (iI 0), .int (iI 0)])), (q1, .inl (cA1, 12, .inl (fI (fun _ => 0))))] := hD
  refine lv_aload_n hx hb dX1_init_12 rfl (lv_at hl 0 rfl) ?_
  refine lv_bipush (v := 12) hx hb dX1_init_13 (by decide +kernel) ?_
  refine va_newa (atype := .int) (ty := .int) (a0 := (12, .inl (fI (fun _ => 0)))) hx hb (hts (.arrayClass .int) (by decide +kernel)) rfl hK hP hD hS hA (fun cA => rfl) (by decide) (by decide) (by decide) (Nat.le_of_ble_eq_true rfl) (Nat.le_of_ble_eq_true rfl) dX1_init_15 (fun q2 cA2 H hK hP hD hS => ?_)
  have hP : va_P G vwCl [(h0, .inr (1, [.int (iI 0), .ref q1, .null, .null, .null, .int (iI 0), .int (iI 0)])), (q1, .inl (cA1, 12, .inl (fI (fun _ => 0)))), (q2, .inl (cA2, 12, .inl (fI (fun _ => 0))))] H := hP
  have hD : va_D A [(h0, .inr (1, [.int (iI 0), .ref q1, .null, .null, .null, .int (iI 0), .int (iI 0)])), (q1, .inl (cA1, 12, .inl (fI (fun _ => 0)))), (q2, .inl (cA2, 12, .inl (fI (fun _ => 0))))] := hD
  refine va_putF (D := G) (ci := 1) (v := .ref q2) (ty := .array .int) (C := RX1) (T := TX1) (N := 7) hx hb hts hin tyX1 tyX1_ok nmX1 hown hK hP hD hS 0 rfl rfl 2 (by decide) (hts (.fieldLink RX1 13 "PegfieldModel" "across" "[I") (by decide +kernel)) (fun _ h9 => h9) rfl hinit rfl (by decide +kernel) rfl rfl (Nat.le_of_ble_eq_true rfl) dX1_init_17 (fun H locs hP hD hS => ?_)
  have hP : va_P G vwCl [(h0, .inr (1, [.int (iI 0), .ref q1, .ref q2, .null, .null, .int (iI 0), .int (iI 0)])), (q1, .inl (cA1, 12, .inl (fI (fun _ => 0)))), (q2, .inl (cA2, 12, .inl (fI (fun _ => 0))))] H := hP
  have hD : va_D A [(h0, .inr (1, [.int (iI 0), .ref q1, .ref q2, .null, .null, .int (iI 0), .int (iI 0)])), (q1, .inl (cA1, 12, .inl (fI (fun _ => 0)))), (q2, .inl (cA2, 12, .inl (fI (fun _ => 0))))] := hD
  refine lv_aload_n hx hb dX1_init_20 rfl (lv_at hl 0 rfl) ?_
  refine lv_bipush (v := 12) hx hb dX1_init_21 (by decide +kernel) ?_
  refine va_newa (atype := .int) (ty := .int) (a0 := (12, .inl (fI (fun _ => 0)))) hx hb (hts (.arrayClass .int) (by decide +kernel)) rfl hK hP hD hS hA (fun cA => rfl) (by decide) (by decide) (by decide) (Nat.le_of_ble_eq_true rfl) (Nat.le_of_ble_eq_true rfl) dX1_init_23 (fun q3 cA3 H hK hP hD hS => ?_)
  have hP : va_P G vwCl [(h0, .inr (1, [.int (iI 0), .ref q1, .ref q2, .null, .null, .int (iI 0), .int (iI 0)])), (q1, .inl (cA1, 12, .inl (fI (fun _ => 0)))), (q2, .inl (cA2, 12, .inl (fI (fun _ => 0)))), (q3, .inl (cA3, 12, .inl (fI (fun _ => 0))))] H := hP
  have hD : va_D A [(h0, .inr (1, [.int (iI 0), .ref q1, .ref q2, .null, .null, .int (iI 0), .int (iI 0)])), (q1, .inl (cA1, 12, .inl (fI (fun _ => 0)))), (q2, .inl (cA2, 12, .inl (fI (fun _ => 0)))), (q3, .inl (cA3, 12, .inl (fI (fun _ => 0))))] := hD
  refine va_putF (D := G) (ci := 1) (v := .ref q3) (ty := .array .int) (C := RX1) (T := TX1) (N := 7) hx hb hts hin tyX1 tyX1_ok nmX1 hown hK hP hD hS 0 rfl rfl 3 (by decide) (hts (.fieldLink RX1 17 "PegfieldModel" "up" "[I") (by decide +kernel)) (fun _ h9 => h9) rfl hinit rfl (by decide +kernel) rfl rfl (Nat.le_of_ble_eq_true rfl) dX1_init_25 (fun H locs hP hD hS => ?_)
  have hP : va_P G vwCl [(h0, .inr (1, [.int (iI 0), .ref q1, .ref q2, .ref q3, .null, .int (iI 0), .int (iI 0)])), (q1, .inl (cA1, 12, .inl (fI (fun _ => 0)))), (q2, .inl (cA2, 12, .inl (fI (fun _ => 0)))), (q3, .inl (cA3, 12, .inl (fI (fun _ => 0))))] H := hP
  have hD : va_D A [(h0, .inr (1, [.int (iI 0), .ref q1, .ref q2, .ref q3, .null, .int (iI 0), .int (iI 0)])), (q1, .inl (cA1, 12, .inl (fI (fun _ => 0)))), (q2, .inl (cA2, 12, .inl (fI (fun _ => 0)))), (q3, .inl (cA3, 12, .inl (fI (fun _ => 0))))] := hD
  refine lv_aload_n hx hb dX1_init_28 rfl (lv_at hl 0 rfl) ?_
  refine lv_bipush (v := 12) hx hb dX1_init_29 (by decide +kernel) ?_
  refine va_newa (atype := .int) (ty := .int) (a0 := (12, .inl (fI (fun _ => 0)))) hx hb (hts (.arrayClass .int) (by decide +kernel)) rfl hK hP hD hS hA (fun cA => rfl) (by decide) (by decide) (by decide) (Nat.le_of_ble_eq_true rfl) (Nat.le_of_ble_eq_true rfl) dX1_init_31 (fun q4 cA4 H hK hP hD hS => ?_)
  have hP : va_P G vwCl [(h0, .inr (1, [.int (iI 0), .ref q1, .ref q2, .ref q3, .null, .int (iI 0), .int (iI 0)])), (q1, .inl (cA1, 12, .inl (fI (fun _ => 0)))), (q2, .inl (cA2, 12, .inl (fI (fun _ => 0)))), (q3, .inl (cA3, 12, .inl (fI (fun _ => 0)))), (q4, .inl (cA4, 12, .inl (fI (fun _ => 0))))] H := hP
  have hD : va_D A [(h0, .inr (1, [.int (iI 0), .ref q1, .ref q2, .ref q3, .null, .int (iI 0), .int (iI 0)])), (q1, .inl (cA1, 12, .inl (fI (fun _ => 0)))), (q2, .inl (cA2, 12, .inl (fI (fun _ => 0)))), (q3, .inl (cA3, 12, .inl (fI (fun _ => 0)))), (q4, .inl (cA4, 12, .inl (fI (fun _ => 0))))] := hD
  refine va_putF (D := G) (ci := 1) (v := .ref q4) (ty := .array .int) (C := RX1) (T := TX1) (N := 7) hx hb hts hin tyX1 tyX1_ok nmX1 hown hK hP hD hS 0 rfl rfl 4 (by decide) (hts (.fieldLink RX1 20 "PegfieldModel" "ring" "[I") (by decide +kernel)) (fun _ h9 => h9) rfl hinit rfl (by decide +kernel) rfl rfl (Nat.le_of_ble_eq_true rfl) dX1_init_33 (fun H locs hP hD hS => ?_)
  have hP : va_P G vwCl [(h0, .inr (1, [.int (iI 0), .ref q1, .ref q2, .ref q3, .ref q4, .int (iI 0), .int (iI 0)])), (q1, .inl (cA1, 12, .inl (fI (fun _ => 0)))), (q2, .inl (cA2, 12, .inl (fI (fun _ => 0)))), (q3, .inl (cA3, 12, .inl (fI (fun _ => 0)))), (q4, .inl (cA4, 12, .inl (fI (fun _ => 0))))] H := hP
  have hD : va_D A [(h0, .inr (1, [.int (iI 0), .ref q1, .ref q2, .ref q3, .ref q4, .int (iI 0), .int (iI 0)])), (q1, .inl (cA1, 12, .inl (fI (fun _ => 0)))), (q2, .inl (cA2, 12, .inl (fI (fun _ => 0)))), (q3, .inl (cA3, 12, .inl (fI (fun _ => 0)))), (q4, .inl (cA4, 12, .inl (fI (fun _ => 0))))] := hD
  refine lv_aload_n hx hb dX1_init_36 rfl (lv_at hl 0 rfl) ?_
  refine lv_iconst (v := iI 0) hx hb dX1_init_37 rfl ?_
  refine va_put (D := G) (ci := 1) (v := .int (iI 0)) (ty := .int) (C := RX1) (T := TX1) (N := 7) hx hb hts hin tyX1 tyX1_ok nmX1 hown hK hP hD hS 0 rfl rfl 0 (by decide) (hts (.fieldLink RX1 23 "PegfieldModel" "thrown" "I") (by decide +kernel)) (fun _ h9 => h9) rfl (by decide +kernel) rfl rfl (Nat.le_of_ble_eq_true rfl) dX1_init_38 (fun H locs hP hD hS => ?_)
  have hP : va_P G vwCl [(h0, .inr (1, [.int (iI 0), .ref q1, .ref q2, .ref q3, .ref q4, .int (iI 0), .int (iI 0)])), (q1, .inl (cA1, 12, .inl (fI (fun _ => 0)))), (q2, .inl (cA2, 12, .inl (fI (fun _ => 0)))), (q3, .inl (cA3, 12, .inl (fI (fun _ => 0)))), (q4, .inl (cA4, 12, .inl (fI (fun _ => 0))))] H := hP
  have hD : va_D A [(h0, .inr (1, [.int (iI 0), .ref q1, .ref q2, .ref q3, .ref q4, .int (iI 0), .int (iI 0)])), (q1, .inl (cA1, 12, .inl (fI (fun _ => 0)))), (q2, .inl (cA2, 12, .inl (fI (fun _ => 0)))), (q3, .inl (cA3, 12, .inl (fI (fun _ => 0)))), (q4, .inl (cA4, 12, .inl (fI (fun _ => 0))))] := hD
  have e3 : cA3 = cA2 := Option.some.inj ((hK.2 2 _ rfl).2.symm.trans (hK.2 1 _ rfl).2)
  have e4 : cA4 = cA2 := Option.some.inj ((hK.2 3 _ rfl).2.symm.trans (hK.2 1 _ rfl).2)
  subst e3
  subst e4
  obtain ⟨X, hXe⟩ : ∃ X : pgX, X = (G, cA1, cA4, fun i => match i with | 0 => h0 | 1 => q1 | 2 => q2 | 3 => q3 | _ => q4) := ⟨_, rfl⟩
  have hP9 : va_P G vwCl (mC X pgS0 0) H := by rw [hXe]; exact hP
  have hD9 : va_D A (mC X pgS0 0) := by rw [hXe]; exact hD
  have hK9 : va_K G vwCl (xTy X) s := by rw [hXe]; exact hK.sub [0, 1] rfl
  exact W.vret hx hb hr (fun t ht hW => ⟨⟨X, rfl, ⟨by rw [hXe], by rw [hXe]; rfl⟩, by rw [ht]; exact hP9, va_K.moved hW.alike hK9, hD9⟩, hS.F ht⟩) hS.2.2 dX1_init_41 hlk
