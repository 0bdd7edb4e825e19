/-! ===== the worlds: a Pegfield and a PegfieldModel over one state S = (stands, across, up, ring, size, wide) ===== -/
section PGW
abbrev pgX : Type := va_G × ClassId × ClassId × (Nat → Nat)
abbrev xG (X : pgX) : va_G := X.1
abbrev xZ (X : pgX) : ClassId := X.2.1
abbrev xI (X : pgX) : ClassId := X.2.2.1
abbrev xa (X : pgX) : Nat → Nat := X.2.2.2
abbrev pgS : Type := (Nat → Nat) × (Nat → Nat) × (Nat → Nat) × (Nat → Nat) × Nat × Nat
abbrev sS (S : pgS) : Nat → Nat := S.1
abbrev sA (S : pgS) : Nat → Nat := S.2.1
abbrev sU (S : pgS) : Nat → Nat := S.2.2.1
abbrev sR (S : pgS) : Nat → Nat := S.2.2.2.1
abbrev sN (S : pgS) : Nat := S.2.2.2.2.1
abbrev sW (S : pgS) : Nat := S.2.2.2.2.2
def pgOk (S : pgS) : Prop := (∀ i, sS S i ≤ 1) ∧ (∀ i, sA S i ≤ 90) ∧ (∀ i, sU S i ≤ 90) ∧ (∀ i, sR S i ≤ 11) ∧ sN S ≤ 12 ∧ sW S ≤ 1
abbrev aC (X : pgX) (S : pgS) : va_W := [(xa X 1, .inl (xZ X, 12, .inl (fI (sS S)))), (xa X 2, .inl (xI X, 12, .inl (fI (sA S)))), (xa X 3, .inl (xI X, 12, .inl (fI (sU S)))), (xa X 4, .inl (xI X, 12, .inl (fI (sR S))))]
abbrev xC (X : pgX) (S : pgS) : va_W := (xa X 0, .inr (0, [.ref (xa X 1), .ref (xa X 2), .ref (xa X 3), .ref (xa X 4), .int (iI (sN S : Int)), .int (iI (sW S : Int))])) :: aC X S
abbrev mC (X : pgX) (S : pgS) (t : Int) : va_W := (xa X 0, .inr (1, [.int (iI t), .ref (xa X 1), .ref (xa X 2), .ref (xa X 3), .ref (xa X 4), .int (iI (sN S : Int)), .int (iI (sW S : Int))])) :: aC X S
abbrev xTy (X : pgX) : List (ClassId × FieldType) := [(xZ X, .boolean), (xI X, .int)]
def xB (X : pgX) (S : pgS) (U : State) : Prop := va_P (xG X) vwCl (xC X S) U.heap ∧ va_K (xG X) vwCl (xTy X) U
def mB (X : pgX) (S : pgS) (t : Int) (U : State) : Prop := va_P (xG X) vwCl (mC X S t) U.heap ∧ va_K (xG X) vwCl (xTy X) U
theorem xB_st {X : pgX} {S : pgS} : pg_st (xB X S) :=
  ⟨fun u U hh hv h => ⟨by rw [hh]; exact h.1, va_K.moved (by rw [hv]; exact Vm.Alike.refl _) h.2⟩, fun u U hh hW h => ⟨by rw [hh]; exact h.1, va_K.moved hW.alike h.2⟩⟩
theorem mB_st {X : pgX} {S : pgS} {t : Int} : pg_st (mB X S t) :=
  ⟨fun u U hh hv h => ⟨by rw [hh]; exact h.1, va_K.moved (by rw [hv]; exact Vm.Alike.refl _) h.2⟩, fun u U hh hW h => ⟨by rw [hh]; exact h.1, va_K.moved hW.alike h.2⟩⟩
theorem xB_h {X : pgX} {S : pgS} {s : State} {H : Heap} (hP : va_P (xG X) vwCl (xC X S) H) (hK : va_K (xG X) vwCl (xTy X) s) : pg_h (xB X S) s H := fun U hU hW => ⟨by rw [hU]; exact hP, va_K.moved hW.alike hK⟩
theorem mB_h {X : pgX} {S : pgS} {t : Int} {s : State} {H : Heap} (hP : va_P (xG X) vwCl (mC X S t) H) (hK : va_K (xG X) vwCl (xTy X) s) : pg_h (mB X S t) s H := fun U hU hW => ⟨by rw [hU]; exact hP, va_K.moved hW.alike hK⟩
/-- what a throw needs: the texts, and the two statics of Throwable, which lie below N -/
def exK : List (Nat × String) := [(41, "no such place"), (61, "the peg stands in the ring"), (67, "no such way"), (110, "no other peg stands"), (135, "the ring is full"), (137, "the ring is empty"), (144, "no such place in the ring"), (162, "the area is too large"), (212, "no such peg"), (216, "the peg does not stand"), (219, "no such number")]
/-- the words of a throw that a list of words can't carry -/
def exBad : List Cond := [.castable "java/lang/IllegalArgumentException" "java/lang/IllegalArgumentException", .castable "java/lang/IndexOutOfBoundsException" "java/lang/IndexOutOfBoundsException", .castable "java/lang/IllegalStateException" "java/lang/IllegalStateException", .castable "java/util/NoSuchElementException" "java/util/NoSuchElementException", .declares (Bundle.initS "java/lang/RuntimeException"), .declares (Bundle.initS "java/lang/Exception"), .declares (Bundle.initS "java/lang/Throwable")]
theorem exBad_ok : ∀ w ∈ exBad, w.onTables = true ∧ w.faceAtom = true := by decide +kernel
theorem ex_moved {w : Cond} (hc : w.onTables = true) (hf : w.faceAtom = true) {a a' : Array Value} {s U : State} (hal : s.vm.Alike U.vm) (h : w.before a s = true) : w.before a' U = true := by
  have h1 := Cond.faceAtom_setVm (args := a) hal w hf h
  rw [Cond.onTables_vm (A := a) (A' := a') (U := s) (U' := U) U.vm w hc] at h1
  rwa [State.setVm_self] at h1
theorem exBad_moved {s U : State} (hal : s.vm.Alike U.vm) (h : ∀ w ∈ exBad, ∀ a : Array Value, w.before a s = true) : ∀ w ∈ exBad, ∀ a : Array Value, w.before a U = true :=
  fun w hw a => ex_moved (exBad_ok w hw).1 (exBad_ok w hw).2 hal (h w hw a)
def exB (N : Nat) (U : State) : Prop := (∀ q ∈ exK, ∃ sa, vk_R RX0 q.1 q.2 sa U) ∧ vx_Zq Bundle.tN "UNASSIGNED_STACK" Bundle.steD (fun q => N ≤ q) U U.heap ∧ vx_Zq Bundle.tN "SUPPRESSED_SENTINEL" Bundle.listD (fun q => N ≤ q) U U.heap ∧ ∀ w ∈ exBad, ∀ a : Array Value, w.before a U = true
theorem exB_st {N : Nat} : pg_st (exB N) :=
  ⟨fun u U hh hv h => ⟨fun q hq => by obtain ⟨sa, a⟩ := h.1 q hq; exact ⟨sa, vk_R.same hv a⟩, by rw [hh]; exact vx_Zq.moved (by rw [hv]; exact Vm.Alike.refl _) h.2.1, by rw [hh]; exact vx_Zq.moved (by rw [hv]; exact Vm.Alike.refl _) h.2.2.1, exBad_moved (by rw [hv]; exact Vm.Alike.refl _) h.2.2.2⟩,
   fun u U hh hW h => ⟨fun q hq => by obtain ⟨sa, a⟩ := h.1 q hq; exact ⟨sa, vk_R.warm hW a⟩, by rw [hh]; exact vx_Zq.moved hW.alike h.2.1, by rw [hh]; exact vx_Zq.moved hW.alike h.2.2.1, exBad_moved hW.alike h.2.2.2⟩⟩
theorem exB_h {N : Nat} {s : State} {H : Heap} (h : exB N s) (hk : ∀ q : Nat, q < s.heap.size → ¬ N ≤ q → H[q]? = s.heap[q]?) : pg_h (exB N) s H := fun U hU hW =>
  ⟨fun q hq => by obtain ⟨sa, a⟩ := h.1 q hq; exact ⟨sa, vk_R.warm hW a⟩, by rw [hU]; exact vx_Zq.moved hW.alike (h.2.1.kept hk), by rw [hU]; exact vx_Zq.moved hW.alike (h.2.2.1.kept hk), exBad_moved hW.alike h.2.2.2⟩
abbrev xE (N : Nat) (X : pgX) (S : pgS) : State → Prop := fun U => xB X S U ∧ exB N U
theorem xE_st {N : Nat} {X : pgX} {S : pgS} : pg_st (xE N X S) := pg_and_st xB_st exB_st
theorem ex_bad1 : ∀ w ∈ (vx_atS RX0 43 "java/lang/IllegalArgumentException" ["java/lang/RuntimeException", "java/lang/Exception"]).filter (fun w => !goodWord w), w ∈ exBad := by decide +kernel
theorem ex_bad2 : ∀ w ∈ (vx_atS RX0 146 "java/lang/IndexOutOfBoundsException" ["java/lang/RuntimeException", "java/lang/Exception"]).filter (fun w => !goodWord w), w ∈ exBad := by decide +kernel
theorem ex_bad3 : ∀ w ∈ (vx_atS RX0 63 "java/lang/IllegalStateException" ["java/lang/RuntimeException", "java/lang/Exception"]).filter (fun w => !goodWord w), w ∈ exBad := by decide +kernel
theorem ex_bad4 : ∀ w ∈ (pg_atX RX0 218 "java/util/NoSuchElementException" 13 prog_13_method_4_code "java/lang/RuntimeException" ["java/lang/Exception"]).filter (fun w => !goodWord w), w ∈ exBad := by decide +kernel
theorem nse_0 : decode prog_13_method_4_code 0 = .ok (.aload_n 0, 1) := by decide +kernel
theorem nse_1 : decode prog_13_method_4_code 1 = .ok (.aload_n 1, 1) := by decide +kernel
theorem nse_2 : decode prog_13_method_4_code 2 = .ok (.invokespecial 13, 3) := by decide +kernel
theorem nse_5 : decode prog_13_method_4_code 5 = .ok (.return_, 1) := by decide +kernel
end PGW
