/-! ===== the law's class: methods with tables of their own ===== -/
section PGH
theorem rk1_lt (S : pgS) (g a : Nat) : ∀ b, rk1 S g a b ≤ b
  | 0 => Nat.le_refl 0
  | b + 1 => by have := rk1_lt S g a b; rw [rk1_s]; split <;> omega
theorem rk_lt (S : pgS) (g : Nat) : ∀ a, rk S g a ≤ 12 * a
  | 0 => Nat.le_refl 0
  | a + 1 => by have := rk_lt S g a; have := rk1_lt S g a 12; rw [rk_s]; omega
def ncL : List (String × String) := [("java/lang/IllegalArgumentException", "java/lang/IndexOutOfBoundsException"), ("java/util/NoSuchElementException", "java/lang/IndexOutOfBoundsException"), ("java/lang/IllegalStateException", "java/lang/IndexOutOfBoundsException"), ("java/lang/IllegalArgumentException", "java/util/NoSuchElementException"), ("java/lang/IllegalStateException", "java/util/NoSuchElementException")]
def ncB (U : State) : Prop := ∀ q ∈ ncL, va_Nc q.1 q.2 U
theorem ncB_st : pg_st ncB := ⟨fun u U hh hv h q hq => va_Nc.moved (by rw [hv]; exact Vm.Alike.refl _) (h q hq), fun u U hh hW h q hq => va_Nc.moved hW.alike (h q hq)⟩
abbrev xW (N : Nat) (X : pgX) (S : pgS) : State → Prop := fun U => xE N X S U ∧ ncB U
theorem xW_st {N : Nat} {X : pgX} {S : pgS} : pg_st (xW N X S) := pg_and_st xE_st ncB_st
theorem pg_ofWH {l : Launch} {y : MethodName} {ws ws' : List Cond} {rm : Room} {Pc : Array Value → State → Prop} {Qc : Array Value → State → Outcome → State → Prop} {mc ms : Nat} {free : Addr → Prop} {cc : ByteArray} {maxL : Nat} {ret : Option FieldType} {hh : List (Nat × Nat × Nat × Nat)}
    (hy : plainName y.cls = true) (hw : ws = Cond.codeWith y cc maxL ret hh :: ws')
    (body : ∀ p e s m args below meth c s₁, BodyLoose p l y (headSpec ws rm) cc maxL ret e s m args below meth c s₁ → c.maxLocals = maxL → Pc args s →
      W p l e (headSpec ws rm).room s m args below meth c s.heap [] 0 0 (MQ below Qc args s mc ms free) (entryFrame m args maxL)) : Met l y ws rm Pc Qc mc ms free := by
  refine MetFree.of_bodyS (code := cc) (maxLocals := maxL) (ret := ret) hy ?_ ?_
  · intro args s m h hn
    obtain ⟨m9, meth, c, hn9, h1, h2, h3, h4, -, h5, h6, -⟩ := Cond.codeWith_spec (atoms_spec (ws := ws) h _ (by rw [hw]; exact List.mem_cons_self))
    cases hn.symm.trans hn9
    exact ⟨meth, c, h1, h2, h3, h4, h5, h6⟩
  · intro p e s m args below meth c s₁ B hml hP _
    have hh0 : s₁.heap = s.heap := by rw [B.state]; rfl
    obtain ⟨t, a1, o, b1, b2, b3⟩ := body p e s m args below meth c s₁ B hml hP s₁ hh0 (Stand.of_body B)
    exact ⟨t, o, a1, b1, b2, b3⟩
end PGH
section PGI2
variable {p : Program} {l : Launch} {e : Env} {R : Room} {s : State} {m : MethodId} {args : Array Value} {below : List Frame} {meth : Method} {c : Code} {H : Heap} {locs : List Loc} {cells slots : Nat} {Q : State → Prop}
variable {Ts ws ws' : List Cond} {cc bytes : ByteArray} {nL maxL index n : Nat} {own C : String} {y : MethodName} {ret : Option FieldType} {rm' : Room} {B : State → Prop} {b : Addr} {As rest st : List Value} {ls : Array Slot} {pc : Nat}
variable {G : va_G} {tys tyc : List (ClassId × FieldType)} {w w' l1 l2 : va_W} {mc ms : Nat} {A : Nat → Prop} {hh : List (Nat × Nat × Nat × Nat)}
theorem pg_wrH_of {av : List Value} {r : Option Value} (hy : plainName y.cls = true) (hw : ws = Cond.codeWith y cc maxL ret hh :: ws') (hlen : (lg_sl av).length ≤ maxL)
    (body : ∀ (p : Program) (e : Env) (s : State) (m : MethodId) (below : List Frame) (meth : Method) (c : Code) (ls : Array Slot), CallFix p m c cc maxL s av.toArray ws y.cls → meth.sig.returnType = ret → meth.locks = false → c.exceptionTable.toList = tableOf hh → va_P G vwCl w s.heap → va_K G vwCl tys s → va_D (pg_in w) w → va_S (pg_in w) s.heap s.heap [] → B s → lv_has ls maxL (lv_args 0 av) →
      W p l e rm' s m av.toArray below meth c s.heap [] 0 0 (MQ below (pg_Qw G w w' r) av.toArray s mc ms (pg_in w)) (F0 m 0 ls [])) : pg_wr l y ws rm' G tys B w w' mc ms av r := by
  refine pg_ofWH (cc := cc) (maxL := maxL) (ret := ret) (hh := hh) hy hw ?_
  intro p e s m args below meth c s₁ Bd hml hv
  obtain ⟨rfl, ⟨hP, hK, hD⟩, hB⟩ := hv
  have hts := atoms_spec (ws := ws) Bd.pre
  have hown : s.vm.findClass y.cls = some m.cls := findClass_of_methodNamed Bd.named
  have hl := lv_entry av (n := maxL) hlen
  have hT := vx_table (x := y) Bd (hts (Cond.codeWith y cc maxL ret hh) (by rw [hw]; exact List.mem_cons_self))
  rw [lg_entry_eq]
  exact body p e s m below meth c _ ⟨Bd.exec, Bd.bytes, hml, hown, hts⟩ Bd.returns Bd.notSynchronized hT hP hK (pg_D_of hD) va_S.rf hB hl
theorem pg_wafterR {r : Option Value} {a : Array Value} (hr : va_Run p l e R s m args below meth c H locs cells slots mc ms (F0 m pc ls st) rest (pg_Qw G w w' r a) (pg_in w)) (hP : va_P G vwCl (l1 ++ (w ++ l2)) H) (hD : va_D A (l1 ++ (w ++ l2))) (hS : va_S A s.heap H locs) (he : w'.map Prod.fst = w.map Prod.fst)
    (kk : ∀ (H1 : Heap) (locs1 : List Loc), va_P G vwCl (l1 ++ (w' ++ l2)) H1 → va_D A (l1 ++ (w' ++ l2)) → va_S A s.heap H1 locs1 → W p l e R s m args below meth c H1 locs1 (cells + mc) (slots + ms) Q (F0 m (pc + 3) ls (r.toList ++ rest))) : W p l e R s m args below meth c H locs cells slots Q (F0 m pc ls st) := by
  intro T hT X
  obtain ⟨v, st₀, t, T', L, h0, X', hL, e1, e2, ⟨hv, hP1, hF⟩, sg⟩ := hr T hT X
  cases hv
  subst h0
  obtain ⟨t2, a1, b1⟩ := kk t.heap (locs ++ L) (pg_join hP hD hP1 hF.2) (pg_D_map hD (pg_mape he)) (pg_S hS hF.1 hF.2 (pg_inA hD) hL) T' e1 X'
  exact ⟨t2, sg t2 a1, b1⟩
theorem pg_wcallH {r : Value} (S : CallFix p m c cc nL s args Ts own) (hM : pg_wr l y ws rm' G tyc B w w' mc ms As (some r)) (hst : pg_st B) (hB : pg_h B s H)
    (cw : vx_CSW R s args own index y bytes maxL ret hh ws rm' mc ms n) (hK : va_K G vwCl tyc s) (hP : va_P G vwCl (l1 ++ (w ++ l2)) H) (hD : va_D A (l1 ++ (w ++ l2))) (hS : va_S A s.heap H locs) (he : w'.map Prod.fst = w.map Prod.fst)
    (hn : As.length = n) (hsize : ls.size = nL) (hstack : st = As.reverse ++ rest) (hW : (rest.map fun v => v.category).sum ≤ 8) (hdg : decode cc pc = .ok (.invokestatic index, 3)) (hf : cells + mc ≤ R.cells ∧ slots + ms ≤ R.slots)
    (kk : ∀ (H1 : Heap) (locs1 : List Loc), va_P G vwCl (l1 ++ (w' ++ l2)) H1 → va_D A (l1 ++ (w' ++ l2)) → va_S A s.heap H1 locs1 → W p l e R s m args below meth c H1 locs1 (cells + mc) (slots + ms) Q (F0 m (pc + 3) ls (r :: rest))) : W p l e R s m args below meth c H locs cells slots Q (F0 m pc ls st) :=
  pg_wafterR (vx_runSW (rest := rest) (g := F0 m pc ls st) S hM cw ⟨pg_blind (pg_and_st pg_W_st hst) _, fun U hU hW => ⟨rfl, pg_W_h (pg_part hP) hK (pg_Dpart hD) U hU hW, hB U hU hW⟩⟩ rfl hn hsize hstack (lv_room hW) hdg hf) hP hD hS he kk
theorem pg_thrV {E : String} (S : CallFix p m c cc nL s args Ts own) (hM : pg_th l y ws rm' B (.ref b :: As) E) (hst : pg_st B) (hB : pg_h B s H)
    (cw : CallW R s args own C index y bytes maxL ret ws rm' 1 6 n) (hrecv : ∃ cell : Cell, H[b]? = some cell ∧ cell.vm.isStatics = false ∧ s.vm.findClass C = some cell.cls) (hn : As.length = n) (hsize : ls.size = nL) (hstack : st = As.reverse ++ .ref b :: rest) (hW : (rest.map fun v => v.category).sum ≤ 8)
    (hdg : decode cc pc = .ok (.invokevirtual index, 3)) (hf : cells + 1 ≤ R.cells ∧ slots + 6 ≤ R.slots)
    (kk : ∀ (H1 : Heap) (q : Addr) (ce : Cell), H.size ≤ H1.size → (∀ x : Nat, x < H.size → H1[x]? = H[x]?) → H1[q]? = some ce → ce.vm = .none → s.vm.findClass E = some ce.cls → vx_W p l e R s m args below meth c H1 locs (cells + 1) (slots + 6) Q (F0 m pc ls rest) q) :
    W p l e R s m args below meth c H locs cells slots Q (F0 m pc ls st) :=
  pg_throwing (a := (Value.ref b :: As).toArray) (vx_runV (rest := rest) (g := F0 m pc ls st) S hM cw ⟨pg_blind hst _, hrecv, fun U hU hW => ⟨rfl, hB U hU hW⟩⟩ rfl hn hsize hstack (lv_room hW) hdg hf) kk
theorem iI_0c : (iI 0).toNatClampNeg = 0 := by decide +kernel
/-- out[0] = x -/
theorem pg_lst0 {tys : List (ClassId × FieldType)} {ws : va_W} {H0 : Heap} {a : Nat} (hx : p.tables.exec = Jvm.exec) (hb : c.code = cc) (hK : va_K G vwCl tys s) (hP : va_P G vwCl ws H) (hD : va_D A ws) (hS : va_S A H0 H locs) (q0 t0 : Nat) {cA : ClassId} {f : Nat → Int64} (ha : ws[q0]? = some (a, .inl (cA, 1, .inr (.inl f)))) (ht : tys[t0]? = some (cA, .long)) {x : Int64} (hdg : decode cc pc = .ok (.lastore, 1))
    (kk : ∀ (H1 : Heap) (locs1 : List Loc), va_P G vwCl (ws.set q0 (a, .inl (cA, 1, .inr (.inl (vp_updL f 0 x))))) H1 → va_D A (ws.set q0 (a, .inl (cA, 1, .inr (.inl (vp_updL f 0 x))))) → va_S A H0 H1 locs1 → W p l e R s m args below meth c H1 locs1 cells slots Q (F0 m (pc + 1) ls rest)) : W p l e R s m args below meth c H locs cells slots Q (F0 m pc ls (.long x :: .int (iI 0) :: .ref a :: rest)) :=
  va_last hx hb hK hP hD hS q0 t0 ha ht (by unfold vp_in; decide +kernel) hdg (by rw [iI_0c]; exact kk)
theorem pg_dst0 {tys : List (ClassId × FieldType)} {ws : va_W} {H0 : Heap} {a : Nat} (hx : p.tables.exec = Jvm.exec) (hb : c.code = cc) (hK : va_K G vwCl tys s) (hP : va_P G vwCl ws H) (hD : va_D A ws) (hS : va_S A H0 H locs) (q0 t0 : Nat) {cA : ClassId} {f : Nat → UInt64} (ha : ws[q0]? = some (a, .inl (cA, 1, .inr (.inr (.inr (.inl f)))))) (ht : tys[t0]? = some (cA, .double)) {x : UInt64} (hdg : decode cc pc = .ok (.dastore, 1))
    (kk : ∀ (H1 : Heap) (locs1 : List Loc), va_P G vwCl (ws.set q0 (a, .inl (cA, 1, .inr (.inr (.inr (.inl (vf_upd f 0 x))))))) H1 → va_D A (ws.set q0 (a, .inl (cA, 1, .inr (.inr (.inr (.inl (vf_upd f 0 x))))))) → va_S A H0 H1 locs1 → W p l e R s m args below meth c H1 locs1 cells slots Q (F0 m (pc + 1) ls rest)) : W p l e R s m args below meth c H locs cells slots Q (F0 m pc ls (.double x :: .int (iI 0) :: .ref a :: rest)) :=
  va_dast hx hb hK hP hD hS q0 t0 ha ht (by unfold vp_in; decide +kernel) hdg (by rw [iI_0c]; exact kk)
theorem pg_lld0 {tys : List (ClassId × FieldType)} {ws : va_W} {a : Nat} (hx : p.tables.exec = Jvm.exec) (hb : c.code = cc) (hK : va_K G vwCl tys s) (hP : va_P G vwCl ws H) (q0 t0 : Nat) {cA : ClassId} {f : Nat → Int64} {x : Int64} (ha : ws[q0]? = some (a, .inl (cA, 1, .inr (.inl (vp_updL f 0 x))))) (ht : tys[t0]? = some (cA, .long)) (hdg : decode cc pc = .ok (.laload, 1))
    (kk : W p l e R s m args below meth c H locs cells slots Q (F0 m (pc + 1) ls (.long x :: rest))) : W p l e R s m args below meth c H locs cells slots Q (F0 m pc ls (.int (iI 0) :: .ref a :: rest)) :=
  va_lald hx hb hK hP q0 t0 ha ht (by unfold vp_in; decide +kernel) hdg (by rw [iI_0c]; exact kk)
theorem pg_dld0 {tys : List (ClassId × FieldType)} {ws : va_W} {a : Nat} (hx : p.tables.exec = Jvm.exec) (hb : c.code = cc) (hK : va_K G vwCl tys s) (hP : va_P G vwCl ws H) (q0 t0 : Nat) {cA : ClassId} {f : Nat → UInt64} {x : UInt64} (ha : ws[q0]? = some (a, .inl (cA, 1, .inr (.inr (.inr (.inl (vf_upd f 0 x))))))) (ht : tys[t0]? = some (cA, .double)) (hdg : decode cc pc = .ok (.daload, 1))
    (kk : W p l e R s m args below meth c H locs cells slots Q (F0 m (pc + 1) ls (.double x :: rest))) : W p l e R s m args below meth c H locs cells slots Q (F0 m pc ls (.int (iI 0) :: .ref a :: rest)) :=
  va_dald hx hb hK hP q0 t0 ha ht (by unfold vp_in; decide +kernel) hdg (by rw [iI_0c]; exact kk)
end PGI2
