/-! ===== the layer, second part: cells of a list that change, in the middle of a longer list ===== -/
section PGC
theorem pg_Pm {D : va_G} {cl : List vw_C} {ws : va_W} {H : Heap} : va_P D cl ws H ↔ ∀ q ∈ ws, va_at D cl q H :=
  ⟨fun h q hq => by obtain ⟨i, hi⟩ := List.getElem?_of_mem hq; exact h i q hi, fun h k q hk => h q (List.mem_of_getElem? hk)⟩
theorem pg_D_of {w : va_W} {A : Nat → Prop} (h : va_D A w) : va_D (pg_in w) w := ⟨h.1, fun k q hk => ⟨k, q.2, hk⟩⟩
theorem pg_map {w w' : va_W} (e : w'.map Prod.fst = w.map Prod.fst) (k : Nat) (q : Nat × va_E) (hk : w'[k]? = some q) : ∃ q0, w[k]? = some q0 ∧ q0.1 = q.1 := by
  have h1 : (w'.map Prod.fst)[k]? = some q.1 := by rw [List.getElem?_map, hk]; rfl
  rw [e, List.getElem?_map] at h1
  cases hw : w[k]? with
  | none => rw [hw] at h1; cases h1
  | some q0 => rw [hw] at h1; exact ⟨q0, rfl, Option.some.inj h1⟩
theorem pg_D_map {A : Nat → Prop} {w w' : va_W} (h : va_D A w) (e : w'.map Prod.fst = w.map Prod.fst) : va_D A w' := by
  refine ⟨fun i j p q hi hj hpq => ?_, fun k q hk => ?_⟩
  · obtain ⟨p0, a1, a2⟩ := pg_map e i p hi
    obtain ⟨q0, b1, b2⟩ := pg_map e j q hj
    exact h.1 i j p0 q0 a1 b1 (by rw [a2, b2, hpq])
  · obtain ⟨q0, a1, a2⟩ := pg_map e k q hk
    rw [← a2]; exact h.2 k q0 a1
theorem pg_mid {l1 w l2 : va_W} {k : Nat} {q : Nat × va_E} (hk : w[k]? = some q) : (l1 ++ (w ++ l2))[l1.length + k]? = some q := by
  have hlt : k < w.length := (List.getElem?_eq_some_iff.mp hk).1
  rw [List.getElem?_append_right (Nat.le_add_right _ _), Nat.add_sub_cancel_left, List.getElem?_append_left hlt]
  exact hk
theorem pg_notin {A : Nat → Prop} {l1 w l2 : va_W} (hD : va_D A (l1 ++ (w ++ l2))) {q : Nat × va_E} (hq : q ∈ l1 ∨ q ∈ l2) : ¬ pg_in w q.1 := by
  rintro ⟨k, e, hk⟩
  have hlt : k < w.length := (List.getElem?_eq_some_iff.mp hk).1
  have hm := pg_mid (l1 := l1) (l2 := l2) hk
  rcases hq with hq | hq
  · obtain ⟨i, hi⟩ := List.getElem?_of_mem hq
    have hi1 : i < l1.length := (List.getElem?_eq_some_iff.mp hi).1
    have h1 : (l1 ++ (w ++ l2))[i]? = some q := by rw [List.getElem?_append_left hi1]; exact hi
    have := hD.1 i (l1.length + k) q (q.1, e) h1 hm rfl
    omega
  · obtain ⟨i, hi⟩ := List.getElem?_of_mem hq
    have h1 : (l1 ++ (w ++ l2))[l1.length + (w.length + i)]? = some q := by
      rw [List.getElem?_append_right (Nat.le_add_right _ _), Nat.add_sub_cancel_left, List.getElem?_append_right (Nat.le_add_right _ _), Nat.add_sub_cancel_left]
      exact hi
    have := hD.1 _ (l1.length + k) q (q.1, e) h1 hm rfl
    omega
theorem pg_join {A : Nat → Prop} {D : va_G} {cl : List vw_C} {l1 w w' l2 : va_W} {H H1 : Heap} (hP : va_P D cl (l1 ++ (w ++ l2)) H) (hD : va_D A (l1 ++ (w ++ l2))) (hP1 : va_P D cl w' H1)
    (hk : ∀ q : Nat, q < H.size → ¬ pg_in w q → H1[q]? = H[q]?) : va_P D cl (l1 ++ (w' ++ l2)) H1 := by
  rw [pg_Pm] at hP hP1 ⊢
  intro q hq
  rcases List.mem_append.mp hq with h | h
  · have h0 := hP q (List.mem_append_left _ h)
    exact h0.kept (hk _ h0.lt (pg_notin hD (Or.inl h)))
  · rcases List.mem_append.mp h with h | h
    · exact hP1 q h
    · have h0 := hP q (List.mem_append_right _ (List.mem_append_right _ h))
      exact h0.kept (hk _ h0.lt (pg_notin hD (Or.inr h)))
theorem pg_part {D : va_G} {cl : List vw_C} {l1 w l2 : va_W} {H : Heap} (hP : va_P D cl (l1 ++ (w ++ l2)) H) : va_P D cl w H := fun _ _ hk => hP _ _ (pg_mid hk)
theorem pg_Dpart {A : Nat → Prop} {l1 w l2 : va_W} (hD : va_D A (l1 ++ (w ++ l2))) : va_D A w :=
  ⟨fun i j p q hi hj h => by have := hD.1 _ _ p q (pg_mid (l1 := l1) (l2 := l2) hi) (pg_mid (l1 := l1) (l2 := l2) hj) h; omega, fun k q hk => hD.2 _ q (pg_mid (l1 := l1) (l2 := l2) hk)⟩
theorem pg_mape {l1 w w' l2 : va_W} (e : w'.map Prod.fst = w.map Prod.fst) : (l1 ++ (w' ++ l2)).map Prod.fst = (l1 ++ (w ++ l2)).map Prod.fst := by
  simp only [List.map_append, e]
theorem pg_S {A P : Nat → Prop} {H0 H H1 : Heap} {locs L : List Loc} (h : va_S A H0 H locs) (hz : H.size ≤ H1.size) (hk : ∀ q : Nat, q < H.size → ¬ P q → H1[q]? = H[q]?) (hPA : ∀ q, P q → A q) (hL : ∀ z ∈ L, P z.base) : va_S A H0 H1 (locs ++ L) :=
  ⟨Nat.le_trans h.1 hz, fun q h1 h2 => by rw [hk q (Nat.lt_of_lt_of_le h1 h.1) (fun z => h2 (hPA q z))]; exact h.2.1 q h1 h2, fun z hz => (List.mem_append.mp hz).elim (h.2.2 z) (fun h3 => hPA _ (hL z h3))⟩
theorem pg_inA {A : Nat → Prop} {l1 w l2 : va_W} (hD : va_D A (l1 ++ (w ++ l2))) (q : Nat) (h : pg_in w q) : A q := by
  obtain ⟨k, e, hk⟩ := h
  exact hD.2 _ (q, e) (pg_mid (l1 := l1) (l2 := l2) hk)
theorem pg_W_st {G : va_G} {tys : List (ClassId × FieldType)} {w : va_W} : pg_st (pg_W G tys w) :=
  ⟨fun u U hh hv h => ⟨by rw [hh]; exact h.1, va_K.moved (by rw [hv]; exact Vm.Alike.refl _) h.2.1, h.2.2⟩, fun u U hh hW h => ⟨by rw [hh]; exact h.1, va_K.moved hW.alike h.2.1, h.2.2⟩⟩
theorem pg_and_st {B1 B2 : State → Prop} (h1 : pg_st B1) (h2 : pg_st B2) : pg_st (fun U => B1 U ∧ B2 U) :=
  ⟨fun u U hh hv h => ⟨h1.1 u U hh hv h.1, h2.1 u U hh hv h.2⟩, fun u U hh hW h => ⟨h1.2 u U hh hW h.1, h2.2 u U hh hW h.2⟩⟩
theorem pg_W_h {G : va_G} {tys : List (ClassId × FieldType)} {A : Nat → Prop} {w : va_W} {s : State} {H : Heap} (hP : va_P G vwCl w H) (hK : va_K G vwCl tys s) (hD : va_D A w) : pg_h (pg_W G tys w) s H :=
  fun U hU hW => ⟨by rw [hU]; exact hP, va_K.moved hW.alike hK, hD.weaken (fun _ _ _ _ => trivial)⟩
end PGC
section PGD
variable {p : Program} {l : Launch} {e : Env} {R : Room} {s : State} {m : MethodId} {args : Array Value} {below : List Frame} {meth : Method} {c : Code} {H : Heap} {locs : List Loc} {cells slots : Nat} {Q : State → Prop}
variable {Ts ws ws' : List Cond} {cc bytes : ByteArray} {nL maxL index n : Nat} {own C : String} {y : MethodName} {ret : Option FieldType} {rm' : Room} {B : State → Prop} {b : Addr} {As rest st : List Value} {ls : Array Slot} {pc : Nat}
variable {G : va_G} {tys tyc : List (ClassId × FieldType)} {w w' l1 l2 : va_W} {mc ms : Nat} {A : Nat → Prop}
theorem pg_wr_of {av : List Value} {r : Option Value} (hy : plainName y.cls = true) (hw : ws = Cond.code y cc maxL ret :: ws') (hlen : (lg_sl av).length ≤ maxL)
    (body : ∀ (p : Program) (e : Env) (s : State) (m : MethodId) (below : List Frame) (meth : Method) (c : Code) (ls : Array Slot), CallFix p m c cc maxL s av.toArray ws y.cls → meth.sig.returnType = ret → meth.locks = false → va_P G vwCl w s.heap → va_K G vwCl tys s → va_D (pg_in w) w → va_S (pg_in w) s.heap s.heap [] → B s → lv_has ls maxL (lv_args 0 av) →
      W p l e rm' s m av.toArray below meth c s.heap [] 0 0 (MQ below (pg_Qw G w w' r) av.toArray s mc ms (pg_in w)) (F0 m 0 ls [])) : pg_wr l y ws rm' G tys B w w' mc ms av r := by
  refine Met.ofW (cc := cc) (maxL := maxL) (ret := ret) hy hw ?_
  intro p e s m args below meth c s₁ Bd hml hv
  obtain ⟨rfl, ⟨hP, hK, hD⟩, hB⟩ := hv
  have hts := atoms_spec (ws := ws) Bd.pre
  have hown : s.vm.findClass y.cls = some m.cls := findClass_of_methodNamed Bd.named
  have hl := lv_entry av (n := maxL) hlen
  rw [lg_entry_eq]
  exact body p e s m below meth c _ ⟨Bd.exec, Bd.bytes, hml, hown, hts⟩ Bd.returns Bd.notSynchronized hP hK (pg_D_of hD) va_S.rf hB hl
theorem pg_wafter {r : Option Value} {a : Array Value} (hr : CallRun p l e R s m args below meth c H locs cells slots mc ms (F0 m pc ls st) rest (pg_Qw G w w' r a) (pg_in w)) (hP : va_P G vwCl (l1 ++ (w ++ l2)) H) (hD : va_D A (l1 ++ (w ++ l2))) (hS : va_S A s.heap H locs) (he : w'.map Prod.fst = w.map Prod.fst)
    (kk : ∀ (H1 : Heap) (locs1 : List Loc), va_P G vwCl (l1 ++ (w' ++ l2)) H1 → va_D A (l1 ++ (w' ++ l2)) → va_S A s.heap H1 locs1 → W p l e R s m args below meth c H1 locs1 (cells + mc) (slots + ms) Q (F0 m (pc + 3) ls (r.toList ++ rest))) : W p l e R s m args below meth c H locs cells slots Q (F0 m pc ls st) := by
  intro T hT X
  obtain ⟨v, st₀, t, T', L, h0, X', hL, e1, ⟨hv, hP1, hF⟩, sg⟩ := hr T hT X
  cases hv
  subst h0
  obtain ⟨t2, a1, b1⟩ := kk t.heap (locs ++ L) (pg_join hP hD hP1 hF.2) (pg_D_map hD (pg_mape he)) (pg_S hS hF.1 hF.2 (pg_inA hD) hL) T' e1 X'
  exact ⟨t2, sg t2 a1, b1⟩
theorem pg_wcallV {r : Value} (S : CallFix p m c cc nL s args Ts own) (hM : pg_wr l y ws rm' G tyc B w w' mc ms (.ref b :: As) (some r)) (hst : pg_st B) (hB : pg_h B s H)
    (cw : CallW R s args own C index y bytes maxL ret ws rm' mc ms n) (hrecv : ∃ cell : Cell, H[b]? = some cell ∧ cell.vm.isStatics = false ∧ s.vm.findClass C = some cell.cls) (hK : va_K G vwCl tyc s) (hP : va_P G vwCl (l1 ++ (w ++ l2)) H) (hD : va_D A (l1 ++ (w ++ l2))) (hS : va_S A s.heap H locs) (he : w'.map Prod.fst = w.map Prod.fst)
    (hn : As.length = n) (hsize : ls.size = nL) (hstack : st = As.reverse ++ .ref b :: rest) (hW : (rest.map fun v => v.category).sum ≤ 8) (hdg : decode cc pc = .ok (.invokevirtual index, 3)) (hf : cells + mc ≤ R.cells ∧ slots + ms ≤ R.slots)
    (kk : ∀ (H1 : Heap) (locs1 : List Loc), va_P G vwCl (l1 ++ (w' ++ l2)) H1 → va_D A (l1 ++ (w' ++ l2)) → va_S A s.heap H1 locs1 → W p l e R s m args below meth c H1 locs1 (cells + mc) (slots + ms) Q (F0 m (pc + 3) ls (r :: rest))) : W p l e R s m args below meth c H locs cells slots Q (F0 m pc ls st) :=
  pg_wafter (W.runV (rest := rest) (g := F0 m pc ls st) S hM cw ⟨pg_blind (pg_and_st pg_W_st hst) _, hrecv, fun U hU hW => ⟨rfl, pg_W_h (pg_part hP) hK (pg_Dpart hD) U hU hW, hB U hU hW⟩⟩ rfl hn hsize hstack (lv_room hW) hdg hf) hP hD hS he kk
theorem pg_wcallVv (S : CallFix p m c cc nL s args Ts own) (hM : pg_wr l y ws rm' G tyc B w w' mc ms (.ref b :: As) none) (hst : pg_st B) (hB : pg_h B s H)
    (cw : CallW R s args own C index y bytes maxL ret ws rm' mc ms n) (hrecv : ∃ cell : Cell, H[b]? = some cell ∧ cell.vm.isStatics = false ∧ s.vm.findClass C = some cell.cls) (hK : va_K G vwCl tyc s) (hP : va_P G vwCl (l1 ++ (w ++ l2)) H) (hD : va_D A (l1 ++ (w ++ l2))) (hS : va_S A s.heap H locs) (he : w'.map Prod.fst = w.map Prod.fst)
    (hn : As.length = n) (hsize : ls.size = nL) (hstack : st = As.reverse ++ .ref b :: rest) (hW : (rest.map fun v => v.category).sum ≤ 8) (hdg : decode cc pc = .ok (.invokevirtual index, 3)) (hf : cells + mc ≤ R.cells ∧ slots + ms ≤ R.slots)
    (kk : ∀ (H1 : Heap) (locs1 : List Loc), va_P G vwCl (l1 ++ (w' ++ l2)) H1 → va_D A (l1 ++ (w' ++ l2)) → va_S A s.heap H1 locs1 → W p l e R s m args below meth c H1 locs1 (cells + mc) (slots + ms) Q (F0 m (pc + 3) ls rest)) : W p l e R s m args below meth c H locs cells slots Q (F0 m pc ls st) :=
  pg_wafter (W.runV (rest := rest) (g := F0 m pc ls st) S hM cw ⟨pg_blind (pg_and_st pg_W_st hst) _, hrecv, fun U hU hW => ⟨rfl, pg_W_h (pg_part hP) hK (pg_Dpart hD) U hU hW, hB U hU hW⟩⟩ rfl hn hsize hstack (lv_room hW) hdg hf) hP hD hS he kk
/-! the ends of a method that writes -/
theorem pg_wiret {r : Option Value} {v : Int32} (hx : p.tables.exec = Jvm.exec) (hb : c.code = cc) (hr : meth.sig.returnType = some .int) (hlk : meth.locks = false) (hP : va_P G vwCl w' H) (hS : va_S (pg_in w) s.heap H locs) (hv : r = some (.int v)) (hdg : decode cc pc = .ok (.ireturn, 1)) : W p l e R s m args below meth c H locs cells slots (MQ below (pg_Qw G w w' r) args s cells slots (pg_in w)) (F0 m pc ls [.int v]) := by
  subst hv
  exact W.iret hx hb hr (fun t ht _ => ⟨rfl, by rw [ht]; exact hP, hS.F ht⟩) hS.2.2 hdg hlk
theorem pg_wzret {r : Option Value} {v : Int32} (hx : p.tables.exec = Jvm.exec) (hb : c.code = cc) (hr : meth.sig.returnType = some .boolean) (hlk : meth.locks = false) (hP : va_P G vwCl w' H) (hS : va_S (pg_in w) s.heap H locs) (hn : narrow .boolean (.int v) = .int v) (hv : r = some (.int v)) (hdg : decode cc pc = .ok (.ireturn, 1)) : W p l e R s m args below meth c H locs cells slots (MQ below (pg_Qw G w w' r) args s cells slots (pg_in w)) (F0 m pc ls [.int v]) := by
  subst hv
  exact W.zret hx hb hr hn (fun t ht _ => ⟨rfl, by rw [ht]; exact hP, hS.F ht⟩) hS.2.2 hdg hlk
theorem pg_wlret {r : Option Value} {v : Int64} (hx : p.tables.exec = Jvm.exec) (hb : c.code = cc) (hr : meth.sig.returnType = some .long) (hlk : meth.locks = false) (hP : va_P G vwCl w' H) (hS : va_S (pg_in w) s.heap H locs) (hv : r = some (.long v)) (hdg : decode cc pc = .ok (.lreturn, 1)) : W p l e R s m args below meth c H locs cells slots (MQ below (pg_Qw G w w' r) args s cells slots (pg_in w)) (F0 m pc ls [.long v]) := by
  subst hv
  exact W.lret hx hb hr (fun t ht _ => ⟨rfl, by rw [ht]; exact hP, hS.F ht⟩) hS.2.2 hdg hlk
theorem pg_wdret {r : Option Value} {v : UInt64} (hx : p.tables.exec = Jvm.exec) (hb : c.code = cc) (hr : meth.sig.returnType = some .double) (hlk : meth.locks = false) (hP : va_P G vwCl w' H) (hS : va_S (pg_in w) s.heap H locs) (hv : r = some (.double v)) (hdg : decode cc pc = .ok (.dreturn, 1)) : W p l e R s m args below meth c H locs cells slots (MQ below (pg_Qw G w w' r) args s cells slots (pg_in w)) (F0 m pc ls [.double v]) := by
  subst hv
  exact W.dret hx hb hr (fun t ht _ => ⟨rfl, by rw [ht]; exact hP, hS.F ht⟩) hS.2.2 hdg hlk
theorem pg_wvret {r : Option Value} (hx : p.tables.exec = Jvm.exec) (hb : c.code = cc) (hr : meth.sig.returnType = none) (hlk : meth.locks = false) (hP : va_P G vwCl w' H) (hS : va_S (pg_in w) s.heap H locs) (hv : r = none) (hdg : decode cc pc = .ok (.return_, 1)) : W p l e R s m args below meth c H locs cells slots (MQ below (pg_Qw G w w' r) args s cells slots (pg_in w)) (F0 m pc ls []) := by
  subst hv
  exact W.vret hx hb hr (fun t ht _ => ⟨rfl, by rw [ht]; exact hP, hS.F ht⟩) hS.2.2 hdg hlk
end PGD
