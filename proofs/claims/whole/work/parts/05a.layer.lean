/-! ===== the layer over the kit's rows: methods that write nothing (pg_ro), that write cells of a list (pg_wr), that throw (pg_th) ===== -/
section PGA
def pg_h (B : State → Prop) (s : State) (H : Heap) : Prop := ∀ U : State, U.heap = H → s.WarmedH U.vm → B U
def pg_st (B : State → Prop) : Prop := (∀ u U : State, U.heap = u.heap → U.vm = u.vm → B u → B U) ∧ (∀ u U : State, U.heap = u.heap → u.WarmedH U.vm → B u → B U)
theorem pg_h_of {B : State → Prop} {s : State} (h : pg_st B) (hB : B s) : pg_h B s s.heap := fun U h1 h2 => h.2 s U h1 h2 hB
theorem pg_blind {B : State → Prop} (h : pg_st B) (av : List Value) : FrameBlind (va_Pc av B) := fun a U g mk q => ⟨q.1, h.1 U (U.calling g mk a) rfl rfl q.2⟩
def pT : State → Prop := fun _ => True
theorem pT_st : pg_st pT := ⟨fun _ _ _ _ _ => trivial, fun _ _ _ _ _ => trivial⟩
theorem pT_h {s : State} {H : Heap} : pg_h pT s H := fun _ _ _ => trivial
abbrev rm (f n : Nat) : Room := { frames := f, cells := 0, slots := 0, locals := n }
abbrev rmx (f n : Nat) : Room := { frames := f, cells := 1, slots := 6, locals := n }
def pg_Q (r : Option Value) : Array Value → State → Outcome → State → Prop := fun _ st o t => o = .returned r ∧ t.heap = st.heap
/-- y returns r, and the heap is as it was -/
def pg_ro (l : Launch) (y : MethodName) (ws : List Cond) (rm : Room) (B : State → Prop) (av : List Value) (r : Option Value) : Prop :=
  Met l y ws rm (va_Pc av B) (pg_Q r) 0 0 (fun _ => False)
def pg_in (w : va_W) : Nat → Prop := fun q => ∃ (k : Nat) (e : va_E), w[k]? = some (q, e)
def pg_W (G : va_G) (tys : List (ClassId × FieldType)) (w : va_W) (U : State) : Prop := va_P G vwCl w U.heap ∧ va_K G vwCl tys U ∧ va_D (fun _ => True) w
def pg_Qw (G : va_G) (w w' : va_W) (r : Option Value) : Array Value → State → Outcome → State → Prop := fun _ st o t => o = .returned r ∧ va_P G vwCl w' t.heap ∧ va_F (pg_in w) st t
/-- y returns r, the cells w have become w', no other cell that was there has changed -/
def pg_wr (l : Launch) (y : MethodName) (ws : List Cond) (rm : Room) (G : va_G) (tys : List (ClassId × FieldType)) (B : State → Prop) (w w' : va_W) (mc ms : Nat) (av : List Value) (r : Option Value) : Prop :=
  Met l y ws rm (va_Pc av (fun U => pg_W G tys w U ∧ B U)) (pg_Qw G w w' r) mc ms (pg_in w)
def pg_XC (E : String) : String → State → State → Prop := fun E' st t => E' = E ∧ st.heap.size ≤ t.heap.size ∧ ∀ q : Nat, q < st.heap.size → t.heap[q]? = st.heap[q]?
/-- y throws an E, no cell that was there has changed -/
def pg_th (l : Launch) (y : MethodName) (ws : List Cond) (rm : Room) (B : State → Prop) (av : List Value) (E : String) : Prop :=
  vx_Met l y ws rm (va_Pc av B) (fun _ _ _ _ => False) (pg_XC E) 1 6 (fun _ => False)
end PGA
section PGB
variable {p : Program} {l : Launch} {e : Env} {R : Room} {s : State} {m : MethodId} {args : Array Value} {below : List Frame} {meth : Method} {c : Code} {H : Heap} {locs : List Loc} {cells slots : Nat} {Q : State → Prop}
variable {Ts ws ws' : List Cond} {cc bytes : ByteArray} {nL maxL index n : Nat} {own C : String} {y : MethodName} {ret : Option FieldType} {rm' : Room} {B : State → Prop} {b : Addr} {As rest st : List Value} {ls : Array Slot} {pc : Nat}
theorem pg_ro_of {av : List Value} {r : Option Value} (hy : plainName y.cls = true) (hw : ws = Cond.code y cc maxL ret :: ws') (hlen : (lg_sl av).length ≤ maxL)
    (body : ∀ (p : Program) (e : Env) (s : State) (m : MethodId) (below : List Frame) (meth : Method) (c : Code) (ls : Array Slot), CallFix p m c cc maxL s av.toArray ws y.cls → meth.sig.returnType = ret → meth.locks = false → B s → lv_has ls maxL (lv_args 0 av) →
      W p l e rm' s m av.toArray below meth c s.heap [] 0 0 (MQ below (pg_Q r) av.toArray s 0 0 (fun _ => False)) (F0 m 0 ls [])) : pg_ro l y ws rm' B av r := by
  refine Met.ofW (cc := cc) (maxL := maxL) (ret := ret) hy hw ?_
  intro p e s m args below meth c s₁ Bd hml hv
  obtain ⟨rfl, hB⟩ := hv
  have hts := atoms_spec (ws := ws) Bd.pre
  have hown : s.vm.findClass y.cls = some m.cls := findClass_of_methodNamed Bd.named
  have hl := lv_entry av (n := maxL) hlen
  rw [lg_entry_eq]
  exact body p e s m below meth c _ ⟨Bd.exec, Bd.bytes, hml, hown, hts⟩ Bd.returns Bd.notSynchronized hB hl
theorem pg_after {r : Option Value} {g : JFrame} (hr : CallRun p l e R s m args below meth c H locs cells slots 0 0 g rest (pg_Q r As.toArray) (fun _ => False)) (kk : W p l e R s m args below meth c H locs cells slots Q { g with pc := g.pc + 3, stack := r.toList ++ rest }) : W p l e R s m args below meth c H locs cells slots Q g := by
  intro T hT X
  obtain ⟨v, st₀, t, T', L, h0, X', hL, e1, ⟨hv, hh⟩, st⟩ := hr T hT X
  cases hv
  obtain ⟨t2, a1, b1⟩ := kk T' (by rw [e1, hh, h0]) (Stand.forget X' (fun q h => (hL q h).elim))
  exact ⟨t2, st t2 a1, b1⟩
theorem pg_callS {r : Value} (S : CallFix p m c cc nL s args Ts own) (hM : pg_ro l y ws rm' B As (some r)) (hst : pg_st B) (hB : pg_h B s H)
    (cw : CallB R s args own index y bytes maxL ret ws rm' 0 0 n ∧ (Cond.static y).before args s = true) (hn : As.length = n) (hsize : ls.size = nL) (hstack : st = As.reverse ++ rest) (hW : (rest.map fun v => v.category).sum ≤ 8)
    (hdg : decode cc pc = .ok (.invokestatic index, 3)) (hf : cells ≤ R.cells ∧ slots ≤ R.slots)
    (kk : W p l e R s m args below meth c H locs cells slots Q (F0 m (pc + 3) ls (r :: rest))) : W p l e R s m args below meth c H locs cells slots Q (F0 m pc ls st) :=
  pg_after (W.runS (rest := rest) (g := F0 m pc ls st) S hM cw ⟨pg_blind hst As, fun U hU hW => ⟨rfl, hB U hU hW⟩⟩ rfl hn hsize hstack (lv_room hW) hdg hf) kk
theorem pg_callSv (S : CallFix p m c cc nL s args Ts own) (hM : pg_ro l y ws rm' B As none) (hst : pg_st B) (hB : pg_h B s H)
    (cw : CallB R s args own index y bytes maxL ret ws rm' 0 0 n ∧ (Cond.static y).before args s = true) (hn : As.length = n) (hsize : ls.size = nL) (hstack : st = As.reverse ++ rest) (hW : (rest.map fun v => v.category).sum ≤ 8)
    (hdg : decode cc pc = .ok (.invokestatic index, 3)) (hf : cells ≤ R.cells ∧ slots ≤ R.slots)
    (kk : W p l e R s m args below meth c H locs cells slots Q (F0 m (pc + 3) ls rest)) : W p l e R s m args below meth c H locs cells slots Q (F0 m pc ls st) :=
  pg_after (W.runS (rest := rest) (g := F0 m pc ls st) S hM cw ⟨pg_blind hst As, fun U hU hW => ⟨rfl, hB U hU hW⟩⟩ rfl hn hsize hstack (lv_room hW) hdg hf) kk
theorem pg_callV {r : Value} (S : CallFix p m c cc nL s args Ts own) (hM : pg_ro l y ws rm' B (.ref b :: As) (some r)) (hst : pg_st B) (hB : pg_h B s H)
    (cw : CallW R s args own C index y bytes maxL ret ws rm' 0 0 n) (hrecv : ∃ cell : Cell, H[b]? = some cell ∧ cell.vm.isStatics = false ∧ s.vm.findClass C = some cell.cls) (hn : As.length = n) (hsize : ls.size = nL) (hstack : st = As.reverse ++ .ref b :: rest) (hW : (rest.map fun v => v.category).sum ≤ 8)
    (hdg : decode cc pc = .ok (.invokevirtual index, 3)) (hf : cells ≤ R.cells ∧ slots ≤ R.slots)
    (kk : W p l e R s m args below meth c H locs cells slots Q (F0 m (pc + 3) ls (r :: rest))) : W p l e R s m args below meth c H locs cells slots Q (F0 m pc ls st) :=
  pg_after (As := .ref b :: As) (W.runV (rest := rest) (g := F0 m pc ls st) S hM cw ⟨pg_blind hst _, hrecv, fun U hU hW => ⟨rfl, hB U hU hW⟩⟩ rfl hn hsize hstack (lv_room hW) hdg hf) kk
theorem pg_callVv (S : CallFix p m c cc nL s args Ts own) (hM : pg_ro l y ws rm' B (.ref b :: As) none) (hst : pg_st B) (hB : pg_h B s H)
    (cw : CallW R s args own C index y bytes maxL ret ws rm' 0 0 n) (hrecv : ∃ cell : Cell, H[b]? = some cell ∧ cell.vm.isStatics = false ∧ s.vm.findClass C = some cell.cls) (hn : As.length = n) (hsize : ls.size = nL) (hstack : st = As.reverse ++ .ref b :: rest) (hW : (rest.map fun v => v.category).sum ≤ 8)
    (hdg : decode cc pc = .ok (.invokevirtual index, 3)) (hf : cells ≤ R.cells ∧ slots ≤ R.slots)
    (kk : W p l e R s m args below meth c H locs cells slots Q (F0 m (pc + 3) ls rest)) : W p l e R s m args below meth c H locs cells slots Q (F0 m pc ls st) :=
  pg_after (As := .ref b :: As) (W.runV (rest := rest) (g := F0 m pc ls st) S hM cw ⟨pg_blind hst _, hrecv, fun U hU hW => ⟨rfl, hB U hU hW⟩⟩ rfl hn hsize hstack (lv_room hW) hdg hf) kk
/-! the ends of a method that writes nothing -/
theorem pg_iret {r : Option Value} {v : Int32} (hx : p.tables.exec = Jvm.exec) (hb : c.code = cc) (hr : meth.sig.returnType = some .int) (hlk : meth.locks = false) (hv : r = some (.int v)) (hdg : decode cc pc = .ok (.ireturn, 1)) : W p l e R s m args below meth c s.heap [] 0 0 (MQ below (pg_Q r) args s 0 0 (fun _ => False)) (F0 m pc ls [.int v]) := by
  subst hv
  exact W.iret hx hb hr (fun t ht _ => ⟨rfl, ht⟩) (fun q h => nomatch h) hdg hlk
theorem pg_zret {r : Option Value} {v : Int32} (hx : p.tables.exec = Jvm.exec) (hb : c.code = cc) (hr : meth.sig.returnType = some .boolean) (hlk : meth.locks = false) (hn : narrow .boolean (.int v) = .int v) (hv : r = some (.int v)) (hdg : decode cc pc = .ok (.ireturn, 1)) : W p l e R s m args below meth c s.heap [] 0 0 (MQ below (pg_Q r) args s 0 0 (fun _ => False)) (F0 m pc ls [.int v]) := by
  subst hv
  exact W.zret hx hb hr hn (fun t ht _ => ⟨rfl, ht⟩) (fun q h => nomatch h) hdg hlk
theorem pg_lret {r : Option Value} {v : Int64} (hx : p.tables.exec = Jvm.exec) (hb : c.code = cc) (hr : meth.sig.returnType = some .long) (hlk : meth.locks = false) (hv : r = some (.long v)) (hdg : decode cc pc = .ok (.lreturn, 1)) : W p l e R s m args below meth c s.heap [] 0 0 (MQ below (pg_Q r) args s 0 0 (fun _ => False)) (F0 m pc ls [.long v]) := by
  subst hv
  exact W.lret hx hb hr (fun t ht _ => ⟨rfl, ht⟩) (fun q h => nomatch h) hdg hlk
theorem pg_dret {r : Option Value} {v : UInt64} (hx : p.tables.exec = Jvm.exec) (hb : c.code = cc) (hr : meth.sig.returnType = some .double) (hlk : meth.locks = false) (hv : r = some (.double v)) (hdg : decode cc pc = .ok (.dreturn, 1)) : W p l e R s m args below meth c s.heap [] 0 0 (MQ below (pg_Q r) args s 0 0 (fun _ => False)) (F0 m pc ls [.double v]) := by
  subst hv
  exact W.dret hx hb hr (fun t ht _ => ⟨rfl, ht⟩) (fun q h => nomatch h) hdg hlk
theorem pg_vret {r : Option Value} (hx : p.tables.exec = Jvm.exec) (hb : c.code = cc) (hr : meth.sig.returnType = none) (hlk : meth.locks = false) (hv : r = none) (hdg : decode cc pc = .ok (.return_, 1)) : W p l e R s m args below meth c s.heap [] 0 0 (MQ below (pg_Q r) args s 0 0 (fun _ => False)) (F0 m pc ls []) := by
  subst hv
  exact W.vret hx hb hr (fun t ht _ => ⟨rfl, ht⟩) (fun q h => nomatch h) hdg hlk
/-! methods that throw -/
theorem pg_th_of {av : List Value} {E : String} (hy : plainName y.cls = true) (hw : ws = Cond.code y cc maxL ret :: ws') (hlen : (lg_sl av).length ≤ maxL)
    (body : ∀ (p : Program) (e : Env) (s : State) (m : MethodId) (below : List Frame) (meth : Method) (c : Code) (ls : Array Slot), CallFix p m c cc maxL s av.toArray ws y.cls → (∀ x ∈ c.exceptionTable.toList, False) → meth.locks = false → B s → lv_has ls maxL (lv_args 0 av) →
      W p l e rm' s m av.toArray below meth c s.heap [] 0 0 (vx_MQ below (fun _ _ _ _ => False) (pg_XC E) av.toArray s 1 6 (fun _ => False)) (F0 m 0 ls [])) : pg_th l y ws rm' B av E := by
  refine vx_ofW (cc := cc) (maxL := maxL) (ret := ret) hy hw ?_
  intro p e s m args below meth c s₁ Bd hml hT hv
  obtain ⟨rfl, hB⟩ := hv
  have hts := atoms_spec (ws := ws) Bd.pre
  have hown : s.vm.findClass y.cls = some m.cls := findClass_of_methodNamed Bd.named
  have hl := lv_entry av (n := maxL) hlen
  rw [lg_entry_eq]
  exact body p e s m below meth c _ ⟨Bd.exec, Bd.bytes, hml, hown, hts⟩ hT Bd.notSynchronized hB hl
theorem pg_throwing {E : String} {a : Array Value} (hr : vx_Run p l e R s m args below meth c H locs cells slots 1 6 (F0 m pc ls st) rest ((fun _ _ _ _ => False : Array Value → State → Outcome → State → Prop) a) (pg_XC E) (fun _ => False))
    (kk : ∀ (H1 : Heap) (q : Addr) (ce : Cell), H.size ≤ H1.size → (∀ x : Nat, x < H.size → H1[x]? = H[x]?) → H1[q]? = some ce → ce.vm = .none → s.vm.findClass E = some ce.cls → vx_W p l e R s m args below meth c H1 locs (cells + 1) (slots + 6) Q (F0 m pc ls rest) q) :
    W p l e R s m args below meth c H locs cells slots Q (F0 m pc ls st) := by
  intro T hT X
  rcases hr T hT X with ⟨v, st₀, t, T', L, h0, X', hL, e1, e2, hq, _⟩ | ⟨q, st₀, t, T', L, E', ce, h0, X', hL, e1, e2, ⟨rfl, hz, hk⟩, hce, hv, hcl, hst⟩
  · exact hq.elim
  · subst h0
    obtain ⟨t2, a1, b1⟩ := kk t.heap q ce hz hk hce hv hcl T' e1 (Stand.forget X' (fun q h => (hL q h).elim))
    exact ⟨t2, hst.trans a1, b1⟩
theorem pg_out {E : String} {ce : Cell} {q : Addr} {H1 : Heap} (hT : ∀ x ∈ c.exceptionTable.toList, False) (hlk : meth.locks = false) (hz : s.heap.size ≤ H1.size) (hk : ∀ x : Nat, x < s.heap.size → H1[x]? = s.heap[x]?) (hce : H1[q]? = some ce) (hv : ce.vm = .none) (hcl : s.vm.findClass E = some ce.cls) :
    vx_W p l e R s m args below meth c H1 [] (0 + 1) (0 + 6) (vx_MQ below (fun _ _ _ _ => False) (pg_XC E) args s 1 6 (fun _ => False)) (F0 m pc ls rest) q :=
  vx_out (fun x h => (hT x h).elim) hlk hce hv hcl (fun t ht _ => ⟨rfl, by rw [ht]; exact hz, fun x hx => by rw [ht]; exact hk x hx⟩) (fun z h => nomatch h) (Nat.le_refl _) (Nat.le_refl _)
theorem pg_thS {E : String} (S : CallFix p m c cc nL s args Ts own) (hM : pg_th l y ws rm' B As E) (hst : pg_st B) (hB : pg_h B s s.heap)
    (cw : CallB R s args own index y bytes maxL ret ws rm' 1 6 n ∧ (Cond.static y).before args s = true) (hT : ∀ x ∈ c.exceptionTable.toList, False) (hlk : meth.locks = false) (hn : As.length = n) (hsize : ls.size = nL) (hstack : st = As.reverse ++ rest) (hW : (rest.map fun v => v.category).sum ≤ 8)
    (hdg : decode cc pc = .ok (.invokestatic index, 3)) (hf : 0 + 1 ≤ R.cells ∧ 0 + 6 ≤ R.slots) :
    W p l e R s m args below meth c s.heap [] 0 0 (vx_MQ below (fun _ _ _ _ => False) (pg_XC E) args s 1 6 (fun _ => False)) (F0 m pc ls st) :=
  pg_throwing (a := As.toArray) (vx_runS (rest := rest) (g := F0 m pc ls st) S hM cw ⟨pg_blind hst As, fun U hU hW => ⟨rfl, hB U hU hW⟩⟩ rfl hn hsize hstack (lv_room hW) hdg hf) (fun H1 q ce h1 h2 h3 h4 h5 => pg_out hT hlk h1 h2 h3 h4 h5)
theorem pg_thV {E : String} (S : CallFix p m c cc nL s args Ts own) (hM : pg_th l y ws rm' B (.ref b :: As) E) (hst : pg_st B) (hB : pg_h B s s.heap)
    (cw : CallW R s args own C index y bytes maxL ret ws rm' 1 6 n) (hrecv : ∃ cell : Cell, s.heap[b]? = some cell ∧ cell.vm.isStatics = false ∧ s.vm.findClass C = some cell.cls) (hT : ∀ x ∈ c.exceptionTable.toList, False) (hlk : meth.locks = false) (hn : As.length = n) (hsize : ls.size = nL) (hstack : st = As.reverse ++ .ref b :: rest) (hW : (rest.map fun v => v.category).sum ≤ 8)
    (hdg : decode cc pc = .ok (.invokevirtual index, 3)) (hf : 0 + 1 ≤ R.cells ∧ 0 + 6 ≤ R.slots) :
    W p l e R s m args below meth c s.heap [] 0 0 (vx_MQ below (fun _ _ _ _ => False) (pg_XC E) args s 1 6 (fun _ => False)) (F0 m pc ls st) :=
  pg_throwing (a := (Value.ref b :: As).toArray) (vx_runV (rest := rest) (g := F0 m pc ls st) S hM cw ⟨pg_blind hst _, hrecv, fun U hU hW => ⟨rfl, hB U hU hW⟩⟩ rfl hn hsize hstack (lv_room hW) hdg hf) (fun H1 q ce h1 h2 h3 h4 h5 => pg_out hT hlk h1 h2 h3 h4 h5)
end PGB
